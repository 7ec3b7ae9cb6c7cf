theorem al_eq (n F S Lo : Nat) : nI n * (nI F + nI (S * Lo) * (nI n - nI 1)) = nI (n * (F + Lo * (n - 1) * S)) := by
  cases n with
  | zero => rw [Nat.zero_mul]; exact Int32.zero_mul
  | succ k =>
    rw [show nI (k + 1) - nI 1 = nI k from pk_sub (a := k + 1) (b := 1) (by omega), pk_mul, nI_add, pk_mul]
    rw [Nat.add_sub_cancel, show S * Lo * k = Lo * k * S by rw [Nat.mul_comm S Lo, Nat.mul_right_comm]]
theorem al_st (a b d : Nat) (z : Int32) : nI (a * d) * z + nI (b * d) * z = nI ((a + b) * d) * z := by
  rw [← Int32.add_mul, nI_add, ← Nat.add_mul]
theorem ca_same (g : GC) (a : Nat) (h : Nat → Nat) (M : NS) (x : Nat) (f24 f26 : Nat → Nat) : wMod g a h (sA (sA (sF (sF M 0 0) 25 x) 24 f24) 26 f26) = wMod g a h (sA (sA (sA (sF (sF (sF M 0 0) 25 x) 27 (M.1 27)) 24 f24) 26 f26) 28 (M.2 28)) := rfl

set_option maxHeartbeats 4000000 in
set_option maxRecDepth 100000 in
theorem l_mal (g : GC) (a : Nat) (h : Nat → Nat) (M : NS) (n2 : Nat) (T : NS) (P : NS) (hT : tdI T) (hM : mrT T M) (hP : pnI T P) (hN : mrP P M) (hn2 : n2 ≤ 20) (h0 : farV T (cT T P) (opn T P) 0 (T.1 2) < 1000000) (X : XC) (E : Ob g X cX7_cars 7 RX7) (hX : X.2.2.1 = zR 6 0 0) (w2 z3 t9 : Nat) (f26 f9 : Nat → Nat) (hgo : ∀ r, r < 12 → f9 r = cR (rdV T (cT T P) (opn T P) (T.1 2, 0)) (lenV T (cT T P) (opn T P) (T.1 2, 0)) r) (K : ∀ (u : Int32), (u = nI (sqR (rdV T (cT T P) (opn T P) (T.1 2, 0)) (lenV T (cT T P) (opn T P) (T.1 2, 0)) 12 * T.1 5) * (nI n2 - nI 1)) → Z g X 7 0 0 (wMod g a h (sA (sA (sA (sF (sF (sF M 0 0) 25 (opn T P)) 27 t9) 24 (fun r => if r < T.1 1 then cT T P r else M.2 24 r)) 26 f26) 28 f9)) [(0, .ref a), (1, .int (nI n2)), (2, .int (nI w2)), (3, .int (nI z3)), (4, .int u)] [] 124) : ∀ (n : Nat) (i : Nat) (u : Int32), (i ≤ 12) → (u = nI (sqR (rdV T (cT T P) (opn T P) (T.1 2, 0)) (lenV T (cT T P) (opn T P) (T.1 2, 0)) i * T.1 5) * (nI n2 - nI 1)) → (12 < i + n) → Z g X 7 0 0 (wMod g a h (sA (sA (sA (sF (sF (sF M 0 0) 25 (opn T P)) 27 t9) 24 (fun r => if r < T.1 1 then cT T P r else M.2 24 r)) 26 f26) 28 f9)) [(0, .ref a), (1, .int (nI n2)), (2, .int (nI w2)), (3, .int (nI z3)), (4, .int u), (5, .int (nI i))] [] 80 := by
  intro n
  induction n with
  | zero =>
    intro i u hi hu hf
    exfalso; omega
  | succ n ih =>
    intro i u hi hu hf
    refine z_iload E dX7_cars_80 5 rfl ?_
    refine z_bipush (v := (nI 12)) E dX7_cars_82 (by decide) ?_
    refine z_icmpN_ge E dX7_cars_84 124 (by decide) (by omega) (by decide) (fun c1 => ?_) (fun c1 => ?_)
    · refine z_lv [0, 1, 2, 3, 4] rfl ?_; exact K u (by rw [hu, show i = 12 by omega])
    · refine z_iload E dX7_cars_87 4 rfl ?_
      refine z_aload_n E dX7_cars_89 0 rfl rfl ?_
      refine gt_X7_53 (v := .ref (h 28)) E dX7_cars_90 0 rfl rfl ?_
      refine z_iload E dX7_cars_93 5 rfl ?_
      refine z_ialdN (f := f9) E dX7_cars_95 15 rfl (by omega) (by decide) ?_
      refine z_topi (y := nI ((cR (rdV T (cT T P) (opn T P) (T.1 2, 0)) (lenV T (cT T P) (opn T P) (T.1 2, 0))) i)) (congrArg nI (hgo i (by omega))) ?_
      refine z_aload_n E dX7_cars_96 0 rfl rfl ?_
      refine gt_X7_53 (v := .ref (h 28)) E dX7_cars_97 0 rfl rfl ?_
      refine z_iload E dX7_cars_100 5 rfl ?_
      refine z_ialdN (f := f9) E dX7_cars_102 15 rfl (by omega) (by decide) ?_
      refine z_topi (y := nI ((cR (rdV T (cT T P) (opn T P) (T.1 2, 0)) (lenV T (cT T P) (opn T P) (T.1 2, 0))) i)) (congrArg nI (hgo i (by omega))) ?_
      refine z_imulN E dX7_cars_103 ?_
      refine z_aload_n E dX7_cars_104 0 rfl rfl ?_
      refine gt_X7_13 (v := .ref (h 9)) E dX7_cars_105 0 rfl rfl ?_
      refine z_iconst (v := (nI 5)) E dX7_cars_108 (by decide) ?_
      refine z_ialdN (f := (M.2 9)) E dX7_cars_109 2 rfl (by decide) (by decide) ?_
      refine z_topi (y := nI (T.1 5)) (congrArg nI (hM.1 5 (by decide))) ?_
      refine z_imulN E dX7_cars_110 ?_
      refine z_iload_n E dX7_cars_111 1 rfl rfl ?_
      refine z_iconst (v := (nI 1)) E dX7_cars_112 (by decide) ?_
      refine z_isub E dX7_cars_113 ?_
      refine z_imul E dX7_cars_114 ?_
      refine z_iadd E dX7_cars_115 ?_
      refine z_istore (lv' := [(0, .ref a), (1, .int (nI n2)), (2, .int (nI w2)), (3, .int (nI z3)), (4, .int (u + ((nI ((((cR (rdV T (cT T P) (opn T P) (T.1 2, 0)) (lenV T (cT T P) (opn T P) (T.1 2, 0))) i) * ((cR (rdV T (cT T P) (opn T P) (T.1 2, 0)) (lenV T (cT T P) (opn T P) (T.1 2, 0))) i)) * (T.1 5))) * ((nI n2) - (nI 1))))), (5, .int (nI i))]) E dX7_cars_116 (by decide) rfl ?_
      refine z_iincN (lv' := [(0, .ref a), (1, .int (nI n2)), (2, .int (nI w2)), (3, .int (nI z3)), (4, .int (u + ((nI ((((cR (rdV T (cT T P) (opn T P) (T.1 2, 0)) (lenV T (cT T P) (opn T P) (T.1 2, 0))) i) * ((cR (rdV T (cT T P) (opn T P) (T.1 2, 0)) (lenV T (cT T P) (opn T P) (T.1 2, 0))) i)) * (T.1 5))) * ((nI n2) - (nI 1))))), (5, .int (nI (i + 1)))]) E dX7_cars_118 5 rfl (by decide) rfl ?_
      refine z_goto E dX7_cars_121 80 (by decide) ?_
      exact ih (i + 1) (u + ((nI ((((cR (rdV T (cT T P) (opn T P) (T.1 2, 0)) (lenV T (cT T P) (opn T P) (T.1 2, 0))) i) * ((cR (rdV T (cT T P) (opn T P) (T.1 2, 0)) (lenV T (cT T P) (opn T P) (T.1 2, 0))) i)) * (T.1 5))) * ((nI n2) - (nI 1)))) (by omega) (by rw [hu]; exact al_st _ _ _ _) (by omega)

set_option maxHeartbeats 4000000 in
set_option maxRecDepth 100000 in
theorem l_mlen (g : GC) (a : Nat) (h : Nat → Nat) (M : NS) (n2 : Nat) (T : NS) (P : NS) (hT : tdI T) (hM : mrT T M) (hP : pnI T P) (hN : mrP P M) (hn2 : n2 ≤ 20) (h0 : farV T (cT T P) (opn T P) 0 (T.1 2) < 1000000) (X : XC) (E : Ob g X cX7_cars 7 RX7) (hX : X.2.2.1 = zR 6 0 0) (w2 z3 s9 e9 t9 : Nat) (f8 q8 : Nat → Nat) (hgo : ∀ r, r < 12 → q8 r = cR (rdV T (crC T P e9) (opn T P) (T.1 2, 0)) (lenV T (crC T P e9) (opn T P) (T.1 2, 0)) r) (K : ∀ (f : Nat → Nat), (∀ r, r < T.1 1 → f r = crC T P (e9 + 1) r) → Z g X 7 0 0 (wMod g a h (sA (sA (sA (sF (sF (sF M 0 0) 25 (opn T P)) 27 t9) 24 f) 26 f8) 28 q8)) [(0, .ref a), (1, .int (nI n2)), (2, .int (nI w2)), (3, .int (nI z3)), (4, .int (nI s9)), (5, .int (nI e9))] [] 217) : ∀ (n : Nat) (i : Nat) (f : Nat → Nat), (i ≤ T.1 1) → (∀ r, r < T.1 1 → f r = if r < i then crC T P (e9 + 1) r else crC T P e9 r) → (T.1 1 < i + n) → Z g X 7 0 0 (wMod g a h (sA (sA (sA (sF (sF (sF M 0 0) 25 (opn T P)) 27 t9) 24 f) 26 f8) 28 q8)) [(0, .ref a), (1, .int (nI n2)), (2, .int (nI w2)), (3, .int (nI z3)), (4, .int (nI s9)), (5, .int (nI e9)), (6, .int (nI i))] [] 176 := by
  intro n
  induction n with
  | zero =>
    intro i f hi hg hf
    have hR := hT.2.2.1
    have hb := hT.2.1.2
    have hs4 := hP.s4 hT
    have hp0 := hP.2.1
    have hp1 := hP.2.2.1
    have h4 := hT.2.2.2.2.2.1
    have hop := opn_lt P hR
    have hc1 := cT_1 P hT
    have hg3 := hT.2.2.2.2.1
    have hg2 := hT.2.2.2.1
    have hcl := fun (r : Nat) (_ : r < T.1 1) => cT_le hT hP r
    exfalso; omega
  | succ n ih =>
    intro i f hi hg hf
    have hR := hT.2.2.1
    have hb := hT.2.1.2
    have hs4 := hP.s4 hT
    have hp0 := hP.2.1
    have hp1 := hP.2.2.1
    have h4 := hT.2.2.2.2.2.1
    have hop := opn_lt P hR
    have hc1 := cT_1 P hT
    have hg3 := hT.2.2.2.2.1
    have hg2 := hT.2.2.2.1
    have hcl := fun (r : Nat) (_ : r < T.1 1) => cT_le hT hP r
    refine z_iload E dX7_cars_176 6 rfl ?_
    refine z_aload_n E dX7_cars_178 0 rfl rfl ?_
    refine gt_X7_13 (v := .ref (h 9)) E dX7_cars_179 0 rfl rfl ?_
    refine z_iconst (v := (nI 1)) E dX7_cars_182 (by decide) ?_
    refine z_ialdN (f := (M.2 9)) E dX7_cars_183 2 rfl (by decide) (by decide) ?_
    refine z_topi (y := nI (T.1 1)) (congrArg nI (hM.1 1 (by decide))) ?_
    refine z_icmpN_ge E dX7_cars_184 217 (by decide) (by omega) (hT.1.1 _) (fun c1 => ?_) (fun c1 => ?_)
    · refine z_lv [0, 1, 2, 3, 4, 5] rfl ?_; exact K f (fun r hr => by rw [hg r hr, if_pos (by omega)])
    · refine z_aload_n E dX7_cars_187 0 rfl rfl ?_
      refine gt_X7_47 (v := .ref (h 24)) E dX7_cars_188 0 rfl rfl ?_
      refine z_iload E dX7_cars_191 6 rfl ?_
      refine z_dup2 E dX7_cars_193 rfl rfl ?_
      refine z_ialdN (f := f) E dX7_cars_194 13 rfl (by omega) (by decide) ?_
      refine z_topi (y := nI ((crC T P e9) i)) (congrArg nI ((hg i (by omega)).trans (if_neg (by omega)))) ?_
      refine z_aload_n E dX7_cars_195 0 rfl rfl ?_
      refine gt_X7_53 (v := .ref (h 28)) E dX7_cars_196 0 rfl rfl ?_
      refine z_iload E dX7_cars_199 6 rfl ?_
      refine z_ialdN (f := q8) E dX7_cars_201 15 rfl (by omega) (by decide) ?_
      refine z_topi (y := nI ((cR (rdV T (crC T P e9) (opn T P) (T.1 2, 0)) (lenV T (crC T P e9) (opn T P) (T.1 2, 0))) i)) (congrArg nI (hgo i (by omega))) ?_
      refine z_aload_n E dX7_cars_202 0 rfl rfl ?_
      refine gt_X7_13 (v := .ref (h 9)) E dX7_cars_203 0 rfl rfl ?_
      refine z_iconst (v := (nI 5)) E dX7_cars_206 (by decide) ?_
      refine z_ialdN (f := (M.2 9)) E dX7_cars_207 2 rfl (by decide) (by decide) ?_
      refine z_topi (y := nI (T.1 5)) (congrArg nI (hM.1 5 (by decide))) ?_
      refine z_imulN E dX7_cars_208 ?_
      refine z_iaddN E dX7_cars_209 ?_
      refine z_iastN (f := f) (i := i) (x := (((crC T P e9) i) + (((cR (rdV T (crC T P e9) (opn T P) (T.1 2, 0)) (lenV T (crC T P e9) (opn T P) (T.1 2, 0))) i) * (T.1 5)))) (ws' := wMod g a h (sA (sA (sA (sF (sF (sF M 0 0) 25 (opn T P)) 27 t9) 24 (va_up f i (((crC T P e9) i) + (((cR (rdV T (crC T P e9) (opn T P) (T.1 2, 0)) (lenV T (crC T P e9) (opn T P) (T.1 2, 0))) i) * (T.1 5))))) 26 f8) 28 q8)) E dX7_cars_210 13 rfl (by omega) (by decide) rfl ?_
      refine z_iincN (lv' := [(0, .ref a), (1, .int (nI n2)), (2, .int (nI w2)), (3, .int (nI z3)), (4, .int (nI s9)), (5, .int (nI e9)), (6, .int (nI (i + 1)))]) E dX7_cars_211 6 rfl (by decide) rfl ?_
      refine z_goto E dX7_cars_214 176 (by decide) ?_
      exact ih (i + 1) (va_up f i (((crC T P e9) i) + (((cR (rdV T (crC T P e9) (opn T P) (T.1 2, 0)) (lenV T (crC T P e9) (opn T P) (T.1 2, 0))) i) * (T.1 5)))) (by omega) (fun r hr => by unfold va_up; by_cases q : r = i; (rw [if_pos q, if_pos (by omega), q, crC_s, Nat.mul_comm (T.1 5)]); (rw [if_neg q, hg r hr]; by_cases q2 : r < i; (rw [if_pos q2, if_pos (by omega)]); (rw [if_neg q2, if_neg (by omega)]))) (by omega)

set_option maxHeartbeats 4000000 in
set_option maxRecDepth 100000 in
theorem l_mone (g : GC) (a : Nat) (h : Nat → Nat) (M : NS) (n2 : Nat) (T : NS) (P : NS) (hT : tdI T) (hM : mrT T M) (hP : pnI T P) (hN : mrP P M) (hn2 : n2 ≤ 20) (h0 : farV T (cT T P) (opn T P) 0 (T.1 2) < 1000000) (X : XC) (E : Ob g X cX7_cars 7 RX7) (hX : X.2.2.1 = zR 6 0 0) (w2 z3 : Nat) (K : ∀ (s : Nat) (t9 : Nat) (f7 : Nat → Nat) (f8 : Nat → Nat) (q8 : Nat → Nat), (s = crS T P n2) → Z g X 7 0 0 (wMod g a h (sA (sA (sA (sF (sF (sF M 0 0) 25 (opn T P)) 27 t9) 24 f7) 26 f8) 28 q8)) [(0, .ref a), (1, .int (nI n2)), (2, .int (nI w2)), (3, .int (nI z3)), (4, .int (nI s))] [] 227) : ∀ (n : Nat) (i : Nat) (s : Nat) (t9 : Nat) (f7 : Nat → Nat) (f8 : Nat → Nat) (q8 : Nat → Nat), (i ≤ n2) → (s = crS T P i) → (∀ r, r < T.1 1 → f7 r = crC T P i r) → (∀ k, k < 2 * T.1 1 → f8 k = LF T (crC T P i) (opn T P) k) → (n2 < i + n) → Z g X 7 0 0 (wMod g a h (sA (sA (sA (sF (sF (sF M 0 0) 25 (opn T P)) 27 t9) 24 f7) 26 f8) 28 q8)) [(0, .ref a), (1, .int (nI n2)), (2, .int (nI w2)), (3, .int (nI z3)), (4, .int (nI s)), (5, .int (nI i))] [] 137 := by
  intro n
  induction n with
  | zero =>
    intro i s t9 f7 f8 q8 hi hs hg hf8 hf
    have hR := hT.2.2.1
    have hb := hT.2.1.2
    have hs4 := hP.s4 hT
    have hp0 := hP.2.1
    have hp1 := hP.2.2.1
    have h4 := hT.2.2.2.2.2.1
    have hop := opn_lt P hR
    have hc1 := cT_1 P hT
    have hg3 := hT.2.2.2.2.1
    have hg2 := hT.2.2.2.1
    have hcl := fun (r : Nat) (_ : r < T.1 1) => cT_le hT hP r
    have hcr := crC_ok hT hP h0 i (by omega)
    exfalso; omega
  | succ n ih =>
    intro i s t9 f7 f8 q8 hi hs hg hf8 hf
    have hR := hT.2.2.1
    have hb := hT.2.1.2
    have hs4 := hP.s4 hT
    have hp0 := hP.2.1
    have hp1 := hP.2.2.1
    have h4 := hT.2.2.2.2.2.1
    have hop := opn_lt P hR
    have hc1 := cT_1 P hT
    have hg3 := hT.2.2.2.2.1
    have hg2 := hT.2.2.2.1
    have hcl := fun (r : Nat) (_ : r < T.1 1) => cT_le hT hP r
    have hcr := crC_ok hT hP h0 i (by omega)
    refine z_iload E dX7_cars_137 5 rfl ?_
    refine z_iload_n E dX7_cars_139 1 rfl rfl ?_
    refine z_icmpN_ge E dX7_cars_140 227 (by decide) (by omega) (by omega) (fun c1 => ?_) (fun c1 => ?_)
    · refine z_lv [0, 1, 2, 3, 4] rfl ?_; exact K s t9 f7 f8 q8 (by rw [hs, show i = n2 by omega])
    · refine z_iload E dX7_cars_143 4 rfl ?_
      refine z_aload_n E dX7_cars_145 0 rfl rfl ?_
      refine z_aload_n E dX7_cars_146 0 rfl rfl ?_
      refine gt_X7_13 (v := .ref (h 9)) E dX7_cars_147 0 rfl rfl ?_
      refine z_iconst (v := (nI 2)) E dX7_cars_150 (by decide) ?_
      refine z_ialdN (f := (M.2 9)) E dX7_cars_151 2 rfl (by decide) (by decide) ?_
      refine z_topi (y := nI (T.1 2)) (congrArg nI (hM.1 2 (by decide))) ?_
      refine z_iconst (v := (nI 0)) E dX7_cars_152 (by decide) ?_
      refine z_ro0 E (rV E hX (c_X7_farFrom g a h (sA (sA (sA (sF (sF (sF M 0 0) 25 (opn T P)) 27 t9) 24 f7) 26 f8) 28 q8) (T.1 2) 0 T (crC T P i) (opn T P) (LF T (crC T P i) (opn T P)) hT hM hg (fun r _ => Nat.le_trans (hcr.2.1 r) (by omega)) rfl (by omega) hf8 (fun k hk => LF_le hk) (by omega) (by omega)) mw_X7_farFrom ml_X7_186 dX7_cars_153 (Nat.le_of_ble_eq_true rfl) ⟨(Nat.le_of_ble_eq_true rfl), (Nat.le_of_ble_eq_true rfl)⟩ rfl rfl (Nat.le_of_ble_eq_true rfl) 0 rfl rfl) ?_
      refine z_topi (y := nI (farV T (crC T P i) (opn T P) 0 (T.1 2))) rfl ?_
      have hfl := farV_le T (crC T P i) (opn T P) 0 (T.1 2)
      refine z_iaddN E dX7_cars_156 ?_
      refine z_istore (lv' := [(0, .ref a), (1, .int (nI n2)), (2, .int (nI w2)), (3, .int (nI z3)), (4, .int (nI (s + (farV T (crC T P i) (opn T P) 0 (T.1 2))))), (5, .int (nI i))]) E dX7_cars_157 (by decide) rfl ?_
      refine z_aload_n E dX7_cars_159 0 rfl rfl ?_
      refine z_aload_n E dX7_cars_160 0 rfl rfl ?_
      refine gt_X7_13 (v := .ref (h 9)) E dX7_cars_161 0 rfl rfl ?_
      refine z_iconst (v := (nI 2)) E dX7_cars_164 (by decide) ?_
      refine z_ialdN (f := (M.2 9)) E dX7_cars_165 2 rfl (by decide) (by decide) ?_
      refine z_topi (y := nI (T.1 2)) (congrArg nI (hM.1 2 (by decide))) ?_
      refine z_iconst (v := (nI 0)) E dX7_cars_166 (by decide) ?_
      refine z_ldc (v := nI 1000000) E dX7_cars_167 kc_X7_181 ?_
      refine z_q0 E (rV E hX (c_X7_kthFrom g a h (sA (sA (sA (sF (sF (sF M 0 0) 25 (opn T P)) 27 t9) 24 f7) 26 f8) 28 q8) (T.1 2) 0 1000000 T (crC T P i) (opn T P) hT hM hg (fun r _ => Nat.le_trans (hcr.2.1 r) (by omega)) hcr.1 rfl (by omega) hf8 (by omega) (by omega) (by omega) hcr.2.2) mw_X7_kthFrom ml_X7_198 dX7_cars_169 (Nat.le_of_ble_eq_true rfl) ⟨(Nat.le_of_ble_eq_true rfl), (Nat.le_of_ble_eq_true rfl)⟩ rfl rfl (Nat.le_of_ble_eq_true rfl) 0 rfl rfl) (fun r w2 hw => ?_)
      obtain ⟨M8, rfl, rfl, ⟨t5, q5, rfl, hk5⟩⟩ := hw
      refine ⟨rfl, ?_⟩
      refine z_ws (ws' := wMod g a h (sA (sA (sA (sF (sF (sF M 0 0) 25 (opn T P)) 27 t5) 24 f7) 26 f8) 28 q5)) rfl ?_
      refine z_pop E dX7_cars_172 rfl ?_
      refine z_iconst (v := (nI 0)) E dX7_cars_173 (by decide) ?_
      refine z_istore (lv' := [(0, .ref a), (1, .int (nI n2)), (2, .int (nI w2)), (3, .int (nI z3)), (4, .int (nI (s + (farV T (crC T P i) (opn T P) 0 (T.1 2))))), (5, .int (nI i)), (6, .int (nI 0))]) E dX7_cars_174 (by decide) rfl ?_
      have hl24 := (lenV_spec (s := (T.1 2, 0)) hcr.1 hcr.2.2).1
      have hgo := (hk5 (by omega)).2
      refine z_lv [0, 1, 2, 3, 4, 5, 6] rfl ?_
      refine l_mlen g a h M n2 T P hT hM hP hN hn2 h0 X E hX w2 z3 (s + (farV T (crC T P i) (opn T P) 0 (T.1 2))) i t5 f8 q5 hgo (fun f4 hg2 => ?_) (T.1 1 + 1) 0 f7 (Nat.zero_le _) (fun r hr => by rw [if_neg (Nat.not_lt_zero r)]; exact hg r hr) (by omega)
      have hcr2 := crC_ok hT hP h0 (i + 1) (by omega)
      refine z_aload_n E dX7_cars_217 0 rfl rfl ?_
      refine z_qv0 E (rV E hX (c_X7_measures g a h (sA (sA (sA (sF (sF (sF M 0 0) 25 (opn T P)) 27 t5) 24 f4) 26 f8) 28 q5) T (crC T P (i + 1)) (opn T P) hT hM hg2 (fun r _ => Nat.le_trans (hcr2.2.1 r) (by omega)) hcr2.1 rfl (by omega)) mw_X7_measures ml_X7_195 dX7_cars_218 (Nat.le_of_ble_eq_true rfl) ⟨(Nat.le_of_ble_eq_true rfl), (Nat.le_of_ble_eq_true rfl)⟩ rfl rfl (Nat.le_of_ble_eq_true rfl) 0 rfl rfl) (fun w2 hw => ?_)
      obtain ⟨M9, rfl, ⟨f6, rfl, hf6⟩⟩ := hw
      refine ⟨rfl, ?_⟩
      refine z_ws (ws' := wMod g a h (sA (sA (sA (sF (sF (sF M 0 0) 25 (opn T P)) 27 t5) 24 f4) 26 f6) 28 q5)) rfl ?_
      refine z_iincN (lv' := [(0, .ref a), (1, .int (nI n2)), (2, .int (nI w2)), (3, .int (nI z3)), (4, .int (nI (s + (farV T (crC T P i) (opn T P) 0 (T.1 2))))), (5, .int (nI (i + 1)))]) E dX7_cars_221 5 rfl (by decide) rfl ?_
      refine z_goto E dX7_cars_224 137 (by decide) ?_
      exact ih (i + 1) (s + (farV T (crC T P i) (opn T P) 0 (T.1 2))) t5 f4 f6 q5 (by omega) (by rw [crS_s, ← hs]) hg2 hf6 (by omega)

set_option maxHeartbeats 4000000 in
set_option maxRecDepth 100000 in
theorem c_X7_cars (g : GC) (a : Nat) (h : Nat → Nat) (M : NS) (n : Int32) (w : Int32) (T : NS) (P : NS) (hT : tdI T) (hM : mrT T M) (hP : pnI T P) (hN : mrP P M) : Ct g yX7_cars cX7_cars 7 (some .int) 6 0 0 [.ref a, .int n, .int w] (wMod g a h M) (QI (fun r_ w_ => ∃ M2 : NS, r_ = (crV T P n w) ∧ w_ = wMod g a h M2 ∧ mS M M2)) := by
  refine Ct.of (by decide) (Nat.le_of_ble_eq_true rfl) ?_
  intro X E Er hX _ hnm
  have E : Ob g X cX7_cars 7 RX7 := E
  have hR := hT.2.2.1
  have hb := hT.2.1.2
  have hs4 := hP.s4 hT
  have hp0 := hP.2.1
  have hp1 := hP.2.2.1
  have h4 := hT.2.2.2.2.2.1
  have hop := opn_lt P hR
  have hc1 := cT_1 P hT
  have hg3 := hT.2.2.2.2.1
  have hg2 := hT.2.2.2.1
  have hcl := fun (r : Nat) (_ : r < T.1 1) => cT_le hT hP r
  refine z_lve (lv' := [(0, .ref a), (1, .int n), (2, .int w)]) rfl ?_
  refine z_aload_n E dX7_cars_0 0 rfl rfl ?_
  refine z_iconst (v := (nI 0)) E dX7_cars_1 (by decide) ?_
  refine pt_X7_69 (x := nI 0) (ws' := wMod g a h (sF M 0 0)) E dX7_cars_2 0 rfl (Nat.le_of_ble_eq_true rfl) rfl ?_
  refine z_iload_n E dX7_cars_5 1 rfl rfl ?_
  refine z_iconst (v := (nI 0)) E dX7_cars_6 (by decide) ?_
  refine z_bipush (v := (nI 20)) E dX7_cars_7 (by decide) ?_
  refine z_se E (rS E hX (c_X7_in g n (nI 0) (nI 20)) mw_X7_in ms_X7_in ml_X7_73 dX7_cars_9 (Nat.le_of_ble_eq_true rfl) ⟨(Nat.le_of_ble_eq_true rfl), (Nat.le_of_ble_eq_true rfl)⟩ rfl rfl (Nat.le_of_ble_eq_true rfl)) ?_
  refine z_ifB_eq E dX7_cars_12 24 (by decide) (fun c1 => ?_) (fun c1 => ?_)
  · refine z_iconst (v := (-1)) E dX7_cars_24 (by decide) ?_
    refine z_iret E Er dX7_cars_25 ?_
    exact ⟨_, rfl, _, by rw [crV, if_neg (show ¬ (wi n (nI 0) (nI 20) && wi w (nI 0) (nI 1)) = true by rw [c1]; simp)], rfl, ((mS.rf M).F (by omega))⟩
  · refine z_iload_n E dX7_cars_15 2 rfl rfl ?_
    refine z_iconst (v := (nI 0)) E dX7_cars_16 (by decide) ?_
    refine z_iconst (v := (nI 1)) E dX7_cars_17 (by decide) ?_
    refine z_se E (rS E hX (c_X7_in g w (nI 0) (nI 1)) mw_X7_in ms_X7_in ml_X7_73 dX7_cars_18 (Nat.le_of_ble_eq_true rfl) ⟨(Nat.le_of_ble_eq_true rfl), (Nat.le_of_ble_eq_true rfl)⟩ rfl rfl (Nat.le_of_ble_eq_true rfl)) ?_
    refine z_ifB_ne E dX7_cars_21 26 (by decide) (fun c2 => ?_) (fun c2 => ?_)
    · obtain ⟨n2, -, hn2, rfl⟩ := wi_nI (by decide) (by decide) c1
      obtain ⟨w2, -, hw2, rfl⟩ := wi_nI (by decide) (by decide) c2
      refine z_aload_n E dX7_cars_26 0 rfl rfl ?_
      refine z_rwv0 (w2 := wMod g a h (sA (sF (sF M 0 0) 25 (opn T P)) 24 (fun r => if r < T.1 1 then cT T P r else M.2 24 r))) E (rV E hX (c_X7_asNow g a h (sF M 0 0) T P hT hM hP hN) mw_X7_asNow ml_X7_166 dX7_cars_27 (Nat.le_of_ble_eq_true rfl) ⟨(Nat.le_of_ble_eq_true rfl), (Nat.le_of_ble_eq_true rfl)⟩ rfl rfl (Nat.le_of_ble_eq_true rfl) 0 rfl rfl) rfl ?_
      refine z_aload_n E dX7_cars_30 0 rfl rfl ?_
      refine z_qv0 E (rV E hX (c_X7_measures g a h (sA (sF (sF M 0 0) 25 (opn T P)) 24 (fun r => if r < T.1 1 then cT T P r else M.2 24 r)) T (cT T P) (opn T P) hT hM (fun r hr => if_pos hr) (fun r _ => cT_le hT hP r) hc1 rfl (by omega)) mw_X7_measures ml_X7_195 dX7_cars_31 (Nat.le_of_ble_eq_true rfl) ⟨(Nat.le_of_ble_eq_true rfl), (Nat.le_of_ble_eq_true rfl)⟩ rfl rfl (Nat.le_of_ble_eq_true rfl) 0 rfl rfl) (fun w2 hw => ?_)
      obtain ⟨M9, rfl, ⟨f26, rfl, hf26⟩⟩ := hw
      refine ⟨rfl, ?_⟩
      refine z_ws (ws' := wMod g a h (sA (sA (sF (sF M 0 0) 25 (opn T P)) 24 (fun r => if r < T.1 1 then cT T P r else M.2 24 r)) 26 f26)) rfl ?_
      refine z_aload_n E dX7_cars_34 0 rfl rfl ?_
      refine z_aload_n E dX7_cars_35 0 rfl rfl ?_
      refine gt_X7_13 (v := .ref (h 9)) E dX7_cars_36 0 rfl rfl ?_
      refine z_iconst (v := (nI 2)) E dX7_cars_39 (by decide) ?_
      refine z_ialdN (f := (M.2 9)) E dX7_cars_40 2 rfl (by decide) (by decide) ?_
      refine z_topi (y := nI (T.1 2)) (congrArg nI (hM.1 2 (by decide))) ?_
      refine z_iconst (v := (nI 0)) E dX7_cars_41 (by decide) ?_
      refine z_ro0 E (rV E hX (c_X7_farFrom g a h (sA (sA (sF (sF M 0 0) 25 (opn T P)) 24 (fun r => if r < T.1 1 then cT T P r else M.2 24 r)) 26 f26) (T.1 2) 0 T (cT T P) (opn T P) (LF T (cT T P) (opn T P)) hT hM (fun r hr => if_pos hr) (fun r _ => cT_le hT hP r) rfl (by omega) hf26 (fun k hk => LF_le hk) (by omega) (by omega)) mw_X7_farFrom ml_X7_186 dX7_cars_42 (Nat.le_of_ble_eq_true rfl) ⟨(Nat.le_of_ble_eq_true rfl), (Nat.le_of_ble_eq_true rfl)⟩ rfl rfl (Nat.le_of_ble_eq_true rfl) 0 rfl rfl) ?_
      refine z_topi (y := nI (farV T (cT T P) (opn T P) 0 (T.1 2))) rfl ?_
      have hfl := farV_le T (cT T P) (opn T P) 0 (T.1 2)
      refine z_istore_n (lv' := [(0, .ref a), (1, .int (nI n2)), (2, .int (nI w2)), (3, .int (nI (farV T (cT T P) (opn T P) 0 (T.1 2))))]) E dX7_cars_45 3 rfl (by decide) rfl ?_
      refine z_iload_n E dX7_cars_46 3 rfl rfl ?_
      refine z_ldc (v := nI 1000000) E dX7_cars_47 kc_X7_181 ?_
      refine z_icmpN_ne E dX7_cars_49 55 (by decide) (by omega) (by decide) (fun c3 => ?_) (fun c3 => ?_)
      · have h0 : farV T (cT T P) (opn T P) 0 (T.1 2) < 1000000 := by omega
        refine z_iload_n E dX7_cars_55 2 rfl rfl ?_
        refine z_iconst (v := (nI 1)) E dX7_cars_56 (by decide) ?_
        refine z_icmpN_ne E dX7_cars_57 131 (by decide) (by omega) (by decide) (fun c4 => ?_) (fun c4 => ?_)
        · refine z_iconst (v := (nI 0)) E dX7_cars_131 (by decide) ?_
          refine z_istore (lv' := [(0, .ref a), (1, .int (nI n2)), (2, .int (nI w2)), (3, .int (nI (farV T (cT T P) (opn T P) 0 (T.1 2)))), (4, .int (nI 0))]) E dX7_cars_132 (by decide) rfl ?_
          refine z_iconst (v := (nI 0)) E dX7_cars_134 (by decide) ?_
          refine z_istore (lv' := [(0, .ref a), (1, .int (nI n2)), (2, .int (nI w2)), (3, .int (nI (farV T (cT T P) (opn T P) 0 (T.1 2)))), (4, .int (nI 0)), (5, .int (nI 0))]) E dX7_cars_135 (by decide) rfl ?_
          refine z_ws (ca_same g a h M (opn T P) (fun r => if r < T.1 1 then cT T P r else M.2 24 r) f26) ?_
          refine z_lv [0, 1, 2, 3, 4, 5] rfl ?_
          refine l_mone g a h M n2 T P hT hM hP hN hn2 h0 X E hX w2 (farV T (cT T P) (opn T P) 0 (T.1 2)) (fun s5 t5 g7 g8 p8 hs5 => ?_) (n2 + 1) 0 0 (M.1 27) (fun r => if r < T.1 1 then cT T P r else M.2 24 r) f26 (M.2 28) (by omega) rfl (fun r hr => if_pos hr) hf26 (by omega)
          refine z_iload E dX7_cars_227 4 rfl ?_
          refine z_iret E Er dX7_cars_229 ?_
          exact ⟨_, rfl, _, by rw [crV, if_pos (by rw [c1, c2]; rfl), if_neg c3, if_pos (by rw [show w2 = 0 by omega]), nI_clamp (by omega), hs5], rfl, (((((((mS.rf M).F (by omega)).F (by omega)).F (by omega)).A (by omega)).A (by omega)).A (by omega))⟩
        · refine z_aload_n E dX7_cars_60 0 rfl rfl ?_
          refine z_aload_n E dX7_cars_61 0 rfl rfl ?_
          refine gt_X7_13 (v := .ref (h 9)) E dX7_cars_62 0 rfl rfl ?_
          refine z_iconst (v := (nI 2)) E dX7_cars_65 (by decide) ?_
          refine z_ialdN (f := (M.2 9)) E dX7_cars_66 2 rfl (by decide) (by decide) ?_
          refine z_topi (y := nI (T.1 2)) (congrArg nI (hM.1 2 (by decide))) ?_
          refine z_iconst (v := (nI 0)) E dX7_cars_67 (by decide) ?_
          refine z_ldc (v := nI 1000000) E dX7_cars_68 kc_X7_181 ?_
          refine z_q0 E (rV E hX (c_X7_kthFrom g a h (sA (sA (sF (sF M 0 0) 25 (opn T P)) 24 (fun r => if r < T.1 1 then cT T P r else M.2 24 r)) 26 f26) (T.1 2) 0 1000000 T (cT T P) (opn T P) hT hM (fun r hr => if_pos hr) (fun r _ => cT_le hT hP r) hc1 rfl (by omega) hf26 (by omega) (by omega) (by decide) h0) mw_X7_kthFrom ml_X7_198 dX7_cars_70 (Nat.le_of_ble_eq_true rfl) ⟨(Nat.le_of_ble_eq_true rfl), (Nat.le_of_ble_eq_true rfl)⟩ rfl rfl (Nat.le_of_ble_eq_true rfl) 0 rfl rfl) (fun r w2 hw => ?_)
          obtain ⟨M8, rfl, rfl, ⟨t9, f9, rfl, hk9⟩⟩ := hw
          refine ⟨rfl, ?_⟩
          refine z_ws (ws' := wMod g a h (sA (sA (sA (sF (sF (sF M 0 0) 25 (opn T P)) 27 t9) 24 (fun r => if r < T.1 1 then cT T P r else M.2 24 r)) 26 f26) 28 f9)) rfl ?_
          refine z_pop E dX7_cars_73 rfl ?_
          refine z_iconst (v := (nI 0)) E dX7_cars_74 (by decide) ?_
          refine z_istore (lv' := [(0, .ref a), (1, .int (nI n2)), (2, .int (nI w2)), (3, .int (nI (farV T (cT T P) (opn T P) 0 (T.1 2)))), (4, .int (nI 0))]) E dX7_cars_75 (by decide) rfl ?_
          refine z_iconst (v := (nI 0)) E dX7_cars_77 (by decide) ?_
          refine z_istore (lv' := [(0, .ref a), (1, .int (nI n2)), (2, .int (nI w2)), (3, .int (nI (farV T (cT T P) (opn T P) 0 (T.1 2)))), (4, .int (nI 0)), (5, .int (nI 0))]) E dX7_cars_78 (by decide) rfl ?_
          have hl24 := (lenV_spec (s := (T.1 2, 0)) hc1 h0).1
          have hgo := (hk9 (by omega)).2
          refine z_lv [0, 1, 2, 3, 4, 5] rfl ?_
          refine l_mal g a h M n2 T P hT hM hP hN hn2 h0 X E hX w2 (farV T (cT T P) (opn T P) 0 (T.1 2)) t9 f26 f9 hgo (fun u hu => ?_) 13 0 0 (by omega) (by show (0 : Int32) = nI (0 * T.1 5) * _; rw [Nat.zero_mul]; exact Int32.zero_mul.symm) (by omega)
          refine z_iload_n E dX7_cars_124 1 rfl rfl ?_
          refine z_iload_n E dX7_cars_125 3 rfl rfl ?_
          refine z_iload E dX7_cars_126 4 rfl ?_
          refine z_iadd E dX7_cars_128 ?_
          refine z_imul E dX7_cars_129 ?_
          refine z_iret E Er dX7_cars_130 ?_
          exact ⟨_, rfl, _, by rw [crV, if_pos (by rw [c1, c2]; rfl), if_neg c3, if_neg (fun q => by have := (nI_injI (by omega) (by decide)).mp q; omega), nI_clamp (by omega), hu]; exact al_eq _ _ _ _, rfl, (((((((mS.rf M).F (by omega)).F (by omega)).F (by omega)).A (by omega)).A (by omega)).A (by omega))⟩
      · refine z_bipush (v := (-9)) E dX7_cars_52 (by decide) ?_
        refine z_iret E Er dX7_cars_54 ?_
        exact ⟨_, rfl, _, by rw [crV, if_pos (by rw [c1, c2]; rfl), if_pos c3], rfl, (((((mS.rf M).F (by omega)).F (by omega)).A (by omega)).A (by omega))⟩
    · refine z_iconst (v := (-1)) E dX7_cars_24 (by decide) ?_
      refine z_iret E Er dX7_cars_25 ?_
      exact ⟨_, rfl, _, by rw [crV, if_neg (show ¬ (wi n (nI 0) (nI 20) && wi w (nI 0) (nI 1)) = true by rw [c2]; simp)], rfl, ((mS.rf M).F (by omega))⟩
