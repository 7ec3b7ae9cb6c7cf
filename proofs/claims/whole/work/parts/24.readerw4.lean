/-- what always holds of a town -/
def tdI (T : NS) : Prop := sm T ∧ (2 ≤ T.1 0 ∧ T.1 0 ≤ 8) ∧ T.1 1 ≤ 12 ∧ T.1 2 < T.1 0 ∧ T.1 3 < T.1 0 ∧ T.1 4 ≤ 20 ∧ T.1 5 ≤ 9 ∧ (∀ r, T.2 8 r ≤ 60) ∧ (∀ r, T.2 9 r < 4096) ∧ ∀ r, r < T.1 1 → T.2 6 r < T.1 0 ∧ T.2 7 r < T.1 0 ∧ T.2 6 r ≠ T.2 7 r ∧ 1 ≤ T.2 8 r
/-- what holds of a draft, whatever was read into it -/
def tdD (T : NS) : Prop := sm T ∧ (∀ r, T.2 8 r ≤ 60) ∧ ∀ r, T.2 9 r < 4096
theorem tdI.D {T : NS} (h : tdI T) : tdD T := ⟨h.1, h.2.2.2.2.2.2.2.1, h.2.2.2.2.2.2.2.2.1⟩
theorem fstT_I {T : NS} (h : tdD T) : tdI (fstT T) := by
  obtain ⟨h1, h2, h3⟩ := h
  refine ⟨(((((h1.F (by decide)).F (by decide)).F (by decide)).F (by decide)).F (by decide)).F (by decide), ⟨Nat.le_refl 2, show (2 : Nat) ≤ 8 by decide⟩, show (0 : Nat) ≤ 12 by decide, show (0 : Nat) < 2 by decide, show (1 : Nat) < 2 by decide, show (2 : Nat) ≤ 20 by decide, show (1 : Nat) ≤ 9 by decide, h2, h3, fun r hr => absurd hr (Nat.not_lt_zero r)⟩
theorem bit12 {m s : Nat} (hm : m < 4096) (hs : s < 12) : m ||| 1 <<< s < 4096 := by
  refine Nat.or_lt_two_pow (n := 12) hm ?_
  rw [Nat.one_shiftLeft]
  exact Nat.pow_lt_pow_right (by decide) hs
theorem addT_I {T : NS} {a b m : Nat} (h : tdI T) (hR : T.1 1 < 12) (ha : a < T.1 0) (hb : b < T.1 0) (hab : b ≠ a) (hm : 1 ≤ m ∧ m ≤ 60) : tdI (addT T a b m) := by
  obtain ⟨h1, h2, h3, h4, h5, h6, h7, h8, h9, h10⟩ := h
  have e8 : ∀ r, va_up (T.2 8) (T.1 1) m r ≤ 60 := fun r => by unfold va_up; split; exact hm.2; exact h8 r
  have e9 : ∀ r, va_up (T.2 9) (T.1 1) 0 r < 4096 := fun r => by unfold va_up; split; decide; exact h9 r
  refine ⟨((((h1.F (show T.1 1 + 1 < 2 ^ 31 by omega)).A (up_lt (h1.2 6) (show a < 2 ^ 31 by omega))).A (up_lt (h1.2 7) (show b < 2 ^ 31 by omega))).A (fun r => Nat.lt_of_le_of_lt (e8 r) (by decide))).A (fun r => Nat.lt_trans (e9 r) (by decide)), h2, (show T.1 1 + 1 ≤ 12 by omega), h4, h5, h6, h7, e8, e9, fun r hr => ?_⟩
  have hr : r < T.1 1 + 1 := hr
  show va_up (T.2 6) (T.1 1) a r < T.1 0 ∧ va_up (T.2 7) (T.1 1) b r < T.1 0 ∧ va_up (T.2 6) (T.1 1) a r ≠ va_up (T.2 7) (T.1 1) b r ∧ 1 ≤ va_up (T.2 8) (T.1 1) m r
  unfold va_up
  by_cases e : r = T.1 1
  · rw [if_pos e, if_pos e, if_pos e]; exact ⟨ha, hb, fun z => hab z.symm, hm.1⟩
  · rw [if_neg e, if_neg e, if_neg e]; exact h10 r (by omega)
theorem strT_I {T : NS} {r s : Nat} (h : tdI T) (hr : r < 12) (hs : s < 12) : tdI (strT T r s) := by
  obtain ⟨h1, h2, h3, h4, h5, h6, h7, h8, h9, h10⟩ := h
  have e1 : ∀ j, va_up (T.2 9) r (T.2 9 r ||| 1 <<< s) j < 4096 := fun j => by unfold va_up; split; exact bit12 (h9 r) hs; exact h9 j
  have e2 : ∀ j, va_up (va_up (T.2 9) r (T.2 9 r ||| 1 <<< s)) s (va_up (T.2 9) r (T.2 9 r ||| 1 <<< s) s ||| 1 <<< r) j < 4096 := fun j => up_lt e1 (bit12 (e1 s) hr) j
  exact ⟨h1.A (fun j => Nat.lt_trans (e2 j) (by decide)), h2, h3, h4, h5, h6, h7, h8, e2, h10⟩
theorem spNum_T {R T : NS} {x : Nat} (hJ : rdJ R) (h : tdI T) (hok : (spNum R T x).1 = true) (h115 : x = 115 → T.1 1 = 0 ∧ T.1 2 ≤ 1 ∧ T.1 3 ≤ 1) (h117 : x = 117 → T.1 1 < 12) : tdI (spNum R T x).2.2 := by
  have hb := h.2.1
  have hp : T.1 0 - 1 < 2 ^ 31 := by omega
  unfold spNum at hok ⊢
  split at hok
  · rename_i e
    rw [if_pos e]
    unfold spPl at hok ⊢
    split at hok
    · cases hok
    · rename_i c1
      rw [if_neg c1]
      have a1 := rn_hi hJ (by decide) c1
      have a2 := rn_lo hJ (by decide) c1
      obtain ⟨h1, h2, h3, h4, h5, h6, h7, h8, h9, h10⟩ := h
      obtain ⟨g1, g2, g3⟩ := h115 e
      refine ⟨h1.F (by omega), ⟨a2, a1⟩, h3, Nat.lt_of_le_of_lt g2 a2, Nat.lt_of_le_of_lt g3 a2, h6, h7, h8, h9, fun r hr => ?_⟩
      have hr : r < T.1 1 := hr
      omega
  · rename_i e1
    split at hok
    · rename_i e
      rw [if_neg e1, if_pos e]
      unfold spRo at hok ⊢
      split at hok
      · cases hok
      · split at hok
        · cases hok
        · split at hok
          · cases hok
          · rename_i c1 c2 c3
            rw [if_neg c1, if_neg c2, if_neg c3]
            have a1 := rn_hi hJ hp c1
            have a2 := rn_hi (rnS_J hJ) hp c2
            have a3 := rn_bt c2
            have a4 := rn_hi (rnS_J (rnS_J hJ)) (by decide) c3
            have a5 := rn_lo (rnS_J (rnS_J hJ)) (by decide) c3
            exact addT_I h (h117 e) (by omega) (by omega) a3 ⟨a5, a4⟩
    · rename_i e2
      split at hok
      · rename_i e
        rw [if_neg e1, if_neg e2, if_pos e]
        unfold spSt at hok ⊢
        split at hok
        · cases hok
        · split at hok
          · cases hok
          · rename_i c1 c2
            rw [if_neg c1, if_neg c2]
            have hR := h.2.2.1
            have a1 := rn_h1 hJ (by omega) c1
            have a2 := rn_h1 (rnS_J hJ) (by omega) c2
            exact strT_I h (by omega) (by omega)
      · rename_i e3
        split at hok
        · rename_i e
          rw [if_neg e1, if_neg e2, if_neg e3, if_pos e]
          unfold spGo at hok ⊢
          split at hok
          · cases hok
          · split at hok
            · cases hok
            · rename_i c1 c2
              rw [if_neg c1, if_neg c2]
              have a1 := rn_hi hJ hp c1
              have a2 := rn_hi (rnS_J hJ) hp c2
              obtain ⟨h1, h2, h3, h4, h5, h6, h7, h8, h9, h10⟩ := h
              exact ⟨(h1.F (by omega)).F (by omega), h2, h3, Nat.lt_of_le_of_lt a1 (show T.1 0 - 1 < T.1 0 by omega), Nat.lt_of_le_of_lt a2 (show T.1 0 - 1 < T.1 0 by omega), h6, h7, h8, h9, h10⟩
        · rename_i e4
          split at hok
          · rename_i e
            rw [if_neg e1, if_neg e2, if_neg e3, if_neg e4, if_pos e]
            unfold spNe at hok ⊢
            split at hok
            · cases hok
            · rename_i c1
              rw [if_neg c1]
              have a1 := rn_hi hJ (by decide) c1
              obtain ⟨h1, h2, h3, h4, h5, h6, h7, h8, h9, h10⟩ := h
              exact ⟨h1.F (by omega), h2, h3, h4, h5, a1, h7, h8, h9, h10⟩
          · rename_i e5
            split at hok
            · rename_i e
              rw [if_neg e1, if_neg e2, if_neg e3, if_neg e4, if_neg e5, if_pos e]
              unfold spLo at hok ⊢
              split at hok
              · cases hok
              · rename_i c1
                rw [if_neg c1]
                have a1 := rn_hi hJ (by decide) c1
                obtain ⟨h1, h2, h3, h4, h5, h6, h7, h8, h9, h10⟩ := h
                exact ⟨h1.F (by omega), h2, h3, h4, h5, h6, a1, h8, h9, h10⟩
            · cases hok
/-- what is left in the draft, well told or not -/
theorem spNum_D {R T : NS} {x : Nat} (hJ : rdJ R) (h : tdI T) (h115 : x = 115 → T.1 1 = 0 ∧ T.1 2 ≤ 1 ∧ T.1 3 ≤ 1) (h117 : x = 117 → T.1 1 < 12) : tdD (spNum R T x).2.2 := by
  cases hok : (spNum R T x).1 with
  | true => exact (spNum_T hJ h hok h115 h117).D
  | false =>
    have e : (spNum R T x).2.2 = T := by
      unfold spNum at hok ⊢
      split at hok
      · rename_i e; rw [if_pos e]; unfold spPl at hok ⊢; split at hok
        · rename_i c; rw [if_pos c]
        · cases hok
      · rename_i e1; rw [if_neg e1]; split at hok
        · rename_i e; rw [if_pos e]; unfold spRo at hok ⊢; split at hok
          · rename_i c; rw [if_pos c]
          · rename_i c; rw [if_neg c]; split at hok
            · rename_i c; rw [if_pos c]
            · rename_i c; rw [if_neg c]; split at hok
              · rename_i c; rw [if_pos c]
              · cases hok
        · rename_i e2; rw [if_neg e2]; split at hok
          · rename_i e; rw [if_pos e]; unfold spSt at hok ⊢; split at hok
            · rename_i c; rw [if_pos c]
            · rename_i c; rw [if_neg c]; split at hok
              · rename_i c; rw [if_pos c]
              · cases hok
          · rename_i e3; rw [if_neg e3]; split at hok
            · rename_i e; rw [if_pos e]; unfold spGo at hok ⊢; split at hok
              · rename_i c; rw [if_pos c]
              · rename_i c; rw [if_neg c]; split at hok
                · rename_i c; rw [if_pos c]
                · cases hok
            · rename_i e4; rw [if_neg e4]; split at hok
              · rename_i e; rw [if_pos e]; unfold spNe at hok ⊢; split at hok
                · rename_i c; rw [if_pos c]
                · cases hok
              · rename_i e5; rw [if_neg e5]; split at hok
                · rename_i e; rw [if_pos e]; unfold spLo at hok ⊢; split at hok
                  · rename_i c; rw [if_pos c]
                  · cases hok
                · rename_i e6; rw [if_neg e6]
    rw [e]
    exact h.D
theorem cbF_115 {R T : NS} {x f : Nat} (h : cbF R T x f ≠ false) : x = 115 → f ≠ 0 := fun e => by
  subst e
  intro e0
  apply h
  simp [cbF, e0]
theorem cbF_117 {R T : NS} {x f : Nat} (h : cbF R T x f ≠ false) : x = 117 → T.1 1 < 12 := fun e => by
  subst e
  rcases Nat.lt_or_ge (T.1 1) 12 with q | q
  · exact q
  · exact absurd (by simp [cbF, Nat.not_lt.mpr q]) h
theorem spIt_T {R T : NS} {f : Nat} (hJ : rdJ R) (h : tdI T) (h0 : f ≠ 0 → T.1 1 = 0 ∧ T.1 2 ≤ 1 ∧ T.1 3 ≤ 1) : tdD (spIt R T f).2.2 ∧ ((spIt R T f).1 = true → tdI (spIt R T f).2.2) := by
  have hJ1 := tokR_J hJ.1 hJ.2.1
  by_cases a : cbF R T (R.1 3) f = false
  · have e : spIt R T f = (false, R, T) := by unfold spIt; rw [if_pos a]
    rw [e]
    exact ⟨h.D, fun q => by cases q⟩
  · have d := spNum_D (x := R.1 3) hJ1 h (fun q => h0 (cbF_115 a q)) (cbF_117 a)
    by_cases b : (spNum (tokR R) T (R.1 3)).1 = false
    · have e : spIt R T f = (false, (spNum (tokR R) T (R.1 3)).2.1, (spNum (tokR R) T (R.1 3)).2.2) := by unfold spIt; rw [if_neg a, if_pos b]
      rw [e]
      exact ⟨d, fun q => by cases q⟩
    · have t := spNum_T (x := R.1 3) hJ1 h (by simpa using b) (fun q => h0 (cbF_115 a q)) (cbF_117 a)
      by_cases c : (spNum (tokR R) T (R.1 3)).2.1.1 3 = 62
      · have e : spIt R T f = (true, tokR (spNum (tokR R) T (R.1 3)).2.1, (spNum (tokR R) T (R.1 3)).2.2) := by unfold spIt; rw [if_neg a, if_neg b, if_pos c]
        rw [e]
        exact ⟨d, fun _ => t⟩
      · have e : spIt R T f = (false, (spNum (tokR R) T (R.1 3)).2.1, (spNum (tokR R) T (R.1 3)).2.2) := by unfold spIt; rw [if_neg a, if_neg b, if_neg c]
        rw [e]
        exact ⟨d, fun q => by cases q⟩
/-- all items: how many, or the fault; what is left in reader and draft -/
noncomputable def rdL : Nat → Nat → NS → NS → Int32 × NS × NS
  | 0, it, R, T => (nI it, R, T)
  | k + 1, it, R, T => if R.1 3 = 1 then (nI it, R, T) else if (spIt R T (if it = 0 then 1 else 0)).1 = true then rdL k (it + 1) (spIt R T (if it = 0 then 1 else 0)).2.1 (spIt R T (if it = 0 then 1 else 0)).2.2 else ((-10) - nI ((spIt R T (if it = 0 then 1 else 0)).2.1.1 4), (spIt R T (if it = 0 then 1 else 0)).2.1, (spIt R T (if it = 0 then 1 else 0)).2.2)
theorem rdL_e {k it : Nat} {R T : NS} (h : R.1 3 = 1) : rdL k it R T = (nI it, R, T) := by
  cases k with
  | zero => rfl
  | succ k => unfold rdL; rw [if_pos h]
theorem rdL_y {k it f : Nat} {R T : NS} (hf : f = if it = 0 then 1 else 0) (h : R.1 3 ≠ 1) (h2 : (spIt R T f).1 = true) : rdL (k + 1) it R T = rdL k (it + 1) (spIt R T f).2.1 (spIt R T f).2.2 := by
  subst hf
  rw [rdL, if_neg h, if_pos h2]
theorem rdL_n {k it f : Nat} {R T : NS} (hf : f = if it = 0 then 1 else 0) (h : R.1 3 ≠ 1) (h2 : (spIt R T f).1 = false) : rdL (k + 1) it R T = ((-10) - nI ((spIt R T f).2.1.1 4), (spIt R T f).2.1, (spIt R T f).2.2) := by
  subst hf
  rw [rdL, if_neg h, if_neg (by rw [h2]; decide)]
def bgR (R : NS) : NS := sF (sF (sF (sF R 2 0) 6 0) 7 0) 8 0
theorem bgR_I {R : NS} (h : rdI R) : rdI (bgR R) := ⟨(((h.1.F (by decide)).F (by decide)).F (by decide)).F (by decide), h.2⟩
noncomputable def rdF (R T : NS) : Int32 × NS × NS := rdL 200 0 (tokR (bgR R)) (fstT T)

set_option maxHeartbeats 4000000 in
set_option maxRecDepth 100000 in
theorem c_X3_beginReading (g : GC) (e : Nat) (u : Nat → Nat) (R : NS) (a : Nat) (h : Nat → Nat) (T : NS) (hr : rdI R) : Ct g yX3_beginReading cX3_beginReading 2 none 4 0 0 [.ref e, .ref a] (wRead g e u R ++ (wTown g a h T)) (DV (wRead g e u (tokR (bgR R)) ++ (wTown g a h (fstT T)))) := by
  refine Ct.of (by decide) (Nat.le_of_ble_eq_true rfl) ?_
  intro X E Er hX _ hnm
  have E : Ob g X cX3_beginReading 2 RX3 := E
  have hbg := bgR_I hr
  refine z_lve (lv' := [(0, .ref e), (1, .ref a)]) rfl ?_
  refine z_aload_n E dX3_beginReading_0 1 rfl rfl ?_
  refine z_rwv (ws2 := wRead g e u R ++ (wTown g a h (fstT T))) E (rV E hX (c_X4_beAsAtFirst g a h T) mw_X4_beAsAtFirst ml_X3_40 dX3_beginReading_1 (Nat.le_of_ble_eq_true rfl) ⟨(Nat.le_of_ble_eq_true rfl), (Nat.le_of_ble_eq_true rfl)⟩ rfl rfl (Nat.le_of_ble_eq_true rfl) 0 rfl rfl) [2, 3, 4, 5, 6] rfl (by decide) rfl rfl ?_
  refine z_aload_n E dX3_beginReading_4 0 rfl rfl ?_
  refine z_iconst (v := (nI 0)) E dX3_beginReading_5 (by decide) ?_
  refine pt_X3_45 (x := 0) (ws' := wRead g e u (sF R 6 0) ++ (wTown g a h (fstT T))) E dX3_beginReading_6 0 rfl (Nat.le_of_ble_eq_true rfl) (by decide) rfl ?_
  refine z_aload_n E dX3_beginReading_9 0 rfl rfl ?_
  refine z_iconst (v := (nI 0)) E dX3_beginReading_10 (by decide) ?_
  refine pt_X3_49 (x := 0) (ws' := wRead g e u (sF (sF R 6 0) 7 0) ++ (wTown g a h (fstT T))) E dX3_beginReading_11 0 rfl (Nat.le_of_ble_eq_true rfl) (by decide) rfl ?_
  refine z_aload_n E dX3_beginReading_14 0 rfl rfl ?_
  refine z_iconst (v := (nI 0)) E dX3_beginReading_15 (by decide) ?_
  refine pt_X3_52 (x := 0) (ws' := wRead g e u (sF (sF (sF R 6 0) 7 0) 8 0) ++ (wTown g a h (fstT T))) E dX3_beginReading_16 0 rfl (Nat.le_of_ble_eq_true rfl) (by decide) rfl ?_
  refine z_aload_n E dX3_beginReading_19 0 rfl rfl ?_
  refine z_iconst (v := (nI 0)) E dX3_beginReading_20 (by decide) ?_
  refine pt_X3_55 (x := nI 0) (ws' := wRead g e u (sF (sF (sF (sF R 2 0) 6 0) 7 0) 8 0) ++ (wTown g a h (fstT T))) E dX3_beginReading_21 0 rfl (Nat.le_of_ble_eq_true rfl) rfl ?_
  refine z_ws (ws' := wRead g e u (bgR R) ++ (wTown g a h (fstT T))) rfl ?_
  refine z_aload_n E dX3_beginReading_24 0 rfl rfl ?_
  refine z_rwv (ws2 := wRead g e u (tokR (bgR R)) ++ (wTown g a h (fstT T))) E (rV E hX (c_X3_readToken g e u (bgR R) hbg (Nat.zero_le _)) mw_X3_readToken ml_X3_33 dX3_beginReading_25 (Nat.le_of_ble_eq_true rfl) ⟨(Nat.le_of_ble_eq_true rfl), (Nat.le_of_ble_eq_true rfl)⟩ rfl rfl (Nat.le_of_ble_eq_true rfl) 0 rfl rfl) [0, 1] rfl (by decide) rfl rfl ?_
  refine z_vret E Er dX3_beginReading_28 ?_
  exact ⟨rfl, rfl⟩

set_option maxHeartbeats 4000000 in
set_option maxRecDepth 100000 in
theorem l_read (g : GC) (e : Nat) (u : Nat → Nat) (R : NS) (a : Nat) (h : Nat → Nat) (T : NS) (hr : rdI R) (hd : tdD T) (X : XC) (E : Ob g X cX3_read 4 RX3) (hX : X.2.2.1 = zR 8 0 0) (Er : Oe g X (some .int) (DI ((rdF R T).1) (wRead g e u ((rdF R T).2.1) ++ (wTown g a h ((rdF R T).2.2)))) 0 0) : ∀ (n : Nat) (i : Nat) (R2 : NS) (T2 : NS), (rdL (200 - i) i R2 T2 = rdF R T) → (rdJ R2) → (tdI T2) → (rdK R2) → (i ≤ R2.1 4) → (i = 0 → T2.1 1 = 0 ∧ T2.1 2 ≤ 1 ∧ T2.1 3 ≤ 1) → (200 < i + n) → Z g X 4 0 0 (wRead g e u R2 ++ (wTown g a h T2)) [(0, .ref e), (1, .ref a), (2, .int (nI i))] [] 7 := by
  intro n
  induction n with
  | zero =>
    intro i R2 T2 hq hJ hT hK hi h0 hf
    have hJ4 := hJ.2.2.2
    have hJl := hJ.1.2.2.1
    have ht := tkOK_lt hJ.2.2.1
    have hT0 := hT.2.1.1
    have hTR := hT.2.2.1
    have hJ1 := tokR_J hJ.1 hJ.2.1
    have hJ2 := spNum_J (T := T2) (x := R2.1 3) hJ1
    have ht2 := tkOK_lt hJ2.2.2.1
    exfalso; omega
  | succ n ih =>
    intro i R2 T2 hq hJ hT hK hi h0 hf
    have hJ4 := hJ.2.2.2
    have hJl := hJ.1.2.2.1
    have ht := tkOK_lt hJ.2.2.1
    have hT0 := hT.2.1.1
    have hTR := hT.2.2.1
    have hJ1 := tokR_J hJ.1 hJ.2.1
    have hJ2 := spNum_J (T := T2) (x := R2.1 3) hJ1
    have ht2 := tkOK_lt hJ2.2.2.1
    refine z_aload_n E dX3_read_7 0 rfl rfl ?_
    refine gt_X3_23 (v := .int (tk (R2.1 3))) E dX3_read_8 0 rfl rfl ?_
    refine z_bipush (v := (-2)) E dX3_read_11 (by decide) ?_
    refine z_icmpT_eq (q := 1) E dX3_read_13 94 (by decide) (by omega) (by decide) (fun c1 => ?_) (fun c1 => ?_)
    · refine z_iload_n E dX3_read_94 2 rfl rfl ?_
      refine z_iret E Er dX3_read_95 ?_
      exact ⟨by rw [← hq, rdL_e c1], by rw [← hq, rdL_e c1]⟩
    · refine z_iload_n E dX3_read_16 2 rfl rfl ?_
      refine z_sipush (v := (nI 200)) E dX3_read_17 (by decide) ?_
      refine z_icmpN_ge E dX3_read_20 94 (by decide) (by omega) (by decide) (fun c2 => ?_) (fun c2 => ?_)
      · refine z_iload_n E dX3_read_94 2 rfl rfl ?_
        refine z_iret E Er dX3_read_95 ?_
        exfalso; have := hK c1; have := hJ.1.2.2.1; omega
      · have hk : 200 - i = 199 - i + 1 := by omega
        refine z_aload_n E dX3_read_23 0 rfl rfl ?_
        refine gt_X3_23 (v := .int (tk (R2.1 3))) E dX3_read_24 0 rfl rfl ?_
        refine z_istore_n (lv' := [(0, .ref e), (1, .ref a), (2, .int (nI i)), (3, .int (tk (R2.1 3)))]) E dX3_read_27 3 rfl (by decide) rfl ?_
        refine z_aload_n E dX3_read_28 0 rfl rfl ?_
        refine z_iload_n E dX3_read_29 3 rfl rfl ?_
        refine z_aload_n E dX3_read_30 1 rfl rfl ?_
        refine z_iload_n E dX3_read_31 2 rfl rfl ?_
        refine z_ifN_ne E dX3_read_32 39 (by decide) (by omega) (fun c3 => ?_) (fun c3 => ?_)
        · refine z_iconst (v := (nI 0)) E dX3_read_39 (by decide) ?_
          refine z_ro0 E (rV E hX (c_X3_canBegin g e u R2 a h T2 (R2.1 3) 0 hJ.1.1 (by omega) hJ.2.2.1 (by decide)) mw_X3_canBegin ml_X3_26 dX3_read_40 (Nat.le_of_ble_eq_true rfl) ⟨(Nat.le_of_ble_eq_true rfl), (Nat.le_of_ble_eq_true rfl)⟩ rfl rfl (Nat.le_of_ble_eq_true rfl) 0 rfl rfl) ?_
          refine z_ifB_ne E dX3_read_43 54 (by decide) (fun c4 => ?_) (fun c4 => ?_)
          · have hR2 : R2.1 3 = 117 → T2.1 1 < 12 := cbF_117 (R := R2) (T := T2) (x := R2.1 3) (f := 0) (by rw [c4]; decide)
            refine z_aload_n E dX3_read_54 0 rfl rfl ?_
            refine z_rwv (ws2 := wRead g e u (tokR R2) ++ (wTown g a h T2)) E (rV E hX (c_X3_readToken g e u R2 hJ.1 hJ.2.1) mw_X3_readToken ml_X3_33 dX3_read_55 (Nat.le_of_ble_eq_true rfl) ⟨(Nat.le_of_ble_eq_true rfl), (Nat.le_of_ble_eq_true rfl)⟩ rfl rfl (Nat.le_of_ble_eq_true rfl) 0 rfl rfl) [0, 1] rfl (by decide) rfl rfl ?_
            refine z_aload_n E dX3_read_58 0 rfl rfl ?_
            refine z_iload_n E dX3_read_59 3 rfl rfl ?_
            refine z_aload_n E dX3_read_60 1 rfl rfl ?_
            refine z_rw0 (w2 := wRead g e u ((spNum (tokR R2) T2 (R2.1 3)).2.1) ++ (wTown g a h ((spNum (tokR R2) T2 (R2.1 3)).2.2))) E (rV E hX (c_X3_readNumbers g e u (tokR R2) a h T2 (R2.1 3) hJ1 hJ.2.2.1 (by omega) (by omega) hR2) mw_X3_readNumbers ml_X3_36 dX3_read_61 (Nat.le_of_ble_eq_true rfl) ⟨(Nat.le_of_ble_eq_true rfl), (Nat.le_of_ble_eq_true rfl)⟩ rfl rfl (Nat.le_of_ble_eq_true rfl) 0 rfl rfl) rfl ?_
            refine z_ifB_eq E dX3_read_64 76 (by decide) (fun c5 => ?_) (fun c5 => ?_)
            · refine z_bipush (v := (-10)) E dX3_read_76 (by decide) ?_
              refine z_aload_n E dX3_read_78 0 rfl rfl ?_
              refine gt_X3_30 (v := .int (nI (((spNum (tokR R2) T2 (R2.1 3)).2.1).1 4))) E dX3_read_79 0 rfl rfl ?_
              refine z_isub E dX3_read_82 ?_
              refine z_iret E Er dX3_read_83 ?_
              have es := spI_b (f := 0) c4 c5; have q := rdL_n (k := 199 - i) (f := 0) (by rw [if_neg c3]) c1 (by rw [es]); rw [es] at q; rw [← hk, hq] at q; exact ⟨by rw [q], by rw [q]⟩
            · refine z_aload_n E dX3_read_67 0 rfl rfl ?_
              refine gt_X3_23 (v := .int (tk (((spNum (tokR R2) T2 (R2.1 3)).2.1).1 3))) E dX3_read_68 0 rfl rfl ?_
              refine z_bipush (v := (nI 59)) E dX3_read_71 (by decide) ?_
              refine z_icmpT_eq (q := 62) E dX3_read_73 84 (by decide) (by omega) (by decide) (fun c6 => ?_) (fun c6 => ?_)
              · refine z_aload_n E dX3_read_84 0 rfl rfl ?_
                refine z_rwv (ws2 := wRead g e u (tokR ((spNum (tokR R2) T2 (R2.1 3)).2.1)) ++ (wTown g a h ((spNum (tokR R2) T2 (R2.1 3)).2.2))) E (rV E hX (c_X3_readToken g e u ((spNum (tokR R2) T2 (R2.1 3)).2.1) hJ2.1 hJ2.2.1) mw_X3_readToken ml_X3_33 dX3_read_85 (Nat.le_of_ble_eq_true rfl) ⟨(Nat.le_of_ble_eq_true rfl), (Nat.le_of_ble_eq_true rfl)⟩ rfl rfl (Nat.le_of_ble_eq_true rfl) 0 rfl rfl) [0, 1] rfl (by decide) rfl rfl ?_
                refine z_iincN (lv' := [(0, .ref e), (1, .ref a), (2, .int (nI (i + 1))), (3, .int (tk (R2.1 3)))]) E dX3_read_88 2 rfl (by decide) rfl ?_
                refine z_goto E dX3_read_91 7 (by decide) ?_
                refine z_lv [0, 1, 2] rfl ?_; exact ih (i + 1) (tokR ((spNum (tokR R2) T2 (R2.1 3)).2.1)) ((spNum (tokR R2) T2 (R2.1 3)).2.2) (by have es := spI_c (f := 0) c4 c5 c6; have q := rdL_y (k := 199 - i) (f := 0) (by rw [if_neg c3]) c1 (by rw [es]); rw [es] at q; rw [show 200 - (i + 1) = 199 - i by omega]; exact q.symm.trans (by rw [← hk]; exact hq)) (by have es := spI_c (f := 0) c4 c5 c6; have q := spIt_J (T := T2) (f := 0) hJ; rw [es] at q; exact q) (by have es := spI_c (f := 0) c4 c5 c6; have q := (spIt_T (f := 0) hJ hT (fun q => absurd rfl q)).2; rw [es] at q; exact q rfl) (by have es := spI_c (f := 0) c4 c5 c6; have q := (spIt_4 (T := T2) (f := 0) hK c1 (by rw [es])).1; rw [es] at q; exact q) (by have es := spI_c (f := 0) c4 c5 c6; have q := (spIt_4 (T := T2) (f := 0) hK c1 (by rw [es])).2; rw [es] at q; exact Nat.le_trans (Nat.succ_le_succ hi) q) (fun q => absurd q (Nat.succ_ne_zero i)) (by omega)
              · refine z_bipush (v := (-10)) E dX3_read_76 (by decide) ?_
                refine z_aload_n E dX3_read_78 0 rfl rfl ?_
                refine gt_X3_30 (v := .int (nI (((spNum (tokR R2) T2 (R2.1 3)).2.1).1 4))) E dX3_read_79 0 rfl rfl ?_
                refine z_isub E dX3_read_82 ?_
                refine z_iret E Er dX3_read_83 ?_
                have es := spI_d (f := 0) c4 c5 c6; have q := rdL_n (k := 199 - i) (f := 0) (by rw [if_neg c3]) c1 (by rw [es]); rw [es] at q; rw [← hk, hq] at q; exact ⟨by rw [q], by rw [q]⟩
          · refine z_bipush (v := (-10)) E dX3_read_46 (by decide) ?_
            refine z_aload_n E dX3_read_48 0 rfl rfl ?_
            refine gt_X3_30 (v := .int (nI (R2.1 4))) E dX3_read_49 0 rfl rfl ?_
            refine z_isub E dX3_read_52 ?_
            refine z_iret E Er dX3_read_53 ?_
            have es := spI_a (f := 0) c4; have q := rdL_n (k := 199 - i) (f := 0) (by rw [if_neg c3]) c1 (by rw [es]); rw [es] at q; rw [← hk, hq] at q; exact ⟨by rw [q], by rw [q]⟩
        · refine z_iconst (v := (nI 1)) E dX3_read_35 (by decide) ?_
          refine z_goto E dX3_read_36 40 (by decide) ?_
          refine z_ro0 E (rV E hX (c_X3_canBegin g e u R2 a h T2 (R2.1 3) 1 hJ.1.1 (by omega) hJ.2.2.1 (by decide)) mw_X3_canBegin ml_X3_26 dX3_read_40 (Nat.le_of_ble_eq_true rfl) ⟨(Nat.le_of_ble_eq_true rfl), (Nat.le_of_ble_eq_true rfl)⟩ rfl rfl (Nat.le_of_ble_eq_true rfl) 0 rfl rfl) ?_
          refine z_ifB_ne E dX3_read_43 54 (by decide) (fun c4 => ?_) (fun c4 => ?_)
          · have hR2 : R2.1 3 = 117 → T2.1 1 < 12 := cbF_117 (R := R2) (T := T2) (x := R2.1 3) (f := 1) (by rw [c4]; decide)
            refine z_aload_n E dX3_read_54 0 rfl rfl ?_
            refine z_rwv (ws2 := wRead g e u (tokR R2) ++ (wTown g a h T2)) E (rV E hX (c_X3_readToken g e u R2 hJ.1 hJ.2.1) mw_X3_readToken ml_X3_33 dX3_read_55 (Nat.le_of_ble_eq_true rfl) ⟨(Nat.le_of_ble_eq_true rfl), (Nat.le_of_ble_eq_true rfl)⟩ rfl rfl (Nat.le_of_ble_eq_true rfl) 0 rfl rfl) [0, 1] rfl (by decide) rfl rfl ?_
            refine z_aload_n E dX3_read_58 0 rfl rfl ?_
            refine z_iload_n E dX3_read_59 3 rfl rfl ?_
            refine z_aload_n E dX3_read_60 1 rfl rfl ?_
            refine z_rw0 (w2 := wRead g e u ((spNum (tokR R2) T2 (R2.1 3)).2.1) ++ (wTown g a h ((spNum (tokR R2) T2 (R2.1 3)).2.2))) E (rV E hX (c_X3_readNumbers g e u (tokR R2) a h T2 (R2.1 3) hJ1 hJ.2.2.1 (by omega) (by omega) hR2) mw_X3_readNumbers ml_X3_36 dX3_read_61 (Nat.le_of_ble_eq_true rfl) ⟨(Nat.le_of_ble_eq_true rfl), (Nat.le_of_ble_eq_true rfl)⟩ rfl rfl (Nat.le_of_ble_eq_true rfl) 0 rfl rfl) rfl ?_
            refine z_ifB_eq E dX3_read_64 76 (by decide) (fun c5 => ?_) (fun c5 => ?_)
            · refine z_bipush (v := (-10)) E dX3_read_76 (by decide) ?_
              refine z_aload_n E dX3_read_78 0 rfl rfl ?_
              refine gt_X3_30 (v := .int (nI (((spNum (tokR R2) T2 (R2.1 3)).2.1).1 4))) E dX3_read_79 0 rfl rfl ?_
              refine z_isub E dX3_read_82 ?_
              refine z_iret E Er dX3_read_83 ?_
              have es := spI_b (f := 1) c4 c5; have q := rdL_n (k := 199 - i) (f := 1) (by rw [if_pos c3]) c1 (by rw [es]); rw [es] at q; rw [← hk, hq] at q; exact ⟨by rw [q], by rw [q]⟩
            · refine z_aload_n E dX3_read_67 0 rfl rfl ?_
              refine gt_X3_23 (v := .int (tk (((spNum (tokR R2) T2 (R2.1 3)).2.1).1 3))) E dX3_read_68 0 rfl rfl ?_
              refine z_bipush (v := (nI 59)) E dX3_read_71 (by decide) ?_
              refine z_icmpT_eq (q := 62) E dX3_read_73 84 (by decide) (by omega) (by decide) (fun c6 => ?_) (fun c6 => ?_)
              · refine z_aload_n E dX3_read_84 0 rfl rfl ?_
                refine z_rwv (ws2 := wRead g e u (tokR ((spNum (tokR R2) T2 (R2.1 3)).2.1)) ++ (wTown g a h ((spNum (tokR R2) T2 (R2.1 3)).2.2))) E (rV E hX (c_X3_readToken g e u ((spNum (tokR R2) T2 (R2.1 3)).2.1) hJ2.1 hJ2.2.1) mw_X3_readToken ml_X3_33 dX3_read_85 (Nat.le_of_ble_eq_true rfl) ⟨(Nat.le_of_ble_eq_true rfl), (Nat.le_of_ble_eq_true rfl)⟩ rfl rfl (Nat.le_of_ble_eq_true rfl) 0 rfl rfl) [0, 1] rfl (by decide) rfl rfl ?_
                refine z_iincN (lv' := [(0, .ref e), (1, .ref a), (2, .int (nI (i + 1))), (3, .int (tk (R2.1 3)))]) E dX3_read_88 2 rfl (by decide) rfl ?_
                refine z_goto E dX3_read_91 7 (by decide) ?_
                refine z_lv [0, 1, 2] rfl ?_; exact ih (i + 1) (tokR ((spNum (tokR R2) T2 (R2.1 3)).2.1)) ((spNum (tokR R2) T2 (R2.1 3)).2.2) (by have es := spI_c (f := 1) c4 c5 c6; have q := rdL_y (k := 199 - i) (f := 1) (by rw [if_pos c3]) c1 (by rw [es]); rw [es] at q; rw [show 200 - (i + 1) = 199 - i by omega]; exact q.symm.trans (by rw [← hk]; exact hq)) (by have es := spI_c (f := 1) c4 c5 c6; have q := spIt_J (T := T2) (f := 1) hJ; rw [es] at q; exact q) (by have es := spI_c (f := 1) c4 c5 c6; have q := (spIt_T (f := 1) hJ hT (fun _ => h0 c3)).2; rw [es] at q; exact q rfl) (by have es := spI_c (f := 1) c4 c5 c6; have q := (spIt_4 (T := T2) (f := 1) hK c1 (by rw [es])).1; rw [es] at q; exact q) (by have es := spI_c (f := 1) c4 c5 c6; have q := (spIt_4 (T := T2) (f := 1) hK c1 (by rw [es])).2; rw [es] at q; exact Nat.le_trans (Nat.succ_le_succ hi) q) (fun q => absurd q (Nat.succ_ne_zero i)) (by omega)
              · refine z_bipush (v := (-10)) E dX3_read_76 (by decide) ?_
                refine z_aload_n E dX3_read_78 0 rfl rfl ?_
                refine gt_X3_30 (v := .int (nI (((spNum (tokR R2) T2 (R2.1 3)).2.1).1 4))) E dX3_read_79 0 rfl rfl ?_
                refine z_isub E dX3_read_82 ?_
                refine z_iret E Er dX3_read_83 ?_
                have es := spI_d (f := 1) c4 c5 c6; have q := rdL_n (k := 199 - i) (f := 1) (by rw [if_pos c3]) c1 (by rw [es]); rw [es] at q; rw [← hk, hq] at q; exact ⟨by rw [q], by rw [q]⟩
          · refine z_bipush (v := (-10)) E dX3_read_46 (by decide) ?_
            refine z_aload_n E dX3_read_48 0 rfl rfl ?_
            refine gt_X3_30 (v := .int (nI (R2.1 4))) E dX3_read_49 0 rfl rfl ?_
            refine z_isub E dX3_read_52 ?_
            refine z_iret E Er dX3_read_53 ?_
            have es := spI_a (f := 1) c4; have q := rdL_n (k := 199 - i) (f := 1) (by rw [if_pos c3]) c1 (by rw [es]); rw [es] at q; rw [← hk, hq] at q; exact ⟨by rw [q], by rw [q]⟩

set_option maxHeartbeats 4000000 in
set_option maxRecDepth 100000 in
theorem c_X3_read (g : GC) (e : Nat) (u : Nat → Nat) (R : NS) (a : Nat) (h : Nat → Nat) (T : NS) (hr : rdI R) (hd : tdD T) : Ct g yX3_read cX3_read 4 (some .int) 8 0 0 [.ref e, .ref a] (wRead g e u R ++ (wTown g a h T)) (DI ((rdF R T).1) (wRead g e u ((rdF R T).2.1) ++ (wTown g a h ((rdF R T).2.2)))) := by
  refine Ct.of (by decide) (Nat.le_of_ble_eq_true rfl) ?_
  intro X E Er hX _ hnm
  have E : Ob g X cX3_read 4 RX3 := E
  have hbg := bgR_I hr
  have hfi := fstT_I hd
  refine z_lve (lv' := [(0, .ref e), (1, .ref a)]) rfl ?_
  refine z_aload_n E dX3_read_0 0 rfl rfl ?_
  refine z_aload_n E dX3_read_1 1 rfl rfl ?_
  refine z_rwv0 (w2 := wRead g e u (tokR (bgR R)) ++ (wTown g a h (fstT T))) E (rV E hX (c_X3_beginReading g e u R a h T hr) mw_X3_beginReading ml_X3_19 dX3_read_2 (Nat.le_of_ble_eq_true rfl) ⟨(Nat.le_of_ble_eq_true rfl), (Nat.le_of_ble_eq_true rfl)⟩ rfl rfl (Nat.le_of_ble_eq_true rfl) 0 rfl rfl) rfl ?_
  refine z_iconst (v := (nI 0)) E dX3_read_5 (by decide) ?_
  refine z_istore_n (lv' := [(0, .ref e), (1, .ref a), (2, .int (nI 0))]) E dX3_read_6 2 rfl (by decide) rfl ?_
  exact l_read g e u R a h T hr hd X E hX Er 201 0 (tokR (bgR R)) (fstT T) rfl (tokR_J hbg (Nat.zero_le _)) hfi (tokR_K _) (Nat.zero_le _) (fun _ => ⟨rfl, show (0 : Nat) ≤ 1 by decide, show (1 : Nat) ≤ 1 by decide⟩) (by omega)
