/-- the reference's reading, held against the class's -/
def psR (R M : NS) : Prop := mrX R M ∧ M.1 4 = R.1 2 ∧ M.1 5 = tkm (R.1 3) ∧ M.1 6 = R.1 4 ∧ (R.1 3 = 2 → M.1 7 = R.1 5) ∧ (3 ≤ R.1 3 → M.1 7 = R.1 3 - 3) ∧ M.1 7 ≤ 999
theorem psR_tok {R M M2 : NS} {i0 x4 x5 x6 x7 : Nat} (hX : mrX R M) (hi : R.1 2 = i0) (e : M2 = sF (sF (sF (sF M 4 x4) 5 x5) 6 x6) 7 x7) (h : avP (R.2 0) (R.1 1) i0 x4 x5 x6 x7) : psR (tokR R) M2 := by
  subst hi
  subst e
  obtain ⟨h1, h2, h3, h4, h5, h6⟩ := h
  exact ⟨hX, h1, h2, h3, fun q => h4 q (R.1 5), h5, h6⟩
theorem tkm_2 {x : Nat} (h : tkm x = 2) : x = 2 := by
  unfold tkm at h
  split at h
  · cases h
  · split at h
    · assumption
    · split at h
      · cases h
      · split at h <;> cases h
theorem tkm_22 {x : Nat} (h : x = 2) : tkm x = 2 := by rw [h]; rfl

set_option maxHeartbeats 4000000 in
set_option maxRecDepth 100000 in
theorem c_X7_isWell (g : GC) (a : Nat) (h : Nat → Nat) (M : NS) (h8l : M.1 8 < 2 ^ 31) : Ct g yX7_isWell cX7_isWell 1 (some .boolean) 0 0 0 [.ref a] (wMod g a h M) (DI (bI (decide (M.1 8 = 0))) (wMod g a h M)) := by
  refine Ct.of (by decide) (Nat.le_of_ble_eq_true rfl) ?_
  intro X E Er hX _ hnm
  have E : Ob g X cX7_isWell 1 RX7 := E
  refine z_lve (lv' := [(0, .ref a)]) rfl ?_
  refine z_aload_n E dX7_isWell_0 0 rfl rfl ?_
  refine gt_X7_100 (v := .int (pm (M.1 8))) E dX7_isWell_1 0 rfl rfl ?_
  refine z_ifP_ge E dX7_isWell_4 11 (by decide) (h8l) (fun c1 => ?_) (fun c1 => ?_)
  · refine z_iconst (v := (nI 0)) E dX7_isWell_11 (by decide) ?_
    refine z_zret E Er dX7_isWell_12 (by decide) ?_
    exact ⟨bz0 (decide_eq_false c1), rfl⟩
  · refine z_iconst (v := (nI 1)) E dX7_isWell_7 (by decide) ?_
    refine z_goto E dX7_isWell_8 12 (by decide) ?_
    refine z_zret E Er dX7_isWell_12 (by decide) ?_
    exact ⟨bz1 (decide_eq_true c1), rfl⟩

set_option maxHeartbeats 4000000 in
set_option maxRecDepth 100000 in
theorem c_X7_takesToken_f (g : GC) (a : Nat) (h : Nat → Nat) (M : NS) (q : Nat) (h8 : M.1 8 ≠ 0 ∧ M.1 8 < 2 ^ 31) : Ct g yX7_takesToken cX7_takesToken 3 (some .int) 1 0 0 [.ref a, .int (nI q)] (wMod g a h M) (DI (nI 0) (wMod g a h M)) := by
  refine Ct.of (by decide) (Nat.le_of_ble_eq_true rfl) ?_
  intro X E Er hX _ hnm
  have E : Ob g X cX7_takesToken 3 RX7 := E
  refine z_lve (lv' := [(0, .ref a), (1, .int (nI q))]) rfl ?_
  refine z_aload_n E dX7_takesToken_0 0 rfl rfl ?_
  refine z_ro0 E (rV E hX (c_X7_isWell g a h M h8.2) mw_X7_isWell ml_X7_103 dX7_takesToken_1 (Nat.le_of_ble_eq_true rfl) ⟨(Nat.le_of_ble_eq_true rfl), (Nat.le_of_ble_eq_true rfl)⟩ rfl rfl (Nat.le_of_ble_eq_true rfl) 0 rfl rfl) ?_
  refine z_ifB_ne E dX7_takesToken_4 9 (by decide) (fun c1 => ?_) (fun c1 => ?_)
  · exact absurd (of_decide_eq_true c1) h8.1
  · refine z_iconst (v := (nI 0)) E dX7_takesToken_7 (by decide) ?_
    refine z_iret E Er dX7_takesToken_8 ?_
    exact ⟨rfl, rfl⟩

set_option maxHeartbeats 4000000 in
set_option maxRecDepth 100000 in
theorem c_X7_takesToken_0 (g : GC) (a : Nat) (h : Nat → Nat) (M : NS) (q : Nat) (h8 : M.1 8 = 0) (hq : q = 0) : Ct g yX7_takesToken cX7_takesToken 3 (some .int) 1 0 0 [.ref a, .int (nI q)] (wMod g a h M) (DI (nI 0) (wMod g a h (sF M 8 (M.1 6 + 1)))) := by
  refine Ct.of (by decide) (Nat.le_of_ble_eq_true rfl) ?_
  intro X E Er hX _ hnm
  have E : Ob g X cX7_takesToken 3 RX7 := E
  refine z_lve (lv' := [(0, .ref a), (1, .int (nI q))]) rfl ?_
  refine z_aload_n E dX7_takesToken_0 0 rfl rfl ?_
  refine z_ro0 E (rV E hX (c_X7_isWell g a h M (by rw [h8]; decide)) mw_X7_isWell ml_X7_103 dX7_takesToken_1 (Nat.le_of_ble_eq_true rfl) ⟨(Nat.le_of_ble_eq_true rfl), (Nat.le_of_ble_eq_true rfl)⟩ rfl rfl (Nat.le_of_ble_eq_true rfl) 0 rfl rfl) ?_
  refine z_ifB_ne E dX7_takesToken_4 9 (by decide) (fun c1 => ?_) (fun c1 => ?_)
  · refine z_iload_n E dX7_takesToken_9 1 rfl rfl ?_
    refine z_ifN_ne E dX7_takesToken_10 23 (by decide) (by omega) (fun c2 => ?_) (fun c2 => ?_)
    · exact absurd hq c2
    · refine z_aload_n E dX7_takesToken_13 0 rfl rfl ?_
      refine z_aload_n E dX7_takesToken_14 0 rfl rfl ?_
      refine gt_X7_87 (v := .int (nI (M.1 6))) E dX7_takesToken_15 0 rfl rfl ?_
      refine pt_X7_100 (x := pm ((M.1 6) + 1)) (ws' := wMod g a h (sF M 8 ((M.1 6) + 1))) E dX7_takesToken_18 0 rfl (Nat.le_of_ble_eq_true rfl) rfl ?_
      refine z_iconst (v := (nI 0)) E dX7_takesToken_21 (by decide) ?_
      refine z_iret E Er dX7_takesToken_22 ?_
      exact ⟨rfl, rfl⟩
  · exact absurd h8 (of_decide_eq_false c1)

set_option maxHeartbeats 4000000 in
set_option maxRecDepth 100000 in
theorem c_X7_takesToken_1 (g : GC) (a : Nat) (h : Nat → Nat) (M : NS) (q : Nat) (R : NS) (h8 : M.1 8 = 0) (hq : q = 1) (hps : psR R M) (hJ : rdJ R) : Ct g yX7_takesToken cX7_takesToken 3 (some .int) 2 0 0 [.ref a, .int (nI q)] (wMod g a h M) (QI (fun r_ w_ => ∃ M2 : NS, r_ = (nI (M.1 7)) ∧ w_ = wMod g a h M2 ∧ (∃ x4 x5 x6 x7, M2 = sF (sF (sF (sF M 4 x4) 5 x5) 6 x6) 7 x7 ∧ psR (tokR R) M2))) := by
  refine Ct.of (by decide) (Nat.le_of_ble_eq_true rfl) ?_
  intro X E Er hX _ hnm
  have E : Ob g X cX7_takesToken 3 RX7 := E
  refine z_lve (lv' := [(0, .ref a), (1, .int (nI q))]) rfl ?_
  refine z_aload_n E dX7_takesToken_0 0 rfl rfl ?_
  refine z_ro0 E (rV E hX (c_X7_isWell g a h M (by rw [h8]; decide)) mw_X7_isWell ml_X7_103 dX7_takesToken_1 (Nat.le_of_ble_eq_true rfl) ⟨(Nat.le_of_ble_eq_true rfl), (Nat.le_of_ble_eq_true rfl)⟩ rfl rfl (Nat.le_of_ble_eq_true rfl) 0 rfl rfl) ?_
  refine z_ifB_ne E dX7_takesToken_4 9 (by decide) (fun c1 => ?_) (fun c1 => ?_)
  · refine z_iload_n E dX7_takesToken_9 1 rfl rfl ?_
    refine z_ifN_ne E dX7_takesToken_10 23 (by decide) (by omega) (fun c2 => ?_) (fun c2 => ?_)
    · refine z_aload_n E dX7_takesToken_23 0 rfl rfl ?_
      refine gt_X7_93 (v := .int (nI (M.1 7))) E dX7_takesToken_24 0 rfl rfl ?_
      refine z_istore_n (lv' := [(0, .ref a), (1, .int (nI q)), (2, .int (nI (M.1 7)))]) E dX7_takesToken_27 2 rfl (by decide) rfl ?_
      refine z_aload_n E dX7_takesToken_28 0 rfl rfl ?_
      refine z_qv0 E (rV E hX (c_X7_advances g a h M R (R.1 2) hJ.1 hps.1 hps.2.1 hJ.2.1 hps.2.2.2.2.2.2) mw_X7_advances ml_X7_107 dX7_takesToken_29 (Nat.le_of_ble_eq_true rfl) ⟨(Nat.le_of_ble_eq_true rfl), (Nat.le_of_ble_eq_true rfl)⟩ rfl rfl (Nat.le_of_ble_eq_true rfl) 0 rfl rfl) (fun w2 hw => ?_)
      obtain ⟨M9, rfl, ⟨x4, x5, x6, x7, rfl, hav⟩⟩ := hw
      refine ⟨rfl, ?_⟩
      refine z_ws (ws' := wMod g a h (sF (sF (sF (sF M 4 x4) 5 x5) 6 x6) 7 x7)) rfl ?_
      refine z_iload_n E dX7_takesToken_32 2 rfl rfl ?_
      refine z_iret E Er dX7_takesToken_33 ?_
      exact ⟨_, rfl, _, rfl, rfl, x4, x5, x6, x7, rfl, psR_tok hps.1 rfl rfl hav⟩
    · exact absurd (hq.symm.trans c2) (by decide)
  · exact absurd h8 (of_decide_eq_false c1)

section ZMg
variable {g : GC} {X : XC} {cc : ByteArray} {nL k n pc : Nat} {own : String} {ws : va_W} {lv lv' : List (Nat × Value)} {st : List Value}
/-- a compare of which nothing is known -/
theorem z_icmpA_ne (E : Ob g X cc nL own) {x y : Int32} {off : Int} (hd : decode cc pc = .ok (.if_icmp .ne off, 3)) (tgt : Nat) (ht : (pc : Int) + off = (tgt : Int)) (kt : Z g X nL k n ws lv st tgt) (kf : Z g X nL k n ws lv st (pc + 3)) : Z g X nL k n ws lv (.int y :: .int x :: st) pc := z_icmp_ne E hd tgt ht (fun _ => kt) (fun _ => kf)
theorem z_icmpA_eq (E : Ob g X cc nL own) {x y : Int32} {off : Int} (hd : decode cc pc = .ok (.if_icmp .eq off, 3)) (tgt : Nat) (ht : (pc : Int) + off = (tgt : Int)) (kt : Z g X nL k n ws lv st tgt) (kf : Z g X nL k n ws lv st (pc + 3)) : Z g X nL k n ws lv (.int y :: .int x :: st) pc := z_icmp_eq E hd tgt ht (fun _ => kt) (fun _ => kf)
end ZMg

set_option maxHeartbeats 4000000 in
set_option maxRecDepth 100000 in
theorem c_X7_number_f (g : GC) (a : Nat) (h : Nat → Nat) (M : NS) (lo : Int32) (hi : Int32) (h8 : M.1 8 ≠ 0 ∧ M.1 8 < 2 ^ 31) : Ct g yX7_number cX7_number 3 (some .int) 2 0 0 [.ref a, .int lo, .int hi] (wMod g a h M) (DI (nI 0) (wMod g a h M)) := by
  refine Ct.of (by decide) (Nat.le_of_ble_eq_true rfl) ?_
  intro X E Er hX _ hnm
  have E : Ob g X cX7_number 3 RX7 := E
  refine z_lve (lv' := [(0, .ref a), (1, .int lo), (2, .int hi)]) rfl ?_
  refine z_aload_n E dX7_number_0 0 rfl rfl ?_
  refine z_aload_n E dX7_number_1 0 rfl rfl ?_
  refine gt_X7_90 (v := .int (nI (M.1 5))) E dX7_number_2 0 rfl rfl ?_
  refine z_iconst (v := (nI 2)) E dX7_number_5 (by decide) ?_
  refine z_icmpA_ne E dX7_number_6 25 (by decide) ?_ ?_
  · refine z_iconst (v := (nI 0)) E dX7_number_25 (by decide) ?_
    refine z_ro0 E (rV E hX (c_X7_takesToken_f g a h M 0 h8) mw_X7_takesToken ml_X7_110 dX7_number_26 (Nat.le_of_ble_eq_true rfl) ⟨(Nat.le_of_ble_eq_true rfl), (Nat.le_of_ble_eq_true rfl)⟩ rfl rfl (Nat.le_of_ble_eq_true rfl) 0 rfl rfl) ?_
    refine z_iret E Er dX7_number_29 ?_
    exact ⟨rfl, rfl⟩
  · refine z_aload_n E dX7_number_9 0 rfl rfl ?_
    refine gt_X7_93 (v := .int (nI (M.1 7))) E dX7_number_10 0 rfl rfl ?_
    refine z_iload_n E dX7_number_13 1 rfl rfl ?_
    refine z_iload_n E dX7_number_14 2 rfl rfl ?_
    refine z_se E (rS E hX (c_X7_in g (nI (M.1 7)) lo hi) mw_X7_in ms_X7_in ml_X7_73 dX7_number_15 (Nat.le_of_ble_eq_true rfl) ⟨(Nat.le_of_ble_eq_true rfl), (Nat.le_of_ble_eq_true rfl)⟩ rfl rfl (Nat.le_of_ble_eq_true rfl)) ?_
    refine z_ifB_eq E dX7_number_18 25 (by decide) (fun c1 => ?_) (fun c1 => ?_)
    · refine z_iconst (v := (nI 0)) E dX7_number_25 (by decide) ?_
      refine z_ro0 E (rV E hX (c_X7_takesToken_f g a h M 0 h8) mw_X7_takesToken ml_X7_110 dX7_number_26 (Nat.le_of_ble_eq_true rfl) ⟨(Nat.le_of_ble_eq_true rfl), (Nat.le_of_ble_eq_true rfl)⟩ rfl rfl (Nat.le_of_ble_eq_true rfl) 0 rfl rfl) ?_
      refine z_iret E Er dX7_number_29 ?_
      exact ⟨rfl, rfl⟩
    · refine z_iconst (v := (nI 1)) E dX7_number_21 (by decide) ?_
      refine z_goto E dX7_number_22 26 (by decide) ?_
      refine z_ro0 E (rV E hX (c_X7_takesToken_f g a h M 1 h8) mw_X7_takesToken ml_X7_110 dX7_number_26 (Nat.le_of_ble_eq_true rfl) ⟨(Nat.le_of_ble_eq_true rfl), (Nat.le_of_ble_eq_true rfl)⟩ rfl rfl (Nat.le_of_ble_eq_true rfl) 0 rfl rfl) ?_
      refine z_iret E Er dX7_number_29 ?_
      exact ⟨rfl, rfl⟩

set_option maxHeartbeats 4000000 in
set_option maxRecDepth 100000 in
theorem c_X7_unlike_f (g : GC) (a : Nat) (h : Nat → Nat) (M : NS) (hi : Int32) (ot : Nat) (h8 : M.1 8 ≠ 0 ∧ M.1 8 < 2 ^ 31) : Ct g yX7_unlike cX7_unlike 3 (some .int) 2 0 0 [.ref a, .int hi, .int (nI ot)] (wMod g a h M) (DI (nI 0) (wMod g a h M)) := by
  refine Ct.of (by decide) (Nat.le_of_ble_eq_true rfl) ?_
  intro X E Er hX _ hnm
  have E : Ob g X cX7_unlike 3 RX7 := E
  refine z_lve (lv' := [(0, .ref a), (1, .int hi), (2, .int (nI ot))]) rfl ?_
  refine z_aload_n E dX7_unlike_0 0 rfl rfl ?_
  refine z_aload_n E dX7_unlike_1 0 rfl rfl ?_
  refine gt_X7_90 (v := .int (nI (M.1 5))) E dX7_unlike_2 0 rfl rfl ?_
  refine z_iconst (v := (nI 2)) E dX7_unlike_5 (by decide) ?_
  refine z_icmpA_ne E dX7_unlike_6 33 (by decide) ?_ ?_
  · refine z_iconst (v := (nI 0)) E dX7_unlike_33 (by decide) ?_
    refine z_ro0 E (rV E hX (c_X7_takesToken_f g a h M 0 h8) mw_X7_takesToken ml_X7_110 dX7_unlike_34 (Nat.le_of_ble_eq_true rfl) ⟨(Nat.le_of_ble_eq_true rfl), (Nat.le_of_ble_eq_true rfl)⟩ rfl rfl (Nat.le_of_ble_eq_true rfl) 0 rfl rfl) ?_
    refine z_iret E Er dX7_unlike_37 ?_
    exact ⟨rfl, rfl⟩
  · refine z_aload_n E dX7_unlike_9 0 rfl rfl ?_
    refine gt_X7_93 (v := .int (nI (M.1 7))) E dX7_unlike_10 0 rfl rfl ?_
    refine z_iconst (v := (nI 0)) E dX7_unlike_13 (by decide) ?_
    refine z_iload_n E dX7_unlike_14 1 rfl rfl ?_
    refine z_se E (rS E hX (c_X7_in g (nI (M.1 7)) (nI 0) hi) mw_X7_in ms_X7_in ml_X7_73 dX7_unlike_15 (Nat.le_of_ble_eq_true rfl) ⟨(Nat.le_of_ble_eq_true rfl), (Nat.le_of_ble_eq_true rfl)⟩ rfl rfl (Nat.le_of_ble_eq_true rfl)) ?_
    refine z_ifB_eq E dX7_unlike_18 33 (by decide) (fun c1 => ?_) (fun c1 => ?_)
    · refine z_iconst (v := (nI 0)) E dX7_unlike_33 (by decide) ?_
      refine z_ro0 E (rV E hX (c_X7_takesToken_f g a h M 0 h8) mw_X7_takesToken ml_X7_110 dX7_unlike_34 (Nat.le_of_ble_eq_true rfl) ⟨(Nat.le_of_ble_eq_true rfl), (Nat.le_of_ble_eq_true rfl)⟩ rfl rfl (Nat.le_of_ble_eq_true rfl) 0 rfl rfl) ?_
      refine z_iret E Er dX7_unlike_37 ?_
      exact ⟨rfl, rfl⟩
    · refine z_aload_n E dX7_unlike_21 0 rfl rfl ?_
      refine gt_X7_93 (v := .int (nI (M.1 7))) E dX7_unlike_22 0 rfl rfl ?_
      refine z_iload_n E dX7_unlike_25 2 rfl rfl ?_
      refine z_icmpA_eq E dX7_unlike_26 33 (by decide) ?_ ?_
      · refine z_iconst (v := (nI 0)) E dX7_unlike_33 (by decide) ?_
        refine z_ro0 E (rV E hX (c_X7_takesToken_f g a h M 0 h8) mw_X7_takesToken ml_X7_110 dX7_unlike_34 (Nat.le_of_ble_eq_true rfl) ⟨(Nat.le_of_ble_eq_true rfl), (Nat.le_of_ble_eq_true rfl)⟩ rfl rfl (Nat.le_of_ble_eq_true rfl) 0 rfl rfl) ?_
        refine z_iret E Er dX7_unlike_37 ?_
        exact ⟨rfl, rfl⟩
      · refine z_iconst (v := (nI 1)) E dX7_unlike_29 (by decide) ?_
        refine z_goto E dX7_unlike_30 34 (by decide) ?_
        refine z_ro0 E (rV E hX (c_X7_takesToken_f g a h M 1 h8) mw_X7_takesToken ml_X7_110 dX7_unlike_34 (Nat.le_of_ble_eq_true rfl) ⟨(Nat.le_of_ble_eq_true rfl), (Nat.le_of_ble_eq_true rfl)⟩ rfl rfl (Nat.le_of_ble_eq_true rfl) 0 rfl rfl) ?_
        refine z_iret E Er dX7_unlike_37 ?_
        exact ⟨rfl, rfl⟩

theorem tkm_le (x : Nat) : tkm x ≤ 4 := by
  unfold tkm
  split
  · omega
  · split
    · omega
    · split
      · omega
      · split <;> omega
theorem rn_no {R M : NS} {lo hi bt : Int32} (h : ¬ rnC R lo hi bt) (hps : psR R M) : (rnE R lo hi bt = 0 ∧ sF M 8 (M.1 6 + 1) = sF M 8 (R.1 4 + 1)) ∨ (rnE R lo hi bt ≠ 0 ∧ ∃ x4 x5 x6 x7, sF M 8 (M.1 6 + 1) = sF (sF (sF (sF M 4 x4) 5 x5) 6 x6) 7 x7 ∧ psR (rnS R lo hi bt) (sF M 8 (M.1 6 + 1))) := Or.inl ⟨rnE_n h, by rw [hps.2.2.2.1]⟩
theorem nI_n9 {x : Nat} (h : x < 2 ^ 31) : ¬ nI x = -9 := fun e => by
  have a := nI_toInt h
  rw [e] at a
  have : (-9 : Int32).toInt = -9 := by decide
  omega

set_option maxHeartbeats 4000000 in
set_option maxRecDepth 100000 in
theorem c_X7_number (g : GC) (a : Nat) (h : Nat → Nat) (M : NS) (lo : Int32) (hi : Int32) (R : NS) (h8 : M.1 8 = 0) (hps : psR R M) (hJ : rdJ R) : Ct g yX7_number cX7_number 3 (some .int) 3 0 0 [.ref a, .int lo, .int hi] (wMod g a h M) (QI (fun r_ w_ => ∃ M2 : NS, r_ = (nI (rnE R lo hi (-9) - 1)) ∧ w_ = wMod g a h M2 ∧ ((rnE R lo hi (-9) = 0 ∧ M2 = sF M 8 (R.1 4 + 1)) ∨ (rnE R lo hi (-9) ≠ 0 ∧ ∃ x4 x5 x6 x7, M2 = sF (sF (sF (sF M 4 x4) 5 x5) 6 x6) 7 x7 ∧ psR (rnS R lo hi (-9)) M2)))) := by
  refine Ct.of (by decide) (Nat.le_of_ble_eq_true rfl) ?_
  intro X E Er hX _ hnm
  have E : Ob g X cX7_number 3 RX7 := E
  have h7l := hps.2.2.2.2.2.2
  refine z_lve (lv' := [(0, .ref a), (1, .int lo), (2, .int hi)]) rfl ?_
  refine z_aload_n E dX7_number_0 0 rfl rfl ?_
  refine z_aload_n E dX7_number_1 0 rfl rfl ?_
  refine gt_X7_90 (v := .int (nI (M.1 5))) E dX7_number_2 0 rfl rfl ?_
  refine z_topi (y := nI (tkm (R.1 3))) (congrArg nI (hps.2.2.1)) ?_
  refine z_iconst (v := (nI 2)) E dX7_number_5 (by decide) ?_
  refine z_icmpN_ne E dX7_number_6 25 (by decide) (by have := tkm_le (R.1 3); omega) (by decide) (fun c1 => ?_) (fun c1 => ?_)
  · refine z_iconst (v := (nI 0)) E dX7_number_25 (by decide) ?_
    refine z_rw0 (w2 := wMod g a h (sF M 8 ((M.1 6) + 1))) E (rV E hX (c_X7_takesToken_0 g a h M 0 h8 rfl) mw_X7_takesToken ml_X7_110 dX7_number_26 (Nat.le_of_ble_eq_true rfl) ⟨(Nat.le_of_ble_eq_true rfl), (Nat.le_of_ble_eq_true rfl)⟩ rfl rfl (Nat.le_of_ble_eq_true rfl) 0 rfl rfl) rfl ?_
    refine z_iret E Er dX7_number_29 ?_
    exact ⟨_, rfl, _, by rw [rnE_n (fun q => c1 (tkm_22 q.1))], rfl, rn_no (fun q => c1 (tkm_22 q.1)) hps⟩
  · refine z_aload_n E dX7_number_9 0 rfl rfl ?_
    refine gt_X7_93 (v := .int (nI (M.1 7))) E dX7_number_10 0 rfl rfl ?_
    refine z_iload_n E dX7_number_13 1 rfl rfl ?_
    refine z_iload_n E dX7_number_14 2 rfl rfl ?_
    refine z_se E (rS E hX (c_X7_in g (nI (M.1 7)) lo hi) mw_X7_in ms_X7_in ml_X7_73 dX7_number_15 (Nat.le_of_ble_eq_true rfl) ⟨(Nat.le_of_ble_eq_true rfl), (Nat.le_of_ble_eq_true rfl)⟩ rfl rfl (Nat.le_of_ble_eq_true rfl)) ?_
    refine z_ifB_eq E dX7_number_18 25 (by decide) (fun c2 => ?_) (fun c2 => ?_)
    · refine z_iconst (v := (nI 0)) E dX7_number_25 (by decide) ?_
      refine z_rw0 (w2 := wMod g a h (sF M 8 ((M.1 6) + 1))) E (rV E hX (c_X7_takesToken_0 g a h M 0 h8 rfl) mw_X7_takesToken ml_X7_110 dX7_number_26 (Nat.le_of_ble_eq_true rfl) ⟨(Nat.le_of_ble_eq_true rfl), (Nat.le_of_ble_eq_true rfl)⟩ rfl rfl (Nat.le_of_ble_eq_true rfl) 0 rfl rfl) rfl ?_
      refine z_iret E Er dX7_number_29 ?_
      exact ⟨_, rfl, _, by rw [rnE_n (fun q => by have e := hps.2.2.2.2.1 q.1; rw [e] at c2; rw [q.2.1] at c2; cases c2)], rfl, rn_no (fun q => by have e := hps.2.2.2.2.1 q.1; rw [e] at c2; rw [q.2.1] at c2; cases c2) hps⟩
    · have hv7 := hps.2.2.2.2.1 (tkm_2 c1)
      have hrc : rnC R lo hi (-9) := ⟨tkm_2 c1, by rw [← hv7]; exact c2, nI_n9 (by have := hJ.1.2.2.2; omega)⟩
      refine z_iconst (v := (nI 1)) E dX7_number_21 (by decide) ?_
      refine z_goto E dX7_number_22 26 (by decide) ?_
      refine z_q0 E (rV E hX (c_X7_takesToken_1 g a h M 1 R h8 rfl hps hJ) mw_X7_takesToken ml_X7_110 dX7_number_26 (Nat.le_of_ble_eq_true rfl) ⟨(Nat.le_of_ble_eq_true rfl), (Nat.le_of_ble_eq_true rfl)⟩ rfl rfl (Nat.le_of_ble_eq_true rfl) 0 rfl rfl) (fun r w2 hw => ?_)
      obtain ⟨M9, rfl, rfl, ⟨x4, x5, x6, x7, rfl, hps2⟩⟩ := hw
      refine ⟨rfl, ?_⟩
      refine z_ws (ws' := wMod g a h (sF (sF (sF (sF M 4 x4) 5 x5) 6 x6) 7 x7)) rfl ?_
      refine z_iret E Er dX7_number_29 ?_
      exact ⟨_, rfl, _, by rw [rnE_y hrc, Nat.add_sub_cancel, hv7], rfl, Or.inr ⟨by rw [rnE_y hrc]; omega, x4, x5, x6, x7, rfl, by rw [rnS_y hrc]; exact hps2⟩⟩

set_option maxHeartbeats 4000000 in
set_option maxRecDepth 100000 in
theorem c_X7_unlike (g : GC) (a : Nat) (h : Nat → Nat) (M : NS) (hi : Int32) (ot : Nat) (R : NS) (h8 : M.1 8 = 0) (hps : psR R M) (hJ : rdJ R) (hot : ot < 2 ^ 31) : Ct g yX7_unlike cX7_unlike 3 (some .int) 3 0 0 [.ref a, .int hi, .int (nI ot)] (wMod g a h M) (QI (fun r_ w_ => ∃ M2 : NS, r_ = (nI (rnE R (nI 0) hi (nI ot) - 1)) ∧ w_ = wMod g a h M2 ∧ ((rnE R (nI 0) hi (nI ot) = 0 ∧ M2 = sF M 8 (R.1 4 + 1)) ∨ (rnE R (nI 0) hi (nI ot) ≠ 0 ∧ ∃ x4 x5 x6 x7, M2 = sF (sF (sF (sF M 4 x4) 5 x5) 6 x6) 7 x7 ∧ psR (rnS R (nI 0) hi (nI ot)) M2)))) := by
  refine Ct.of (by decide) (Nat.le_of_ble_eq_true rfl) ?_
  intro X E Er hX _ hnm
  have E : Ob g X cX7_unlike 3 RX7 := E
  have h7l := hps.2.2.2.2.2.2
  refine z_lve (lv' := [(0, .ref a), (1, .int hi), (2, .int (nI ot))]) rfl ?_
  refine z_aload_n E dX7_unlike_0 0 rfl rfl ?_
  refine z_aload_n E dX7_unlike_1 0 rfl rfl ?_
  refine gt_X7_90 (v := .int (nI (M.1 5))) E dX7_unlike_2 0 rfl rfl ?_
  refine z_topi (y := nI (tkm (R.1 3))) (congrArg nI (hps.2.2.1)) ?_
  refine z_iconst (v := (nI 2)) E dX7_unlike_5 (by decide) ?_
  refine z_icmpN_ne E dX7_unlike_6 33 (by decide) (by have := tkm_le (R.1 3); omega) (by decide) (fun c1 => ?_) (fun c1 => ?_)
  · refine z_iconst (v := (nI 0)) E dX7_unlike_33 (by decide) ?_
    refine z_rw0 (w2 := wMod g a h (sF M 8 ((M.1 6) + 1))) E (rV E hX (c_X7_takesToken_0 g a h M 0 h8 rfl) mw_X7_takesToken ml_X7_110 dX7_unlike_34 (Nat.le_of_ble_eq_true rfl) ⟨(Nat.le_of_ble_eq_true rfl), (Nat.le_of_ble_eq_true rfl)⟩ rfl rfl (Nat.le_of_ble_eq_true rfl) 0 rfl rfl) rfl ?_
    refine z_iret E Er dX7_unlike_37 ?_
    exact ⟨_, rfl, _, by rw [rnE_n (fun q => c1 (tkm_22 q.1))], rfl, rn_no (fun q => c1 (tkm_22 q.1)) hps⟩
  · refine z_aload_n E dX7_unlike_9 0 rfl rfl ?_
    refine gt_X7_93 (v := .int (nI (M.1 7))) E dX7_unlike_10 0 rfl rfl ?_
    refine z_iconst (v := (nI 0)) E dX7_unlike_13 (by decide) ?_
    refine z_iload_n E dX7_unlike_14 1 rfl rfl ?_
    refine z_se E (rS E hX (c_X7_in g (nI (M.1 7)) (nI 0) hi) mw_X7_in ms_X7_in ml_X7_73 dX7_unlike_15 (Nat.le_of_ble_eq_true rfl) ⟨(Nat.le_of_ble_eq_true rfl), (Nat.le_of_ble_eq_true rfl)⟩ rfl rfl (Nat.le_of_ble_eq_true rfl)) ?_
    refine z_ifB_eq E dX7_unlike_18 33 (by decide) (fun c2 => ?_) (fun c2 => ?_)
    · refine z_iconst (v := (nI 0)) E dX7_unlike_33 (by decide) ?_
      refine z_rw0 (w2 := wMod g a h (sF M 8 ((M.1 6) + 1))) E (rV E hX (c_X7_takesToken_0 g a h M 0 h8 rfl) mw_X7_takesToken ml_X7_110 dX7_unlike_34 (Nat.le_of_ble_eq_true rfl) ⟨(Nat.le_of_ble_eq_true rfl), (Nat.le_of_ble_eq_true rfl)⟩ rfl rfl (Nat.le_of_ble_eq_true rfl) 0 rfl rfl) rfl ?_
      refine z_iret E Er dX7_unlike_37 ?_
      exact ⟨_, rfl, _, by rw [rnE_n (fun q => by have e := hps.2.2.2.2.1 q.1; rw [e] at c2; rw [q.2.1] at c2; cases c2)], rfl, rn_no (fun q => by have e := hps.2.2.2.2.1 q.1; rw [e] at c2; rw [q.2.1] at c2; cases c2) hps⟩
    · refine z_aload_n E dX7_unlike_21 0 rfl rfl ?_
      refine gt_X7_93 (v := .int (nI (M.1 7))) E dX7_unlike_22 0 rfl rfl ?_
      refine z_iload_n E dX7_unlike_25 2 rfl rfl ?_
      refine z_icmpN_eq E dX7_unlike_26 33 (by decide) (by omega) (by omega) (fun c3 => ?_) (fun c3 => ?_)
      · refine z_iconst (v := (nI 0)) E dX7_unlike_33 (by decide) ?_
        refine z_rw0 (w2 := wMod g a h (sF M 8 ((M.1 6) + 1))) E (rV E hX (c_X7_takesToken_0 g a h M 0 h8 rfl) mw_X7_takesToken ml_X7_110 dX7_unlike_34 (Nat.le_of_ble_eq_true rfl) ⟨(Nat.le_of_ble_eq_true rfl), (Nat.le_of_ble_eq_true rfl)⟩ rfl rfl (Nat.le_of_ble_eq_true rfl) 0 rfl rfl) rfl ?_
        refine z_iret E Er dX7_unlike_37 ?_
        exact ⟨_, rfl, _, by rw [rnE_n (fun q => by have e := hps.2.2.2.2.1 q.1; rw [e] at c3; exact q.2.2 (congrArg nI c3))], rfl, rn_no (fun q => by have e := hps.2.2.2.2.1 q.1; rw [e] at c3; exact q.2.2 (congrArg nI c3)) hps⟩
      · have hv7 := hps.2.2.2.2.1 (tkm_2 c1)
        have hrc : rnC R (nI 0) hi (nI ot) := ⟨tkm_2 c1, by rw [← hv7]; exact c2, fun e => c3 (by rw [hv7]; exact (nI_injI (by have := hJ.1.2.2.2; omega) hot).mp e)⟩
        refine z_iconst (v := (nI 1)) E dX7_unlike_29 (by decide) ?_
        refine z_goto E dX7_unlike_30 34 (by decide) ?_
        refine z_q0 E (rV E hX (c_X7_takesToken_1 g a h M 1 R h8 rfl hps hJ) mw_X7_takesToken ml_X7_110 dX7_unlike_34 (Nat.le_of_ble_eq_true rfl) ⟨(Nat.le_of_ble_eq_true rfl), (Nat.le_of_ble_eq_true rfl)⟩ rfl rfl (Nat.le_of_ble_eq_true rfl) 0 rfl rfl) (fun r w2 hw => ?_)
        obtain ⟨M9, rfl, rfl, ⟨x4, x5, x6, x7, rfl, hps2⟩⟩ := hw
        refine ⟨rfl, ?_⟩
        refine z_ws (ws' := wMod g a h (sF (sF (sF (sF M 4 x4) 5 x5) 6 x6) 7 x7)) rfl ?_
        refine z_iret E Er dX7_unlike_37 ?_
        exact ⟨_, rfl, _, by rw [rnE_y hrc, Nat.add_sub_cancel, hv7], rfl, Or.inr ⟨by rw [rnE_y hrc]; omega, x4, x5, x6, x7, rfl, by rw [rnS_y hrc]; exact hps2⟩⟩

def btF (x : Nat) : Nat := if x = 103 then 1 else if x = 110 then 2 else 4
def tdR (R M : NS) : Prop := R.1 6 ≤ 1 ∧ R.1 7 ≤ 1 ∧ R.1 8 ≤ 1 ∧ M.1 10 = R.1 6 + 2 * R.1 7 + 4 * R.1 8
theorem td_bits : ∀ a, a < 2 → ∀ b, b < 2 → ∀ c, c < 2 → ((a + 2 * b + 4 * c) &&& 1 = a) ∧ ((a + 2 * b + 4 * c) &&& 2 = 2 * b) ∧ ((a + 2 * b + 4 * c) &&& 4 = 4 * c) ∧ ((a + 2 * b + 4 * c) ||| 1 = 1 + 2 * b + 4 * c) ∧ ((a + 2 * b + 4 * c) ||| 2 = a + 2 * 1 + 4 * c) ∧ ((a + 2 * b + 4 * c) ||| 4 = a + 2 * b + 4 * 1) := by decide
theorem mb_6 {R M : NS} (h : tdR R M) : (M.1 10 &&& btF 103 = 0) ↔ R.1 6 = 0 := by
  have hb := td_bits _ (Nat.lt_succ_of_le h.1) _ (Nat.lt_succ_of_le h.2.1) _ (Nat.lt_succ_of_le h.2.2.1)
  rw [h.2.2.2]
  show ((R.1 6 + 2 * R.1 7 + 4 * R.1 8) &&& 1 = 0) ↔ _
  rw [hb.1]
theorem mb_7 {R M : NS} (h : tdR R M) : (M.1 10 &&& btF 110 = 0) ↔ R.1 7 = 0 := by
  have hb := td_bits _ (Nat.lt_succ_of_le h.1) _ (Nat.lt_succ_of_le h.2.1) _ (Nat.lt_succ_of_le h.2.2.1)
  rw [h.2.2.2]
  show ((R.1 6 + 2 * R.1 7 + 4 * R.1 8) &&& 2 = 0) ↔ _
  rw [hb.2.1]
  omega
theorem mb_8 {R M : NS} (h : tdR R M) : (M.1 10 &&& btF 108 = 0) ↔ R.1 8 = 0 := by
  have hb := td_bits _ (Nat.lt_succ_of_le h.1) _ (Nat.lt_succ_of_le h.2.1) _ (Nat.lt_succ_of_le h.2.2.1)
  rw [h.2.2.2]
  show ((R.1 6 + 2 * R.1 7 + 4 * R.1 8) &&& 4 = 0) ↔ _
  rw [hb.2.2.1]
  omega
def isLt (x : Nat) : Prop := x = 112 ∨ x = 114 ∨ x = 115 ∨ x = 103 ∨ x = 110 ∨ x = 108

set_option maxHeartbeats 4000000 in
set_option maxRecDepth 100000 in
theorem c_X7_bitOf (g : GC) (x : Nat) (hx : x < 2 ^ 31) : Ct g yX7_bitOf cX7_bitOf 1 (some .int) 0 0 0 [.int (nI x)] (([] : va_W)) (DI (nI (btF x)) (([] : va_W))) := by
  refine Ct.of (by decide) (Nat.le_of_ble_eq_true rfl) ?_
  intro X E Er hX _ hnm
  have E : Ob g X cX7_bitOf 1 RX7 := E
  refine z_lve (lv' := [(0, .int (nI x))]) rfl ?_
  refine z_iload_n E dX7_bitOf_0 0 rfl rfl ?_
  refine z_bipush (v := (nI 103)) E dX7_bitOf_1 (by decide) ?_
  refine z_icmpN_ne E dX7_bitOf_3 10 (by decide) (by omega) (by decide) (fun c1 => ?_) (fun c1 => ?_)
  · refine z_iload_n E dX7_bitOf_10 0 rfl rfl ?_
    refine z_bipush (v := (nI 110)) E dX7_bitOf_11 (by decide) ?_
    refine z_icmpN_ne E dX7_bitOf_13 20 (by decide) (by omega) (by decide) (fun c2 => ?_) (fun c2 => ?_)
    · refine z_iconst (v := (nI 4)) E dX7_bitOf_20 (by decide) ?_
      refine z_iret E Er dX7_bitOf_21 ?_
      exact ⟨by unfold btF; rw [if_neg c1, if_neg c2], rfl⟩
    · refine z_iconst (v := (nI 2)) E dX7_bitOf_16 (by decide) ?_
      refine z_goto E dX7_bitOf_17 21 (by decide) ?_
      refine z_iret E Er dX7_bitOf_21 ?_
      exact ⟨by unfold btF; rw [if_neg c1, if_pos c2], rfl⟩
  · refine z_iconst (v := (nI 1)) E dX7_bitOf_6 (by decide) ?_
    refine z_goto E dX7_bitOf_7 21 (by decide) ?_
    refine z_iret E Er dX7_bitOf_21 ?_
    exact ⟨by unfold btF; rw [if_pos c1], rfl⟩

set_option maxHeartbeats 4000000 in
set_option maxRecDepth 100000 in
theorem c_X7_mayBegin (g : GC) (a : Nat) (h : Nat → Nat) (M : NS) (it : Nat) (R : NS) (D : NS) (y : Nat) (hy : M.1 7 = y) (hyl : isLt y) (htd : tdR R M) (hD1 : M.2 9 7 = D.1 1) (hD12 : D.1 1 ≤ 12) (hit : it < 2 ^ 31) : Ct g yX7_mayBegin cX7_mayBegin 2 (some .boolean) 1 0 0 [.ref a, .int (nI it)] (wMod g a h M) (DI (bI (cbF R D (y + 3) (if it = 0 then 1 else 0))) (wMod g a h M)) := by
  refine Ct.of (by decide) (Nat.le_of_ble_eq_true rfl) ?_
  intro X E Er hX _ hnm
  have E : Ob g X cX7_mayBegin 2 RX7 := E
  refine z_lve (lv' := [(0, .ref a), (1, .int (nI it))]) rfl ?_
  rcases hyl with rfl | rfl | rfl | rfl | rfl | rfl
  · refine z_aload_n E dX7_mayBegin_0 0 rfl rfl ?_
    refine gt_X7_93 (v := .int (nI (M.1 7))) E dX7_mayBegin_1 0 rfl rfl ?_
    refine z_topi (y := nI 112) (congrArg nI (hy)) ?_
    refine z_bipush (v := (nI 112)) E dX7_mayBegin_4 (by decide) ?_
    refine z_icmpN_ne E dX7_mayBegin_6 21 (by decide) (by decide) (by decide) (fun h => absurd h (by decide)) (fun _ => ?_)
    refine z_iload_n E dX7_mayBegin_9 1 rfl rfl ?_
    refine z_ifN_ne E dX7_mayBegin_10 17 (by decide) (by omega) (fun c1 => ?_) (fun c1 => ?_)
    · refine z_iconst (v := (nI 0)) E dX7_mayBegin_17 (by decide) ?_
      refine z_goto E dX7_mayBegin_18 79 (by decide) ?_
      refine z_zret E Er dX7_mayBegin_79 (by decide) ?_
      exact ⟨bz0 (by show decide ((if it = 0 then 1 else 0) ≠ 0) = _; rw [if_neg c1]; rfl), rfl⟩
    · refine z_iconst (v := (nI 1)) E dX7_mayBegin_13 (by decide) ?_
      refine z_goto E dX7_mayBegin_14 79 (by decide) ?_
      refine z_zret E Er dX7_mayBegin_79 (by decide) ?_
      exact ⟨bz1 (by show decide ((if it = 0 then 1 else 0) ≠ 0) = _; rw [if_pos c1]; rfl), rfl⟩
  · refine z_aload_n E dX7_mayBegin_0 0 rfl rfl ?_
    refine gt_X7_93 (v := .int (nI (M.1 7))) E dX7_mayBegin_1 0 rfl rfl ?_
    refine z_topi (y := nI 114) (congrArg nI (hy)) ?_
    refine z_bipush (v := (nI 112)) E dX7_mayBegin_4 (by decide) ?_
    refine z_icmpN_ne E dX7_mayBegin_6 21 (by decide) (by decide) (by decide) (fun _ => ?_) (fun h => absurd h (by decide))
    refine z_aload_n E dX7_mayBegin_21 0 rfl rfl ?_
    refine gt_X7_93 (v := .int (nI (M.1 7))) E dX7_mayBegin_22 0 rfl rfl ?_
    refine z_topi (y := nI 114) (congrArg nI (hy)) ?_
    refine z_bipush (v := (nI 114)) E dX7_mayBegin_25 (by decide) ?_
    refine z_icmpN_ne E dX7_mayBegin_27 50 (by decide) (by decide) (by decide) (fun h => absurd h (by decide)) (fun _ => ?_)
    refine z_aload_n E dX7_mayBegin_30 0 rfl rfl ?_
    refine gt_X7_13 (v := .ref (h 9)) E dX7_mayBegin_31 0 rfl rfl ?_
    refine z_bipush (v := (nI 7)) E dX7_mayBegin_34 (by decide) ?_
    refine z_ialdN (f := (M.2 9)) E dX7_mayBegin_36 2 rfl (by decide) (by decide) ?_
    refine z_topi (y := nI (D.1 1)) (congrArg nI (hD1)) ?_
    refine z_bipush (v := (nI 12)) E dX7_mayBegin_37 (by decide) ?_
    refine z_icmpN_ge E dX7_mayBegin_39 46 (by decide) (by omega) (by decide) (fun c1 => ?_) (fun c1 => ?_)
    · refine z_iconst (v := (nI 0)) E dX7_mayBegin_46 (by decide) ?_
      refine z_goto E dX7_mayBegin_47 79 (by decide) ?_
      refine z_zret E Er dX7_mayBegin_79 (by decide) ?_
      exact ⟨bz0 (by show decide (D.1 1 < 12) = _; exact decide_eq_false (by omega)), rfl⟩
    · refine z_iconst (v := (nI 1)) E dX7_mayBegin_42 (by decide) ?_
      refine z_goto E dX7_mayBegin_43 79 (by decide) ?_
      refine z_zret E Er dX7_mayBegin_79 (by decide) ?_
      exact ⟨bz1 (by show decide (D.1 1 < 12) = _; exact decide_eq_true c1), rfl⟩
  · refine z_aload_n E dX7_mayBegin_0 0 rfl rfl ?_
    refine gt_X7_93 (v := .int (nI (M.1 7))) E dX7_mayBegin_1 0 rfl rfl ?_
    refine z_topi (y := nI 115) (congrArg nI (hy)) ?_
    refine z_bipush (v := (nI 112)) E dX7_mayBegin_4 (by decide) ?_
    refine z_icmpN_ne E dX7_mayBegin_6 21 (by decide) (by decide) (by decide) (fun _ => ?_) (fun h => absurd h (by decide))
    refine z_aload_n E dX7_mayBegin_21 0 rfl rfl ?_
    refine gt_X7_93 (v := .int (nI (M.1 7))) E dX7_mayBegin_22 0 rfl rfl ?_
    refine z_topi (y := nI 115) (congrArg nI (hy)) ?_
    refine z_bipush (v := (nI 114)) E dX7_mayBegin_25 (by decide) ?_
    refine z_icmpN_ne E dX7_mayBegin_27 50 (by decide) (by decide) (by decide) (fun _ => ?_) (fun h => absurd h (by decide))
    refine z_aload_n E dX7_mayBegin_50 0 rfl rfl ?_
    refine gt_X7_93 (v := .int (nI (M.1 7))) E dX7_mayBegin_51 0 rfl rfl ?_
    refine z_topi (y := nI 115) (congrArg nI (hy)) ?_
    refine z_bipush (v := (nI 115)) E dX7_mayBegin_54 (by decide) ?_
    refine z_icmpN_eq E dX7_mayBegin_56 74 (by decide) (by decide) (by decide) (fun _ => ?_) (fun h => absurd h (by decide))
    refine z_iconst (v := (nI 1)) E dX7_mayBegin_74 (by decide) ?_
    refine z_goto E dX7_mayBegin_75 79 (by decide) ?_
    refine z_zret E Er dX7_mayBegin_79 (by decide) ?_
    exact ⟨bz1 rfl, rfl⟩
  · refine z_aload_n E dX7_mayBegin_0 0 rfl rfl ?_
    refine gt_X7_93 (v := .int (nI (M.1 7))) E dX7_mayBegin_1 0 rfl rfl ?_
    refine z_topi (y := nI 103) (congrArg nI (hy)) ?_
    refine z_bipush (v := (nI 112)) E dX7_mayBegin_4 (by decide) ?_
    refine z_icmpN_ne E dX7_mayBegin_6 21 (by decide) (by decide) (by decide) (fun _ => ?_) (fun h => absurd h (by decide))
    refine z_aload_n E dX7_mayBegin_21 0 rfl rfl ?_
    refine gt_X7_93 (v := .int (nI (M.1 7))) E dX7_mayBegin_22 0 rfl rfl ?_
    refine z_topi (y := nI 103) (congrArg nI (hy)) ?_
    refine z_bipush (v := (nI 114)) E dX7_mayBegin_25 (by decide) ?_
    refine z_icmpN_ne E dX7_mayBegin_27 50 (by decide) (by decide) (by decide) (fun _ => ?_) (fun h => absurd h (by decide))
    refine z_aload_n E dX7_mayBegin_50 0 rfl rfl ?_
    refine gt_X7_93 (v := .int (nI (M.1 7))) E dX7_mayBegin_51 0 rfl rfl ?_
    refine z_topi (y := nI 103) (congrArg nI (hy)) ?_
    refine z_bipush (v := (nI 115)) E dX7_mayBegin_54 (by decide) ?_
    refine z_icmpN_eq E dX7_mayBegin_56 74 (by decide) (by decide) (by decide) (fun h => absurd h (by decide)) (fun _ => ?_)
    refine z_aload_n E dX7_mayBegin_59 0 rfl rfl ?_
    refine gt_X7_114 (v := .int (nI (M.1 10))) E dX7_mayBegin_60 0 rfl rfl ?_
    refine z_aload_n E dX7_mayBegin_63 0 rfl rfl ?_
    refine gt_X7_93 (v := .int (nI (M.1 7))) E dX7_mayBegin_64 0 rfl rfl ?_
    refine z_topi (y := nI 103) (congrArg nI (hy)) ?_
    refine z_se E (rS E hX (c_X7_bitOf g 103 (by decide)) mw_X7_bitOf ms_X7_bitOf ml_X7_117 dX7_mayBegin_67 (Nat.le_of_ble_eq_true rfl) ⟨(Nat.le_of_ble_eq_true rfl), (Nat.le_of_ble_eq_true rfl)⟩ rfl rfl (Nat.le_of_ble_eq_true rfl)) ?_
    refine z_iandN E dX7_mayBegin_70 ?_
    refine z_ifN_ne E dX7_mayBegin_71 78 (by decide) (Nat.lt_of_le_of_lt Nat.and_le_left (by have := htd.1; have := htd.2.1; have := htd.2.2.1; have := htd.2.2.2; omega)) (fun c1 => ?_) (fun c1 => ?_)
    · refine z_iconst (v := (nI 0)) E dX7_mayBegin_78 (by decide) ?_
      refine z_zret E Er dX7_mayBegin_79 (by decide) ?_
      exact ⟨bz0 (by show decide (R.1 6 = 0) = _; exact decide_eq_false (fun e => c1 ((mb_6 htd).mpr e))), rfl⟩
    · refine z_iconst (v := (nI 1)) E dX7_mayBegin_74 (by decide) ?_
      refine z_goto E dX7_mayBegin_75 79 (by decide) ?_
      refine z_zret E Er dX7_mayBegin_79 (by decide) ?_
      exact ⟨bz1 (by show decide (R.1 6 = 0) = _; exact decide_eq_true ((mb_6 htd).mp c1)), rfl⟩
  · refine z_aload_n E dX7_mayBegin_0 0 rfl rfl ?_
    refine gt_X7_93 (v := .int (nI (M.1 7))) E dX7_mayBegin_1 0 rfl rfl ?_
    refine z_topi (y := nI 110) (congrArg nI (hy)) ?_
    refine z_bipush (v := (nI 112)) E dX7_mayBegin_4 (by decide) ?_
    refine z_icmpN_ne E dX7_mayBegin_6 21 (by decide) (by decide) (by decide) (fun _ => ?_) (fun h => absurd h (by decide))
    refine z_aload_n E dX7_mayBegin_21 0 rfl rfl ?_
    refine gt_X7_93 (v := .int (nI (M.1 7))) E dX7_mayBegin_22 0 rfl rfl ?_
    refine z_topi (y := nI 110) (congrArg nI (hy)) ?_
    refine z_bipush (v := (nI 114)) E dX7_mayBegin_25 (by decide) ?_
    refine z_icmpN_ne E dX7_mayBegin_27 50 (by decide) (by decide) (by decide) (fun _ => ?_) (fun h => absurd h (by decide))
    refine z_aload_n E dX7_mayBegin_50 0 rfl rfl ?_
    refine gt_X7_93 (v := .int (nI (M.1 7))) E dX7_mayBegin_51 0 rfl rfl ?_
    refine z_topi (y := nI 110) (congrArg nI (hy)) ?_
    refine z_bipush (v := (nI 115)) E dX7_mayBegin_54 (by decide) ?_
    refine z_icmpN_eq E dX7_mayBegin_56 74 (by decide) (by decide) (by decide) (fun h => absurd h (by decide)) (fun _ => ?_)
    refine z_aload_n E dX7_mayBegin_59 0 rfl rfl ?_
    refine gt_X7_114 (v := .int (nI (M.1 10))) E dX7_mayBegin_60 0 rfl rfl ?_
    refine z_aload_n E dX7_mayBegin_63 0 rfl rfl ?_
    refine gt_X7_93 (v := .int (nI (M.1 7))) E dX7_mayBegin_64 0 rfl rfl ?_
    refine z_topi (y := nI 110) (congrArg nI (hy)) ?_
    refine z_se E (rS E hX (c_X7_bitOf g 110 (by decide)) mw_X7_bitOf ms_X7_bitOf ml_X7_117 dX7_mayBegin_67 (Nat.le_of_ble_eq_true rfl) ⟨(Nat.le_of_ble_eq_true rfl), (Nat.le_of_ble_eq_true rfl)⟩ rfl rfl (Nat.le_of_ble_eq_true rfl)) ?_
    refine z_iandN E dX7_mayBegin_70 ?_
    refine z_ifN_ne E dX7_mayBegin_71 78 (by decide) (Nat.lt_of_le_of_lt Nat.and_le_left (by have := htd.1; have := htd.2.1; have := htd.2.2.1; have := htd.2.2.2; omega)) (fun c1 => ?_) (fun c1 => ?_)
    · refine z_iconst (v := (nI 0)) E dX7_mayBegin_78 (by decide) ?_
      refine z_zret E Er dX7_mayBegin_79 (by decide) ?_
      exact ⟨bz0 (by show decide (R.1 7 = 0) = _; exact decide_eq_false (fun e => c1 ((mb_7 htd).mpr e))), rfl⟩
    · refine z_iconst (v := (nI 1)) E dX7_mayBegin_74 (by decide) ?_
      refine z_goto E dX7_mayBegin_75 79 (by decide) ?_
      refine z_zret E Er dX7_mayBegin_79 (by decide) ?_
      exact ⟨bz1 (by show decide (R.1 7 = 0) = _; exact decide_eq_true ((mb_7 htd).mp c1)), rfl⟩
  · refine z_aload_n E dX7_mayBegin_0 0 rfl rfl ?_
    refine gt_X7_93 (v := .int (nI (M.1 7))) E dX7_mayBegin_1 0 rfl rfl ?_
    refine z_topi (y := nI 108) (congrArg nI (hy)) ?_
    refine z_bipush (v := (nI 112)) E dX7_mayBegin_4 (by decide) ?_
    refine z_icmpN_ne E dX7_mayBegin_6 21 (by decide) (by decide) (by decide) (fun _ => ?_) (fun h => absurd h (by decide))
    refine z_aload_n E dX7_mayBegin_21 0 rfl rfl ?_
    refine gt_X7_93 (v := .int (nI (M.1 7))) E dX7_mayBegin_22 0 rfl rfl ?_
    refine z_topi (y := nI 108) (congrArg nI (hy)) ?_
    refine z_bipush (v := (nI 114)) E dX7_mayBegin_25 (by decide) ?_
    refine z_icmpN_ne E dX7_mayBegin_27 50 (by decide) (by decide) (by decide) (fun _ => ?_) (fun h => absurd h (by decide))
    refine z_aload_n E dX7_mayBegin_50 0 rfl rfl ?_
    refine gt_X7_93 (v := .int (nI (M.1 7))) E dX7_mayBegin_51 0 rfl rfl ?_
    refine z_topi (y := nI 108) (congrArg nI (hy)) ?_
    refine z_bipush (v := (nI 115)) E dX7_mayBegin_54 (by decide) ?_
    refine z_icmpN_eq E dX7_mayBegin_56 74 (by decide) (by decide) (by decide) (fun h => absurd h (by decide)) (fun _ => ?_)
    refine z_aload_n E dX7_mayBegin_59 0 rfl rfl ?_
    refine gt_X7_114 (v := .int (nI (M.1 10))) E dX7_mayBegin_60 0 rfl rfl ?_
    refine z_aload_n E dX7_mayBegin_63 0 rfl rfl ?_
    refine gt_X7_93 (v := .int (nI (M.1 7))) E dX7_mayBegin_64 0 rfl rfl ?_
    refine z_topi (y := nI 108) (congrArg nI (hy)) ?_
    refine z_se E (rS E hX (c_X7_bitOf g 108 (by decide)) mw_X7_bitOf ms_X7_bitOf ml_X7_117 dX7_mayBegin_67 (Nat.le_of_ble_eq_true rfl) ⟨(Nat.le_of_ble_eq_true rfl), (Nat.le_of_ble_eq_true rfl)⟩ rfl rfl (Nat.le_of_ble_eq_true rfl)) ?_
    refine z_iandN E dX7_mayBegin_70 ?_
    refine z_ifN_ne E dX7_mayBegin_71 78 (by decide) (Nat.lt_of_le_of_lt Nat.and_le_left (by have := htd.1; have := htd.2.1; have := htd.2.2.1; have := htd.2.2.2; omega)) (fun c1 => ?_) (fun c1 => ?_)
    · refine z_iconst (v := (nI 0)) E dX7_mayBegin_78 (by decide) ?_
      refine z_zret E Er dX7_mayBegin_79 (by decide) ?_
      exact ⟨bz0 (by show decide (R.1 8 = 0) = _; exact decide_eq_false (fun e => c1 ((mb_8 htd).mpr e))), rfl⟩
    · refine z_iconst (v := (nI 1)) E dX7_mayBegin_74 (by decide) ?_
      refine z_goto E dX7_mayBegin_75 79 (by decide) ?_
      refine z_zret E Er dX7_mayBegin_79 (by decide) ?_
      exact ⟨bz1 (by show decide (R.1 8 = 0) = _; exact decide_eq_true ((mb_8 htd).mp c1)), rfl⟩
