def nx10 (i : Nat) : Nat := if i + 1 < 10 then i + 1 else 0
def pv10 (i : Nat) : Nat := if 0 < i then i - 1 else 9

set_option maxHeartbeats 4000000 in
set_option maxRecDepth 100000 in
theorem c_X1_size (g : GC) (a : Nat) (h : Nat → Nat) (T : NS) (b : Nat → Nat) (j : Nat → Nat → Nat) (U : Nat → NS) : Ct g yX1_size cX1_size 1 (some .int) 0 0 0 [.ref a] (wPast g a h b j U T) (DI (nI (T.1 2)) (wPast g a h b j U T)) := by
  refine Ct.of (by decide) (Nat.le_of_ble_eq_true rfl) ?_
  intro X E Er hX _ hnm
  have E : Ob g X cX1_size 1 RX1 := E
  refine z_lve (lv' := [(0, .ref a)]) rfl ?_
  refine z_aload_n E dX1_size_0 0 rfl rfl ?_
  refine gt_X1_18 (v := .int (nI (T.1 2))) E dX1_size_1 0 rfl rfl ?_
  refine z_iret E Er dX1_size_4 ?_
  exact ⟨rfl, rfl⟩

set_option maxHeartbeats 4000000 in
set_option maxRecDepth 100000 in
theorem c_X1_lose (g : GC) (a : Nat) (h : Nat → Nat) (T : NS) (b : Nat → Nat) (j : Nat → Nat → Nat) (U : Nat → NS) : Ct g yX1_lose cX1_lose 1 none 0 0 0 [.ref a] (wPast g a h b j U T) (DV (wPast g a h b j U (sF T 2 0))) := by
  refine Ct.of (by decide) (Nat.le_of_ble_eq_true rfl) ?_
  intro X E Er hX _ hnm
  have E : Ob g X cX1_lose 1 RX1 := E
  refine z_lve (lv' := [(0, .ref a)]) rfl ?_
  refine z_aload_n E dX1_lose_0 0 rfl rfl ?_
  refine z_iconst (v := (nI 0)) E dX1_lose_1 (by decide) ?_
  refine pt_X1_18 (x := nI 0) (ws' := wPast g a h b j U (sF T 2 0)) E dX1_lose_2 0 rfl (Nat.le_of_ble_eq_true rfl) rfl ?_
  refine z_vret E Er dX1_lose_5 ?_
  exact ⟨rfl, rfl⟩

theorem l_rem {g : GC} {X : XC} {a : Nat} {h b : Nat → Nat} {j : Nat → Nat → Nat} {U : Nat → NS} {T : NS} {p : Nat} {q : Nat → Nat} {P : NS} (E : Ob g X cX1_remember 2 RX1) (hX : X.2.2.1 = zR 2 0 0) {lv : List (Nat × Value)} {rest : List Value} (h8 : (rest.map fun v => v.category).sum ≤ 8) (i : Nat) (hi : i < 10) (K : Z g X 2 0 0 (wPast g a h b j (va_up U i P) T ++ wPres g p q P) lv rest (10 + 3)) : Z g X 2 0 0 (wPast g a h b j U T ++ wPres g p q P) lv (.ref p :: .ref (b i) :: rest) 10 := by
  rcases (show i = 0 ∨ i = 1 ∨ i = 2 ∨ i = 3 ∨ i = 4 ∨ i = 5 ∨ i = 6 ∨ i = 7 ∨ i = 8 ∨ i = 9 by omega) with rfl | rfl | rfl | rfl | rfl | rfl | rfl | rfl | rfl | rfl
  · exact z_rwv (ws2 := wPast g a h b j (va_up U 0 P) T ++ wPres g p q P) E (rV E hX (c_X2_become g (b 0) (j 0) (U 0) p q P) mw_X2_become ml_X1_25 dX1_remember_10 (Nat.le_of_ble_eq_true rfl) ⟨(Nat.le_of_ble_eq_true rfl), (Nat.le_of_ble_eq_true rfl)⟩ rfl rfl h8 0 rfl rfl) [2, 3, 22, 23] rfl (by decide) rfl rfl K
  · exact z_rwv (ws2 := wPast g a h b j (va_up U 1 P) T ++ wPres g p q P) E (rV E hX (c_X2_become g (b 1) (j 1) (U 1) p q P) mw_X2_become ml_X1_25 dX1_remember_10 (Nat.le_of_ble_eq_true rfl) ⟨(Nat.le_of_ble_eq_true rfl), (Nat.le_of_ble_eq_true rfl)⟩ rfl rfl h8 0 rfl rfl) [4, 5, 22, 23] rfl (by decide) rfl rfl K
  · exact z_rwv (ws2 := wPast g a h b j (va_up U 2 P) T ++ wPres g p q P) E (rV E hX (c_X2_become g (b 2) (j 2) (U 2) p q P) mw_X2_become ml_X1_25 dX1_remember_10 (Nat.le_of_ble_eq_true rfl) ⟨(Nat.le_of_ble_eq_true rfl), (Nat.le_of_ble_eq_true rfl)⟩ rfl rfl h8 0 rfl rfl) [6, 7, 22, 23] rfl (by decide) rfl rfl K
  · exact z_rwv (ws2 := wPast g a h b j (va_up U 3 P) T ++ wPres g p q P) E (rV E hX (c_X2_become g (b 3) (j 3) (U 3) p q P) mw_X2_become ml_X1_25 dX1_remember_10 (Nat.le_of_ble_eq_true rfl) ⟨(Nat.le_of_ble_eq_true rfl), (Nat.le_of_ble_eq_true rfl)⟩ rfl rfl h8 0 rfl rfl) [8, 9, 22, 23] rfl (by decide) rfl rfl K
  · exact z_rwv (ws2 := wPast g a h b j (va_up U 4 P) T ++ wPres g p q P) E (rV E hX (c_X2_become g (b 4) (j 4) (U 4) p q P) mw_X2_become ml_X1_25 dX1_remember_10 (Nat.le_of_ble_eq_true rfl) ⟨(Nat.le_of_ble_eq_true rfl), (Nat.le_of_ble_eq_true rfl)⟩ rfl rfl h8 0 rfl rfl) [10, 11, 22, 23] rfl (by decide) rfl rfl K
  · exact z_rwv (ws2 := wPast g a h b j (va_up U 5 P) T ++ wPres g p q P) E (rV E hX (c_X2_become g (b 5) (j 5) (U 5) p q P) mw_X2_become ml_X1_25 dX1_remember_10 (Nat.le_of_ble_eq_true rfl) ⟨(Nat.le_of_ble_eq_true rfl), (Nat.le_of_ble_eq_true rfl)⟩ rfl rfl h8 0 rfl rfl) [12, 13, 22, 23] rfl (by decide) rfl rfl K
  · exact z_rwv (ws2 := wPast g a h b j (va_up U 6 P) T ++ wPres g p q P) E (rV E hX (c_X2_become g (b 6) (j 6) (U 6) p q P) mw_X2_become ml_X1_25 dX1_remember_10 (Nat.le_of_ble_eq_true rfl) ⟨(Nat.le_of_ble_eq_true rfl), (Nat.le_of_ble_eq_true rfl)⟩ rfl rfl h8 0 rfl rfl) [14, 15, 22, 23] rfl (by decide) rfl rfl K
  · exact z_rwv (ws2 := wPast g a h b j (va_up U 7 P) T ++ wPres g p q P) E (rV E hX (c_X2_become g (b 7) (j 7) (U 7) p q P) mw_X2_become ml_X1_25 dX1_remember_10 (Nat.le_of_ble_eq_true rfl) ⟨(Nat.le_of_ble_eq_true rfl), (Nat.le_of_ble_eq_true rfl)⟩ rfl rfl h8 0 rfl rfl) [16, 17, 22, 23] rfl (by decide) rfl rfl K
  · exact z_rwv (ws2 := wPast g a h b j (va_up U 8 P) T ++ wPres g p q P) E (rV E hX (c_X2_become g (b 8) (j 8) (U 8) p q P) mw_X2_become ml_X1_25 dX1_remember_10 (Nat.le_of_ble_eq_true rfl) ⟨(Nat.le_of_ble_eq_true rfl), (Nat.le_of_ble_eq_true rfl)⟩ rfl rfl h8 0 rfl rfl) [18, 19, 22, 23] rfl (by decide) rfl rfl K
  · exact z_rwv (ws2 := wPast g a h b j (va_up U 9 P) T ++ wPres g p q P) E (rV E hX (c_X2_become g (b 9) (j 9) (U 9) p q P) mw_X2_become ml_X1_25 dX1_remember_10 (Nat.le_of_ble_eq_true rfl) ⟨(Nat.le_of_ble_eq_true rfl), (Nat.le_of_ble_eq_true rfl)⟩ rfl rfl h8 0 rfl rfl) [20, 21, 22, 23] rfl (by decide) rfl rfl K

theorem l_res {g : GC} {X : XC} {a : Nat} {h b : Nat → Nat} {j : Nat → Nat → Nat} {U : Nat → NS} {T : NS} {p : Nat} {q : Nat → Nat} {P : NS} (E : Ob g X cX1_restore 2 RX1) (hX : X.2.2.1 = zR 2 0 0) {lv : List (Nat × Value)} {rest : List Value} (h8 : (rest.map fun v => v.category).sum ≤ 8) (i : Nat) (hi : i < 10) (K : Z g X 2 0 0 (wPast g a h b j U T ++ wPres g p q (U i)) lv rest (51 + 3)) : Z g X 2 0 0 (wPast g a h b j U T ++ wPres g p q P) lv (.ref (b i) :: .ref p :: rest) 51 := by
  rcases (show i = 0 ∨ i = 1 ∨ i = 2 ∨ i = 3 ∨ i = 4 ∨ i = 5 ∨ i = 6 ∨ i = 7 ∨ i = 8 ∨ i = 9 by omega) with rfl | rfl | rfl | rfl | rfl | rfl | rfl | rfl | rfl | rfl
  · exact z_rwv (ws2 := wPast g a h b j U T ++ wPres g p q (U 0)) E (rV E hX (c_X2_become g p q P (b 0) (j 0) (U 0)) mw_X2_become ml_X1_25 dX1_restore_51 (Nat.le_of_ble_eq_true rfl) ⟨(Nat.le_of_ble_eq_true rfl), (Nat.le_of_ble_eq_true rfl)⟩ rfl rfl h8 0 rfl rfl) [22, 23, 2, 3] rfl (by decide) rfl rfl K
  · exact z_rwv (ws2 := wPast g a h b j U T ++ wPres g p q (U 1)) E (rV E hX (c_X2_become g p q P (b 1) (j 1) (U 1)) mw_X2_become ml_X1_25 dX1_restore_51 (Nat.le_of_ble_eq_true rfl) ⟨(Nat.le_of_ble_eq_true rfl), (Nat.le_of_ble_eq_true rfl)⟩ rfl rfl h8 0 rfl rfl) [22, 23, 4, 5] rfl (by decide) rfl rfl K
  · exact z_rwv (ws2 := wPast g a h b j U T ++ wPres g p q (U 2)) E (rV E hX (c_X2_become g p q P (b 2) (j 2) (U 2)) mw_X2_become ml_X1_25 dX1_restore_51 (Nat.le_of_ble_eq_true rfl) ⟨(Nat.le_of_ble_eq_true rfl), (Nat.le_of_ble_eq_true rfl)⟩ rfl rfl h8 0 rfl rfl) [22, 23, 6, 7] rfl (by decide) rfl rfl K
  · exact z_rwv (ws2 := wPast g a h b j U T ++ wPres g p q (U 3)) E (rV E hX (c_X2_become g p q P (b 3) (j 3) (U 3)) mw_X2_become ml_X1_25 dX1_restore_51 (Nat.le_of_ble_eq_true rfl) ⟨(Nat.le_of_ble_eq_true rfl), (Nat.le_of_ble_eq_true rfl)⟩ rfl rfl h8 0 rfl rfl) [22, 23, 8, 9] rfl (by decide) rfl rfl K
  · exact z_rwv (ws2 := wPast g a h b j U T ++ wPres g p q (U 4)) E (rV E hX (c_X2_become g p q P (b 4) (j 4) (U 4)) mw_X2_become ml_X1_25 dX1_restore_51 (Nat.le_of_ble_eq_true rfl) ⟨(Nat.le_of_ble_eq_true rfl), (Nat.le_of_ble_eq_true rfl)⟩ rfl rfl h8 0 rfl rfl) [22, 23, 10, 11] rfl (by decide) rfl rfl K
  · exact z_rwv (ws2 := wPast g a h b j U T ++ wPres g p q (U 5)) E (rV E hX (c_X2_become g p q P (b 5) (j 5) (U 5)) mw_X2_become ml_X1_25 dX1_restore_51 (Nat.le_of_ble_eq_true rfl) ⟨(Nat.le_of_ble_eq_true rfl), (Nat.le_of_ble_eq_true rfl)⟩ rfl rfl h8 0 rfl rfl) [22, 23, 12, 13] rfl (by decide) rfl rfl K
  · exact z_rwv (ws2 := wPast g a h b j U T ++ wPres g p q (U 6)) E (rV E hX (c_X2_become g p q P (b 6) (j 6) (U 6)) mw_X2_become ml_X1_25 dX1_restore_51 (Nat.le_of_ble_eq_true rfl) ⟨(Nat.le_of_ble_eq_true rfl), (Nat.le_of_ble_eq_true rfl)⟩ rfl rfl h8 0 rfl rfl) [22, 23, 14, 15] rfl (by decide) rfl rfl K
  · exact z_rwv (ws2 := wPast g a h b j U T ++ wPres g p q (U 7)) E (rV E hX (c_X2_become g p q P (b 7) (j 7) (U 7)) mw_X2_become ml_X1_25 dX1_restore_51 (Nat.le_of_ble_eq_true rfl) ⟨(Nat.le_of_ble_eq_true rfl), (Nat.le_of_ble_eq_true rfl)⟩ rfl rfl h8 0 rfl rfl) [22, 23, 16, 17] rfl (by decide) rfl rfl K
  · exact z_rwv (ws2 := wPast g a h b j U T ++ wPres g p q (U 8)) E (rV E hX (c_X2_become g p q P (b 8) (j 8) (U 8)) mw_X2_become ml_X1_25 dX1_restore_51 (Nat.le_of_ble_eq_true rfl) ⟨(Nat.le_of_ble_eq_true rfl), (Nat.le_of_ble_eq_true rfl)⟩ rfl rfl h8 0 rfl rfl) [22, 23, 18, 19] rfl (by decide) rfl rfl K
  · exact z_rwv (ws2 := wPast g a h b j U T ++ wPres g p q (U 9)) E (rV E hX (c_X2_become g p q P (b 9) (j 9) (U 9)) mw_X2_become ml_X1_25 dX1_restore_51 (Nat.le_of_ble_eq_true rfl) ⟨(Nat.le_of_ble_eq_true rfl), (Nat.le_of_ble_eq_true rfl)⟩ rfl rfl h8 0 rfl rfl) [22, 23, 20, 21] rfl (by decide) rfl rfl K

set_option maxHeartbeats 4000000 in
set_option maxRecDepth 100000 in
theorem c_X1_remember (g : GC) (a : Nat) (h : Nat → Nat) (T : NS) (b : Nat → Nat) (j : Nat → Nat → Nat) (U : Nat → NS) (p : Nat) (q : Nat → Nat) (P : NS) (h1 : T.1 1 < 10) (h2 : T.1 2 ≤ 10) : Ct g yX1_remember cX1_remember 2 none 2 0 0 [.ref a, .ref p] (wPast g a h b j U T ++ (wPres g p q P)) (DV (wPast g a h b j (va_up U (T.1 1) P) (sF (sF T 1 (nx10 (T.1 1))) 2 (min (T.1 2 + 1) 10)) ++ (wPres g p q P))) := by
  refine Ct.of (by decide) (Nat.le_of_ble_eq_true rfl) ?_
  intro X E Er hX _ hnm
  have E : Ob g X cX1_remember 2 RX1 := E
  refine z_lve (lv' := [(0, .ref a), (1, .ref p)]) rfl ?_
  refine z_aload_n E dX1_remember_0 0 rfl rfl ?_
  refine gt_X1_11 (v := .ref (h 0)) E dX1_remember_1 0 rfl rfl ?_
  refine z_aload_n E dX1_remember_4 0 rfl rfl ?_
  refine gt_X1_22 (v := .int (nI (T.1 1))) E dX1_remember_5 0 rfl rfl ?_
  refine z_aaldN (b := b) E dX1_remember_8 1 rfl (by omega) (by decide) ?_
  refine z_aload_n E dX1_remember_9 1 rfl rfl ?_
  refine l_rem E hX (Nat.le_of_ble_eq_true rfl) (T.1 1) h1 ?_
  refine z_aload_n E dX1_remember_13 0 rfl rfl ?_
  refine z_aload_n E dX1_remember_14 0 rfl rfl ?_
  refine gt_X1_22 (v := .int (nI (T.1 1))) E dX1_remember_15 0 rfl rfl ?_
  refine z_iconst (v := (nI 1)) E dX1_remember_18 (by decide) ?_
  refine z_iaddN E dX1_remember_19 ?_
  refine z_bipush (v := (nI 10)) E dX1_remember_20 (by decide) ?_
  refine z_icmpN_ge E dX1_remember_22 34 (by decide) (by omega) (by decide) (fun c1 => ?_) (fun c1 => ?_)
  · refine z_iconst (v := (nI 0)) E dX1_remember_34 (by decide) ?_
    refine pt_X1_22 (x := nI 0) (ws' := wPast g a h b j (va_up U (T.1 1) P) (sF T 1 0) ++ (wPres g p q P)) E dX1_remember_35 0 rfl (Nat.le_of_ble_eq_true rfl) rfl ?_
    refine z_aload_n E dX1_remember_38 0 rfl rfl ?_
    refine z_aload_n E dX1_remember_39 0 rfl rfl ?_
    refine gt_X1_18 (v := .int (nI (T.1 2))) E dX1_remember_40 0 rfl rfl ?_
    refine z_iconst (v := (nI 1)) E dX1_remember_43 (by decide) ?_
    refine z_iaddN E dX1_remember_44 ?_
    refine z_bipush (v := (nI 10)) E dX1_remember_45 (by decide) ?_
    refine z_minN E hX dX1_remember_47 ml_X1_29 (Nat.le_of_ble_eq_true rfl) (Nat.le_of_ble_eq_true rfl) ⟨(Nat.le_of_ble_eq_true rfl), (Nat.le_of_ble_eq_true rfl)⟩ (by omega) (by decide) ?_
    refine pt_X1_18 (x := nI (min ((T.1 2) + 1) 10)) (ws' := wPast g a h b j (va_up U (T.1 1) P) (sF (sF T 1 0) 2 (min ((T.1 2) + 1) 10)) ++ (wPres g p q P)) E dX1_remember_50 0 rfl (Nat.le_of_ble_eq_true rfl) rfl ?_
    refine z_vret E Er dX1_remember_53 ?_
    exact ⟨rfl, by rw [show nx10 (T.1 1) = 0 from by unfold nx10; split <;> omega]⟩
  · refine z_aload_n E dX1_remember_25 0 rfl rfl ?_
    refine gt_X1_22 (v := .int (nI (T.1 1))) E dX1_remember_26 0 rfl rfl ?_
    refine z_iconst (v := (nI 1)) E dX1_remember_29 (by decide) ?_
    refine z_iaddN E dX1_remember_30 ?_
    refine z_goto E dX1_remember_31 35 (by decide) ?_
    refine pt_X1_22 (x := nI ((T.1 1) + 1)) (ws' := wPast g a h b j (va_up U (T.1 1) P) (sF T 1 ((T.1 1) + 1)) ++ (wPres g p q P)) E dX1_remember_35 0 rfl (Nat.le_of_ble_eq_true rfl) rfl ?_
    refine z_aload_n E dX1_remember_38 0 rfl rfl ?_
    refine z_aload_n E dX1_remember_39 0 rfl rfl ?_
    refine gt_X1_18 (v := .int (nI (T.1 2))) E dX1_remember_40 0 rfl rfl ?_
    refine z_iconst (v := (nI 1)) E dX1_remember_43 (by decide) ?_
    refine z_iaddN E dX1_remember_44 ?_
    refine z_bipush (v := (nI 10)) E dX1_remember_45 (by decide) ?_
    refine z_minN E hX dX1_remember_47 ml_X1_29 (Nat.le_of_ble_eq_true rfl) (Nat.le_of_ble_eq_true rfl) ⟨(Nat.le_of_ble_eq_true rfl), (Nat.le_of_ble_eq_true rfl)⟩ (by omega) (by decide) ?_
    refine pt_X1_18 (x := nI (min ((T.1 2) + 1) 10)) (ws' := wPast g a h b j (va_up U (T.1 1) P) (sF (sF T 1 ((T.1 1) + 1)) 2 (min ((T.1 2) + 1) 10)) ++ (wPres g p q P)) E dX1_remember_50 0 rfl (Nat.le_of_ble_eq_true rfl) rfl ?_
    refine z_vret E Er dX1_remember_53 ?_
    exact ⟨rfl, by rw [show nx10 (T.1 1) = ((T.1 1) + 1) from by unfold nx10; split <;> omega]⟩

set_option maxHeartbeats 4000000 in
set_option maxRecDepth 100000 in
theorem c_X1_restore (g : GC) (a : Nat) (h : Nat → Nat) (T : NS) (b : Nat → Nat) (j : Nat → Nat → Nat) (U : Nat → NS) (p : Nat) (q : Nat → Nat) (P : NS) (h1 : T.1 1 < 10) (h2 : T.1 2 ≤ 10) : Ct g yX1_restore cX1_restore 2 (some .boolean) 2 0 0 [.ref a, .ref p] (wPast g a h b j U T ++ (wPres g p q P)) (DI (bI (decide (T.1 2 ≠ 0))) (wPast g a h b j U (if T.1 2 = 0 then T else sF (sF T 1 (pv10 (T.1 1))) 2 (T.1 2 - 1)) ++ (wPres g p q (if T.1 2 = 0 then P else U (pv10 (T.1 1)))))) := by
  refine Ct.of (by decide) (Nat.le_of_ble_eq_true rfl) ?_
  intro X E Er hX _ hnm
  have E : Ob g X cX1_restore 2 RX1 := E
  refine z_lve (lv' := [(0, .ref a), (1, .ref p)]) rfl ?_
  refine z_aload_n E dX1_restore_0 0 rfl rfl ?_
  refine gt_X1_18 (v := .int (nI (T.1 2))) E dX1_restore_1 0 rfl rfl ?_
  refine z_ifN_ne E dX1_restore_4 9 (by decide) (by omega) (fun c1 => ?_) (fun c1 => ?_)
  · refine z_aload_n E dX1_restore_9 0 rfl rfl ?_
    refine z_aload_n E dX1_restore_10 0 rfl rfl ?_
    refine gt_X1_22 (v := .int (nI (T.1 1))) E dX1_restore_11 0 rfl rfl ?_
    refine z_ifN_le E dX1_restore_14 26 (by decide) (by omega) (fun c2 => ?_) (fun c2 => ?_)
    · refine z_bipush (v := (nI 9)) E dX1_restore_26 (by decide) ?_
      refine pt_X1_22 (x := nI 9) (ws' := wPast g a h b j U (sF T 1 9) ++ (wPres g p q P)) E dX1_restore_28 0 rfl (Nat.le_of_ble_eq_true rfl) rfl ?_
      refine z_aload_n E dX1_restore_31 0 rfl rfl ?_
      refine z_dup E dX1_restore_32 rfl ?_
      refine gt_X1_18 (v := .int (nI (T.1 2))) E dX1_restore_33 0 rfl rfl ?_
      refine z_iconst (v := (nI 1)) E dX1_restore_36 (by decide) ?_
      refine z_isubN E dX1_restore_37 (by omega) ?_
      refine pt_X1_18 (x := nI ((T.1 2) - 1)) (ws' := wPast g a h b j U (sF (sF T 1 9) 2 ((T.1 2) - 1)) ++ (wPres g p q P)) E dX1_restore_38 0 rfl (Nat.le_of_ble_eq_true rfl) rfl ?_
      refine z_aload_n E dX1_restore_41 1 rfl rfl ?_
      refine z_aload_n E dX1_restore_42 0 rfl rfl ?_
      refine gt_X1_11 (v := .ref (h 0)) E dX1_restore_43 0 rfl rfl ?_
      refine z_aload_n E dX1_restore_46 0 rfl rfl ?_
      refine gt_X1_22 (v := .int (nI 9)) E dX1_restore_47 0 rfl rfl ?_
      refine z_aaldN (b := b) E dX1_restore_50 1 rfl (by decide) (by decide) ?_
      refine l_res E hX (Nat.le_of_ble_eq_true rfl) 9 (by omega) ?_
      refine z_iconst (v := (nI 1)) E dX1_restore_54 (by decide) ?_
      refine z_zret E Er dX1_restore_55 (by decide) ?_
      exact ⟨bz1 (by simp [c1]), by rw [if_neg c1, if_neg c1, show pv10 (T.1 1) = 9 from by unfold pv10; split <;> omega]⟩
    · refine z_aload_n E dX1_restore_17 0 rfl rfl ?_
      refine gt_X1_22 (v := .int (nI (T.1 1))) E dX1_restore_18 0 rfl rfl ?_
      refine z_iconst (v := (nI 1)) E dX1_restore_21 (by decide) ?_
      refine z_isubN E dX1_restore_22 (by omega) ?_
      refine z_goto E dX1_restore_23 28 (by decide) ?_
      refine pt_X1_22 (x := nI ((T.1 1) - 1)) (ws' := wPast g a h b j U (sF T 1 ((T.1 1) - 1)) ++ (wPres g p q P)) E dX1_restore_28 0 rfl (Nat.le_of_ble_eq_true rfl) rfl ?_
      refine z_aload_n E dX1_restore_31 0 rfl rfl ?_
      refine z_dup E dX1_restore_32 rfl ?_
      refine gt_X1_18 (v := .int (nI (T.1 2))) E dX1_restore_33 0 rfl rfl ?_
      refine z_iconst (v := (nI 1)) E dX1_restore_36 (by decide) ?_
      refine z_isubN E dX1_restore_37 (by omega) ?_
      refine pt_X1_18 (x := nI ((T.1 2) - 1)) (ws' := wPast g a h b j U (sF (sF T 1 ((T.1 1) - 1)) 2 ((T.1 2) - 1)) ++ (wPres g p q P)) E dX1_restore_38 0 rfl (Nat.le_of_ble_eq_true rfl) rfl ?_
      refine z_aload_n E dX1_restore_41 1 rfl rfl ?_
      refine z_aload_n E dX1_restore_42 0 rfl rfl ?_
      refine gt_X1_11 (v := .ref (h 0)) E dX1_restore_43 0 rfl rfl ?_
      refine z_aload_n E dX1_restore_46 0 rfl rfl ?_
      refine gt_X1_22 (v := .int (nI ((T.1 1) - 1))) E dX1_restore_47 0 rfl rfl ?_
      refine z_aaldN (b := b) E dX1_restore_50 1 rfl (by omega) (by decide) ?_
      refine l_res E hX (Nat.le_of_ble_eq_true rfl) ((T.1 1) - 1) (by omega) ?_
      refine z_iconst (v := (nI 1)) E dX1_restore_54 (by decide) ?_
      refine z_zret E Er dX1_restore_55 (by decide) ?_
      exact ⟨bz1 (by simp [c1]), by rw [if_neg c1, if_neg c1, show pv10 (T.1 1) = ((T.1 1) - 1) from by unfold pv10; split <;> omega]⟩
  · refine z_iconst (v := (nI 0)) E dX1_restore_7 (by decide) ?_
    refine z_zret E Er dX1_restore_8 (by decide) ?_
    exact ⟨bz0 (by simp [c1]), by rw [if_pos c1, if_pos c1]⟩
