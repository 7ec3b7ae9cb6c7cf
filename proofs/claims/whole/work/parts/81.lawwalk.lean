set_option maxHeartbeats 4000000 in
set_option maxRecDepth 100000 in
theorem law_walk (g : GC) (X : XC) (E : Ob g X cL_law 4 RL) (hX : X.2.2.1 = zR 2000 600000 7302250) (sb L : Nat) (xs : Nat → Int32) (hsx : va_X sb L xs X.2.2.2.1 X.2.2.2.1.heap) (hsb : sb < X.2.2.2.1.heap.size) (hsA : ¬ X.2.2.2.2.2.2.2.2.2.1 sb) (hL : L ≤ 256) (hZT : zT X.2.2.2.2.2.2.2.2.2.1 X.2.2.2.1 X.2.2.2.1.heap) (KE : ∀ (ws : va_W) (lv : List (Nat × Value)), Z g X 4 79 1444 ws lv [] 859) : Z g X 4 0 0 ([] : va_W) (lv_args 0 [.ref sb]) [] 0 := by
  refine z_lve (lv' := [(0, .ref sb)]) rfl ?_
  refine z_newO (ci := 6) (fs := [.null, .null, .null, .null, .null, .null, .null, .null, .int (nI 0), .null, .null, .int (nI 0), .null, .null, .long (lN 0)]) E hX tyX6 rfl inA6 tyX6_ok kl_L_7 il_X6 ini_X6 (fun j hj => by rcases (show j = 0 ∨ j = 1 ∨ j = 2 ∨ j = 3 ∨ j = 4 ∨ j = 5 ∨ j = 6 ∨ j = 7 ∨ j = 8 ∨ j = 9 ∨ j = 10 ∨ j = 11 ∨ j = 12 ∨ j = 13 ∨ j = 14 by omega) with rfl | rfl | rfl | rfl | rfl | rfl | rfl | rfl | rfl | rfl | rfl | rfl | rfl | rfl | rfl <;> rfl) ⟨(Nat.le_of_ble_eq_true rfl), (Nat.le_of_ble_eq_true rfl)⟩ dL_law_0 (fun x => ?_)
  refine z_dup E dL_law_3 rfl ?_
  refine z_initf E (rI E hX (c_X6_init g x) mw_X6_init mi_X6_init ml_L_9 dL_law_4 (Nat.le_of_ble_eq_true rfl) ⟨(Nat.le_of_ble_eq_true rfl), (Nat.le_of_ble_eq_true rfl)⟩ rfl rfl (Nat.le_of_ble_eq_true rfl)) (fun w2 hw => ?_)
  obtain ⟨y, rd, a, dr, p, pa, vo, ch, im, hr, h, hd, q, hpa, b, j, hv, t, ho, i0, i1, rfl⟩ := hw
  refine z_ws (List.append_nil _) ?_
  refine z_astore_n (lv' := [(0, .ref sb), (1, .ref x)]) E dL_law_7 1 rfl (by decide) rfl ?_
  refine z_newO (ci := 7) (fs := [.int (nI 0), .long (lN 0), .null, .int (nI 0), .int (nI 0), .int (nI 0), .int (nI 0), .int (nI 0), .int (nI 0), .null, .int (nI 0), .null, .null, .null, .null, .null, .null, .null, .int (nI 0), .null, .int (nI 0), .null, .null, .int (nI 0), .null, .int (nI 0), .null, .int (nI 0), .null, .null, .null]) E hX tyX7 rfl inA7 tyX7_ok kl_L_10 il_X7 ini_X7 (fun j hj => by rcases (show j = 0 ∨ j = 1 ∨ j = 2 ∨ j = 3 ∨ j = 4 ∨ j = 5 ∨ j = 6 ∨ j = 7 ∨ j = 8 ∨ j = 9 ∨ j = 10 ∨ j = 11 ∨ j = 12 ∨ j = 13 ∨ j = 14 ∨ j = 15 ∨ j = 16 ∨ j = 17 ∨ j = 18 ∨ j = 19 ∨ j = 20 ∨ j = 21 ∨ j = 22 ∨ j = 23 ∨ j = 24 ∨ j = 25 ∨ j = 26 ∨ j = 27 ∨ j = 28 ∨ j = 29 ∨ j = 30 by omega) with rfl | rfl | rfl | rfl | rfl | rfl | rfl | rfl | rfl | rfl | rfl | rfl | rfl | rfl | rfl | rfl | rfl | rfl | rfl | rfl | rfl | rfl | rfl | rfl | rfl | rfl | rfl | rfl | rfl | rfl | rfl <;> rfl) ⟨(Nat.le_of_ble_eq_true rfl), (Nat.le_of_ble_eq_true rfl)⟩ dL_law_8 (fun mm => ?_)
  refine z_dup E dL_law_11 rfl ?_
  refine z_initc E (rI E hX (c_X7_init g mm) mw_X7_init mi_X7_init ml_L_12 dL_law_12 (Nat.le_of_ble_eq_true rfl) ⟨(Nat.le_of_ble_eq_true rfl), (Nat.le_of_ble_eq_true rfl)⟩ rfl rfl (Nat.le_of_ble_eq_true rfl)) (fun w2 hw => ?_)
  obtain ⟨hm, M, rfl, hM⟩ := hw
  refine z_ws (ap10 _ _ _ _ _ _ _ _ _ _ _) ?_
  refine z_astore_n (lv' := [(0, .ref sb), (1, .ref x), (2, .ref mm)]) E dL_law_15 2 rfl (by decide) rfl ?_
  refine z_iconst (v := nI 0) E dL_law_16 (by decide) ?_
  refine z_istore_n (lv' := [(0, .ref sb), (1, .ref x), (2, .ref mm), (3, .int (nI 0))]) E dL_law_17 3 rfl (by decide) rfl ?_
  exact law_loop g x y rd hr p q pa hpa b j vo hv ch ho im i0 i1 mm hm X E hX sb L xs hsx hsb hsA hL hZT KE 256 0 (by omega) (by omega) a h (fstT z0) dr hd (fstT z0) z0 (sF z0 3 3) (st0 ((fstT z0).1 2)) z0 (fun _ => z0) z0 t (sF z0 0 1) z0 z0 M (st_J hM)
