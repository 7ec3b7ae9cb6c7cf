def z0 : NS := (fun _ => 0, fun _ _ => 0)
section ZD
variable {g : GC} {X : XC} {cc : ByteArray} {nL k n pc : Nat} {own : String} {ws : va_W} {lv lv' : List (Nat × Value)} {st : List Value}
theorem z_arrQ {c : ClassId} (q : Nat) {a N : Nat} {f f' : Nat → Option Nat} (he : ws[q]? = some (a, .inl (c, N, .inr (.inr (.inr (.inr f)))))) (hff : ∀ j, j < N → f j = f' j) {ws' : va_W} (hws : ws.set q (a, .inl (c, N, .inr (.inr (.inr (.inr f'))))) = ws') (K : Z g X nL k n ws' lv st pc) : Z g X nL k n ws lv st pc := fun H locs ls hP hD hS hl => by
  subst hws
  refine K H locs ls (hP.set hD he ?_ (fun _ _ => rfl)) (hD.set he) hS hl
  have h1 := hP q _ he
  show H[a]? = some (vp_cell c (N, .inr (.inr (.inr (.inr f')))))
  have e : vp_cell c (N, .inr (.inr (.inr (.inr f')))) = vp_cell c (N, .inr (.inr (.inr (.inr f)))) := by
    rw [vp_cell_q, vp_cell_q]
    exact arrV_cg (fun j hj => by rw [hff j hj])
  rw [e]
  exact h1
theorem z_reo (is : List Nat) {ws2 : va_W} {cs ds : List va_W} (h1 : ws = wj cs) (hc : tks is cs = (ds, [])) (h2 : ws2 = wj ds) (K : Z g X nL k n ws2 lv st pc) : Z g X nL k n ws lv st pc := by
  subst h1 h2
  refine z_pm ?_ K
  have := tks_wj hc
  rw [List.flatten_nil, List.append_nil] at this
  exact this
end ZD

set_option maxHeartbeats 4000000 in
set_option maxRecDepth 100000 in
theorem c_X2_init (g : GC) (a : Nat) : Ct g yX2_init cX2_init 1 none 1 1 12 [.ref a] [(a, .inr (2, [.int (nI 0), .int (nI 0), .int (nI 0), .int (nI 0), .int (nI 0), .null]))] (QV (fun w_ => ∃ h : Nat → Nat, w_ = wPres g a h z0)) := by
  refine Ct.of (by decide) (Nat.le_of_ble_eq_true rfl) ?_
  intro X E Er hX _ hnm
  have hm := hnm.symm
  have E : Ob g X cX2_init 1 RX2 := E
  refine z_lve (lv' := [(0, .ref a)]) rfl ?_
  refine z_aload_n E dX2_init_0 0 rfl rfl ?_
  refine z_oinit E hX (Nat.le_of_ble_eq_true rfl) oi_X2 dX2_init_1 (Nat.le_of_ble_eq_true rfl) ?_
  refine z_aload_n E dX2_init_4 0 rfl rfl ?_
  refine z_bipush (v := (-9)) E dX2_init_5 (by decide) ?_
  refine pt_X2_9 (x := (-9)) (ws' := [(a, .inr (2, [.int (nI 0), .int (-9), .int (nI 0), .int (nI 0), .int (nI 0), .null]))]) E dX2_init_7 0 rfl (Nat.le_of_ble_eq_true rfl) rfl ?_
  refine z_aload_n E dX2_init_10 0 rfl rfl ?_
  refine z_bipush (v := (nI 12)) E dX2_init_11 (by decide) ?_
  refine z_newI (N := 12) E hX (by decide) ⟨(Nat.le_of_ble_eq_true rfl), (Nat.le_of_ble_eq_true rfl)⟩ dX2_init_13 (fun q1 => ?_)
  refine z_putF (ws' := [(q1, .inl (g.2.2 0, 12, .inl (fun _ => nI 0)))] ++ ([(a, .inr (2, [.int (nI 0), .int (-9), .int (nI 0), .int (nI 0), .int (nI 0), .ref q1]))])) E tyX2 rfl inA2 tyX2_ok nmX2 5 (by decide) rfl fl_X2_15 rfl hm dX2_init_15 1 rfl (Nat.le_of_ble_eq_true rfl) rfl rfl rfl ?_
  refine z_perm (ws' := wPres g a (fun k => q1) z0) [1, 0] rfl (by decide) ?_
  refine z_widen (k' := 1) (n' := 12) (Nat.le_of_ble_eq_true rfl) (Nat.le_of_ble_eq_true rfl) ?_
  refine z_vret E Er dX2_init_18 ?_
  exact ⟨rfl, _, rfl⟩

set_option maxHeartbeats 4000000 in
set_option maxRecDepth 100000 in
theorem c_X3_init (g : GC) (a : Nat) : Ct g yX3_init cX3_init 1 none 1 1 200 [.ref a] [(a, .inr (3, [.null, .int (nI 0), .int (nI 0), .int (nI 0), .int (nI 0), .int (nI 0), .int (nI 0), .int (nI 0), .int (nI 0)]))] (QV (fun w_ => ∃ h : Nat → Nat, w_ = wRead g a h (sF z0 3 3))) := by
  refine Ct.of (by decide) (Nat.le_of_ble_eq_true rfl) ?_
  intro X E Er hX _ hnm
  have hm := hnm.symm
  have E : Ob g X cX3_init 1 RX3 := E
  refine z_lve (lv' := [(0, .ref a)]) rfl ?_
  refine z_aload_n E dX3_init_0 0 rfl rfl ?_
  refine z_oinit E hX (Nat.le_of_ble_eq_true rfl) oi_X3 dX3_init_1 (Nat.le_of_ble_eq_true rfl) ?_
  refine z_aload_n E dX3_init_4 0 rfl rfl ?_
  refine z_sipush (v := (nI 200)) E dX3_init_5 (by decide) ?_
  refine z_newI (N := 200) E hX (by decide) ⟨(Nat.le_of_ble_eq_true rfl), (Nat.le_of_ble_eq_true rfl)⟩ dX3_init_8 (fun q1 => ?_)
  refine z_putF (ws' := [(q1, .inl (g.2.2 0, 200, .inl (fun _ => nI 0)))] ++ ([(a, .inr (3, [.ref q1, .int (nI 0), .int (nI 0), .int (nI 0), .int (nI 0), .int (nI 0), .int (nI 0), .int (nI 0), .int (nI 0)]))])) E tyX3 rfl inA3 tyX3_ok nmX3 0 (by decide) rfl fl_X3_9 rfl hm dX3_init_10 1 rfl (Nat.le_of_ble_eq_true rfl) rfl rfl rfl ?_
  refine z_perm (ws' := wRead g a (fun k => q1) (sF z0 3 3)) [1, 0] rfl (by decide) ?_
  refine z_widen (k' := 1) (n' := 200) (Nat.le_of_ble_eq_true rfl) (Nat.le_of_ble_eq_true rfl) ?_
  refine z_vret E Er dX3_init_13 ?_
  exact ⟨rfl, _, rfl⟩

set_option maxHeartbeats 4000000 in
set_option maxRecDepth 100000 in
theorem c_X0_init (g : GC) (a : Nat) : Ct g yX0_init cX0_init 1 none 1 3 24 [.ref a] [(a, .inr (0, [.long (lN 0), .null, .null, .null]))] (QV (fun w_ => ∃ h : Nat → Nat, w_ = wOdds g a h (sF z0 0 1))) := by
  refine Ct.of (by decide) (Nat.le_of_ble_eq_true rfl) ?_
  intro X E Er hX _ hnm
  have hm := hnm.symm
  have E : Ob g X cX0_init 1 RX0 := E
  refine z_lve (lv' := [(0, .ref a)]) rfl ?_
  refine z_aload_n E dX0_init_0 0 rfl rfl ?_
  refine z_oinit E hX (Nat.le_of_ble_eq_true rfl) oi_X0 dX0_init_1 (Nat.le_of_ble_eq_true rfl) ?_
  refine z_aload_n E dX0_init_4 0 rfl rfl ?_
  refine z_lconst (v := lN 1) E dX0_init_5 rfl ?_
  refine pt_X0_9 (x := lN 1) (ws' := [(a, .inr (0, [.long (lN 1), .null, .null, .null]))]) E dX0_init_6 0 rfl (Nat.le_of_ble_eq_true rfl) rfl ?_
  refine z_aload_n E dX0_init_9 0 rfl rfl ?_
  refine z_bipush (v := (nI 8)) E dX0_init_10 (by decide) ?_
  refine z_newJ (N := 8) E hX (by decide) ⟨(Nat.le_of_ble_eq_true rfl), (Nat.le_of_ble_eq_true rfl)⟩ dX0_init_12 (fun q1 => ?_)
  refine z_putF (ws' := [(q1, .inl (g.2.2 1, 8, .inr (.inl (fun _ => lN 0))))] ++ ([(a, .inr (0, [.long (lN 1), .ref q1, .null, .null]))])) E tyX0 rfl inA0 tyX0_ok nmX0 1 (by decide) rfl fl_X0_15 rfl hm dX0_init_14 1 rfl (Nat.le_of_ble_eq_true rfl) rfl rfl rfl ?_
  refine z_aload_n E dX0_init_17 0 rfl rfl ?_
  refine z_bipush (v := (nI 8)) E dX0_init_18 (by decide) ?_
  refine z_newJ (N := 8) E hX (by decide) ⟨(Nat.le_of_ble_eq_true rfl), (Nat.le_of_ble_eq_true rfl)⟩ dX0_init_20 (fun q2 => ?_)
  refine z_putF (ws' := [(q2, .inl (g.2.2 1, 8, .inr (.inl (fun _ => lN 0))))] ++ ([(q1, .inl (g.2.2 1, 8, .inr (.inl (fun _ => lN 0))))] ++ ([(a, .inr (0, [.long (lN 1), .ref q1, .ref q2, .null]))]))) E tyX0 rfl inA0 tyX0_ok nmX0 2 (by decide) rfl fl_X0_19 rfl hm dX0_init_22 2 rfl (Nat.le_of_ble_eq_true rfl) rfl rfl rfl ?_
  refine z_aload_n E dX0_init_25 0 rfl rfl ?_
  refine z_bipush (v := (nI 8)) E dX0_init_26 (by decide) ?_
  refine z_newI (N := 8) E hX (by decide) ⟨(Nat.le_of_ble_eq_true rfl), (Nat.le_of_ble_eq_true rfl)⟩ dX0_init_28 (fun q3 => ?_)
  refine z_putF (ws' := [(q3, .inl (g.2.2 0, 8, .inl (fun _ => nI 0)))] ++ ([(q2, .inl (g.2.2 1, 8, .inr (.inl (fun _ => lN 0))))] ++ ([(q1, .inl (g.2.2 1, 8, .inr (.inl (fun _ => lN 0))))] ++ ([(a, .inr (0, [.long (lN 1), .ref q1, .ref q2, .ref q3]))])))) E tyX0 rfl inA0 tyX0_ok nmX0 3 (by decide) rfl fl_X0_22 rfl hm dX0_init_30 3 rfl (Nat.le_of_ble_eq_true rfl) rfl rfl rfl ?_
  refine z_perm (ws' := wOdds g a (fun k => if k = 1 then q1 else if k = 2 then q2 else q3) (sF z0 0 1)) [3, 2, 1, 0] rfl (by decide) ?_
  refine z_widen (k' := 3) (n' := 24) (Nat.le_of_ble_eq_true rfl) (Nat.le_of_ble_eq_true rfl) ?_
  refine z_vret E Er dX0_init_33 ?_
  exact ⟨rfl, _, rfl⟩

set_option maxHeartbeats 4000000 in
set_option maxRecDepth 100000 in
theorem c_X4_init (g : GC) (a : Nat) : Ct g yX4_init cX4_init 1 none 1 4 48 [.ref a] [(a, .inr (4, [.int (nI 0), .int (nI 0), .int (nI 0), .int (nI 0), .int (nI 0), .int (nI 0), .null, .null, .null, .null]))] (QV (fun w_ => ∃ h : Nat → Nat, w_ = wTown g a h (fstT z0))) := by
  refine Ct.of (by decide) (Nat.le_of_ble_eq_true rfl) ?_
  intro X E Er hX _ hnm
  have hm := hnm.symm
  have E : Ob g X cX4_init 1 RX4 := E
  refine z_lve (lv' := [(0, .ref a)]) rfl ?_
  refine z_aload_n E dX4_init_0 0 rfl rfl ?_
  refine z_oinit E hX (Nat.le_of_ble_eq_true rfl) oi_X4 dX4_init_1 (Nat.le_of_ble_eq_true rfl) ?_
  refine z_aload_n E dX4_init_4 0 rfl rfl ?_
  refine z_bipush (v := (nI 12)) E dX4_init_5 (by decide) ?_
  refine z_newI (N := 12) E hX (by decide) ⟨(Nat.le_of_ble_eq_true rfl), (Nat.le_of_ble_eq_true rfl)⟩ dX4_init_7 (fun q1 => ?_)
  refine z_putF (ws' := [(q1, .inl (g.2.2 0, 12, .inl (fun _ => nI 0)))] ++ ([(a, .inr (4, [.int (nI 0), .int (nI 0), .int (nI 0), .int (nI 0), .int (nI 0), .int (nI 0), .ref q1, .null, .null, .null]))])) E tyX4 rfl inA4 tyX4_ok nmX4 6 (by decide) rfl fl_X4_9 rfl hm dX4_init_9 1 rfl (Nat.le_of_ble_eq_true rfl) rfl rfl rfl ?_
  refine z_aload_n E dX4_init_12 0 rfl rfl ?_
  refine z_bipush (v := (nI 12)) E dX4_init_13 (by decide) ?_
  refine z_newI (N := 12) E hX (by decide) ⟨(Nat.le_of_ble_eq_true rfl), (Nat.le_of_ble_eq_true rfl)⟩ dX4_init_15 (fun q2 => ?_)
  refine z_putF (ws' := [(q2, .inl (g.2.2 0, 12, .inl (fun _ => nI 0)))] ++ ([(q1, .inl (g.2.2 0, 12, .inl (fun _ => nI 0)))] ++ ([(a, .inr (4, [.int (nI 0), .int (nI 0), .int (nI 0), .int (nI 0), .int (nI 0), .int (nI 0), .ref q1, .ref q2, .null, .null]))]))) E tyX4 rfl inA4 tyX4_ok nmX4 7 (by decide) rfl fl_X4_15 rfl hm dX4_init_17 2 rfl (Nat.le_of_ble_eq_true rfl) rfl rfl rfl ?_
  refine z_aload_n E dX4_init_20 0 rfl rfl ?_
  refine z_bipush (v := (nI 12)) E dX4_init_21 (by decide) ?_
  refine z_newI (N := 12) E hX (by decide) ⟨(Nat.le_of_ble_eq_true rfl), (Nat.le_of_ble_eq_true rfl)⟩ dX4_init_23 (fun q3 => ?_)
  refine z_putF (ws' := [(q3, .inl (g.2.2 0, 12, .inl (fun _ => nI 0)))] ++ ([(q2, .inl (g.2.2 0, 12, .inl (fun _ => nI 0)))] ++ ([(q1, .inl (g.2.2 0, 12, .inl (fun _ => nI 0)))] ++ ([(a, .inr (4, [.int (nI 0), .int (nI 0), .int (nI 0), .int (nI 0), .int (nI 0), .int (nI 0), .ref q1, .ref q2, .ref q3, .null]))])))) E tyX4 rfl inA4 tyX4_ok nmX4 8 (by decide) rfl fl_X4_18 rfl hm dX4_init_25 3 rfl (Nat.le_of_ble_eq_true rfl) rfl rfl rfl ?_
  refine z_aload_n E dX4_init_28 0 rfl rfl ?_
  refine z_bipush (v := (nI 12)) E dX4_init_29 (by decide) ?_
  refine z_newI (N := 12) E hX (by decide) ⟨(Nat.le_of_ble_eq_true rfl), (Nat.le_of_ble_eq_true rfl)⟩ dX4_init_31 (fun q4 => ?_)
  refine z_putF (ws' := [(q4, .inl (g.2.2 0, 12, .inl (fun _ => nI 0)))] ++ ([(q3, .inl (g.2.2 0, 12, .inl (fun _ => nI 0)))] ++ ([(q2, .inl (g.2.2 0, 12, .inl (fun _ => nI 0)))] ++ ([(q1, .inl (g.2.2 0, 12, .inl (fun _ => nI 0)))] ++ ([(a, .inr (4, [.int (nI 0), .int (nI 0), .int (nI 0), .int (nI 0), .int (nI 0), .int (nI 0), .ref q1, .ref q2, .ref q3, .ref q4]))]))))) E tyX4 rfl inA4 tyX4_ok nmX4 9 (by decide) rfl fl_X4_21 rfl hm dX4_init_33 4 rfl (Nat.le_of_ble_eq_true rfl) rfl rfl rfl ?_
  refine z_aload_n E dX4_init_36 0 rfl rfl ?_
  refine z_perm (ws' := wTown g a (fun k => if k = 6 then q1 else if k = 7 then q2 else if k = 8 then q3 else q4) z0) [4, 3, 2, 1, 0] rfl (by decide) ?_
  refine z_rwv0 (w2 := wTown g a (fun k => if k = 6 then q1 else if k = 7 then q2 else if k = 8 then q3 else q4) (fstT z0)) E (rV E hX (c_X4_beAsAtFirst g a (fun k => if k = 6 then q1 else if k = 7 then q2 else if k = 8 then q3 else q4) z0) mw_X4_beAsAtFirst ml_X4_24 dX4_init_37 (Nat.le_of_ble_eq_true rfl) ⟨(Nat.le_of_ble_eq_true rfl), (Nat.le_of_ble_eq_true rfl)⟩ rfl rfl (Nat.le_of_ble_eq_true rfl) 0 rfl rfl) rfl ?_
  refine z_widen (k' := 4) (n' := 48) (Nat.le_of_ble_eq_true rfl) (Nat.le_of_ble_eq_true rfl) ?_
  refine z_vret E Er dX4_init_40 ?_
  exact ⟨rfl, _, rfl⟩

set_option maxHeartbeats 4000000 in
set_option maxRecDepth 100000 in
theorem c_X5_init (g : GC) (a : Nat) : Ct g yX5_init cX5_init 1 none 2 10 154 [.ref a] [(a, .inr (5, [.null, .int (nI 0), .null, .null, .null, .null, .null, .int (nI 0), .int (nI 0)]))] (QV (fun w_ => ∃ (h : Nat → Nat) (t : Nat), w_ = wVoice g a h t z0)) := by
  refine Ct.of (by decide) (Nat.le_of_ble_eq_true rfl) ?_
  intro X E Er hX _ hnm
  have hm := hnm.symm
  have E : Ob g X cX5_init 1 RX5 := E
  refine z_lve (lv' := [(0, .ref a)]) rfl ?_
  refine z_aload_n E dX5_init_0 0 rfl rfl ?_
  refine z_oinit E hX (Nat.le_of_ble_eq_true rfl) oi_X5 dX5_init_1 (Nat.le_of_ble_eq_true rfl) ?_
  refine z_aload_n E dX5_init_4 0 rfl rfl ?_
  refine z_newO (ci := 4) (fs := [.int (nI 0), .int (nI 0), .int (nI 0), .int (nI 0), .int (nI 0), .int (nI 0), .null, .null, .null, .null]) E hX tyX4 rfl inA4 tyX4_ok kl_X5_9 il_X4 ini_X4 (fun j hj => by rcases (show j = 0 ∨ j = 1 ∨ j = 2 ∨ j = 3 ∨ j = 4 ∨ j = 5 ∨ j = 6 ∨ j = 7 ∨ j = 8 ∨ j = 9 by omega) with rfl | rfl | rfl | rfl | rfl | rfl | rfl | rfl | rfl | rfl <;> rfl) ⟨(Nat.le_of_ble_eq_true rfl), (Nat.le_of_ble_eq_true rfl)⟩ dX5_init_5 (fun q1 => ?_)
  refine z_dup E dX5_init_8 rfl ?_
  refine z_initf E (rI E hX (c_X4_init g q1) mw_X4_init mi_X4_init ml_X5_11 dX5_init_9 (Nat.le_of_ble_eq_true rfl) ⟨(Nat.le_of_ble_eq_true rfl), (Nat.le_of_ble_eq_true rfl)⟩ rfl rfl (Nat.le_of_ble_eq_true rfl)) (fun w2 hw => ?_)
  obtain ⟨h2, rfl⟩ := hw
  refine pt_X5_12 (x := q1) (ws' := wTown g q1 h2 (fstT z0) ++ ([(a, .inr (5, [.ref q1, .int (nI 0), .null, .null, .null, .null, .null, .int (nI 0), .int (nI 0)]))])) E dX5_init_12 5 rfl (Nat.le_of_ble_eq_true rfl) rfl ?_
  refine z_aload_n E dX5_init_15 0 rfl rfl ?_
  refine z_bipush (v := (nI 12)) E dX5_init_16 (by decide) ?_
  refine z_newI (N := 12) E hX (by decide) ⟨(Nat.le_of_ble_eq_true rfl), (Nat.le_of_ble_eq_true rfl)⟩ dX5_init_18 (fun q3 => ?_)
  refine z_putF (ws' := [(q3, .inl (g.2.2 0, 12, .inl (fun _ => nI 0)))] ++ (wTown g q1 h2 (fstT z0) ++ ([(a, .inr (5, [.ref q1, .int (nI 0), .ref q3, .null, .null, .null, .null, .int (nI 0), .int (nI 0)]))]))) E tyX5 rfl inA5 tyX5_ok nmX5 2 (by decide) rfl fl_X5_18 rfl hm dX5_init_20 6 rfl (Nat.le_of_ble_eq_true rfl) rfl rfl rfl ?_
  refine z_aload_n E dX5_init_23 0 rfl rfl ?_
  refine z_bipush (v := (nI 24)) E dX5_init_24 (by decide) ?_
  refine z_newI (N := 24) E hX (by decide) ⟨(Nat.le_of_ble_eq_true rfl), (Nat.le_of_ble_eq_true rfl)⟩ dX5_init_26 (fun q4 => ?_)
  refine z_putF (ws' := [(q4, .inl (g.2.2 0, 24, .inl (fun _ => nI 0)))] ++ ([(q3, .inl (g.2.2 0, 12, .inl (fun _ => nI 0)))] ++ (wTown g q1 h2 (fstT z0) ++ ([(a, .inr (5, [.ref q1, .int (nI 0), .ref q3, .ref q4, .null, .null, .null, .int (nI 0), .int (nI 0)]))])))) E tyX5 rfl inA5 tyX5_ok nmX5 3 (by decide) rfl fl_X5_22 rfl hm dX5_init_28 7 rfl (Nat.le_of_ble_eq_true rfl) rfl rfl rfl ?_
  refine z_aload_n E dX5_init_31 0 rfl rfl ?_
  refine z_bipush (v := (nI 24)) E dX5_init_32 (by decide) ?_
  refine z_newZ (N := 24) E hX (by decide) ⟨(Nat.le_of_ble_eq_true rfl), (Nat.le_of_ble_eq_true rfl)⟩ dX5_init_34 (fun q5 => ?_)
  refine z_putF (ws' := [(q5, .inl (g.2.2 2, 24, .inl (fun _ => nI 0)))] ++ ([(q4, .inl (g.2.2 0, 24, .inl (fun _ => nI 0)))] ++ ([(q3, .inl (g.2.2 0, 12, .inl (fun _ => nI 0)))] ++ (wTown g q1 h2 (fstT z0) ++ ([(a, .inr (5, [.ref q1, .int (nI 0), .ref q3, .ref q4, .ref q5, .null, .null, .int (nI 0), .int (nI 0)]))]))))) E tyX5 rfl inA5 tyX5_ok nmX5 4 (by decide) rfl fl_X5_25 rfl hm dX5_init_36 8 rfl (Nat.le_of_ble_eq_true rfl) rfl rfl rfl ?_
  refine z_aload_n E dX5_init_39 0 rfl rfl ?_
  refine z_bipush (v := (nI 12)) E dX5_init_40 (by decide) ?_
  refine z_newI (N := 12) E hX (by decide) ⟨(Nat.le_of_ble_eq_true rfl), (Nat.le_of_ble_eq_true rfl)⟩ dX5_init_42 (fun q6 => ?_)
  refine z_putF (ws' := [(q6, .inl (g.2.2 0, 12, .inl (fun _ => nI 0)))] ++ ([(q5, .inl (g.2.2 2, 24, .inl (fun _ => nI 0)))] ++ ([(q4, .inl (g.2.2 0, 24, .inl (fun _ => nI 0)))] ++ ([(q3, .inl (g.2.2 0, 12, .inl (fun _ => nI 0)))] ++ (wTown g q1 h2 (fstT z0) ++ ([(a, .inr (5, [.ref q1, .int (nI 0), .ref q3, .ref q4, .ref q5, .ref q6, .null, .int (nI 0), .int (nI 0)]))])))))) E tyX5 rfl inA5 tyX5_ok nmX5 5 (by decide) rfl fl_X5_29 rfl hm dX5_init_44 9 rfl (Nat.le_of_ble_eq_true rfl) rfl rfl rfl ?_
  refine z_aload_n E dX5_init_47 0 rfl rfl ?_
  refine z_bipush (v := (nI 24)) E dX5_init_48 (by decide) ?_
  refine z_newI (N := 24) E hX (by decide) ⟨(Nat.le_of_ble_eq_true rfl), (Nat.le_of_ble_eq_true rfl)⟩ dX5_init_50 (fun q7 => ?_)
  refine z_putF (ws' := [(q7, .inl (g.2.2 0, 24, .inl (fun _ => nI 0)))] ++ ([(q6, .inl (g.2.2 0, 12, .inl (fun _ => nI 0)))] ++ ([(q5, .inl (g.2.2 2, 24, .inl (fun _ => nI 0)))] ++ ([(q4, .inl (g.2.2 0, 24, .inl (fun _ => nI 0)))] ++ ([(q3, .inl (g.2.2 0, 12, .inl (fun _ => nI 0)))] ++ (wTown g q1 h2 (fstT z0) ++ ([(a, .inr (5, [.ref q1, .int (nI 0), .ref q3, .ref q4, .ref q5, .ref q6, .ref q7, .int (nI 0), .int (nI 0)]))]))))))) E tyX5 rfl inA5 tyX5_ok nmX5 6 (by decide) rfl fl_X5_32 rfl hm dX5_init_52 10 rfl (Nat.le_of_ble_eq_true rfl) rfl rfl rfl ?_
  refine z_reo (ws2 := wTown g q1 h2 (fstT z0) ++ wVoice g a (fun k => if k = 2 then q3 else if k = 3 then q4 else if k = 4 then q5 else if k = 5 then q6 else q7) q1 z0) (cs := [[(q7, .inl (g.2.2 0, 24, .inl (fun _ => nI 0)))], [(q6, .inl (g.2.2 0, 12, .inl (fun _ => nI 0)))], [(q5, .inl (g.2.2 2, 24, .inl (fun _ => nI 0)))], [(q4, .inl (g.2.2 0, 24, .inl (fun _ => nI 0)))], [(q3, .inl (g.2.2 0, 12, .inl (fun _ => nI 0)))], wTown g q1 h2 (fstT z0), [(a, .inr (5, [.ref q1, .int (nI 0), .ref q3, .ref q4, .ref q5, .ref q6, .ref q7, .int (nI 0), .int (nI 0)]))]]) (ds := [wTown g q1 h2 (fstT z0), [(a, .inr (5, [.ref q1, .int (nI 0), .ref q3, .ref q4, .ref q5, .ref q6, .ref q7, .int (nI 0), .int (nI 0)]))], [(q3, .inl (g.2.2 0, 12, .inl (fun _ => nI 0)))], [(q4, .inl (g.2.2 0, 24, .inl (fun _ => nI 0)))], [(q5, .inl (g.2.2 2, 24, .inl (fun _ => nI 0)))], [(q6, .inl (g.2.2 0, 12, .inl (fun _ => nI 0)))], [(q7, .inl (g.2.2 0, 24, .inl (fun _ => nI 0)))]]) [5, 5, 4, 3, 2, 1, 0] rfl rfl rfl ?_
  refine z_drop ?_
  refine z_widen (k' := 10) (n' := 154) (Nat.le_of_ble_eq_true rfl) (Nat.le_of_ble_eq_true rfl) ?_
  refine z_vret E Er dX5_init_55 ?_
  exact ⟨rfl, _, _, rfl⟩

set_option maxHeartbeats 4000000 in
set_option maxRecDepth 100000 in
theorem c_X1_init (g : GC) (a : Nat) : Ct g yX1_init cX1_init 2 none 2 21 190 [.ref a] [(a, .inr (1, [.null, .int (nI 0), .int (nI 0)]))] (QV (fun w_ => ∃ (h b : Nat → Nat) (j : Nat → Nat → Nat), w_ = wPast g a h b j (fun _ => z0) z0)) := by
  refine Ct.of (by decide) (Nat.le_of_ble_eq_true rfl) ?_
  intro X E Er hX _ hnm
  have hm := hnm.symm
  have E : Ob g X cX1_init 2 RX1 := E
  refine z_lve (lv' := [(0, .ref a)]) rfl ?_
  refine z_aload_n E dX1_init_0 0 rfl rfl ?_
  refine z_oinit E hX (Nat.le_of_ble_eq_true rfl) oi_X1 dX1_init_1 (Nat.le_of_ble_eq_true rfl) ?_
  refine z_aload_n E dX1_init_4 0 rfl rfl ?_
  refine z_bipush (v := (nI 10)) E dX1_init_5 (by decide) ?_
  refine z_newQ (N := 10) E hX kl_X1_9 (by decide) ⟨(Nat.le_of_ble_eq_true rfl), (Nat.le_of_ble_eq_true rfl)⟩ dX1_init_7 (fun q1 => ?_)
  refine z_putF (ws' := [(q1, .inl (g.2.2 3, 10, .inr (.inr (.inr (.inr (fun _ => none))))))] ++ ([(a, .inr (1, [.ref q1, .int (nI 0), .int (nI 0)]))])) E tyX1 rfl inA1 tyX1_ok nmX1 0 (by decide) rfl fl_X1_11 rfl hm dX1_init_10 1 rfl (Nat.le_of_ble_eq_true rfl) rfl rfl rfl ?_
  refine z_iconst (v := (nI 0)) E dX1_init_13 (by decide) ?_
  refine z_istore_n (lv' := [(0, .ref a), (1, .int (nI 0))]) E dX1_init_14 1 rfl (by decide) rfl ?_
  refine z_iload_n E dX1_init_15 1 rfl rfl ?_
  refine z_bipush (v := (nI 10)) E dX1_init_16 (by decide) ?_
  refine z_icmpN_ge E dX1_init_18 40 (by decide) (by decide) (by decide) (fun h => absurd h (by decide)) (fun _ => ?_)
  refine z_aload_n E dX1_init_21 0 rfl rfl ?_
  refine gt_X1_11 (v := .ref q1) E dX1_init_22 1 rfl rfl ?_
  refine z_iload_n E dX1_init_25 1 rfl rfl ?_
  refine z_newO (ci := 2) (fs := [.int (nI 0), .int (nI 0), .int (nI 0), .int (nI 0), .int (nI 0), .null]) E hX tyX2 rfl inA2 tyX2_ok kl_X1_9 il_X2 ini_X2 (fun j hj => by rcases (show j = 0 ∨ j = 1 ∨ j = 2 ∨ j = 3 ∨ j = 4 ∨ j = 5 by omega) with rfl | rfl | rfl | rfl | rfl | rfl <;> rfl) ⟨(Nat.le_of_ble_eq_true rfl), (Nat.le_of_ble_eq_true rfl)⟩ dX1_init_26 (fun q2 => ?_)
  refine z_dup E dX1_init_29 rfl ?_
  refine z_initf E (rIN E hX (c_X2_init g q2) mw_X2_init mi_X2_init mn_X1_17 dX1_init_30 (Nat.le_of_ble_eq_true rfl) ⟨(Nat.le_of_ble_eq_true rfl), (Nat.le_of_ble_eq_true rfl)⟩ rfl rfl (Nat.le_of_ble_eq_true rfl)) (fun w2 hw => ?_)
  obtain ⟨h3, rfl⟩ := hw
  refine z_aast (ws' := wPres g q2 h3 z0 ++ ([(q1, .inl (g.2.2 3, 10, .inr (.inr (.inr (.inr (va_up (fun _ => none) 0 (some q2)))))))] ++ ([(a, .inr (1, [.ref q1, .int (nI 0), .int (nI 0)]))]))) E dX1_init_33 2 0 rfl rfl (by decide) (by decide) rfl ?_
  refine z_iincN (lv' := [(0, .ref a), (1, .int (nI 1))]) E dX1_init_34 1 rfl (by decide) rfl ?_
  refine z_goto E dX1_init_37 15 (by decide) ?_
  refine z_iload_n E dX1_init_15 1 rfl rfl ?_
  refine z_bipush (v := (nI 10)) E dX1_init_16 (by decide) ?_
  refine z_icmpN_ge E dX1_init_18 40 (by decide) (by decide) (by decide) (fun h => absurd h (by decide)) (fun _ => ?_)
  refine z_aload_n E dX1_init_21 0 rfl rfl ?_
  refine gt_X1_11 (v := .ref q1) E dX1_init_22 3 rfl rfl ?_
  refine z_iload_n E dX1_init_25 1 rfl rfl ?_
  refine z_newO (ci := 2) (fs := [.int (nI 0), .int (nI 0), .int (nI 0), .int (nI 0), .int (nI 0), .null]) E hX tyX2 rfl inA2 tyX2_ok kl_X1_9 il_X2 ini_X2 (fun j hj => by rcases (show j = 0 ∨ j = 1 ∨ j = 2 ∨ j = 3 ∨ j = 4 ∨ j = 5 by omega) with rfl | rfl | rfl | rfl | rfl | rfl <;> rfl) ⟨(Nat.le_of_ble_eq_true rfl), (Nat.le_of_ble_eq_true rfl)⟩ dX1_init_26 (fun q4 => ?_)
  refine z_dup E dX1_init_29 rfl ?_
  refine z_initf E (rIN E hX (c_X2_init g q4) mw_X2_init mi_X2_init mn_X1_17 dX1_init_30 (Nat.le_of_ble_eq_true rfl) ⟨(Nat.le_of_ble_eq_true rfl), (Nat.le_of_ble_eq_true rfl)⟩ rfl rfl (Nat.le_of_ble_eq_true rfl)) (fun w2 hw => ?_)
  obtain ⟨h5, rfl⟩ := hw
  refine z_aast (ws' := wPres g q4 h5 z0 ++ (wPres g q2 h3 z0 ++ ([(q1, .inl (g.2.2 3, 10, .inr (.inr (.inr (.inr (va_up (va_up (fun _ => none) 0 (some q2)) 1 (some q4)))))))] ++ ([(a, .inr (1, [.ref q1, .int (nI 0), .int (nI 0)]))])))) E dX1_init_33 4 0 rfl rfl (by decide) (by decide) rfl ?_
  refine z_iincN (lv' := [(0, .ref a), (1, .int (nI 2))]) E dX1_init_34 1 rfl (by decide) rfl ?_
  refine z_goto E dX1_init_37 15 (by decide) ?_
  refine z_iload_n E dX1_init_15 1 rfl rfl ?_
  refine z_bipush (v := (nI 10)) E dX1_init_16 (by decide) ?_
  refine z_icmpN_ge E dX1_init_18 40 (by decide) (by decide) (by decide) (fun h => absurd h (by decide)) (fun _ => ?_)
  refine z_aload_n E dX1_init_21 0 rfl rfl ?_
  refine gt_X1_11 (v := .ref q1) E dX1_init_22 5 rfl rfl ?_
  refine z_iload_n E dX1_init_25 1 rfl rfl ?_
  refine z_newO (ci := 2) (fs := [.int (nI 0), .int (nI 0), .int (nI 0), .int (nI 0), .int (nI 0), .null]) E hX tyX2 rfl inA2 tyX2_ok kl_X1_9 il_X2 ini_X2 (fun j hj => by rcases (show j = 0 ∨ j = 1 ∨ j = 2 ∨ j = 3 ∨ j = 4 ∨ j = 5 by omega) with rfl | rfl | rfl | rfl | rfl | rfl <;> rfl) ⟨(Nat.le_of_ble_eq_true rfl), (Nat.le_of_ble_eq_true rfl)⟩ dX1_init_26 (fun q6 => ?_)
  refine z_dup E dX1_init_29 rfl ?_
  refine z_initf E (rIN E hX (c_X2_init g q6) mw_X2_init mi_X2_init mn_X1_17 dX1_init_30 (Nat.le_of_ble_eq_true rfl) ⟨(Nat.le_of_ble_eq_true rfl), (Nat.le_of_ble_eq_true rfl)⟩ rfl rfl (Nat.le_of_ble_eq_true rfl)) (fun w2 hw => ?_)
  obtain ⟨h7, rfl⟩ := hw
  refine z_aast (ws' := wPres g q6 h7 z0 ++ (wPres g q4 h5 z0 ++ (wPres g q2 h3 z0 ++ ([(q1, .inl (g.2.2 3, 10, .inr (.inr (.inr (.inr (va_up (va_up (va_up (fun _ => none) 0 (some q2)) 1 (some q4)) 2 (some q6)))))))] ++ ([(a, .inr (1, [.ref q1, .int (nI 0), .int (nI 0)]))]))))) E dX1_init_33 6 0 rfl rfl (by decide) (by decide) rfl ?_
  refine z_iincN (lv' := [(0, .ref a), (1, .int (nI 3))]) E dX1_init_34 1 rfl (by decide) rfl ?_
  refine z_goto E dX1_init_37 15 (by decide) ?_
  refine z_iload_n E dX1_init_15 1 rfl rfl ?_
  refine z_bipush (v := (nI 10)) E dX1_init_16 (by decide) ?_
  refine z_icmpN_ge E dX1_init_18 40 (by decide) (by decide) (by decide) (fun h => absurd h (by decide)) (fun _ => ?_)
  refine z_aload_n E dX1_init_21 0 rfl rfl ?_
  refine gt_X1_11 (v := .ref q1) E dX1_init_22 7 rfl rfl ?_
  refine z_iload_n E dX1_init_25 1 rfl rfl ?_
  refine z_newO (ci := 2) (fs := [.int (nI 0), .int (nI 0), .int (nI 0), .int (nI 0), .int (nI 0), .null]) E hX tyX2 rfl inA2 tyX2_ok kl_X1_9 il_X2 ini_X2 (fun j hj => by rcases (show j = 0 ∨ j = 1 ∨ j = 2 ∨ j = 3 ∨ j = 4 ∨ j = 5 by omega) with rfl | rfl | rfl | rfl | rfl | rfl <;> rfl) ⟨(Nat.le_of_ble_eq_true rfl), (Nat.le_of_ble_eq_true rfl)⟩ dX1_init_26 (fun q8 => ?_)
  refine z_dup E dX1_init_29 rfl ?_
  refine z_initf E (rIN E hX (c_X2_init g q8) mw_X2_init mi_X2_init mn_X1_17 dX1_init_30 (Nat.le_of_ble_eq_true rfl) ⟨(Nat.le_of_ble_eq_true rfl), (Nat.le_of_ble_eq_true rfl)⟩ rfl rfl (Nat.le_of_ble_eq_true rfl)) (fun w2 hw => ?_)
  obtain ⟨h9, rfl⟩ := hw
  refine z_aast (ws' := wPres g q8 h9 z0 ++ (wPres g q6 h7 z0 ++ (wPres g q4 h5 z0 ++ (wPres g q2 h3 z0 ++ ([(q1, .inl (g.2.2 3, 10, .inr (.inr (.inr (.inr (va_up (va_up (va_up (va_up (fun _ => none) 0 (some q2)) 1 (some q4)) 2 (some q6)) 3 (some q8)))))))] ++ ([(a, .inr (1, [.ref q1, .int (nI 0), .int (nI 0)]))])))))) E dX1_init_33 8 0 rfl rfl (by decide) (by decide) rfl ?_
  refine z_iincN (lv' := [(0, .ref a), (1, .int (nI 4))]) E dX1_init_34 1 rfl (by decide) rfl ?_
  refine z_goto E dX1_init_37 15 (by decide) ?_
  refine z_iload_n E dX1_init_15 1 rfl rfl ?_
  refine z_bipush (v := (nI 10)) E dX1_init_16 (by decide) ?_
  refine z_icmpN_ge E dX1_init_18 40 (by decide) (by decide) (by decide) (fun h => absurd h (by decide)) (fun _ => ?_)
  refine z_aload_n E dX1_init_21 0 rfl rfl ?_
  refine gt_X1_11 (v := .ref q1) E dX1_init_22 9 rfl rfl ?_
  refine z_iload_n E dX1_init_25 1 rfl rfl ?_
  refine z_newO (ci := 2) (fs := [.int (nI 0), .int (nI 0), .int (nI 0), .int (nI 0), .int (nI 0), .null]) E hX tyX2 rfl inA2 tyX2_ok kl_X1_9 il_X2 ini_X2 (fun j hj => by rcases (show j = 0 ∨ j = 1 ∨ j = 2 ∨ j = 3 ∨ j = 4 ∨ j = 5 by omega) with rfl | rfl | rfl | rfl | rfl | rfl <;> rfl) ⟨(Nat.le_of_ble_eq_true rfl), (Nat.le_of_ble_eq_true rfl)⟩ dX1_init_26 (fun q10 => ?_)
  refine z_dup E dX1_init_29 rfl ?_
  refine z_initf E (rIN E hX (c_X2_init g q10) mw_X2_init mi_X2_init mn_X1_17 dX1_init_30 (Nat.le_of_ble_eq_true rfl) ⟨(Nat.le_of_ble_eq_true rfl), (Nat.le_of_ble_eq_true rfl)⟩ rfl rfl (Nat.le_of_ble_eq_true rfl)) (fun w2 hw => ?_)
  obtain ⟨h11, rfl⟩ := hw
  refine z_aast (ws' := wPres g q10 h11 z0 ++ (wPres g q8 h9 z0 ++ (wPres g q6 h7 z0 ++ (wPres g q4 h5 z0 ++ (wPres g q2 h3 z0 ++ ([(q1, .inl (g.2.2 3, 10, .inr (.inr (.inr (.inr (va_up (va_up (va_up (va_up (va_up (fun _ => none) 0 (some q2)) 1 (some q4)) 2 (some q6)) 3 (some q8)) 4 (some q10)))))))] ++ ([(a, .inr (1, [.ref q1, .int (nI 0), .int (nI 0)]))]))))))) E dX1_init_33 10 0 rfl rfl (by decide) (by decide) rfl ?_
  refine z_iincN (lv' := [(0, .ref a), (1, .int (nI 5))]) E dX1_init_34 1 rfl (by decide) rfl ?_
  refine z_goto E dX1_init_37 15 (by decide) ?_
  refine z_iload_n E dX1_init_15 1 rfl rfl ?_
  refine z_bipush (v := (nI 10)) E dX1_init_16 (by decide) ?_
  refine z_icmpN_ge E dX1_init_18 40 (by decide) (by decide) (by decide) (fun h => absurd h (by decide)) (fun _ => ?_)
  refine z_aload_n E dX1_init_21 0 rfl rfl ?_
  refine gt_X1_11 (v := .ref q1) E dX1_init_22 11 rfl rfl ?_
  refine z_iload_n E dX1_init_25 1 rfl rfl ?_
  refine z_newO (ci := 2) (fs := [.int (nI 0), .int (nI 0), .int (nI 0), .int (nI 0), .int (nI 0), .null]) E hX tyX2 rfl inA2 tyX2_ok kl_X1_9 il_X2 ini_X2 (fun j hj => by rcases (show j = 0 ∨ j = 1 ∨ j = 2 ∨ j = 3 ∨ j = 4 ∨ j = 5 by omega) with rfl | rfl | rfl | rfl | rfl | rfl <;> rfl) ⟨(Nat.le_of_ble_eq_true rfl), (Nat.le_of_ble_eq_true rfl)⟩ dX1_init_26 (fun q12 => ?_)
  refine z_dup E dX1_init_29 rfl ?_
  refine z_initf E (rIN E hX (c_X2_init g q12) mw_X2_init mi_X2_init mn_X1_17 dX1_init_30 (Nat.le_of_ble_eq_true rfl) ⟨(Nat.le_of_ble_eq_true rfl), (Nat.le_of_ble_eq_true rfl)⟩ rfl rfl (Nat.le_of_ble_eq_true rfl)) (fun w2 hw => ?_)
  obtain ⟨h13, rfl⟩ := hw
  refine z_aast (ws' := wPres g q12 h13 z0 ++ (wPres g q10 h11 z0 ++ (wPres g q8 h9 z0 ++ (wPres g q6 h7 z0 ++ (wPres g q4 h5 z0 ++ (wPres g q2 h3 z0 ++ ([(q1, .inl (g.2.2 3, 10, .inr (.inr (.inr (.inr (va_up (va_up (va_up (va_up (va_up (va_up (fun _ => none) 0 (some q2)) 1 (some q4)) 2 (some q6)) 3 (some q8)) 4 (some q10)) 5 (some q12)))))))] ++ ([(a, .inr (1, [.ref q1, .int (nI 0), .int (nI 0)]))])))))))) E dX1_init_33 12 0 rfl rfl (by decide) (by decide) rfl ?_
  refine z_iincN (lv' := [(0, .ref a), (1, .int (nI 6))]) E dX1_init_34 1 rfl (by decide) rfl ?_
  refine z_goto E dX1_init_37 15 (by decide) ?_
  refine z_iload_n E dX1_init_15 1 rfl rfl ?_
  refine z_bipush (v := (nI 10)) E dX1_init_16 (by decide) ?_
  refine z_icmpN_ge E dX1_init_18 40 (by decide) (by decide) (by decide) (fun h => absurd h (by decide)) (fun _ => ?_)
  refine z_aload_n E dX1_init_21 0 rfl rfl ?_
  refine gt_X1_11 (v := .ref q1) E dX1_init_22 13 rfl rfl ?_
  refine z_iload_n E dX1_init_25 1 rfl rfl ?_
  refine z_newO (ci := 2) (fs := [.int (nI 0), .int (nI 0), .int (nI 0), .int (nI 0), .int (nI 0), .null]) E hX tyX2 rfl inA2 tyX2_ok kl_X1_9 il_X2 ini_X2 (fun j hj => by rcases (show j = 0 ∨ j = 1 ∨ j = 2 ∨ j = 3 ∨ j = 4 ∨ j = 5 by omega) with rfl | rfl | rfl | rfl | rfl | rfl <;> rfl) ⟨(Nat.le_of_ble_eq_true rfl), (Nat.le_of_ble_eq_true rfl)⟩ dX1_init_26 (fun q14 => ?_)
  refine z_dup E dX1_init_29 rfl ?_
  refine z_initf E (rIN E hX (c_X2_init g q14) mw_X2_init mi_X2_init mn_X1_17 dX1_init_30 (Nat.le_of_ble_eq_true rfl) ⟨(Nat.le_of_ble_eq_true rfl), (Nat.le_of_ble_eq_true rfl)⟩ rfl rfl (Nat.le_of_ble_eq_true rfl)) (fun w2 hw => ?_)
  obtain ⟨h15, rfl⟩ := hw
  refine z_aast (ws' := wPres g q14 h15 z0 ++ (wPres g q12 h13 z0 ++ (wPres g q10 h11 z0 ++ (wPres g q8 h9 z0 ++ (wPres g q6 h7 z0 ++ (wPres g q4 h5 z0 ++ (wPres g q2 h3 z0 ++ ([(q1, .inl (g.2.2 3, 10, .inr (.inr (.inr (.inr (va_up (va_up (va_up (va_up (va_up (va_up (va_up (fun _ => none) 0 (some q2)) 1 (some q4)) 2 (some q6)) 3 (some q8)) 4 (some q10)) 5 (some q12)) 6 (some q14)))))))] ++ ([(a, .inr (1, [.ref q1, .int (nI 0), .int (nI 0)]))]))))))))) E dX1_init_33 14 0 rfl rfl (by decide) (by decide) rfl ?_
  refine z_iincN (lv' := [(0, .ref a), (1, .int (nI 7))]) E dX1_init_34 1 rfl (by decide) rfl ?_
  refine z_goto E dX1_init_37 15 (by decide) ?_
  refine z_iload_n E dX1_init_15 1 rfl rfl ?_
  refine z_bipush (v := (nI 10)) E dX1_init_16 (by decide) ?_
  refine z_icmpN_ge E dX1_init_18 40 (by decide) (by decide) (by decide) (fun h => absurd h (by decide)) (fun _ => ?_)
  refine z_aload_n E dX1_init_21 0 rfl rfl ?_
  refine gt_X1_11 (v := .ref q1) E dX1_init_22 15 rfl rfl ?_
  refine z_iload_n E dX1_init_25 1 rfl rfl ?_
  refine z_newO (ci := 2) (fs := [.int (nI 0), .int (nI 0), .int (nI 0), .int (nI 0), .int (nI 0), .null]) E hX tyX2 rfl inA2 tyX2_ok kl_X1_9 il_X2 ini_X2 (fun j hj => by rcases (show j = 0 ∨ j = 1 ∨ j = 2 ∨ j = 3 ∨ j = 4 ∨ j = 5 by omega) with rfl | rfl | rfl | rfl | rfl | rfl <;> rfl) ⟨(Nat.le_of_ble_eq_true rfl), (Nat.le_of_ble_eq_true rfl)⟩ dX1_init_26 (fun q16 => ?_)
  refine z_dup E dX1_init_29 rfl ?_
  refine z_initf E (rIN E hX (c_X2_init g q16) mw_X2_init mi_X2_init mn_X1_17 dX1_init_30 (Nat.le_of_ble_eq_true rfl) ⟨(Nat.le_of_ble_eq_true rfl), (Nat.le_of_ble_eq_true rfl)⟩ rfl rfl (Nat.le_of_ble_eq_true rfl)) (fun w2 hw => ?_)
  obtain ⟨h17, rfl⟩ := hw
  refine z_aast (ws' := wPres g q16 h17 z0 ++ (wPres g q14 h15 z0 ++ (wPres g q12 h13 z0 ++ (wPres g q10 h11 z0 ++ (wPres g q8 h9 z0 ++ (wPres g q6 h7 z0 ++ (wPres g q4 h5 z0 ++ (wPres g q2 h3 z0 ++ ([(q1, .inl (g.2.2 3, 10, .inr (.inr (.inr (.inr (va_up (va_up (va_up (va_up (va_up (va_up (va_up (va_up (fun _ => none) 0 (some q2)) 1 (some q4)) 2 (some q6)) 3 (some q8)) 4 (some q10)) 5 (some q12)) 6 (some q14)) 7 (some q16)))))))] ++ ([(a, .inr (1, [.ref q1, .int (nI 0), .int (nI 0)]))])))))))))) E dX1_init_33 16 0 rfl rfl (by decide) (by decide) rfl ?_
  refine z_iincN (lv' := [(0, .ref a), (1, .int (nI 8))]) E dX1_init_34 1 rfl (by decide) rfl ?_
  refine z_goto E dX1_init_37 15 (by decide) ?_
  refine z_iload_n E dX1_init_15 1 rfl rfl ?_
  refine z_bipush (v := (nI 10)) E dX1_init_16 (by decide) ?_
  refine z_icmpN_ge E dX1_init_18 40 (by decide) (by decide) (by decide) (fun h => absurd h (by decide)) (fun _ => ?_)
  refine z_aload_n E dX1_init_21 0 rfl rfl ?_
  refine gt_X1_11 (v := .ref q1) E dX1_init_22 17 rfl rfl ?_
  refine z_iload_n E dX1_init_25 1 rfl rfl ?_
  refine z_newO (ci := 2) (fs := [.int (nI 0), .int (nI 0), .int (nI 0), .int (nI 0), .int (nI 0), .null]) E hX tyX2 rfl inA2 tyX2_ok kl_X1_9 il_X2 ini_X2 (fun j hj => by rcases (show j = 0 ∨ j = 1 ∨ j = 2 ∨ j = 3 ∨ j = 4 ∨ j = 5 by omega) with rfl | rfl | rfl | rfl | rfl | rfl <;> rfl) ⟨(Nat.le_of_ble_eq_true rfl), (Nat.le_of_ble_eq_true rfl)⟩ dX1_init_26 (fun q18 => ?_)
  refine z_dup E dX1_init_29 rfl ?_
  refine z_initf E (rIN E hX (c_X2_init g q18) mw_X2_init mi_X2_init mn_X1_17 dX1_init_30 (Nat.le_of_ble_eq_true rfl) ⟨(Nat.le_of_ble_eq_true rfl), (Nat.le_of_ble_eq_true rfl)⟩ rfl rfl (Nat.le_of_ble_eq_true rfl)) (fun w2 hw => ?_)
  obtain ⟨h19, rfl⟩ := hw
  refine z_aast (ws' := wPres g q18 h19 z0 ++ (wPres g q16 h17 z0 ++ (wPres g q14 h15 z0 ++ (wPres g q12 h13 z0 ++ (wPres g q10 h11 z0 ++ (wPres g q8 h9 z0 ++ (wPres g q6 h7 z0 ++ (wPres g q4 h5 z0 ++ (wPres g q2 h3 z0 ++ ([(q1, .inl (g.2.2 3, 10, .inr (.inr (.inr (.inr (va_up (va_up (va_up (va_up (va_up (va_up (va_up (va_up (va_up (fun _ => none) 0 (some q2)) 1 (some q4)) 2 (some q6)) 3 (some q8)) 4 (some q10)) 5 (some q12)) 6 (some q14)) 7 (some q16)) 8 (some q18)))))))] ++ ([(a, .inr (1, [.ref q1, .int (nI 0), .int (nI 0)]))]))))))))))) E dX1_init_33 18 0 rfl rfl (by decide) (by decide) rfl ?_
  refine z_iincN (lv' := [(0, .ref a), (1, .int (nI 9))]) E dX1_init_34 1 rfl (by decide) rfl ?_
  refine z_goto E dX1_init_37 15 (by decide) ?_
  refine z_iload_n E dX1_init_15 1 rfl rfl ?_
  refine z_bipush (v := (nI 10)) E dX1_init_16 (by decide) ?_
  refine z_icmpN_ge E dX1_init_18 40 (by decide) (by decide) (by decide) (fun h => absurd h (by decide)) (fun _ => ?_)
  refine z_aload_n E dX1_init_21 0 rfl rfl ?_
  refine gt_X1_11 (v := .ref q1) E dX1_init_22 19 rfl rfl ?_
  refine z_iload_n E dX1_init_25 1 rfl rfl ?_
  refine z_newO (ci := 2) (fs := [.int (nI 0), .int (nI 0), .int (nI 0), .int (nI 0), .int (nI 0), .null]) E hX tyX2 rfl inA2 tyX2_ok kl_X1_9 il_X2 ini_X2 (fun j hj => by rcases (show j = 0 ∨ j = 1 ∨ j = 2 ∨ j = 3 ∨ j = 4 ∨ j = 5 by omega) with rfl | rfl | rfl | rfl | rfl | rfl <;> rfl) ⟨(Nat.le_of_ble_eq_true rfl), (Nat.le_of_ble_eq_true rfl)⟩ dX1_init_26 (fun q20 => ?_)
  refine z_dup E dX1_init_29 rfl ?_
  refine z_initf E (rIN E hX (c_X2_init g q20) mw_X2_init mi_X2_init mn_X1_17 dX1_init_30 (Nat.le_of_ble_eq_true rfl) ⟨(Nat.le_of_ble_eq_true rfl), (Nat.le_of_ble_eq_true rfl)⟩ rfl rfl (Nat.le_of_ble_eq_true rfl)) (fun w2 hw => ?_)
  obtain ⟨h21, rfl⟩ := hw
  refine z_aast (ws' := wPres g q20 h21 z0 ++ (wPres g q18 h19 z0 ++ (wPres g q16 h17 z0 ++ (wPres g q14 h15 z0 ++ (wPres g q12 h13 z0 ++ (wPres g q10 h11 z0 ++ (wPres g q8 h9 z0 ++ (wPres g q6 h7 z0 ++ (wPres g q4 h5 z0 ++ (wPres g q2 h3 z0 ++ ([(q1, .inl (g.2.2 3, 10, .inr (.inr (.inr (.inr (va_up (va_up (va_up (va_up (va_up (va_up (va_up (va_up (va_up (va_up (fun _ => none) 0 (some q2)) 1 (some q4)) 2 (some q6)) 3 (some q8)) 4 (some q10)) 5 (some q12)) 6 (some q14)) 7 (some q16)) 8 (some q18)) 9 (some q20)))))))] ++ ([(a, .inr (1, [.ref q1, .int (nI 0), .int (nI 0)]))])))))))))))) E dX1_init_33 20 0 rfl rfl (by decide) (by decide) rfl ?_
  refine z_iincN (lv' := [(0, .ref a), (1, .int (nI 10))]) E dX1_init_34 1 rfl (by decide) rfl ?_
  refine z_goto E dX1_init_37 15 (by decide) ?_
  refine z_iload_n E dX1_init_15 1 rfl rfl ?_
  refine z_bipush (v := (nI 10)) E dX1_init_16 (by decide) ?_
  refine z_icmpN_ge E dX1_init_18 40 (by decide) (by decide) (by decide) (fun _ => ?_) (fun h => absurd h (by decide))
  refine z_arrQ (f := (va_up (va_up (va_up (va_up (va_up (va_up (va_up (va_up (va_up (va_up (fun _ => none) 0 (some q2)) 1 (some q4)) 2 (some q6)) 3 (some q8)) 4 (some q10)) 5 (some q12)) 6 (some q14)) 7 (some q16)) 8 (some q18)) 9 (some q20))) (f' := (fun i => some ((fun k => if k = 0 then q2 else if k = 1 then q4 else if k = 2 then q6 else if k = 3 then q8 else if k = 4 then q10 else if k = 5 then q12 else if k = 6 then q14 else if k = 7 then q16 else if k = 8 then q18 else q20) i))) (ws' := wPres g q20 h21 z0 ++ (wPres g q18 h19 z0 ++ (wPres g q16 h17 z0 ++ (wPres g q14 h15 z0 ++ (wPres g q12 h13 z0 ++ (wPres g q10 h11 z0 ++ (wPres g q8 h9 z0 ++ (wPres g q6 h7 z0 ++ (wPres g q4 h5 z0 ++ (wPres g q2 h3 z0 ++ ([(q1, .inl (g.2.2 3, 10, .inr (.inr (.inr (.inr (fun i => some ((fun k => if k = 0 then q2 else if k = 1 then q4 else if k = 2 then q6 else if k = 3 then q8 else if k = 4 then q10 else if k = 5 then q12 else if k = 6 then q14 else if k = 7 then q16 else if k = 8 then q18 else q20) i)))))))] ++ ([(a, .inr (1, [.ref q1, .int (nI 0), .int (nI 0)]))])))))))))))) 20 rfl (fun j hj => by rcases (show j = 0 ∨ j = 1 ∨ j = 2 ∨ j = 3 ∨ j = 4 ∨ j = 5 ∨ j = 6 ∨ j = 7 ∨ j = 8 ∨ j = 9 by omega) with rfl | rfl | rfl | rfl | rfl | rfl | rfl | rfl | rfl | rfl <;> rfl) rfl ?_
  refine z_reo (ws2 := wPast g a (fun _ => q1) (fun k => if k = 0 then q2 else if k = 1 then q4 else if k = 2 then q6 else if k = 3 then q8 else if k = 4 then q10 else if k = 5 then q12 else if k = 6 then q14 else if k = 7 then q16 else if k = 8 then q18 else q20) (fun k => if k = 0 then h3 else if k = 1 then h5 else if k = 2 then h7 else if k = 3 then h9 else if k = 4 then h11 else if k = 5 then h13 else if k = 6 then h15 else if k = 7 then h17 else if k = 8 then h19 else h21) (fun _ => z0) z0) (cs := [wPres g q20 h21 z0, wPres g q18 h19 z0, wPres g q16 h17 z0, wPres g q14 h15 z0, wPres g q12 h13 z0, wPres g q10 h11 z0, wPres g q8 h9 z0, wPres g q6 h7 z0, wPres g q4 h5 z0, wPres g q2 h3 z0, [(q1, .inl (g.2.2 3, 10, .inr (.inr (.inr (.inr (fun i => some ((fun k => if k = 0 then q2 else if k = 1 then q4 else if k = 2 then q6 else if k = 3 then q8 else if k = 4 then q10 else if k = 5 then q12 else if k = 6 then q14 else if k = 7 then q16 else if k = 8 then q18 else q20) i)))))))], [(a, .inr (1, [.ref q1, .int (nI 0), .int (nI 0)]))]]) (ds := [[(a, .inr (1, [.ref q1, .int (nI 0), .int (nI 0)]))], [(q1, .inl (g.2.2 3, 10, .inr (.inr (.inr (.inr (fun i => some ((fun k => if k = 0 then q2 else if k = 1 then q4 else if k = 2 then q6 else if k = 3 then q8 else if k = 4 then q10 else if k = 5 then q12 else if k = 6 then q14 else if k = 7 then q16 else if k = 8 then q18 else q20) i)))))))], wPres g q2 h3 z0, wPres g q4 h5 z0, wPres g q6 h7 z0, wPres g q8 h9 z0, wPres g q10 h11 z0, wPres g q12 h13 z0, wPres g q14 h15 z0, wPres g q16 h17 z0, wPres g q18 h19 z0, wPres g q20 h21 z0]) [11, 10, 9, 8, 7, 6, 5, 4, 3, 2, 1, 0] rfl rfl rfl ?_
  refine z_widen (k' := 21) (n' := 190) (Nat.le_of_ble_eq_true rfl) (Nat.le_of_ble_eq_true rfl) ?_
  refine z_vret E Er dX1_init_40 ?_
  exact ⟨rfl, _, _, _, rfl⟩
