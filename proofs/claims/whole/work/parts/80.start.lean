theorem st_nest {args : Array Value} {s : State} (hts : ∀ w ∈ lw_tbl, w.before args s = true) : ∀ q ∈ zNest, va_Nw (.methodLinkNest q.1 q.2.1 q.2.2.1 q.2.2.2) s := by
  unfold zNest
  exact List.forall_mem_cons.mpr ⟨va_Nw.of rfl (hts _ (tb_1 (List.mem_of_getElem? (i := 121) rfl))), List.forall_mem_cons.mpr ⟨va_Nw.of rfl (hts _ (tb_1 (List.mem_of_getElem? (i := 173) rfl))), List.forall_mem_cons.mpr ⟨va_Nw.of rfl (hts _ (tb_1 (List.mem_of_getElem? (i := 213) rfl))), List.forall_mem_cons.mpr ⟨va_Nw.of rfl (hts _ (tb_1 (List.mem_of_getElem? (i := 22) rfl))), List.forall_mem_cons.mpr ⟨va_Nw.of rfl (hts _ (tb_3 (List.mem_of_getElem? (i := 172) rfl))), List.forall_mem_cons.mpr ⟨va_Nw.of rfl (hts _ (tb_1 (List.mem_of_getElem? (i := 160) rfl))), List.forall_mem_cons.mpr ⟨va_Nw.of rfl (hts _ (tb_2 (List.mem_of_getElem? (i := 157) rfl))), List.forall_mem_cons.mpr ⟨va_Nw.of rfl (hts _ (tb_2 (List.mem_of_getElem? (i := 104) rfl))), List.forall_mem_cons.mpr ⟨va_Nw.of rfl (hts _ (tb_3 (List.mem_of_getElem? (i := 40) rfl))), fun _ h => absurd h List.not_mem_nil⟩⟩⟩⟩⟩⟩⟩⟩⟩

theorem st_arr {args : Array Value} {s : State} {ty : FieldType} (h : (Cond.arrayClass ty).before args s = true) : ∃ cA : ClassId, ArrOfT s cA ty ∧ s.vm.findClass ("[" ++ ty.toString) = some cA := by
  obtain ⟨cA, kA, comp, f1, f2, f3⟩ := Cond.arrayClass_spec h
  exact ⟨cA, fun N z => ⟨(fun k h => by cases h), kA, f2, comp, f3⟩, f1⟩
theorem st_K (l : Launch) {args : Array Value} {s : State} (hts : ∀ w ∈ lw_tbl, w.before args s = true) : ∃ g : GC, g.1 = l ∧ zK g s := by
  have hA : ∀ w ∈ lwA, w.before args s = true := fun w h => hts w (lwA_tbl h)
  obtain ⟨c0, i0, k0⟩ := u_known (C := RX0) (T := TX0) (N := 4) (n := 4) hA inA0 (hA _ il_X0)
  obtain ⟨c1, i1, k1⟩ := u_known (C := RX1) (T := TX1) (N := 3) (n := 3) hA inA1 (hA _ il_X1)
  obtain ⟨c2, i2, k2⟩ := u_known (C := RX2) (T := TX2) (N := 6) (n := 6) hA inA2 (hA _ il_X2)
  obtain ⟨c3, i3, k3⟩ := u_known (C := RX3) (T := TX3) (N := 9) (n := 9) hA inA3 (hA _ il_X3)
  obtain ⟨c4, i4, k4⟩ := u_known (C := RX4) (T := TX4) (N := 10) (n := 10) hA inA4 (hA _ il_X4)
  obtain ⟨c5, i5, k5⟩ := u_known (C := RX5) (T := TX5) (N := 9) (n := 9) hA inA5 (hA _ il_X5)
  obtain ⟨c6, i6, k6⟩ := u_known (C := RX6) (T := TX6) (N := 15) (n := 15) hA inA6 (hA _ il_X6)
  obtain ⟨c7, i7, k7⟩ := u_known (C := RX7) (T := TX7) (N := 31) (n := 31) hA inA7 (hA _ il_X7)
  obtain ⟨a0, p0, r0⟩ := st_arr (hA _ ac_int)
  obtain ⟨a1, p1, r1⟩ := st_arr (hA _ ac_long)
  obtain ⟨a2, p2, r2⟩ := st_arr (hA _ ac_boolean)
  have ho : (Cond.arrayOver (.object "TurnVoice$Present")).before args s = true := hts _ (tb_1 (List.mem_of_getElem? (i := 159) rfl))
  obtain ⟨comp, a3, kA, f1, f2, f3, f4, f5⟩ := Cond.arrayOver_spec ho
  refine ⟨(l, (fun k => [c0, c1, c2, c3, c4, c5, c6, c7].getD k c0, fun k => [i0, i1, i2, i3, i4, i5, i6, i7].getD k i0), fun k => [a0, a1, a2, a3].getD k a0), rfl, ⟨?_, ?_⟩, st_nest hts, va_AO.of ho⟩
  · intro c q hq
    match c, hq with
    | 0, hq => cases hq; exact k0
    | 1, hq => cases hq; exact k1
    | 2, hq => cases hq; exact k2
    | 3, hq => cases hq; exact k3
    | 4, hq => cases hq; exact k4
    | 5, hq => cases hq; exact k5
    | 6, hq => cases hq; exact k6
    | 7, hq => cases hq; exact k7
    | c + 8, hq => simp [zCl] at hq
  · intro k q hq
    match k, hq with
    | 0, hq => cases hq; exact ⟨p0, r0⟩
    | 1, hq => cases hq; exact ⟨p1, r1⟩
    | 2, hq => cases hq; exact ⟨p2, r2⟩
    | 3, hq => cases hq; exact ⟨fun N z => ⟨(fun k h => by cases h), kA, f3, comp, f4⟩, kA, comp, f3, f4, f1, f5⟩
    | k + 4, hq => simp [zTy] at hq

theorem st_T {b : Nat} {s : State} (hts : ∀ w ∈ lw_tbl, w.before #[Value.ref b] s = true) (hgv : (Jvm.Cond.and given_1 narrow_1).before #[Value.ref b] s = true) : zT (fun q : Nat => s.heap.size ≤ q) s s.heap := by
  have hs := flat_of_before _ hgv
  have hA : ∀ a : Nat, a < s.heap.size → ¬ (fun q : Nat => s.heap.size ≤ q) a := fun a h => Nat.not_le.mpr h
  have el1 : ∀ j : Nat, j < 6 → (Term.elem (.static "TurnVoice" "ABOVE" "[I") (.int (Int32.ofNat j))).eval #[Value.ref b] s none [] s = some (stA j) := by
    intro j hj
    rcases (show j = 0 ∨ j = 1 ∨ j = 2 ∨ j = 3 ∨ j = 4 ∨ j = 5 by omega) with rfl | rfl | rfl | rfl | rfl | rfl
    · exact va_eqt (hs (.eq (.elem (.static "TurnVoice" "ABOVE" "[I") (.int 0)) (.int (-9))) (by decide +kernel))
    · exact va_eqt (hs (.eq (.elem (.static "TurnVoice" "ABOVE" "[I") (.int 1)) (.int 0)) (by decide +kernel))
    · exact va_eqt (hs (.eq (.elem (.static "TurnVoice" "ABOVE" "[I") (.int 2)) (.int 0)) (by decide +kernel))
    · exact va_eqt (hs (.eq (.elem (.static "TurnVoice" "ABOVE" "[I") (.int 3)) (.int 1)) (by decide +kernel))
    · exact va_eqt (hs (.eq (.elem (.static "TurnVoice" "ABOVE" "[I") (.int 4)) (.int 2)) (by decide +kernel))
    · exact va_eqt (hs (.eq (.elem (.static "TurnVoice" "ABOVE" "[I") (.int 5)) (.int 0)) (by decide +kernel))
  obtain ⟨t1, e1, T1⟩ := va_Tof (tm := (.static "TurnVoice" "ABOVE" "[I")) (ty := .int) (N := 6) (f := stA) (A := fun q : Nat => s.heap.size ≤ q) (by decide) (hs (.arrayOf (.static "TurnVoice" "ABOVE" "[I") .int) (by decide +kernel)) (va_eqt (hs (.eq (.length (.static "TurnVoice" "ABOVE" "[I")) (.int 6)) (by decide +kernel))) el1 hA
  have el2 : ∀ j : Nat, j < 6 → (Term.elem (.static "TurnVoice" "TRACE_MARK" "[I") (.int (Int32.ofNat j))).eval #[Value.ref b] s none [] s = some (stM j) := by
    intro j hj
    rcases (show j = 0 ∨ j = 1 ∨ j = 2 ∨ j = 3 ∨ j = 4 ∨ j = 5 by omega) with rfl | rfl | rfl | rfl | rfl | rfl
    · exact va_eqt (hs (.eq (.elem (.static "TurnVoice" "TRACE_MARK" "[I") (.int 0)) (.int 1)) (by decide +kernel))
    · exact va_eqt (hs (.eq (.elem (.static "TurnVoice" "TRACE_MARK" "[I") (.int 1)) (.int 10)) (by decide +kernel))
    · exact va_eqt (hs (.eq (.elem (.static "TurnVoice" "TRACE_MARK" "[I") (.int 2)) (.int 100)) (by decide +kernel))
    · exact va_eqt (hs (.eq (.elem (.static "TurnVoice" "TRACE_MARK" "[I") (.int 3)) (.int 1000)) (by decide +kernel))
    · exact va_eqt (hs (.eq (.elem (.static "TurnVoice" "TRACE_MARK" "[I") (.int 4)) (.int 10000)) (by decide +kernel))
    · exact va_eqt (hs (.eq (.elem (.static "TurnVoice" "TRACE_MARK" "[I") (.int 5)) (.int 100000)) (by decide +kernel))
  obtain ⟨t2, e2, T2⟩ := va_Tof (tm := (.static "TurnVoice" "TRACE_MARK" "[I")) (ty := .int) (N := 6) (f := stM) (A := fun q : Nat => s.heap.size ≤ q) (by decide) (hs (.arrayOf (.static "TurnVoice" "TRACE_MARK" "[I") .int) (by decide +kernel)) (va_eqt (hs (.eq (.length (.static "TurnVoice" "TRACE_MARK" "[I")) (.int 6)) (by decide +kernel))) el2 hA
  exact ⟨t1, t2, va_Zref (hts _ (tb_3 (List.mem_of_getElem? (i := 199) rfl))) (hts _ (lwA_tbl ini_X6)) e1 hA, T1, va_Zref (hts _ (tb_3 (List.mem_of_getElem? (i := 197) rfl))) (hts _ (lwA_tbl ini_X6)) e2 hA, T2⟩

theorem st_J {M : NS} (hM : iniM M) : cI z0 (sF z0 3 3) (fstT z0) (fstT z0) (st0 ((fstT z0).1 2)) z0 (fun _ => z0) z0 (sF z0 0 1) z0 z0 ∧ mI z0 (sF z0 3 3) (fstT z0) (st0 ((fstT z0).1 2)) z0 (fun _ => z0) z0 z0 M := by
  have hz : (0 : Nat) < 2 ^ 31 := by decide
  have h4 : (0 : Nat) < 4096 := by decide
  have sm0 : sm z0 := ⟨fun _ => hz, fun _ _ => hz⟩
  have d0 : tdD z0 := ⟨sm0, fun _ => Nat.zero_le 60, fun _ => h4⟩
  have t0 : tdI (fstT z0) := fstT_I d0
  obtain ⟨m1, m2, m3, m4, m5, m6, m7, m8, m9, m10⟩ := hM
  have hno : ∀ {p : Prop} (k : Nat), k < 0 → p := fun k h => absurd h (Nat.not_lt_zero k)
  refine ⟨⟨⟨sm0.F (by decide), fun _ => (by decide : (0 : Nat) < 256), Nat.zero_le 200, h4⟩, t0, ⟨t0.1, fun _ => Nat.zero_le 60, fun _ => h4⟩, pn_st t0 (p := 0) (by decide), ⟨(by decide : (0 : Nat) < 10), Nat.zero_le 10, fun k hk => hno k hk⟩, ⟨sm0, fun _ => Nat.zero_le 1000000, fun _ => Nat.zero_le 1, fun _ => Nat.zero_le 100000⟩, fun _ => h4, ⟨Nat.zero_le 8, Nat.zero_le 5, fun k hk => hno k hk, fun k hk => hno k hk, fun _ => Nat.zero_le 1⟩, ⟨fun h => absurd rfl h, fun h => absurd rfl h⟩⟩, ⟨m3, fun k hk => hno k hk⟩, m1, m2, ⟨m4, fun k hk => hno k hk⟩, ⟨fun i hi => ?_, fun h => absurd rfl h, fun h => absurd rfl h⟩, ⟨m5, fun k hk => hno k hk, m6, fun k hk => hno k hk, m7⟩, m10⟩
  rcases (show i = 0 ∨ i = 1 by omega) with rfl | rfl
  · exact m8
  · exact m9
theorem hasRoom_mono {s : State} {pl : Platform} {r r' : Room} (hf : r'.frames ≤ r.frames) (hl : r'.locals ≤ r.locals) (hc : r'.cells ≤ r.cells) (hs : r'.slots ≤ r.slots) (h : s.hasRoom pl r = true) : s.hasRoom pl r' = true := by
  simp only [State.hasRoom, Bool.and_eq_true, decide_eq_true_eq] at h ⊢
  obtain ⟨⟨⟨⟨h0, h1, h2, h3, h4, h5⟩, h6⟩, h7⟩, h8⟩ := h
  exact ⟨⟨⟨⟨Nat.le_trans (by omega) h0, Nat.le_trans (by omega) h1, Nat.le_trans (by omega) h2, Nat.le_trans (by omega) h3, Nat.le_trans (by omega) h4, h5⟩, Nat.le_trans (by omega) h6⟩, Nat.le_trans (by omega) h7⟩, h8⟩
theorem W_room {p : Program} {l : Launch} {e : Env} {R R' : Room} {s : State} {m : MethodId} {args : Array Value} {below : List Frame} {meth : Method} {c : Code} {H : Heap} {locs : List Loc} {cells slots : Nat} {Q : State → Prop} {g : JFrame} (hf : R'.frames ≤ R.frames) (hl : R'.locals ≤ R.locals) (hc : R'.cells ≤ R.cells) (hs : R'.slots ≤ R.slots) (K : W p l e R' s m args below meth c H locs cells slots Q g) : W p l e R s m args below meth c H locs cells slots Q g :=
  fun T hT X => K T hT { X with room := hasRoom_mono hf hl hc hs X.room }
theorem ap10 (a1 a2 a3 a4 a5 a6 a7 a8 a9 a10 m : va_W) : (a1 ++ (a2 ++ (a3 ++ (a4 ++ (a5 ++ (a6 ++ (a7 ++ (a8 ++ (a9 ++ a10))))))))) ++ m = a1 ++ (a2 ++ (a3 ++ (a4 ++ (a5 ++ (a6 ++ (a7 ++ (a8 ++ (a9 ++ (a10 ++ m))))))))) := by
  simp only [List.append_assoc]
