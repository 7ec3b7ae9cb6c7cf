theorem oi_inst : Cond.instanceMethod Lib.objectInit ∈ lwA := lwA_mem (tb_1 (List.mem_of_getElem? (i := 18) rfl)) rfl
theorem oi_code : Cond.code Lib.objectInit ⟨#[0xb1]⟩ 1 none ∈ lwA := lwA_mem (tb_1 (List.mem_of_getElem? (i := 19) rfl)) rfl
theorem oi_X6 : Cond.methodLink RX6 1 Lib.objectInit ∈ lwA := lwA_mem (tb_1 (List.mem_of_getElem? (i := 17) rfl)) rfl
theorem oi_X3 : Cond.methodLink RX3 3 Lib.objectInit ∈ lwA := lwA_mem (tb_1 (List.mem_of_getElem? (i := 25) rfl)) rfl
theorem oi_X4 : Cond.methodLink RX4 3 Lib.objectInit ∈ lwA := lwA_mem (tb_1 (List.mem_of_getElem? (i := 60) rfl)) rfl
theorem oi_X2 : Cond.methodLink RX2 3 Lib.objectInit ∈ lwA := lwA_mem (tb_1 (List.mem_of_getElem? (i := 124) rfl)) rfl
theorem oi_X1 : Cond.methodLink RX1 3 Lib.objectInit ∈ lwA := lwA_mem (tb_1 (List.mem_of_getElem? (i := 157) rfl)) rfl
theorem oi_X5 : Cond.methodLink RX5 3 Lib.objectInit ∈ lwA := lwA_mem (tb_1 (List.mem_of_getElem? (i := 176) rfl)) rfl
theorem oi_X0 : Cond.methodLink RX0 3 Lib.objectInit ∈ lwA := lwA_mem (tb_1 (List.mem_of_getElem? (i := 216) rfl)) rfl
theorem oi_X7 : Cond.methodLink RX7 1 Lib.objectInit ∈ lwA := lwA_mem (tb_3 (List.mem_of_getElem? (i := 222) rfl)) rfl
theorem kl_L_7 : Cond.classLink "TurnVoiceLaw" 7 RX6 ∈ lwA := lwA_mem (tb_1 (List.mem_of_getElem? (i := 12) rfl)) rfl
theorem kl_X6_7 : Cond.classLink RX6 7 RX3 ∈ lwA := lwA_mem (tb_1 (List.mem_of_getElem? (i := 20) rfl)) rfl
theorem kl_X6_16 : Cond.classLink RX6 16 RX4 ∈ lwA := lwA_mem (tb_1 (List.mem_of_getElem? (i := 55) rfl)) rfl
theorem kl_X6_26 : Cond.classLink RX6 26 RX2 ∈ lwA := lwA_mem (tb_1 (List.mem_of_getElem? (i := 119) rfl)) rfl
theorem kl_X6_33 : Cond.classLink RX6 33 RX1 ∈ lwA := lwA_mem (tb_1 (List.mem_of_getElem? (i := 152) rfl)) rfl
theorem kl_X1_9 : Cond.classLink RX1 9 RX2 ∈ lwA := lwA_mem (tb_1 (List.mem_of_getElem? (i := 158) rfl)) rfl
theorem kl_X6_40 : Cond.classLink RX6 40 RX5 ∈ lwA := lwA_mem (tb_1 (List.mem_of_getElem? (i := 171) rfl)) rfl
theorem kl_X5_9 : Cond.classLink RX5 9 RX4 ∈ lwA := lwA_mem (tb_1 (List.mem_of_getElem? (i := 177) rfl)) rfl
theorem kl_X6_47 : Cond.classLink RX6 47 RX0 ∈ lwA := lwA_mem (tb_1 (List.mem_of_getElem? (i := 211) rfl)) rfl
theorem kl_L_10 : Cond.classLink "TurnVoiceLaw" 10 RX7 ∈ lwA := lwA_mem (tb_3 (List.mem_of_getElem? (i := 217) rfl)) rfl
theorem il_X6 : Cond.instantiable RX6 15 ∈ lwA := lwA_mem (tb_1 (List.mem_of_getElem? (i := 13) rfl)) rfl
theorem il_X3 : Cond.instantiable RX3 9 ∈ lwA := lwA_mem (tb_1 (List.mem_of_getElem? (i := 21) rfl)) rfl
theorem il_X4 : Cond.instantiable RX4 10 ∈ lwA := lwA_mem (tb_1 (List.mem_of_getElem? (i := 56) rfl)) rfl
theorem il_X2 : Cond.instantiable RX2 6 ∈ lwA := lwA_mem (tb_1 (List.mem_of_getElem? (i := 120) rfl)) rfl
theorem il_X1 : Cond.instantiable RX1 3 ∈ lwA := lwA_mem (tb_1 (List.mem_of_getElem? (i := 153) rfl)) rfl
theorem il_X5 : Cond.instantiable RX5 9 ∈ lwA := lwA_mem (tb_1 (List.mem_of_getElem? (i := 172) rfl)) rfl
theorem il_X0 : Cond.instantiable RX0 4 ∈ lwA := lwA_mem (tb_1 (List.mem_of_getElem? (i := 212) rfl)) rfl
theorem il_X7 : Cond.instantiable RX7 31 ∈ lwA := lwA_mem (tb_3 (List.mem_of_getElem? (i := 218) rfl)) rfl
section ZC
variable {g : GC} {X : XC} {cc : ByteArray} {nL k n pc : Nat} {own : String} {ws : va_W} {lv lv' : List (Nat × Value)} {st : List Value}
theorem z_oinit (E : Ob g X cc nL own) {D0 K0 N0 : Nat} (hX : X.2.2.1 = zR D0 K0 N0) (hD0 : 1 ≤ D0) {ix a : Nat} (hl : Cond.methodLink own ix Lib.objectInit ∈ lwA) (hd : decode cc pc = .ok (.invokespecial ix, 3)) (h8 : (st.map fun v => v.category).sum ≤ 8) (K : Z g X nL k n ws lv st (pc + 3)) : Z g X nL k n ws lv (.ref a :: st) pc :=
  fun H locs ls hP hD hS hlv => W.objInit E.1 E.2.1 E.2.2.2.1 (E.2.2.2.2.1 _ hl) (E.2.2.2.2.1 _ oi_inst) (E.2.2.2.2.1 _ oi_code) rfl (by rw [E.2.2.1]; exact hlv.1) rfl hd (by rw [hX]; exact hD0) (by rw [hX]; show 2 * 0 + (st.map fun v => v.category).sum + 12 ≤ 40 * D0; omega) (K H locs ls hP hD hS hlv)
theorem pm_front (w : va_W) (c : Nat × va_E) : (w ++ [c]).Perm ([c] ++ w) := List.perm_append_comm
theorem z_newA (E : Ob g X cc nL own) {D0 K0 N0 : Nat} (hX : X.2.2.1 = zR D0 K0 N0) {atype : ArrayType} {ty : FieldType} (hty : newarray.typeOf atype = ty) (harr : Cond.arrayClass (newarray.typeOf atype) ∈ lwA) {t0 : Nat} {cA0 : ClassId} (ht : (zTy g)[t0]? = some (cA0, ty)) (hra : ∀ (s : State) (c1 c2 : ClassId), va_RA s c1 ty → va_RA s c2 ty → c1 = c2) {N : Nat} {f : (Nat → Int32) ⊕ (Nat → Int64) ⊕ (Nat → UInt32) ⊕ (Nat → UInt64) ⊕ (Nat → Option Nat)} (ha : ∀ cA : ClassId, vp_cell cA (N, f) = arrV cA N (fun _ => defaultValue ty)) (hb : N * componentBytes ty ≤ 536870912) (hN : N < 2 ^ 31) (hk : k + 1 ≤ K0 ∧ n + N ≤ N0) (hd : decode cc pc = .ok (.newarray atype, 2)) (K : ∀ q, Z g X nL (k + 1) (n + N) ([(q, .inl (cA0, N, f))] ++ ws) lv (.ref q :: st) (pc + 2)) : Z g X nL k n ws lv (.int (nI N) :: st) pc :=
  fun H locs ls hP hD hS hl => va_newa (a0 := (N, f)) (N' := N) E.1 E.2.1 (E.2.2.2.2.1 _ harr) hty E.2.2.2.2.2.1.1 hP hD hS E.2.2.2.2.2.2 ha (nI_pos hN) (nI_clamp hN) hb (by rw [hX]; exact hk.1) (by rw [hX]; exact hk.2) hd (fun q cA H1 hK1 h1 h2 h3 => by
    have e1 := (hK1.2 (zTy g).length (cA, ty) (by simp)).2
    have e2 := (E.2.2.2.2.2.1.1.2 t0 _ ht).2
    have e : cA = cA0 := hra _ _ _ e1 e2
    subst e
    exact z_pm (pm_front ws _) (K q) H1 locs ls h1 h2 h3 hl)
theorem z_newI (E : Ob g X cc nL own) {D0 K0 N0 : Nat} (hX : X.2.2.1 = zR D0 K0 N0) {N : Nat} (hb : N * 4 ≤ 536870912) (hk : k + 1 ≤ K0 ∧ n + N ≤ N0) (hd : decode cc pc = .ok (.newarray .int, 2)) (K : ∀ q, Z g X nL (k + 1) (n + N) ([(q, .inl (g.2.2 0, N, .inl (fun _ => nI 0)))] ++ ws) lv (.ref q :: st) (pc + 2)) : Z g X nL k n ws lv (.int (nI N) :: st) pc :=
  z_newA (atype := .int) (ty := .int) E hX rfl ac_int (t0 := 0) rfl (fun s c1 c2 h1 h2 => Option.some.inj (h1.symm.trans h2)) (fun cA => rfl) hb (by omega) hk hd K
theorem z_newZ (E : Ob g X cc nL own) {D0 K0 N0 : Nat} (hX : X.2.2.1 = zR D0 K0 N0) {N : Nat} (hb : N * 1 ≤ 536870912) (hk : k + 1 ≤ K0 ∧ n + N ≤ N0) (hd : decode cc pc = .ok (.newarray .boolean, 2)) (K : ∀ q, Z g X nL (k + 1) (n + N) ([(q, .inl (g.2.2 2, N, .inl (fun _ => nI 0)))] ++ ws) lv (.ref q :: st) (pc + 2)) : Z g X nL k n ws lv (.int (nI N) :: st) pc :=
  z_newA (atype := .boolean) (ty := .boolean) E hX rfl ac_boolean (t0 := 2) rfl (fun s c1 c2 h1 h2 => Option.some.inj (h1.symm.trans h2)) (fun cA => rfl) hb (by omega) hk hd K
theorem z_newJ (E : Ob g X cc nL own) {D0 K0 N0 : Nat} (hX : X.2.2.1 = zR D0 K0 N0) {N : Nat} (hb : N * 8 ≤ 536870912) (hk : k + 1 ≤ K0 ∧ n + N ≤ N0) (hd : decode cc pc = .ok (.newarray .long, 2)) (K : ∀ q, Z g X nL (k + 1) (n + N) ([(q, .inl (g.2.2 1, N, .inr (.inl (fun _ => lN 0))))] ++ ws) lv (.ref q :: st) (pc + 2)) : Z g X nL k n ws lv (.int (nI N) :: st) pc :=
  z_newA (atype := .long) (ty := .long) E hX rfl ac_long (t0 := 1) rfl (fun s c1 c2 h1 h2 => Option.some.inj (h1.symm.trans h2)) (fun cA => rfl) hb (by omega) hk hd K
theorem z_newQ (E : Ob g X cc nL own) {D0 K0 N0 : Nat} (hX : X.2.2.1 = zR D0 K0 N0) {ix N : Nat} (hl : Cond.classLink own ix "TurnVoice$Present" ∈ lwA) (hb : N * 4 ≤ 536870912) (hk : k + 1 ≤ K0 ∧ n + N ≤ N0) (hd : decode cc pc = .ok (.anewarray ix, 3)) (K : ∀ q, Z g X nL (k + 1) (n + N) ([(q, .inl (g.2.2 3, N, .inr (.inr (.inr (.inr (fun _ => none))))))] ++ ws) lv (.ref q :: st) (pc + 3)) : Z g X nL k n ws lv (.int (nI N) :: st) pc :=
  fun H locs ls hP hD hS hlv => va_newq (N' := N) E.1 E.2.1 E.2.2.2.1 (E.2.2.2.2.1 _ hl) E.2.2.2.2.2.1.2.2 E.2.2.2.2.2.1.1 hP hD hS E.2.2.2.2.2.2 (nI_pos (by omega)) (nI_clamp (by omega)) hb (by rw [hX]; exact hk.1) (by rw [hX]; exact hk.2) hd (fun q cA H1 hK1 h1 h2 h3 => by
    obtain ⟨-, -, -, -, -, e1⟩ := (hK1.2 (zTy g).length (cA, .object "TurnVoice$Present") (by simp)).2
    obtain ⟨-, -, -, -, -, e2⟩ := (E.2.2.2.2.2.1.1.2 3 (g.2.2 3, .object "TurnVoice$Present") rfl).2
    have e : cA = g.2.2 3 := Option.some.inj (e1.symm.trans e2)
    subst e
    exact z_pm (pm_front ws _) (K q) H1 locs ls h1 h2 h3 hlv)
theorem z_newO (E : Ob g X cc nL own) {D0 K0 N0 : Nat} (hX : X.2.2.1 = zR D0 K0 N0) {ix ci N : Nat} {C : String} {T : u_T} (ty : Nat → FieldType) (hc : zCl[ci]? = some (C, T, N)) (hin : ∀ w ∈ u_ws C T N, w ∈ lwA) (hty : ∀ k, k < N → parseFieldDescriptor (T k).2.2.1 = some (ty k)) (hcl : Cond.classLink own ix C ∈ lwA) (hinst : Cond.instantiable C N ∈ lwA) (hini : Cond.initialized C ∈ lwA) {fs : List Value} (hfs : ∀ j, j < N → defaultValue (ty j) = vp_V fs j) (hk : k + 1 ≤ K0 ∧ n + N ≤ N0) (hd : decode cc pc = .ok (.new ix, 3)) (K : ∀ q, Z g X nL (k + 1) (n + N) ([(q, .inr (ci, fs))] ++ ws) lv (.ref q :: st) (pc + 3)) : Z g X nL k n ws lv st pc :=
  fun H locs ls hP hD hS hlv => va_new (ci := ci) (fs := fs) E.1 E.2.1 E.2.2.2.2.1 hin ty hty E.2.2.2.1 (E.2.2.2.2.1 _ hcl) (E.2.2.2.2.1 _ hinst) (E.2.2.2.2.1 _ hini) E.2.2.2.2.2.1.1 hP hD hS E.2.2.2.2.2.2 hc hfs (by rw [hX]; exact hk.1) (by rw [hX]; exact hk.2) hd (fun q H1 h1 h2 h3 => z_pm (pm_front ws _) (K q) H1 locs ls h1 h2 h3 hlv)
theorem z_putF (E : Ob g X cc nL own) {ix ci N : Nat} {T : u_T} (ty : Nat → FieldType) (hc : zCl[ci]? = some (own, T, N)) (hin : ∀ w ∈ u_ws own T N, w ∈ lwA) (hty : ∀ k, k < N → parseFieldDescriptor (T k).2.2.1 = some (ty k)) (hnm : ∀ a, a < N → ∀ b, b < N → a ≠ b → (T a).2.1 ≠ (T b).2.1) (f : Nat) (hf : f < N) (hr : (T f).1 = own) (hl : Cond.fieldLink own ix own (T f).2.1 (T f).2.2.1 ∈ lwA) (hfin : (T f).2.2.2 = true) (hm : X.2.2.2.2.2.2.2.1.name = "<init>")
    (hd : decode cc pc = .ok (.putfield ix, 3)) (q : Nat) {a : Nat} {fs : List Value} (he : ws[q]? = some (a, .inr (ci, fs))) (hfl : f < fs.length) {v : Value} (hn : narrow (ty f) v = v) (hfit : fits (ty f) v = true) {ws' : va_W} (hws : ws.set q (a, .inr (ci, fs.set f v)) = ws') (K : Z g X nL k n ws' lv st (pc + 3)) : Z g X nL k n ws lv (v :: .ref a :: st) pc :=
  fun H locs ls hP hD hS hl' => va_putF (D := g.2.1) (ci := ci) E.1 E.2.1 E.2.2.2.2.1 hin ty hty hnm E.2.2.2.1 E.2.2.2.2.2.1.1 hP hD hS q he hc f hf (E.2.2.2.2.1 _ hl) (fun _ h9 => by rw [hr] at h9; exact h9) hfin hm hr (hty f hf) hn hfit hfl hd (fun H1 locs1 h1 h2 h3 => K H1 locs1 ls (hws ▸ h1) (hws ▸ h2) h3 hl')
theorem z_aast (E : Ob g X cc nL own) (hd : decode cc pc = .ok (.aastore, 1)) (q qk : Nat) {a N v : Nat} {vs : List Value} {f : Nat → Option Nat} (he : ws[q]? = some (a, .inl (g.2.2 3, N, .inr (.inr (.inr (.inr f)))))) (hv : ws[qk]? = some (v, .inr (2, vs))) {i : Nat} (hi : i < N) (hN : N < 2 ^ 31) {ws' : va_W} (hws : ws.set q (a, .inl (g.2.2 3, N, .inr (.inr (.inr (.inr (va_up f i (some v))))))) = ws') (K : Z g X nL k n ws' lv st (pc + 1)) : Z g X nL k n ws lv (.ref v :: .int (nI i) :: .ref a :: st) pc :=
  fun H locs ls hP hD hS hl => va_astq (r := (RX2, TX2, 6)) E.1 E.2.1 E.2.2.2.2.2.1.1 hP hD hS q 3 qk 2 he rfl hv rfl (vp_in_nI hi hN) hd (fun H1 locs1 h1 h2 h3 => by
    rw [nI_clamp (by omega)] at h1 h2
    exact K H1 locs1 ls (hws ▸ h1) (hws ▸ h2) h3 hl)
/-- a constructor's call: the new object is the world's first cell -/
theorem z_initc (E : Ob g X cc nL own) {mc ms : Nat} {cb : Nat × va_E} {P : va_W → Prop} {av rest st0 : List Value} (run : Run g X nL k n mc ms lv st0 rest pc av [cb] (QV P)) (K : ∀ w2, P w2 → Z g X nL (k + mc) (n + ms) (ws ++ w2) lv rest (pc + 3)) : Z g X nL k n ([cb] ++ ws) lv st0 pc := by
  refine z_core E [0] ((List.range ws.length).map (· + 1)) rfl (wr := ws) ?_ rfl ?_ ?_ run ?_
  · rw [List.map_map, ← rng_map ws]
    apply List.map_congr_left
    intro i _
    rfl
  · refine va_nd_of _ ?_
    exact List.Pairwise.map (R := (· ≠ ·)) (· + 1) (fun a b h => by omega) List.nodup_range
  · intro i hi
    obtain ⟨j, -, rfl⟩ := List.mem_map.mp hi
    simp
  · intro v w2 hq
    obtain ⟨rfl, hp⟩ := hq
    exact K w2 hp
theorem z_initf (E : Ob g X cc nL own) {mc ms : Nat} {cb : Nat × va_E} {P : va_W → Prop} {av rest st0 : List Value} (run : Run g X nL k n mc ms lv st0 rest pc av [cb] (QV P)) (K : ∀ w2, P w2 → Z g X nL (k + mc) (n + ms) (w2 ++ ws) lv rest (pc + 3)) : Z g X nL k n ([cb] ++ ws) lv st0 pc :=
  z_initc E run (fun w2 hp => z_pm List.perm_append_comm (K w2 hp))
theorem z_drop {w : va_W} (K : Z g X nL k n ws lv st pc) : Z g X nL k n (w ++ ws) lv st pc := fun H locs ls hP hD hS hl => K H locs ls (fun j q hq => hP (w.length + j) q (by rw [List.getElem?_append_right (by omega), Nat.add_sub_cancel_left]; exact hq)) ⟨fun i j x y hx hy hxy => by
    have := hD.1 (w.length + i) (w.length + j) x y (by rw [List.getElem?_append_right (by omega), Nat.add_sub_cancel_left]; exact hx) (by rw [List.getElem?_append_right (by omega), Nat.add_sub_cancel_left]; exact hy) hxy
    omega, fun i x hx => hD.2 (w.length + i) x (by rw [List.getElem?_append_right (by omega), Nat.add_sub_cancel_left]; exact hx)⟩ hS hl
end ZC
