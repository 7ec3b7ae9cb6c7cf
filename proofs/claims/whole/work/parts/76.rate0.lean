/-! what the class's two static rows hold, and contracts that ask for it -/
def stA (j : Nat) : Value := .int ([(-9 : Int32), 0, 0, 1, 2, 0].getD j 0)
def stM (j : Nat) : Value := .int ([(1 : Int32), 10, 100, 1000, 10000, 100000].getD j 0)
def zT (A : Nat → Prop) (U : State) (H : Heap) : Prop := ∃ t1 t2 : Nat, va_Z "TurnVoice" "ABOVE" "[I" (.ref t1) A U H ∧ va_T .int t1 6 stA A U H ∧ va_Z "TurnVoice" "TRACE_MARK" "[I" (.ref t2) A U H ∧ va_T .int t2 6 stM A U H
theorem zT.carry {A B : Nat → Prop} {s U : State} {H : Heap} {locs : List Loc} (h : zT A s s.heap) (hS : va_S A s.heap H locs) (hU : U.heap = H) (hW : s.WarmedH U.vm) (hAB : ∀ q, B q → A q) : zT B U U.heap := by
  obtain ⟨t1, t2, h1, h2, h3, h4⟩ := h
  rw [hU]
  exact ⟨t1, t2, (va_Z.moved hW.alike (h1.kept hS.2.1)).narrow hAB, (va_T.moved hW.alike (h2.kept hS.2.1)).narrow hAB, (va_Z.moved hW.alike (h3.kept hS.2.1)).narrow hAB, (va_T.moved hW.alike (h4.kept hS.2.1)).narrow hAB⟩
theorem zT.moved {A : Nat → Prop} {u U : State} {H : Heap} (h1 : u.vm = U.vm) (h : zT A u H) : zT A U H := by
  obtain ⟨t1, t2, q1, q2, q3, q4⟩ := h
  have ha : u.vm.Alike U.vm := h1 ▸ Vm.Alike.refl u.vm
  exact ⟨t1, t2, va_Z.moved ha q1, va_T.moved ha q2, va_Z.moved ha q3, va_T.moved ha q4⟩
def CtS (g : GC) (y : MethodName) (cc : ByteArray) (maxL : Nat) (ret : Option FieldType) (d mc ms : Nat) (av : List Value) (w : va_W) (Q : Option Value → va_W → Prop) : Prop :=
  ∀ sz : Nat, Met g.1 y (Cond.code y cc maxL ret :: lwA) (zR d mc ms) (va_Pc av (fun U => U.heap.size = sz ∧ va_P g.2.1 zCl w U.heap ∧ zK g U ∧ va_D (fun _ => True) w ∧ zT (va_A w sz) U U.heap)) (QcZ g (va_A w sz) Q) mc ms (va_A w sz)
theorem CtS.of {g : GC} {y : MethodName} {cc : ByteArray} {maxL d mc ms : Nat} {ret : Option FieldType} {av : List Value} {w : va_W} {Q : Option Value → va_W → Prop} (hy : plainName y.cls = true) (hav : (lg_sl av).length ≤ maxL)
    (walk : ∀ X : XC, Ob g X cc maxL y.cls → Oe g X ret Q mc ms → X.2.2.1 = zR d mc ms → X.2.2.2.1.heap.size = X.2.2.2.1.heap.size → (y.name = X.2.2.2.2.2.2.2.1.name) → zT X.2.2.2.2.2.2.2.2.2.1 X.2.2.2.1 X.2.2.2.1.heap → Z g X maxL 0 0 w (lv_args 0 av) [] 0) : CtS g y cc maxL ret d mc ms av w Q := by
  intro sz
  refine Met.ofW (cc := cc) (maxL := maxL) (ret := ret) hy rfl ?_
  intro p e s m args below meth c s₁ B hml hv
  obtain ⟨rfl, hsz, hP, hK, hD0, hZT⟩ := hv
  subst hsz
  have hts := atoms_spec (ws := Cond.code y cc maxL ret :: lwA) B.pre
  have hown : s.vm.findClass y.cls = some m.cls := findClass_of_methodNamed B.named
  have hl := lv_entry av (n := maxL) hav
  rw [lg_entry_eq]
  exact walk (p, e, zR d mc ms, s, m, av.toArray, below, meth, c, va_A w s.heap.size, MQ below (QcZ g (va_A w s.heap.size) Q) av.toArray s mc ms (va_A w s.heap.size))
    ⟨B.exec, B.bytes, hml, hown, fun x hx => hts x (List.mem_cons_of_mem _ hx), hK, fun q h => Or.inr h⟩ ⟨B.returns, B.notSynchronized, rfl⟩ rfl rfl (name_of_methodNamed B.named B.method).1.symm hZT
    s.heap [] _ hP (hD0.self (sz := s.heap.size)) va_S.rf hl
section ZS
variable {g : GC} {X : XC} {cc : ByteArray} {nL k n pc : Nat} {own : String} {ws : va_W} {lv lv' : List (Nat × Value)} {st : List Value}
theorem z_gets (E : Ob g X cc nL own) {C f d : String} {v : Value} {ix : Nat} (hZ : va_Z C f d v X.2.2.2.2.2.2.2.2.2.1 X.2.2.2.1 X.2.2.2.1.heap) (hl : Cond.fieldLink own ix C f d ∈ lwA) (hd : decode cc pc = .ok (.getstatic ix, 3)) (K : Z g X nL k n ws lv (v :: st) (pc + 3)) : Z g X nL k n ws lv st pc :=
  fun H locs ls hP hD hS hl' => va_gets E.1 E.2.1 hZ hS E.2.2.2.1 (E.2.2.2.2.1 _ hl) (fun _ h => h) hd (K H locs ls hP hD hS hl')
theorem z_tldN (E : Ob g X cc nL own) {t N : Nat} {f : Nat → Value} (hT : va_T .int t N f X.2.2.2.2.2.2.2.2.2.1 X.2.2.2.1 X.2.2.2.1.heap) (hd : decode cc pc = .ok (.iaload, 1)) {i : Nat} (hi : i < N) (hN : N < 2 ^ 31) {v : Int32} (hv : f i = .int v) (K : Z g X nL k n ws lv (.int v :: st) (pc + 1)) : Z g X nL k n ws lv (.int (nI i) :: .ref t :: st) pc :=
  fun H locs ls hP hD hS hl => va_ti E.1 E.2.1 hT hS (vp_in_nI hi hN) (by rw [nI_clamp (by omega)]; exact hv) hd (K H locs ls hP hD hS hl)
/-- a call that runs, where the static rows are as they were -/
def RunS (g : GC) (X : XC) (nL k n mc ms : Nat) (lv : List (Nat × Value)) (st0 rest : List Value) (pc : Nat) (av : List Value) (w : va_W) (Q : Option Value → va_W → Prop) : Prop :=
  ∀ (H : Heap) (locs : List Loc) (ls : Array Slot), va_P g.2.1 zCl w H → va_D (fun _ => True) w → lv_has ls nL lv → va_S X.2.2.2.2.2.2.2.2.2.1 X.2.2.2.1.heap H locs → (∀ q, va_A w H.size q → X.2.2.2.2.2.2.2.2.2.1 q) → va_Run X.1 g.1 X.2.1 X.2.2.1 X.2.2.2.1 X.2.2.2.2.1 X.2.2.2.2.2.1 X.2.2.2.2.2.2.1 X.2.2.2.2.2.2.2.1 X.2.2.2.2.2.2.2.2.1 H locs k n mc ms (F0 X.2.2.2.2.1 pc ls st0) rest (QcZ g (va_A w H.size) Q av.toArray) (va_A w H.size)
theorem zBlS {av : List Value} {w : va_W} {sz : Nat} : FrameBlind (va_Pc av (fun U => U.heap.size = sz ∧ va_P g.2.1 zCl w U.heap ∧ zK g U ∧ va_D (fun _ => True) w ∧ zT (va_A w sz) U U.heap)) := by
  intro a U g' mk q
  obtain ⟨q0, q1, qP, qK, qD, qT⟩ := q
  exact ⟨q0, q1, qP, zK.moved (u := U) (U := U.calling g' mk a) rfl qK, qD, zT.moved (u := U) (U := U.calling g' mk a) rfl qT⟩
theorem rVS (E : Ob g X cc nL own) (hZT : zT X.2.2.2.2.2.2.2.2.2.1 X.2.2.2.1 X.2.2.2.1.heap) {D0 K0 N0 : Nat} (hX : X.2.2.1 = zR D0 K0 N0) {y : MethodName} {bytes : ByteArray} {maxL d mc ms np ix b : Nat} {ret : Option FieldType} {As rest st0 : List Value} {w : va_W} {Q : Option Value → va_W → Prop}
    (hct : CtS g y bytes maxL ret d mc ms (.ref b :: As) w Q) (hm : MWV y bytes maxL ret np) (hl : Cond.methodLink own ix y ∈ lwA) (hdg : decode cc pc = .ok (.invokevirtual ix, 3)) (hd : d + 1 ≤ D0) (hk : k + mc ≤ K0 ∧ n + ms ≤ N0) (hn : As.length = np) (hst : st0 = As.reverse ++ .ref b :: rest) (h8 : (rest.map fun v => v.category).sum ≤ 8)
    (q0 : Nat) {ci : Nat} {fs : List Value} {T : u_T} {N : Nat} (hq0 : w[q0]? = some (b, .inr (ci, fs))) (hci : zCl[ci]? = some (y.cls, T, N)) : RunS g X nL k n mc ms lv st0 rest pc (.ref b :: As) w Q :=
  fun H locs ls hP hDt hl' hS hF => va_runV (C := y.cls) (As := As) (rest := rest) ⟨E.1, E.2.1, E.2.2.1, E.2.2.2.1, E.2.2.2.2.1⟩ (hct H.size) ⟨zB E hX hm.1 hl hd, E.2.2.2.2.1 _ hm.2.1, E.2.2.2.2.1 _ hm.2.2⟩ ⟨zBlS, va_recv E.2.2.2.2.2.1.1 hP hci hq0, fun U hU hW => ⟨rfl, by rw [hU], by rw [hU]; exact hP, E.2.2.2.2.2.1.warm hW, hDt, hZT.carry hS hU hW hF⟩⟩ rfl hn hl'.1 hst (lv_room h8) hdg (by rw [hX]; exact hk)
theorem z_core2S (E : Ob g X cc nL own) {w : va_W} {Q : Option Value → va_W → Prop} {av : List Value} {rest st0 : List Value} (run : RunS g X nL k n 0 0 lv st0 rest pc av w Q) (isC : List Nat) (hC : isC.map (fun i => ws[i]?) = w.map some) (hnC : va_nd isC = true)
    (K : ∀ (v : Option Value) (w2 : va_W), Q v w2 → w2.map Prod.fst = w.map Prod.fst ∧ Z g X nL k n (wput ws isC w2) lv (v.toList ++ rest) (pc + 3)) : Z g X nL k n ws lv st0 pc := by
  obtain ⟨p, e, R, s, m, args, below, meth, c, A, F⟩ := X
  intro H locs ls hP hD hS hl
  dsimp only [RunS] at run hP hD hS ⊢
  have atC : ∀ (j : Nat) (q : Nat × va_E), w[j]? = some q → ∃ i, isC[j]? = some i ∧ ws[i]? = some q := by
    intro j q hq
    have h1 : (isC.map (fun i => ws[i]?))[j]? = some (some q) := by rw [hC, List.getElem?_map, hq]; rfl
    rw [List.getElem?_map] at h1
    cases hi : isC[j]? with
    | none => rw [hi] at h1; cases h1
    | some i => rw [hi] at h1; exact ⟨i, rfl, Option.some.inj h1⟩
  have hPc : va_P g.2.1 zCl w H := by
    intro j q hq
    obtain ⟨i, -, h2⟩ := atC j q hq
    exact hP i q h2
  have hA : ∀ q, s.heap.size ≤ q → A q := E.2.2.2.2.2.2
  have hFc := va_free (wc := w) hD hS hA isC hC
  have hDc : va_D (fun _ => True) w := (hD.sub isC hnC hC).weaken (fun _ _ _ _ => trivial)
  have hlen : isC.length = w.length := by have := congrArg List.length hC; simpa using this
  intro T hT X
  obtain ⟨v, st₀, t, T', L, h0, X', hL, e1, e2, ⟨⟨v', w2, hv, hq, hP1, hK1, hD1⟩, hz, hk⟩, stp⟩ := run H locs ls hPc hDc hl hS hFc T hT X
  cases hv
  rw [h0] at hz hk
  obtain ⟨hfst, K⟩ := K v w2 hq
  have hlen2 : isC.length = w2.length := by rw [hlen]; have := congrArg List.length hfst; simpa using this.symm
  have old : ∀ (i : Nat) (q : Nat × va_E), (wput ws isC w2)[i]? = some q → ∃ q', ws[i]? = some q' ∧ q'.1 = q.1 := by
    intro i q hq
    rcases wput_get isC w2 ws i q hlen2 hnC hq with ⟨j, h1, h2⟩ | ⟨h1, -⟩
    · have h3 : (w2.map Prod.fst)[j]? = some q.1 := by rw [List.getElem?_map, h2]; rfl
      rw [hfst, List.getElem?_map] at h3
      cases hw : w[j]? with
      | none => rw [hw] at h3; cases h3
      | some q' =>
        rw [hw] at h3
        obtain ⟨i', h4, h5⟩ := atC j q' hw
        rw [h1] at h4
        cases h4
        exact ⟨q', h5, Option.some.inj h3⟩
    · exact ⟨q, h1, rfl⟩
  have hD2 : va_D A (wput ws isC w2) := by
    refine ⟨fun i j x y hx hy hxy => ?_, fun i x hx => ?_⟩
    · obtain ⟨x', a1, a2⟩ := old i x hx
      obtain ⟨y', b1, b2⟩ := old j y hy
      exact hD.1 i j x' y' a1 b1 (by rw [a2, b2, hxy])
    · obtain ⟨x', a1, a2⟩ := old i x hx
      rw [← a2]
      exact hD.2 i x' a1
  have hP2 : va_P g.2.1 zCl (wput ws isC w2) T'.heap := by
    intro i q hq
    rcases wput_get isC w2 ws i q hlen2 hnC hq with ⟨j, h1, h2⟩ | ⟨h1, h2⟩
    · rw [e1]
      exact hP1 j q h2
    · have hl1 := (hP i q h1).lt
      refine (hP i q h1).kept ?_
      rw [e1]
      refine hk q.1 hl1 (fun hA1 => ?_)
      rcases hA1 with ⟨j, c1, hj⟩ | hj
      · obtain ⟨i', h4, h5⟩ := atC j (q.1, c1) hj
        have := hD.1 i i' q (q.1, c1) h1 h5 rfl
        subst this
        exact h2 (List.mem_of_getElem? h4)
      · exact absurd hj (Nat.not_le.mpr hl1)
  have hS2 : va_S A s.heap T'.heap (locs ++ L) := ⟨Nat.le_trans hS.1 (by rw [e1]; exact hz), fun q h1 h2 => by rw [e1, hk q (Nat.lt_of_lt_of_le h1 hS.1) (fun z => h2 (hFc q z))]; exact hS.2.1 q h1 h2, fun q hq => by
    rcases List.mem_append.mp hq with h | h
    · exact hS.2.2 q h
    · exact hFc _ (hL q h)⟩
  obtain ⟨t2, a1, b1⟩ := K T'.heap (locs ++ L) ls hP2 hD2 hS2 hl T' rfl X'
  exact ⟨t2, stp t2 a1, b1⟩
theorem z_rwS (E : Ob g X cc nL own) {w w2 ws2 : va_W} {r : Int32} {av rest st0 : List Value} (run : RunS g X nL k n 0 0 lv st0 rest pc av w (DI r w2)) (isC : List Nat) (hC : isC.map (fun i => ws[i]?) = w.map some) (hnC : va_nd isC = true) (hf : w2.map Prod.fst = w.map Prod.fst) (hp : wput ws isC w2 = ws2) (K : Z g X nL k n ws2 lv (.int r :: rest) (pc + 3)) : Z g X nL k n ws lv st0 pc :=
  z_core2S E run isC hC hnC (fun v w3 hq => by
    obtain ⟨rfl, rfl⟩ := hq
    refine ⟨hf, ?_⟩
    rw [hp]
    exact K)
theorem z_rw0S (E : Ob g X cc nL own) {w2 : va_W} {r : Int32} {av rest st0 : List Value} (run : RunS g X nL k n 0 0 lv st0 rest pc av ws (DI r w2)) (hf : w2.map Prod.fst = ws.map Prod.fst) (K : Z g X nL k n w2 lv (.int r :: rest) (pc + 3)) : Z g X nL k n ws lv st0 pc :=
  z_rwS E run (List.range ws.length) (rng_map ws) (va_nd_range _) hf (wput0 ws w2 hf) K
theorem z_core3S (E : Ob g X cc nL own) {w r : va_W} {Q : Option Value → va_W → Prop} {av rest st0 : List Value} (hp : ws.Perm (w ++ r)) (run : RunS g X nL k n 0 0 lv st0 rest pc av w Q)
    (K : ∀ (v : Option Value) (w2 : va_W), Q v w2 → w2.map Prod.fst = w.map Prod.fst ∧ Z g X nL k n (w2 ++ r) lv (v.toList ++ rest) (pc + 3)) : Z g X nL k n ws lv st0 pc :=
  z_pm hp (z_core2S E run (List.range w.length) (rng_app w r) (va_nd_range _) (fun v w2 hq => by
    obtain ⟨h1, h2⟩ := K v w2 hq
    refine ⟨h1, ?_⟩
    have hl : w.length = w2.length := by have := congrArg List.length h1; simpa using this.symm
    have e := wput_mid [] w w2 r hl
    simp only [List.nil_append, List.length_nil, Nat.zero_add, List.map_id'] at e
    rw [e]
    exact h2))
theorem z_fcS (E : Ob g X cc nL own) (is : List Nat) {cs ds rs : List va_W} (hc : tks is cs = (ds, rs)) {Q : Option Value → va_W → Prop} {av rest st0 : List Value} (run : RunS g X nL k n 0 0 lv st0 rest pc av (wj ds) Q)
    (K : ∀ (v : Option Value) (w2 : va_W), Q v w2 → ∃ ds2 cs2 : List va_W, w2 = wj ds2 ∧ tks is cs2 = (ds2, rs) ∧ w2.map Prod.fst = (wj ds).map Prod.fst ∧ Z g X nL k n (wj cs2) lv (v.toList ++ rest) (pc + 3)) : Z g X nL k n (wj cs) lv st0 pc :=
  z_core3S E (tks_wj hc) run (fun v w2 hq => by
    obtain ⟨ds2, cs2, rfl, h2, h3, h4⟩ := K v w2 hq
    exact ⟨h3, z_pm (tks_wj h2).symm h4⟩)
theorem z_frwS (E : Ob g X cc nL own) (is : List Nat) {ws2 : va_W} {cs ds rs ds2 cs2 : List va_W} (h1 : ws = wj cs) (h2 : ws2 = wj cs2) (hc : tks is cs = (ds, rs)) (hc2 : tks is cs2 = (ds2, rs)) (hf : (wj ds2).map Prod.fst = (wj ds).map Prod.fst) {r : Int32} {av rest st0 : List Value} (run : RunS g X nL k n 0 0 lv st0 rest pc av (wj ds) (DI r (wj ds2))) (K : Z g X nL k n ws2 lv (.int r :: rest) (pc + 3)) : Z g X nL k n ws lv st0 pc := by
  subst h1 h2
  exact z_fcS E is hc run (fun v w2 hq => by obtain ⟨rfl, rfl⟩ := hq; exact ⟨ds2, cs2, rfl, hc2, hf, K⟩)
end ZS
theorem kst_288 : Cond.fieldLink RX6 288 "TurnVoice" "TRACE_MARK" "[I" ∈ lwA := lwA_mem (tb_3 (List.mem_of_getElem? (i := 196) rfl)) rfl
theorem kst_291 : Cond.fieldLink RX6 291 "TurnVoice" "ABOVE" "[I" ∈ lwA := lwA_mem (tb_3 (List.mem_of_getElem? (i := 198) rfl)) rfl
theorem sF_twice (W : NS) (k u v : Nat) : sF (sF W k u) k v = sF W k v := by
  refine Prod.ext ?_ rfl
  funext i
  show va_up (va_up W.1 k u) k v i = va_up W.1 k v i
  unfold va_up
  by_cases q : i = k
  · rw [if_pos q, if_pos q]
  · rw [if_neg q, if_neg q, if_neg q]
theorem fs3 {g : GC} {x : Nat} {y : Nat → Nat} {rd a dr p pa vo ch : Nat} {im h q : Nat → Nat} {T P : NS} (W V : NS) : (wTV g x y rd a dr p pa vo ch im V ++ (wTown g a h T ++ (wPres g p q P))).map Prod.fst = (wTV g x y rd a dr p pa vo ch im W ++ (wTown g a h T ++ (wPres g p q P))).map Prod.fst := rfl
theorem sF_none (W : NS) (k : Nat) : sF W k (W.1 k) = W := by
  refine Prod.ext ?_ rfl
  funext i
  show va_up W.1 k (W.1 k) i = W.1 i
  unfold va_up
  by_cases q : i = k
  · rw [if_pos q, q]
  · rw [if_neg q]
