/-! THE FRAME BY COMPONENTS: a world is a join of component worlds; a callee has some of them -/
def wj : List va_W → va_W
  | [] => []
  | [a] => a
  | a :: b :: l => a ++ wj (b :: l)
theorem wj_flat : ∀ l : List va_W, wj l = l.flatten
  | [] => rfl
  | [a] => by simp [wj]
  | a :: b :: l => by rw [wj, wj_flat (b :: l)]; rfl
def gtv0 : Nat → List va_W → va_W
  | _, [] => []
  | 0, a :: _ => a
  | i + 1, _ :: l => gtv0 i l
def rmv0 : Nat → List va_W → List va_W
  | _, [] => []
  | 0, _ :: l => l
  | i + 1, a :: l => a :: rmv0 i l
theorem gt_rm : ∀ (i : Nat) (l : List va_W), l.flatten.Perm (gtv0 i l ++ (rmv0 i l).flatten)
  | _, [] => by simp [gtv0, rmv0]
  | 0, a :: l => List.Perm.refl _
  | i + 1, a :: l => by
    show (a ++ l.flatten).Perm (gtv0 i l ++ (a ++ (rmv0 i l).flatten))
    exact (List.Perm.append_left a (gt_rm i l)).trans (List.perm_append_comm_assoc _ _ _)
def tks : List Nat → List va_W → List va_W × List va_W
  | [], l => ([], l)
  | i :: is, l => (gtv0 i l :: (tks is (rmv0 i l)).1, (tks is (rmv0 i l)).2)
theorem tks_perm : ∀ (is : List Nat) (l : List va_W), l.flatten.Perm ((tks is l).1.flatten ++ (tks is l).2.flatten)
  | [], l => List.Perm.refl _
  | i :: is, l => by
    show l.flatten.Perm ((gtv0 i l ++ (tks is (rmv0 i l)).1.flatten) ++ (tks is (rmv0 i l)).2.flatten)
    rw [List.append_assoc]
    exact (gt_rm i l).trans (List.Perm.append_left _ (tks_perm is (rmv0 i l)))
theorem tks_wj {is : List Nat} {cs ds rs : List va_W} (h : tks is cs = (ds, rs)) : (wj cs).Perm (wj ds ++ rs.flatten) := by
  have := tks_perm is cs
  rw [h] at this
  rw [wj_flat, wj_flat]
  exact this
theorem D_perm {A : Nat → Prop} {ws ws' : va_W} (hp : ws.Perm ws') (h : va_D A ws) : va_D A ws' := by
  have h1 : (ws.map Prod.fst).Nodup := by
    refine List.pairwise_iff_getElem.mpr (fun i j hi hj hij e => ?_)
    simp only [List.length_map] at hi hj
    simp only [List.getElem_map] at e
    have := h.1 i j ws[i] ws[j] (List.getElem?_eq_getElem hi) (List.getElem?_eq_getElem hj) e
    omega
  have h2 : (ws'.map Prod.fst).Nodup := (hp.map Prod.fst).nodup h1
  have h3 := List.pairwise_iff_getElem.mp h2
  refine ⟨fun i j x y hx hy hxy => ?_, fun i x hx => ?_⟩
  · obtain ⟨hi, ei⟩ := List.getElem?_eq_some_iff.mp hx
    obtain ⟨hj, ej⟩ := List.getElem?_eq_some_iff.mp hy
    rcases Nat.lt_trichotomy i j with q | q | q
    · exact (h3 i j (by simpa using hi) (by simpa using hj) q (by rw [List.getElem_map, List.getElem_map, ei, ej, hxy])).elim
    · exact q
    · exact (h3 j i (by simpa using hj) (by simpa using hi) q (by rw [List.getElem_map, List.getElem_map, ei, ej, hxy])).elim
  · have hm : x ∈ ws := hp.mem_iff.mpr (List.mem_of_getElem? hx)
    obtain ⟨j, hj⟩ := List.getElem?_of_mem hm
    exact h.2 j x hj
theorem wput_mid : ∀ (pre w w2 r : va_W), w.length = w2.length → wput (pre ++ (w ++ r)) ((List.range w.length).map (fun i => pre.length + i)) w2 = pre ++ (w2 ++ r)
  | pre, [], [], r, _ => rfl
  | pre, [], c :: w, r, h => by cases h
  | pre, c :: w, [], r, h => by cases h
  | pre, c :: w, d :: w2, r, h => by
    rw [List.length_cons, List.range_succ_eq_map, List.map_cons, List.map_map]
    unfold wput
    have h1 : (pre ++ (c :: w ++ r)).set (pre.length + 0) d = (pre ++ [d]) ++ (w ++ r) := by simp
    rw [h1]
    have h2 := wput_mid (pre ++ [d]) w w2 r (Nat.succ.inj h)
    have h3 : (List.range w.length).map ((fun i => pre.length + i) ∘ Nat.succ) = (List.range w.length).map (fun i => (pre ++ [d]).length + i) := by
      apply List.map_congr_left
      intro a _
      simp only [Function.comp, List.length_append, List.length_cons, List.length_nil]
      omega
    rw [h3, h2]
    simp
theorem rng_app (w r : va_W) : (List.range w.length).map (fun i => (w ++ r)[i]?) = w.map some := by
  rw [← rng_map w]
  apply List.map_congr_left
  intro i hi
  rw [List.getElem?_append_left (List.mem_range.mp hi)]
section ZF
variable {g : GC} {X : XC} {cc : ByteArray} {nL k n pc : Nat} {own : String} {ws : va_W} {lv lv' : List (Nat × Value)} {st : List Value}
theorem z_pm {ws' : va_W} (hp : ws.Perm ws') (K : Z g X nL k n ws' lv st pc) : Z g X nL k n ws lv st pc := fun H locs ls hP hD hS hl => K H locs ls (fun j q hq => by
  obtain ⟨i, hi⟩ := List.getElem?_of_mem (hp.mem_iff.mpr (List.mem_of_getElem? hq))
  exact hP i q hi) (D_perm hp hD) hS hl
theorem z_core3 (E : Ob g X cc nL own) {w r : va_W} {Q : Option Value → va_W → Prop} {av rest st0 : List Value} (hp : ws.Perm (w ++ r)) (run : Run g X nL k n 0 0 lv st0 rest pc av w Q)
    (K : ∀ (v : Option Value) (w2 : va_W), Q v w2 → w2.map Prod.fst = w.map Prod.fst ∧ Z g X nL k n (w2 ++ r) lv (v.toList ++ rest) (pc + 3)) : Z g X nL k n ws lv st0 pc :=
  z_pm hp (z_core2 E run (List.range w.length) (rng_app w r) (va_nd_range _) (fun v w2 hq => by
    obtain ⟨h1, h2⟩ := K v w2 hq
    refine ⟨h1, ?_⟩
    have hl : w.length = w2.length := by have := congrArg List.length h1; simpa using this.symm
    have e := wput_mid [] w w2 r hl
    simp only [List.nil_append, List.length_nil, Nat.zero_add, List.map_id'] at e
    rw [e]
    exact h2))
theorem z_fc (E : Ob g X cc nL own) (is : List Nat) {cs ds rs : List va_W} (hc : tks is cs = (ds, rs)) {Q : Option Value → va_W → Prop} {av rest st0 : List Value} (run : Run g X nL k n 0 0 lv st0 rest pc av (wj ds) Q)
    (K : ∀ (v : Option Value) (w2 : va_W), Q v w2 → ∃ ds2 cs2 : List va_W, w2 = wj ds2 ∧ tks is cs2 = (ds2, rs) ∧ w2.map Prod.fst = (wj ds).map Prod.fst ∧ Z g X nL k n (wj cs2) lv (v.toList ++ rest) (pc + 3)) : Z g X nL k n (wj cs) lv st0 pc :=
  z_core3 E (tks_wj hc) run (fun v w2 hq => by
    obtain ⟨ds2, cs2, rfl, h2, h3, h4⟩ := K v w2 hq
    exact ⟨h3, z_pm (tks_wj h2).symm h4⟩)
theorem z_fro (E : Ob g X cc nL own) (is : List Nat) {cs ds rs : List va_W} (h1 : ws = wj cs) (hc : tks is cs = (ds, rs)) {r : Int32} {av rest st0 : List Value} (run : Run g X nL k n 0 0 lv st0 rest pc av (wj ds) (DI r (wj ds))) (K : Z g X nL k n ws lv (.int r :: rest) (pc + 3)) : Z g X nL k n ws lv st0 pc := by
  subst h1
  exact z_fc E is hc run (fun v w2 hq => by obtain ⟨rfl, rfl⟩ := hq; exact ⟨ds, cs, rfl, hc, rfl, K⟩)
theorem z_frol (E : Ob g X cc nL own) (is : List Nat) {cs ds rs : List va_W} (h1 : ws = wj cs) (hc : tks is cs = (ds, rs)) {r : Int64} {av rest st0 : List Value} (run : Run g X nL k n 0 0 lv st0 rest pc av (wj ds) (DL r (wj ds))) (K : Z g X nL k n ws lv (.long r :: rest) (pc + 3)) : Z g X nL k n ws lv st0 pc := by
  subst h1
  exact z_fc E is hc run (fun v w2 hq => by obtain ⟨rfl, rfl⟩ := hq; exact ⟨ds, cs, rfl, hc, rfl, K⟩)
theorem z_frw (E : Ob g X cc nL own) (is : List Nat) {ws2 : va_W} {cs ds rs ds2 cs2 : List va_W} (h1 : ws = wj cs) (h2 : ws2 = wj cs2) (hc : tks is cs = (ds, rs)) (hc2 : tks is cs2 = (ds2, rs)) (hf : (wj ds2).map Prod.fst = (wj ds).map Prod.fst) {r : Int32} {av rest st0 : List Value} (run : Run g X nL k n 0 0 lv st0 rest pc av (wj ds) (DI r (wj ds2))) (K : Z g X nL k n ws2 lv (.int r :: rest) (pc + 3)) : Z g X nL k n ws lv st0 pc := by
  subst h1 h2
  exact z_fc E is hc run (fun v w2 hq => by obtain ⟨rfl, rfl⟩ := hq; exact ⟨ds2, cs2, rfl, hc2, hf, K⟩)
theorem z_frwv (E : Ob g X cc nL own) (is : List Nat) {ws2 : va_W} {cs ds rs ds2 cs2 : List va_W} (h1 : ws = wj cs) (h2 : ws2 = wj cs2) (hc : tks is cs = (ds, rs)) (hc2 : tks is cs2 = (ds2, rs)) (hf : (wj ds2).map Prod.fst = (wj ds).map Prod.fst) {av rest st0 : List Value} (run : Run g X nL k n 0 0 lv st0 rest pc av (wj ds) (DV (wj ds2))) (K : Z g X nL k n ws2 lv rest (pc + 3)) : Z g X nL k n ws lv st0 pc := by
  subst h1 h2
  exact z_fc E is hc run (fun v w2 hq => by obtain ⟨rfl, rfl⟩ := hq; exact ⟨ds2, cs2, rfl, hc2, hf, K⟩)
theorem z_fq (E : Ob g X cc nL own) (is : List Nat) {cs ds rs : List va_W} (h1 : ws = wj cs) (hc : tks is cs = (ds, rs)) {P : Int32 → va_W → Prop} {av rest st0 : List Value} (run : Run g X nL k n 0 0 lv st0 rest pc av (wj ds) (QI P)) (K : ∀ (r : Int32) (w2 : va_W), P r w2 → ∃ (ds2 cs2 : List va_W) (ws2 : va_W), w2 = wj ds2 ∧ tks is cs2 = (ds2, rs) ∧ w2.map Prod.fst = (wj ds).map Prod.fst ∧ ws2 = wj cs2 ∧ Z g X nL k n ws2 lv (.int r :: rest) (pc + 3)) : Z g X nL k n ws lv st0 pc := by
  subst h1
  exact z_fc E is hc run (fun v w2 hq => by
    obtain ⟨r, rfl, h⟩ := hq
    obtain ⟨ds2, cs2, ws2, a1, a2, a3, rfl, a5⟩ := K r w2 h
    exact ⟨ds2, cs2, a1, a2, a3, a5⟩)
theorem z_fql (E : Ob g X cc nL own) (is : List Nat) {cs ds rs : List va_W} (h1 : ws = wj cs) (hc : tks is cs = (ds, rs)) {P : Int64 → va_W → Prop} {av rest st0 : List Value} (run : Run g X nL k n 0 0 lv st0 rest pc av (wj ds) (QL P)) (K : ∀ (r : Int64) (w2 : va_W), P r w2 → ∃ (ds2 cs2 : List va_W) (ws2 : va_W), w2 = wj ds2 ∧ tks is cs2 = (ds2, rs) ∧ w2.map Prod.fst = (wj ds).map Prod.fst ∧ ws2 = wj cs2 ∧ Z g X nL k n ws2 lv (.long r :: rest) (pc + 3)) : Z g X nL k n ws lv st0 pc := by
  subst h1
  exact z_fc E is hc run (fun v w2 hq => by
    obtain ⟨r, rfl, h⟩ := hq
    obtain ⟨ds2, cs2, ws2, a1, a2, a3, rfl, a5⟩ := K r w2 h
    exact ⟨ds2, cs2, a1, a2, a3, a5⟩)
theorem z_fqv (E : Ob g X cc nL own) (is : List Nat) {cs ds rs : List va_W} (h1 : ws = wj cs) (hc : tks is cs = (ds, rs)) {P : va_W → Prop} {av rest st0 : List Value} (run : Run g X nL k n 0 0 lv st0 rest pc av (wj ds) (QV P)) (K : ∀ (w2 : va_W), P w2 → ∃ (ds2 cs2 : List va_W) (ws2 : va_W), w2 = wj ds2 ∧ tks is cs2 = (ds2, rs) ∧ w2.map Prod.fst = (wj ds).map Prod.fst ∧ ws2 = wj cs2 ∧ Z g X nL k n ws2 lv rest (pc + 3)) : Z g X nL k n ws lv st0 pc := by
  subst h1
  exact z_fc E is hc run (fun v w2 hq => by
    obtain ⟨rfl, h⟩ := hq
    obtain ⟨ds2, cs2, ws2, a1, a2, a3, rfl, a5⟩ := K w2 h
    exact ⟨ds2, cs2, a1, a2, a3, a5⟩)
end ZF
