/-! Z: the judgement of these walks. A state of a walk is (world, locals, operand stack, pc), all plain data; Z says that the machine comes from there to its end. -/
def lwA : List Cond := lw_tbl.filter goodWord
theorem lwA_tbl {w : Cond} (h : w ∈ lwA) : w ∈ lw_tbl := (List.mem_filter.mp h).1
theorem lwA_mem {w : Cond} (h : w ∈ lw_tbl) (hg : goodWord w = true) : w ∈ lwA := List.mem_filter.mpr ⟨h, hg⟩
theorem lwA_in {w : Cond} (h : w ∈ lwA) : GoodIn lwA (w :: lwA) := fun x hx =>
  have hx : x ∈ lwA := (List.mem_cons.mp hx).elim (fun e => e ▸ h) id
  ⟨hx, good_of_word (List.mem_filter.mp hx).2⟩
theorem tb1 {w : Cond} (h : w ∈ tables_1) : w ∈ lw_tbl := List.mem_append_right _ h
theorem tb_1 {w : Cond} (h : w ∈ tables_1_1) : w ∈ lw_tbl := tb1 (List.mem_append_left _ h)
theorem tb_2 {w : Cond} (h : w ∈ tables_1_2) : w ∈ lw_tbl := tb1 (List.mem_append_right _ (List.mem_append_left _ h))
theorem tb_3 {w : Cond} (h : w ∈ tables_1_3) : w ∈ lw_tbl := tb1 (List.mem_append_right _ (List.mem_append_right _ (List.mem_append_left _ h)))
theorem tb_4 {w : Cond} (h : w ∈ tables_1_4) : w ∈ lw_tbl := tb1 (List.mem_append_right _ (List.mem_append_right _ (List.mem_append_right _ (List.mem_append_left _ h))))
theorem tb_5 {w : Cond} (h : w ∈ tables_1_5) : w ∈ lw_tbl := tb1 (List.mem_append_right _ (List.mem_append_right _ (List.mem_append_right _ (List.mem_append_right _ h))))
/-- launch, the classes' numbers and slots, the array classes -/
abbrev GC : Type := Launch × va_G × (Nat → ClassId)
/-- the frame of a walk -/
abbrev XC : Type := Program × Env × Room × State × MethodId × Array Value × List Frame × Method × Code × (Nat → Prop) × (State → Prop)
def zCl : List vw_C := [(RX0, TX0, 4), (RX1, TX1, 3), (RX2, TX2, 6), (RX3, TX3, 9), (RX4, TX4, 10), (RX5, TX5, 9), (RX6, TX6, 15), (RX7, TX7, 31)]
def zTy (g : GC) : List (ClassId × FieldType) := [(g.2.2 0, .int), (g.2.2 1, .long), (g.2.2 2, .boolean), (g.2.2 3, .object "TurnVoice$Present")]
def zNest : List (String × Nat × MethodName × String) := [("TurnVoice", 28, ⟨"TurnVoice$Present", "<init>", "()V"⟩, "TurnVoice"), ("TurnVoice", 42, ⟨"TurnVoice$Voice", "<init>", "()V"⟩, "TurnVoice"), ("TurnVoice", 49, ⟨"TurnVoice$Odds", "<init>", "()V"⟩, "TurnVoice"), ("TurnVoice", 9, ⟨"TurnVoice$Reader", "<init>", "()V"⟩, "TurnVoice"), ("TurnVoice$Odds", 65, ⟨"TurnVoice", "has", "(II)Z"⟩, "TurnVoice"), ("TurnVoice$Past", 17, ⟨"TurnVoice$Present", "<init>", "()V"⟩, "TurnVoice"), ("TurnVoice$Present", 37, ⟨"TurnVoice", "has", "(II)Z"⟩, "TurnVoice"), ("TurnVoice$Reader", 110, ⟨"TurnVoice", "isWithin", "(III)Z"⟩, "TurnVoice"), ("TurnVoice$Voice", 78, ⟨"TurnVoice", "has", "(II)Z"⟩, "TurnVoice")]
def zK (g : GC) (U : State) : Prop := va_K g.2.1 zCl (zTy g) U ∧ (∀ q ∈ zNest, va_Nw (.methodLinkNest q.1 q.2.1 q.2.2.1 q.2.2.2) U) ∧ va_AO "TurnVoice$Present" U
theorem zK.moved {g : GC} {u U : State} (h1 : u.vm = U.vm) (h : zK g u) : zK g U := ⟨va_K.moved (h1 ▸ Vm.Alike.refl u.vm) h.1, fun q hq => va_Nw.same rfl h1 (h.2.1 q hq), va_AO.moved (h1 ▸ Vm.Alike.refl u.vm) h.2.2⟩
theorem zK.warm {g : GC} {u U : State} (h1 : u.WarmedH U.vm) (h : zK g u) : zK g U := ⟨va_K.moved h1.alike h.1, fun q hq => va_Nw.warmM h1 (h.2.1 q hq), va_AO.moved h1.alike h.2.2⟩
def Z (g : GC) (X : XC) (nL k n : Nat) (ws : va_W) (lv : List (Nat × Value)) (st : List Value) (pc : Nat) : Prop :=
  ∀ (H : Heap) (locs : List Loc) (ls : Array Slot), va_P g.2.1 zCl ws H → va_D X.2.2.2.2.2.2.2.2.2.1 ws → va_S X.2.2.2.2.2.2.2.2.2.1 X.2.2.2.1.heap H locs → lv_has ls nL lv →
    W X.1 g.1 X.2.1 X.2.2.1 X.2.2.2.1 X.2.2.2.2.1 X.2.2.2.2.2.1 X.2.2.2.2.2.2.1 X.2.2.2.2.2.2.2.1 X.2.2.2.2.2.2.2.2.1 H locs k n X.2.2.2.2.2.2.2.2.2.2 (F0 X.2.2.2.2.1 pc ls st)
/-- what holds along a walk: the machine, the code, the words, the tables -/
def Ob (g : GC) (X : XC) (cc : ByteArray) (nL : Nat) (own : String) : Prop :=
  X.1.tables.exec = Jvm.exec ∧ X.2.2.2.2.2.2.2.2.1.code = cc ∧ X.2.2.2.2.2.2.2.2.1.maxLocals = nL ∧ X.2.2.2.1.vm.findClass own = some X.2.2.2.2.1.cls ∧ (∀ w ∈ lwA, w.before X.2.2.2.2.2.1 X.2.2.2.1 = true) ∧ zK g X.2.2.2.1 ∧ (∀ q, X.2.2.2.1.heap.size ≤ q → X.2.2.2.2.2.2.2.2.2.1 q)
/-- a method's end: which answers and worlds are right, and how many cells and slots it may make -/
def QcZ (g : GC) (A : Nat → Prop) (Q : Option Value → va_W → Prop) : Array Value → State → Outcome → State → Prop := fun _ st oc t =>
  (∃ (v : Option Value) (w2 : va_W), oc = .returned v ∧ Q v w2 ∧ va_P g.2.1 zCl w2 t.heap ∧ zK g t ∧ va_D A w2) ∧ va_F A st t
def Oe (g : GC) (X : XC) (ret : Option FieldType) (Q : Option Value → va_W → Prop) (mc ms : Nat) : Prop :=
  X.2.2.2.2.2.2.2.1.sig.returnType = ret ∧ X.2.2.2.2.2.2.2.1.locks = false ∧ X.2.2.2.2.2.2.2.2.2.2 = MQ X.2.2.2.2.2.2.1 (QcZ g X.2.2.2.2.2.2.2.2.2.1 Q) X.2.2.2.2.2.1 X.2.2.2.1 mc ms X.2.2.2.2.2.2.2.2.2.1
def lset (i : Nat) (v : Value) : List (Nat × Value) → List (Nat × Value)
  | [] => [(i, v)]
  | (j, w) :: t => if j = i then (i, v) :: t.filter (fun q => !(q.1 == i) && !(q.1 + 1 == i && q.2.category == 2)) else if (j + 1 == i && w.category == 2) = true then lset i v t else (j, w) :: lset i v t
def lset2 (i : Nat) (v : Value) : List (Nat × Value) → List (Nat × Value)
  | [] => [(i, v)]
  | (j, w) :: t => if j = i then (i, v) :: t.filter (fun q => !(q.1 == i) && (!(q.1 == i + 1) && !(q.1 + 1 == i && q.2.category == 2))) else if j = i + 1 then lset2 i v t else if (j + 1 == i && w.category == 2) = true then lset2 i v t else (j, w) :: lset2 i v t
theorem lset_mem (i : Nat) (v : Value) : ∀ (l : List (Nat × Value)) (q : Nat × Value), q ∈ lset i v l → q ∈ (i, v) :: l.filter (fun q => !(q.1 == i) && !(q.1 + 1 == i && q.2.category == 2))
  | [], q, h => h
  | (j, w) :: t, q, h => by
    unfold lset at h
    by_cases h1 : j = i
    · rw [if_pos h1] at h
      subst h1
      rw [List.filter_cons_of_neg (by simp)]
      exact h
    · rw [if_neg h1] at h
      by_cases h2 : (j + 1 == i && w.category == 2) = true
      · rw [if_pos h2] at h
        rw [List.filter_cons_of_neg (by simp only [h2]; simp)]
        exact lset_mem i v t q h
      · rw [if_neg h2] at h
        rw [List.filter_cons_of_pos (by simp only [Bool.not_eq_true] at h2; simp only [h2]; simp [h1])]
        rcases List.mem_cons.mp h with h | h
        · exact List.mem_cons_of_mem _ (h ▸ List.mem_cons_self)
        · rcases List.mem_cons.mp (lset_mem i v t q h) with h | h
          · exact h ▸ List.mem_cons_self
          · exact List.mem_cons_of_mem _ (List.mem_cons_of_mem _ h)
theorem lset2_mem (i : Nat) (v : Value) : ∀ (l : List (Nat × Value)) (q : Nat × Value), q ∈ lset2 i v l → q ∈ (i, v) :: l.filter (fun q => !(q.1 == i) && (!(q.1 == i + 1) && !(q.1 + 1 == i && q.2.category == 2)))
  | [], q, h => h
  | (j, w) :: t, q, h => by
    unfold lset2 at h
    by_cases h1 : j = i
    · rw [if_pos h1] at h
      subst h1
      rw [List.filter_cons_of_neg (by simp)]
      exact h
    · rw [if_neg h1] at h
      by_cases h3 : j = i + 1
      · rw [if_pos h3] at h
        rw [List.filter_cons_of_neg (by simp [h3])]
        exact lset2_mem i v t q h
      · rw [if_neg h3] at h
        by_cases h2 : (j + 1 == i && w.category == 2) = true
        · rw [if_pos h2] at h
          rw [List.filter_cons_of_neg (by simp only [h2]; simp)]
          exact lset2_mem i v t q h
        · rw [if_neg h2] at h
          rw [List.filter_cons_of_pos (by simp only [Bool.not_eq_true] at h2; simp only [h2]; simp [h1, h3])]
          rcases List.mem_cons.mp h with h | h
          · exact List.mem_cons_of_mem _ (h ▸ List.mem_cons_self)
          · rcases List.mem_cons.mp (lset2_mem i v t q h) with h | h
            · exact h ▸ List.mem_cons_self
            · exact List.mem_cons_of_mem _ (List.mem_cons_of_mem _ h)
theorem lv_mono {ls : Array Slot} {nL : Nat} {l l' : List (Nat × Value)} (h : lv_has ls nL l) (hm : ∀ q, q ∈ l' → q ∈ l) : lv_has ls nL l' := ⟨h.1, h.2.1, fun q hq => h.2.2 q (hm q hq)⟩
section ZR
variable {g : GC} {X : XC} {cc : ByteArray} {nL k n pc : Nat} {own : String} {ws : va_W} {lv lv' : List (Nat × Value)} {st : List Value}
theorem z_ws {ws' : va_W} (h : ws = ws') (K : Z g X nL k n ws' lv st pc) : Z g X nL k n ws lv st pc := h ▸ K
theorem z_st {st' : List Value} (h : st = st') (K : Z g X nL k n ws lv st' pc) : Z g X nL k n ws lv st pc := h ▸ K
theorem z_lv (ks : List Nat) (h : lv_pick lv ks = lv') (K : Z g X nL k n ws lv' st pc) : Z g X nL k n ws lv st pc := fun H locs ls hP hD hS hl => K H locs ls hP hD hS (lv_sub hl ks h)
theorem z_lve (h : lv = lv') (K : Z g X nL k n ws lv' st pc) : Z g X nL k n ws lv st pc := h ▸ K
theorem z_topi {x y : Int32} (h : x = y) (K : Z g X nL k n ws lv (.int y :: st) pc) : Z g X nL k n ws lv (.int x :: st) pc := h ▸ K
theorem z_topl {x y : Int64} (h : x = y) (K : Z g X nL k n ws lv (.long y :: st) pc) : Z g X nL k n ws lv (.long x :: st) pc := h ▸ K
theorem z_nami {x : Int32} (K : ∀ y : Int32, y = x → Z g X nL k n ws lv (.int y :: st) pc) : Z g X nL k n ws lv (.int x :: st) pc := K x rfl
theorem z_iconst (E : Ob g X cc nL own) {i : Int} {v : Int32} (hd : decode cc pc = .ok (.iconst i, 1)) (hv : Int32.ofInt i = v) (K : Z g X nL k n ws lv (.int v :: st) (pc + 1)) : Z g X nL k n ws lv (st) pc :=
  fun H locs ls hP hD hS hl => lv_iconst E.1 E.2.1 hd hv (K H locs ls hP hD hS hl)
theorem z_bipush (E : Ob g X cc nL own) {i : Int} {v : Int32} (hd : decode cc pc = .ok (.bipush i, 2)) (hv : (Int8.ofInt i).toInt32 = v) (K : Z g X nL k n ws lv (.int v :: st) (pc + 2)) : Z g X nL k n ws lv (st) pc :=
  fun H locs ls hP hD hS hl => lv_bipush E.1 E.2.1 hd hv (K H locs ls hP hD hS hl)
theorem z_sipush (E : Ob g X cc nL own) {i : Int} {v : Int32} (hd : decode cc pc = .ok (.sipush i, 3)) (hv : (Int16.ofInt i).toInt32 = v) (K : Z g X nL k n ws lv (.int v :: st) (pc + 3)) : Z g X nL k n ws lv (st) pc :=
  fun H locs ls hP hD hS hl => lv_sipush E.1 E.2.1 hd hv (K H locs ls hP hD hS hl)
theorem z_lconst (E : Ob g X cc nL own) {i : Fin 2} {v : Int64} (hd : decode cc pc = .ok (.lconst i, 1)) (hv : Int64.ofNat (i : Nat) = v) (K : Z g X nL k n ws lv (.long v :: st) (pc + 1)) : Z g X nL k n ws lv (st) pc :=
  fun H locs ls hP hD hS hl => lv_lconst E.1 E.2.1 hd hv (K H locs ls hP hD hS hl)
theorem z_iadd (E : Ob g X cc nL own) {x y : Int32} (hd : decode cc pc = .ok (.iadd, 1)) (K : Z g X nL k n ws lv (.int (x + y) :: st) (pc + 1)) : Z g X nL k n ws lv (.int y :: .int x :: st) pc :=
  fun H locs ls hP hD hS hl => lv_iadd E.1 E.2.1 hd (K H locs ls hP hD hS hl)
theorem z_isub (E : Ob g X cc nL own) {x y : Int32} (hd : decode cc pc = .ok (.isub, 1)) (K : Z g X nL k n ws lv (.int (x - y) :: st) (pc + 1)) : Z g X nL k n ws lv (.int y :: .int x :: st) pc :=
  fun H locs ls hP hD hS hl => lv_isub E.1 E.2.1 hd (K H locs ls hP hD hS hl)
theorem z_imul (E : Ob g X cc nL own) {x y : Int32} (hd : decode cc pc = .ok (.imul, 1)) (K : Z g X nL k n ws lv (.int (x * y) :: st) (pc + 1)) : Z g X nL k n ws lv (.int y :: .int x :: st) pc :=
  fun H locs ls hP hD hS hl => lv_imul E.1 E.2.1 hd (K H locs ls hP hD hS hl)
theorem z_iand (E : Ob g X cc nL own) {x y : Int32} (hd : decode cc pc = .ok (.iand, 1)) (K : Z g X nL k n ws lv (.int (x &&& y) :: st) (pc + 1)) : Z g X nL k n ws lv (.int y :: .int x :: st) pc :=
  fun H locs ls hP hD hS hl => lv_iand E.1 E.2.1 hd (K H locs ls hP hD hS hl)
theorem z_ior (E : Ob g X cc nL own) {x y : Int32} (hd : decode cc pc = .ok (.ior, 1)) (K : Z g X nL k n ws lv (.int (x ||| y) :: st) (pc + 1)) : Z g X nL k n ws lv (.int y :: .int x :: st) pc :=
  fun H locs ls hP hD hS hl => lv_ior E.1 E.2.1 hd (K H locs ls hP hD hS hl)
theorem z_ixor (E : Ob g X cc nL own) {x y : Int32} (hd : decode cc pc = .ok (.ixor, 1)) (K : Z g X nL k n ws lv (.int (x ^^^ y) :: st) (pc + 1)) : Z g X nL k n ws lv (.int y :: .int x :: st) pc :=
  fun H locs ls hP hD hS hl => lv_ixor E.1 E.2.1 hd (K H locs ls hP hD hS hl)
theorem z_ishl (E : Ob g X cc nL own) {x y : Int32} (hd : decode cc pc = .ok (.ishl, 1)) (K : Z g X nL k n ws lv (.int (x <<< (y &&& 31)) :: st) (pc + 1)) : Z g X nL k n ws lv (.int y :: .int x :: st) pc :=
  fun H locs ls hP hD hS hl => lv_ishl E.1 E.2.1 hd (K H locs ls hP hD hS hl)
theorem z_ishr (E : Ob g X cc nL own) {x y : Int32} (hd : decode cc pc = .ok (.ishr, 1)) (K : Z g X nL k n ws lv (.int (x >>> (y &&& 31)) :: st) (pc + 1)) : Z g X nL k n ws lv (.int y :: .int x :: st) pc :=
  fun H locs ls hP hD hS hl => lv_ishr E.1 E.2.1 hd (K H locs ls hP hD hS hl)
theorem z_idiv (E : Ob g X cc nL own) {x y : Int32} (hd : decode cc pc = .ok (.idiv, 1)) (hne : ¬ y = 0) (K : Z g X nL k n ws lv (.int (x / y) :: st) (pc + 1)) : Z g X nL k n ws lv (.int y :: .int x :: st) pc :=
  fun H locs ls hP hD hS hl => lv_idiv E.1 E.2.1 hd hne (K H locs ls hP hD hS hl)
theorem z_ladd (E : Ob g X cc nL own) {x y : Int64} (hd : decode cc pc = .ok (.ladd, 1)) (K : Z g X nL k n ws lv (.long (x + y) :: st) (pc + 1)) : Z g X nL k n ws lv (.long y :: .long x :: st) pc :=
  fun H locs ls hP hD hS hl => lv_ladd E.1 E.2.1 hd (K H locs ls hP hD hS hl)
theorem z_lmul (E : Ob g X cc nL own) {x y : Int64} (hd : decode cc pc = .ok (.lmul, 1)) (K : Z g X nL k n ws lv (.long (x * y) :: st) (pc + 1)) : Z g X nL k n ws lv (.long y :: .long x :: st) pc :=
  fun H locs ls hP hD hS hl => lv_lmul E.1 E.2.1 hd (K H locs ls hP hD hS hl)
theorem z_ldiv (E : Ob g X cc nL own) {x y : Int64} (hd : decode cc pc = .ok (.ldiv, 1)) (hne : ¬ y = 0) (K : Z g X nL k n ws lv (.long (x / y) :: st) (pc + 1)) : Z g X nL k n ws lv (.long y :: .long x :: st) pc :=
  fun H locs ls hP hD hS hl => lv_ldiv E.1 E.2.1 hd hne (K H locs ls hP hD hS hl)
theorem z_lrem (E : Ob g X cc nL own) {x y : Int64} (hd : decode cc pc = .ok (.lrem, 1)) (hne : ¬ y = 0) (K : Z g X nL k n ws lv (.long (x - x / y * y) :: st) (pc + 1)) : Z g X nL k n ws lv (.long y :: .long x :: st) pc :=
  fun H locs ls hP hD hS hl => lv_lrem E.1 E.2.1 hd hne (K H locs ls hP hD hS hl)
theorem z_i2l (E : Ob g X cc nL own) {x : Int32} {v : Int64} (hd : decode cc pc = .ok (.i2l, 1)) (hv : x.toInt64 = v) (K : Z g X nL k n ws lv (.long v :: st) (pc + 1)) : Z g X nL k n ws lv (.int x :: st) pc :=
  fun H locs ls hP hD hS hl => lv_i2l E.1 E.2.1 hd hv (K H locs ls hP hD hS hl)
theorem z_dup (E : Ob g X cc nL own) {va : Value} (hd : decode cc pc = .ok (.dup, 1)) (hva : va.category = 1) (K : Z g X nL k n ws lv (va :: va :: st) (pc + 1)) : Z g X nL k n ws lv (va :: st) pc :=
  fun H locs ls hP hD hS hl => lv_dup E.1 E.2.1 hd hva (K H locs ls hP hD hS hl)
theorem z_pop (E : Ob g X cc nL own) {va : Value} (hd : decode cc pc = .ok (.pop, 1)) (hva : va.category = 1) (K : Z g X nL k n ws lv (st) (pc + 1)) : Z g X nL k n ws lv (va :: st) pc :=
  fun H locs ls hP hD hS hl => lv_pop E.1 E.2.1 hd hva (K H locs ls hP hD hS hl)
theorem z_dup2 (E : Ob g X cc nL own) {va vb : Value} (hd : decode cc pc = .ok (.dup2, 1)) (hva : va.category = 1) (hvb : vb.category = 1) (K : Z g X nL k n ws lv (va :: vb :: va :: vb :: st) (pc + 1)) : Z g X nL k n ws lv (va :: vb :: st) pc :=
  fun H locs ls hP hD hS hl => lv_dup2_11 E.1 E.2.1 hd hva hvb (K H locs ls hP hD hS hl)
theorem z_aload_n (E : Ob g X cc nL own) {kk : Fin 4} {x : Nat} (hd : decode cc pc = .ok (.aload_n kk, 1)) (i : Nat) {j : Nat} (h : lv[i]? = some (j, .ref x)) (hj : (kk : Nat) = j) (K : Z g X nL k n ws lv (.ref x :: st) (pc + 1)) : Z g X nL k n ws lv st pc :=
  fun H locs ls hP hD hS hl => lv_aload_n E.1 E.2.1 hd hj (lv_at hl i h) (K H locs ls hP hD hS hl)
theorem z_iload_n (E : Ob g X cc nL own) {kk : Fin 4} {x : Int32} (hd : decode cc pc = .ok (.iload_n kk, 1)) (i : Nat) {j : Nat} (h : lv[i]? = some (j, .int x)) (hj : (kk : Nat) = j) (K : Z g X nL k n ws lv (.int x :: st) (pc + 1)) : Z g X nL k n ws lv st pc :=
  fun H locs ls hP hD hS hl => lv_iload_n E.1 E.2.1 hd hj (lv_at hl i h) (K H locs ls hP hD hS hl)
theorem z_lload_n (E : Ob g X cc nL own) {kk : Fin 4} {x : Int64} (hd : decode cc pc = .ok (.lload_n kk, 1)) (i : Nat) {j : Nat} (h : lv[i]? = some (j, .long x)) (hj : (kk : Nat) = j) (K : Z g X nL k n ws lv (.long x :: st) (pc + 1)) : Z g X nL k n ws lv st pc :=
  fun H locs ls hP hD hS hl => lv_lload_n E.1 E.2.1 hd hj (lv_at hl i h) (K H locs ls hP hD hS hl)
theorem z_iload (E : Ob g X cc nL own) {j : Nat} {x : Int32} (hd : decode cc pc = .ok (.iload j, 2)) (i : Nat) (h : lv[i]? = some (j, .int x)) (K : Z g X nL k n ws lv (.int x :: st) (pc + 2)) : Z g X nL k n ws lv st pc :=
  fun H locs ls hP hD hS hl => lv_iload E.1 E.2.1 hd (lv_at hl i h) (K H locs ls hP hD hS hl)
theorem z_lload (E : Ob g X cc nL own) {j : Nat} {x : Int64} (hd : decode cc pc = .ok (.lload j, 2)) (i : Nat) (h : lv[i]? = some (j, .long x)) (K : Z g X nL k n ws lv (.long x :: st) (pc + 2)) : Z g X nL k n ws lv st pc :=
  fun H locs ls hP hD hS hl => lv_lload E.1 E.2.1 hd (lv_at hl i h) (K H locs ls hP hD hS hl)
theorem z_istore_n (E : Ob g X cc nL own) {kk : Fin 4} {x : Int32} (hd : decode cc pc = .ok (.istore_n kk, 1)) (j : Nat) (hj : (kk : Nat) = j) (hn : j < nL) (hl' : lset j (.int x) lv = lv') (K : Z g X nL k n ws lv' st (pc + 1)) : Z g X nL k n ws lv (.int x :: st) pc :=
  fun H locs ls hP hD hS hl => lv_istore_n E.1 E.2.1 hd hj hl hn rfl (fun ls' h' => K H locs ls' hP hD hS (lv_mono h' (fun q hq => lset_mem _ _ _ q (hl' ▸ hq))))
theorem z_istore (E : Ob g X cc nL own) {j : Nat} {x : Int32} (hd : decode cc pc = .ok (.istore j, 2)) (hn : j < nL) (hl' : lset j (.int x) lv = lv') (K : Z g X nL k n ws lv' st (pc + 2)) : Z g X nL k n ws lv (.int x :: st) pc :=
  fun H locs ls hP hD hS hl => lv_istore E.1 E.2.1 hd hl hn rfl (fun ls' h' => K H locs ls' hP hD hS (lv_mono h' (fun q hq => lset_mem _ _ _ q (hl' ▸ hq))))
theorem z_astore_n (E : Ob g X cc nL own) {kk : Fin 4} {x : Nat} (hd : decode cc pc = .ok (.astore_n kk, 1)) (j : Nat) (hj : (kk : Nat) = j) (hn : j < nL) (hl' : lset j (.ref x) lv = lv') (K : Z g X nL k n ws lv' st (pc + 1)) : Z g X nL k n ws lv (.ref x :: st) pc :=
  fun H locs ls hP hD hS hl => lv_astore_n E.1 E.2.1 hd hj hl hn rfl (fun ls' h' => K H locs ls' hP hD hS (lv_mono h' (fun q hq => lset_mem _ _ _ q (hl' ▸ hq))))
theorem z_lstore_n (E : Ob g X cc nL own) {kk : Fin 4} {x : Int64} (hd : decode cc pc = .ok (.lstore_n kk, 1)) (j : Nat) (hj : (kk : Nat) = j) (hn : j + 1 < nL) (hl' : lset2 j (.long x) lv = lv') (K : Z g X nL k n ws lv' st (pc + 1)) : Z g X nL k n ws lv (.long x :: st) pc :=
  fun H locs ls hP hD hS hl => lv_lstore_n E.1 E.2.1 hd hj hl hn rfl (fun ls' h' => K H locs ls' hP hD hS (lv_mono h' (fun q hq => lset2_mem _ _ _ q (hl' ▸ hq))))
theorem z_lstore (E : Ob g X cc nL own) {j : Nat} {x : Int64} (hd : decode cc pc = .ok (.lstore j, 2)) (hn : j + 1 < nL) (hl' : lset2 j (.long x) lv = lv') (K : Z g X nL k n ws lv' st (pc + 2)) : Z g X nL k n ws lv (.long x :: st) pc :=
  fun H locs ls hP hD hS hl => lv_lstore E.1 E.2.1 hd hl hn rfl (fun ls' h' => K H locs ls' hP hD hS (lv_mono h' (fun q hq => lset2_mem _ _ _ q (hl' ▸ hq))))
theorem z_iinc (E : Ob g X cc nL own) {j : Nat} {d : Int} {x v : Int32} (hd : decode cc pc = .ok (.iinc j d, 3)) (i : Nat) (h : lv[i]? = some (j, .int x)) (hv : x + Int32.ofInt d = v) (hn : j < nL) (hl' : lset j (.int v) lv = lv') (K : Z g X nL k n ws lv' st (pc + 3)) : Z g X nL k n ws lv st pc :=
  fun H locs ls hP hD hS hl => lv_iinc E.1 E.2.1 hd hl h hv hn rfl (fun ls' h' => K H locs ls' hP hD hS (lv_mono h' (fun q hq => lset_mem _ _ _ q (hl' ▸ hq))))
theorem z_goto (E : Ob g X cc nL own) {off : Int} (hd : decode cc pc = .ok (.goto off, 3)) (tgt : Nat) (ht : (pc : Int) + off = (tgt : Int)) (K : Z g X nL k n ws lv st tgt) : Z g X nL k n ws lv st pc :=
  fun H locs ls hP hD hS hl => lv_goto E.1 E.2.1 hd ht (K H locs ls hP hD hS hl)
theorem z_icmp_eq (E : Ob g X cc nL own) {x y : Int32} {off : Int} (hd : decode cc pc = .ok (.if_icmp .eq off, 3)) (tgt : Nat) (ht : (pc : Int) + off = (tgt : Int)) (kt : x = y → Z g X nL k n ws lv st tgt) (kf : ¬ x = y → Z g X nL k n ws lv st (pc + 3)) : Z g X nL k n ws lv (.int y :: .int x :: st) pc :=
  fun H locs ls hP hD hS hl => lv_icmp_eq E.1 E.2.1 hd ht (fun h => kt h H locs ls hP hD hS hl) (fun h => kf h H locs ls hP hD hS hl)
theorem z_if_eq (E : Ob g X cc nL own) {x : Int32} {off : Int} (hd : decode cc pc = .ok (.ifCond .eq off, 3)) (tgt : Nat) (ht : (pc : Int) + off = (tgt : Int)) (kt : x = 0 → Z g X nL k n ws lv st tgt) (kf : ¬ x = 0 → Z g X nL k n ws lv st (pc + 3)) : Z g X nL k n ws lv (.int x :: st) pc :=
  fun H locs ls hP hD hS hl => lv_if_eq E.1 E.2.1 hd ht (fun h => kt h H locs ls hP hD hS hl) (fun h => kf h H locs ls hP hD hS hl)
theorem z_icmpN_eq (E : Ob g X cc nL own) {a b : Nat} {off : Int} (hd : decode cc pc = .ok (.if_icmp .eq off, 3)) (tgt : Nat) (ht : (pc : Int) + off = (tgt : Int)) (ha : a < 2 ^ 31) (hb : b < 2 ^ 31) (kt : a = b → Z g X nL k n ws lv st tgt) (kf : a ≠ b → Z g X nL k n ws lv st (pc + 3)) : Z g X nL k n ws lv (.int (nI b) :: .int (nI a) :: st) pc :=
  z_icmp_eq E hd tgt ht (fun h => kt ((nI_eq ha hb).mp h)) (fun h => kf (fun e => h ((nI_eq ha hb).mpr e)))
theorem z_icmp_ne (E : Ob g X cc nL own) {x y : Int32} {off : Int} (hd : decode cc pc = .ok (.if_icmp .ne off, 3)) (tgt : Nat) (ht : (pc : Int) + off = (tgt : Int)) (kt : ¬ x = y → Z g X nL k n ws lv st tgt) (kf : x = y → Z g X nL k n ws lv st (pc + 3)) : Z g X nL k n ws lv (.int y :: .int x :: st) pc :=
  fun H locs ls hP hD hS hl => lv_icmp_ne E.1 E.2.1 hd ht (fun h => kt h H locs ls hP hD hS hl) (fun h => kf h H locs ls hP hD hS hl)
theorem z_if_ne (E : Ob g X cc nL own) {x : Int32} {off : Int} (hd : decode cc pc = .ok (.ifCond .ne off, 3)) (tgt : Nat) (ht : (pc : Int) + off = (tgt : Int)) (kt : ¬ x = 0 → Z g X nL k n ws lv st tgt) (kf : x = 0 → Z g X nL k n ws lv st (pc + 3)) : Z g X nL k n ws lv (.int x :: st) pc :=
  fun H locs ls hP hD hS hl => lv_if_ne E.1 E.2.1 hd ht (fun h => kt h H locs ls hP hD hS hl) (fun h => kf h H locs ls hP hD hS hl)
theorem z_icmpN_ne (E : Ob g X cc nL own) {a b : Nat} {off : Int} (hd : decode cc pc = .ok (.if_icmp .ne off, 3)) (tgt : Nat) (ht : (pc : Int) + off = (tgt : Int)) (ha : a < 2 ^ 31) (hb : b < 2 ^ 31) (kt : a ≠ b → Z g X nL k n ws lv st tgt) (kf : a = b → Z g X nL k n ws lv st (pc + 3)) : Z g X nL k n ws lv (.int (nI b) :: .int (nI a) :: st) pc :=
  z_icmp_ne E hd tgt ht (fun h => kt (fun e => h ((nI_eq ha hb).mpr e))) (fun h => kf ((nI_eq ha hb).mp h))
theorem z_icmp_lt (E : Ob g X cc nL own) {x y : Int32} {off : Int} (hd : decode cc pc = .ok (.if_icmp .lt off, 3)) (tgt : Nat) (ht : (pc : Int) + off = (tgt : Int)) (kt : x < y → Z g X nL k n ws lv st tgt) (kf : ¬ x < y → Z g X nL k n ws lv st (pc + 3)) : Z g X nL k n ws lv (.int y :: .int x :: st) pc :=
  fun H locs ls hP hD hS hl => lv_icmp_lt E.1 E.2.1 hd ht (fun h => kt h H locs ls hP hD hS hl) (fun h => kf h H locs ls hP hD hS hl)
theorem z_if_lt (E : Ob g X cc nL own) {x : Int32} {off : Int} (hd : decode cc pc = .ok (.ifCond .lt off, 3)) (tgt : Nat) (ht : (pc : Int) + off = (tgt : Int)) (kt : x < 0 → Z g X nL k n ws lv st tgt) (kf : ¬ x < 0 → Z g X nL k n ws lv st (pc + 3)) : Z g X nL k n ws lv (.int x :: st) pc :=
  fun H locs ls hP hD hS hl => lv_if_lt E.1 E.2.1 hd ht (fun h => kt h H locs ls hP hD hS hl) (fun h => kf h H locs ls hP hD hS hl)
theorem z_icmpN_lt (E : Ob g X cc nL own) {a b : Nat} {off : Int} (hd : decode cc pc = .ok (.if_icmp .lt off, 3)) (tgt : Nat) (ht : (pc : Int) + off = (tgt : Int)) (ha : a < 2 ^ 31) (hb : b < 2 ^ 31) (kt : a < b → Z g X nL k n ws lv st tgt) (kf : b ≤ a → Z g X nL k n ws lv st (pc + 3)) : Z g X nL k n ws lv (.int (nI b) :: .int (nI a) :: st) pc :=
  z_icmp_lt E hd tgt ht (fun h => kt ((nI_ltI ha hb).mp h)) (fun h => kf (Nat.not_lt.mp (fun e => h ((nI_ltI ha hb).mpr e))))
theorem z_icmp_ge (E : Ob g X cc nL own) {x y : Int32} {off : Int} (hd : decode cc pc = .ok (.if_icmp .ge off, 3)) (tgt : Nat) (ht : (pc : Int) + off = (tgt : Int)) (kt : y ≤ x → Z g X nL k n ws lv st tgt) (kf : ¬ y ≤ x → Z g X nL k n ws lv st (pc + 3)) : Z g X nL k n ws lv (.int y :: .int x :: st) pc :=
  fun H locs ls hP hD hS hl => lv_icmp_ge E.1 E.2.1 hd ht (fun h => kt h H locs ls hP hD hS hl) (fun h => kf h H locs ls hP hD hS hl)
theorem z_if_ge (E : Ob g X cc nL own) {x : Int32} {off : Int} (hd : decode cc pc = .ok (.ifCond .ge off, 3)) (tgt : Nat) (ht : (pc : Int) + off = (tgt : Int)) (kt : 0 ≤ x → Z g X nL k n ws lv st tgt) (kf : ¬ 0 ≤ x → Z g X nL k n ws lv st (pc + 3)) : Z g X nL k n ws lv (.int x :: st) pc :=
  fun H locs ls hP hD hS hl => lv_if_ge E.1 E.2.1 hd ht (fun h => kt h H locs ls hP hD hS hl) (fun h => kf h H locs ls hP hD hS hl)
theorem z_icmpN_ge (E : Ob g X cc nL own) {a b : Nat} {off : Int} (hd : decode cc pc = .ok (.if_icmp .ge off, 3)) (tgt : Nat) (ht : (pc : Int) + off = (tgt : Int)) (ha : a < 2 ^ 31) (hb : b < 2 ^ 31) (kt : b ≤ a → Z g X nL k n ws lv st tgt) (kf : a < b → Z g X nL k n ws lv st (pc + 3)) : Z g X nL k n ws lv (.int (nI b) :: .int (nI a) :: st) pc :=
  z_icmp_ge E hd tgt ht (fun h => kt ((nI_leI hb ha).mp h)) (fun h => kf (Nat.not_le.mp (fun e => h ((nI_leI hb ha).mpr e))))
theorem z_icmp_gt (E : Ob g X cc nL own) {x y : Int32} {off : Int} (hd : decode cc pc = .ok (.if_icmp .gt off, 3)) (tgt : Nat) (ht : (pc : Int) + off = (tgt : Int)) (kt : y < x → Z g X nL k n ws lv st tgt) (kf : ¬ y < x → Z g X nL k n ws lv st (pc + 3)) : Z g X nL k n ws lv (.int y :: .int x :: st) pc :=
  fun H locs ls hP hD hS hl => lv_icmp_gt E.1 E.2.1 hd ht (fun h => kt h H locs ls hP hD hS hl) (fun h => kf h H locs ls hP hD hS hl)
theorem z_if_gt (E : Ob g X cc nL own) {x : Int32} {off : Int} (hd : decode cc pc = .ok (.ifCond .gt off, 3)) (tgt : Nat) (ht : (pc : Int) + off = (tgt : Int)) (kt : 0 < x → Z g X nL k n ws lv st tgt) (kf : ¬ 0 < x → Z g X nL k n ws lv st (pc + 3)) : Z g X nL k n ws lv (.int x :: st) pc :=
  fun H locs ls hP hD hS hl => lv_if_gt E.1 E.2.1 hd ht (fun h => kt h H locs ls hP hD hS hl) (fun h => kf h H locs ls hP hD hS hl)
theorem z_icmpN_gt (E : Ob g X cc nL own) {a b : Nat} {off : Int} (hd : decode cc pc = .ok (.if_icmp .gt off, 3)) (tgt : Nat) (ht : (pc : Int) + off = (tgt : Int)) (ha : a < 2 ^ 31) (hb : b < 2 ^ 31) (kt : b < a → Z g X nL k n ws lv st tgt) (kf : a ≤ b → Z g X nL k n ws lv st (pc + 3)) : Z g X nL k n ws lv (.int (nI b) :: .int (nI a) :: st) pc :=
  z_icmp_gt E hd tgt ht (fun h => kt ((nI_ltI hb ha).mp h)) (fun h => kf (Nat.not_lt.mp (fun e => h ((nI_ltI hb ha).mpr e))))
theorem z_icmp_le (E : Ob g X cc nL own) {x y : Int32} {off : Int} (hd : decode cc pc = .ok (.if_icmp .le off, 3)) (tgt : Nat) (ht : (pc : Int) + off = (tgt : Int)) (kt : x ≤ y → Z g X nL k n ws lv st tgt) (kf : ¬ x ≤ y → Z g X nL k n ws lv st (pc + 3)) : Z g X nL k n ws lv (.int y :: .int x :: st) pc :=
  fun H locs ls hP hD hS hl => lv_icmp_le E.1 E.2.1 hd ht (fun h => kt h H locs ls hP hD hS hl) (fun h => kf h H locs ls hP hD hS hl)
theorem z_if_le (E : Ob g X cc nL own) {x : Int32} {off : Int} (hd : decode cc pc = .ok (.ifCond .le off, 3)) (tgt : Nat) (ht : (pc : Int) + off = (tgt : Int)) (kt : x ≤ 0 → Z g X nL k n ws lv st tgt) (kf : ¬ x ≤ 0 → Z g X nL k n ws lv st (pc + 3)) : Z g X nL k n ws lv (.int x :: st) pc :=
  fun H locs ls hP hD hS hl => lv_if_le E.1 E.2.1 hd ht (fun h => kt h H locs ls hP hD hS hl) (fun h => kf h H locs ls hP hD hS hl)
theorem z_icmpN_le (E : Ob g X cc nL own) {a b : Nat} {off : Int} (hd : decode cc pc = .ok (.if_icmp .le off, 3)) (tgt : Nat) (ht : (pc : Int) + off = (tgt : Int)) (ha : a < 2 ^ 31) (hb : b < 2 ^ 31) (kt : a ≤ b → Z g X nL k n ws lv st tgt) (kf : b < a → Z g X nL k n ws lv st (pc + 3)) : Z g X nL k n ws lv (.int (nI b) :: .int (nI a) :: st) pc :=
  z_icmp_le E hd tgt ht (fun h => kt ((nI_leI ha hb).mp h)) (fun h => kf (Nat.not_le.mp (fun e => h ((nI_leI ha hb).mpr e))))
theorem z_tabIn (E : Ob g X cc nL own) {dflt lo hi : Int} {offs : Array Int} {len : Nat} {x : Int32} {off : Int} (hd : decode cc pc = .ok (.tableswitch dflt lo hi offs, len)) (tgt : Nat) (h1 : ¬ x.toInt < lo) (h2 : ¬ hi < x.toInt) (ho : offs[(x.toInt - lo).toNat]? = some off) (ht : (pc : Int) + off = (tgt : Int)) (K : Z g X nL k n ws lv st tgt) : Z g X nL k n ws lv (.int x :: st) pc :=
  fun H locs ls hP hD hS hl => lv_tableIn E.1 E.2.1 hd h1 h2 ho ht (K H locs ls hP hD hS hl)
theorem z_tabOut (E : Ob g X cc nL own) {dflt lo hi : Int} {offs : Array Int} {len : Nat} {x : Int32} (hd : decode cc pc = .ok (.tableswitch dflt lo hi offs, len)) (tgt : Nat) (h : x.toInt < lo ∨ hi < x.toInt) (ht : (pc : Int) + dflt = (tgt : Int)) (K : Z g X nL k n ws lv st tgt) : Z g X nL k n ws lv (.int x :: st) pc :=
  fun H locs ls hP hD hS hl => lv_tableOut E.1 E.2.1 hd h ht (K H locs ls hP hD hS hl)
theorem z_lookup (E : Ob g X cc nL own) {dflt : Int} {ps : Array (Int × Int)} {len : Nat} {x : Int32} {off : Int} (hd : decode cc pc = .ok (.lookupswitch dflt ps, len)) (tgt : Nat) (hp : (ps.toList.zip (ps.toList.drop 1)).all (fun (a, next) => a.1 < next.1) = true) (ho : Op.lookupswitch.offset ps.toList dflt x.toInt = off) (ht : (pc : Int) + off = (tgt : Int)) (K : Z g X nL k n ws lv st tgt) : Z g X nL k n ws lv (.int x :: st) pc :=
  fun H locs ls hP hD hS hl => lv_lookup E.1 E.2.1 hd hp ho ht (K H locs ls hP hD hS hl)
theorem z_ldc (E : Ob g X cc nL own) {ix : Nat} {v : Int32} (hd : decode cc pc = .ok (.ldc ix, 2)) (hw : Cond.constant own ix v ∈ lwA) (K : Z g X nL k n ws lv (.int v :: st) (pc + 2)) : Z g X nL k n ws lv st pc :=
  fun H locs ls hP hD hS hl => lv_ldc E.1 E.2.1 E.2.2.2.1 (E.2.2.2.2.1 _ hw) hd (K H locs ls hP hD hS hl)
theorem z_ldc2 (E : Ob g X cc nL own) {ix : Nat} {v : Int64} (hd : decode cc pc = .ok (.ldc2_w ix, 3)) (hw : Cond.constantLong own ix v ∈ lwA) (K : Z g X nL k n ws lv (.long v :: st) (pc + 3)) : Z g X nL k n ws lv st pc :=
  fun H locs ls hP hD hS hl => lv_ldc2 E.1 E.2.1 E.2.2.2.1 (E.2.2.2.2.1 _ hw) hd (K H locs ls hP hD hS hl)
theorem z_lcmp (E : Ob g X cc nL own) {x y : Int64} (hd : decode cc pc = .ok (.lcmp, 1)) (K : Z g X nL k n ws lv (.int (lg_cmp x y) :: st) (pc + 1)) : Z g X nL k n ws lv (.long y :: .long x :: st) pc :=
  fun H locs ls hP hD hS hl => W.lcmp E.1 E.2.1 hd (K H locs ls hP hD hS hl)
theorem z_get (E : Ob g X cc nL own) {ix ci N : Nat} {C : String} {T : u_T} (hc : zCl[ci]? = some (C, T, N)) (hin : ∀ w ∈ u_ws C T N, w ∈ lwA) (f : Nat) (hf : f < N) (hr : (T f).1 = C) (hl : Cond.fieldLink own ix C (T f).2.1 (T f).2.2.1 ∈ lwA)
    (hd : decode cc pc = .ok (.getfield ix, 3)) (q : Nat) {a : Nat} {fs : List Value} (he : ws[q]? = some (a, .inr (ci, fs))) {v : Value} (hv : fs[f]? = some v) (K : Z g X nL k n ws lv (v :: st) (pc + 3)) : Z g X nL k n ws lv (.ref a :: st) pc :=
  fun H locs ls hP hD hS hl' => va_get (D := g.2.1) (ci := ci) E.1 E.2.1 E.2.2.2.2.1 hin E.2.2.2.1 E.2.2.2.2.2.1.1 hP q he hc f hf (E.2.2.2.2.1 _ hl) (fun _ h9 => by rw [hr] at h9; exact h9) hv hd (K H locs ls hP hD hS hl')
theorem z_put (E : Ob g X cc nL own) {ix ci N : Nat} {C : String} {T : u_T} (ty : Nat → FieldType) (hc : zCl[ci]? = some (C, T, N)) (hin : ∀ w ∈ u_ws C T N, w ∈ lwA) (hty : ∀ k, k < N → parseFieldDescriptor (T k).2.2.1 = some (ty k)) (hnm : ∀ a, a < N → ∀ b, b < N → a ≠ b → (T a).2.1 ≠ (T b).2.1) (f : Nat) (hf : f < N) (hr : (T f).1 = C) (hl : Cond.fieldLink own ix C (T f).2.1 (T f).2.2.1 ∈ lwA) (hfin : (T f).2.2.2 = false)
    (hd : decode cc pc = .ok (.putfield ix, 3)) (q : Nat) {a : Nat} {fs : List Value} (he : ws[q]? = some (a, .inr (ci, fs))) (hfl : f < fs.length) {v : Value} (hn : narrow (ty f) v = v) (hfit : fits (ty f) v = true) {ws' : va_W} (hws : ws.set q (a, .inr (ci, fs.set f v)) = ws') (K : Z g X nL k n ws' lv st (pc + 3)) : Z g X nL k n ws lv (v :: .ref a :: st) pc :=
  fun H locs ls hP hD hS hl' => va_put (D := g.2.1) (ci := ci) E.1 E.2.1 E.2.2.2.2.1 hin ty hty hnm E.2.2.2.1 E.2.2.2.2.2.1.1 hP hD hS q he hc f hf (E.2.2.2.2.1 _ hl) (fun _ h9 => by rw [hr] at h9; exact h9) hfin (hty f hf) hn hfit hfl hd (fun H1 locs1 h1 h2 h3 => K H1 locs1 ls (hws ▸ h1) (hws ▸ h2) h3 hl')
theorem z_iald (E : Ob g X cc nL own) (hd : decode cc pc = .ok (.iaload, 1)) (q : Nat) {a N : Nat} {f : Nat → Int32} (he : ws[q]? = some (a, .inl (g.2.2 0, N, .inl f))) {i : Int32} (hi : vp_in i N) (K : Z g X nL k n ws lv (.int (f i.toNatClampNeg) :: st) (pc + 1)) : Z g X nL k n ws lv (.int i :: .ref a :: st) pc :=
  fun H locs ls hP hD hS hl => va_iald E.1 E.2.1 E.2.2.2.2.2.1.1 hP q 0 he rfl hi hd (K H locs ls hP hD hS hl)
theorem z_iast (E : Ob g X cc nL own) (hd : decode cc pc = .ok (.iastore, 1)) (q : Nat) {a N : Nat} {f : Nat → Int32} (he : ws[q]? = some (a, .inl (g.2.2 0, N, .inl f))) {i x : Int32} (hi : vp_in i N) {ws' : va_W} (hws : ws.set q (a, .inl (g.2.2 0, N, .inl (upd f i.toNatClampNeg x))) = ws') (K : Z g X nL k n ws' lv st (pc + 1)) : Z g X nL k n ws lv (.int x :: .int i :: .ref a :: st) pc :=
  fun H locs ls hP hD hS hl => va_iast E.1 E.2.1 E.2.2.2.2.2.1.1 hP hD hS q 0 he rfl hi hd (fun H1 locs1 h1 h2 h3 => K H1 locs1 ls (hws ▸ h1) (hws ▸ h2) h3 hl)
theorem z_lald (E : Ob g X cc nL own) (hd : decode cc pc = .ok (.laload, 1)) (q : Nat) {a N : Nat} {f : Nat → Int64} (he : ws[q]? = some (a, .inl (g.2.2 1, N, .inr (.inl f)))) {i : Int32} (hi : vp_in i N) (K : Z g X nL k n ws lv (.long (f i.toNatClampNeg) :: st) (pc + 1)) : Z g X nL k n ws lv (.int i :: .ref a :: st) pc :=
  fun H locs ls hP hD hS hl => va_lald E.1 E.2.1 E.2.2.2.2.2.1.1 hP q 1 he rfl hi hd (K H locs ls hP hD hS hl)
theorem z_last (E : Ob g X cc nL own) (hd : decode cc pc = .ok (.lastore, 1)) (q : Nat) {a N : Nat} {f : Nat → Int64} (he : ws[q]? = some (a, .inl (g.2.2 1, N, .inr (.inl f)))) {i : Int32} {x : Int64} (hi : vp_in i N) {ws' : va_W} (hws : ws.set q (a, .inl (g.2.2 1, N, .inr (.inl (vp_updL f i.toNatClampNeg x)))) = ws') (K : Z g X nL k n ws' lv st (pc + 1)) : Z g X nL k n ws lv (.long x :: .int i :: .ref a :: st) pc :=
  fun H locs ls hP hD hS hl => va_last E.1 E.2.1 E.2.2.2.2.2.1.1 hP hD hS q 1 he rfl hi hd (fun H1 locs1 h1 h2 h3 => K H1 locs1 ls (hws ▸ h1) (hws ▸ h2) h3 hl)
theorem z_zald (E : Ob g X cc nL own) (hd : decode cc pc = .ok (.baload, 1)) (q : Nat) {a N : Nat} {f : Nat → Int32} (he : ws[q]? = some (a, .inl (g.2.2 2, N, .inl f))) {i : Int32} (hi : vp_in i N) (K : Z g X nL k n ws lv (.int (f i.toNatClampNeg) :: st) (pc + 1)) : Z g X nL k n ws lv (.int i :: .ref a :: st) pc :=
  fun H locs ls hP hD hS hl => va_zald E.1 E.2.1 E.2.2.2.2.2.1.1 hP q 2 he rfl hi hd (K H locs ls hP hD hS hl)
theorem z_zast (E : Ob g X cc nL own) (hd : decode cc pc = .ok (.bastore, 1)) (q : Nat) {a N : Nat} {f : Nat → Int32} (he : ws[q]? = some (a, .inl (g.2.2 2, N, .inl f))) {i x : Int32} (hi : vp_in i N) (hx : vp_nar .boolean x = x) {ws' : va_W} (hws : ws.set q (a, .inl (g.2.2 2, N, .inl (upd f i.toNatClampNeg x))) = ws') (K : Z g X nL k n ws' lv st (pc + 1)) : Z g X nL k n ws lv (.int x :: .int i :: .ref a :: st) pc :=
  fun H locs ls hP hD hS hl => va_zast E.1 E.2.1 E.2.2.2.2.2.1.1 hP hD hS q 2 he rfl hi hd (fun H1 locs1 h1 h2 h3 => K H1 locs1 ls (by rw [hx] at h1; exact hws ▸ h1) (by rw [hx] at h2; exact hws ▸ h2) h3 hl)
theorem z_aald (E : Ob g X cc nL own) (hd : decode cc pc = .ok (.aaload, 1)) (q : Nat) {a N : Nat} {f : Nat → Option Nat} (he : ws[q]? = some (a, .inl (g.2.2 3, N, .inr (.inr (.inr (.inr f)))))) {i : Int32} (hi : vp_in i N) (K : Z g X nL k n ws lv (va_rf (f i.toNatClampNeg) :: st) (pc + 1)) : Z g X nL k n ws lv (.int i :: .ref a :: st) pc :=
  fun H locs ls hP hD hS hl => va_aldq (C := "TurnVoice$Present") E.1 E.2.1 E.2.2.2.2.2.1.1 hP q 3 he rfl hi hd (K H locs ls hP hD hS hl)
theorem z_vret {Q : Option Value → va_W → Prop} (E : Ob g X cc nL own) (Er : Oe g X none Q k n) (hd : decode cc pc = .ok (.return_, 1)) (hq : Q none ws) : Z g X nL k n ws lv [] pc := by
  obtain ⟨p, e, R, s, m, args, below, meth, c, A, F⟩ := X
  obtain ⟨h1, h2, h3⟩ := Er
  intro H locs ls hP hD hS hl
  dsimp only at h1 h2 h3 hP hD hS ⊢
  subst h3
  exact W.vret E.1 E.2.1 h1 (fun t ht hW => ⟨⟨none, ws, rfl, hq, by rw [ht]; exact hP, E.2.2.2.2.2.1.warm hW, hD⟩, hS.F ht⟩) hS.2.2 hd h2
theorem z_iret {Q : Option Value → va_W → Prop} {v : Int32} (E : Ob g X cc nL own) (Er : Oe g X (some .int) Q k n) (hd : decode cc pc = .ok (.ireturn, 1)) (hq : Q (some (.int v)) ws) : Z g X nL k n ws lv [.int v] pc := by
  obtain ⟨p, e, R, s, m, args, below, meth, c, A, F⟩ := X
  obtain ⟨h1, h2, h3⟩ := Er
  intro H locs ls hP hD hS hl
  dsimp only at h1 h2 h3 hP hD hS ⊢
  subst h3
  exact W.iret E.1 E.2.1 h1 (fun t ht hW => ⟨⟨some (.int v), ws, rfl, hq, by rw [ht]; exact hP, E.2.2.2.2.2.1.warm hW, hD⟩, hS.F ht⟩) hS.2.2 hd h2
theorem z_zret {Q : Option Value → va_W → Prop} {v : Int32} (E : Ob g X cc nL own) (Er : Oe g X (some .boolean) Q k n) (hd : decode cc pc = .ok (.ireturn, 1)) (hn : narrow .boolean (.int v) = .int v) (hq : Q (some (.int v)) ws) : Z g X nL k n ws lv [.int v] pc := by
  obtain ⟨p, e, R, s, m, args, below, meth, c, A, F⟩ := X
  obtain ⟨h1, h2, h3⟩ := Er
  intro H locs ls hP hD hS hl
  dsimp only at h1 h2 h3 hP hD hS ⊢
  subst h3
  exact W.zret E.1 E.2.1 h1 hn (fun t ht hW => ⟨⟨some (.int v), ws, rfl, hq, by rw [ht]; exact hP, E.2.2.2.2.2.1.warm hW, hD⟩, hS.F ht⟩) hS.2.2 hd h2
theorem z_lret {Q : Option Value → va_W → Prop} {v : Int64} (E : Ob g X cc nL own) (Er : Oe g X (some .long) Q k n) (hd : decode cc pc = .ok (.lreturn, 1)) (hq : Q (some (.long v)) ws) : Z g X nL k n ws lv [.long v] pc := by
  obtain ⟨p, e, R, s, m, args, below, meth, c, A, F⟩ := X
  obtain ⟨h1, h2, h3⟩ := Er
  intro H locs ls hP hD hS hl
  dsimp only at h1 h2 h3 hP hD hS ⊢
  subst h3
  exact W.lret E.1 E.2.1 h1 (fun t ht hW => ⟨⟨some (.long v), ws, rfl, hq, by rw [ht]; exact hP, E.2.2.2.2.2.1.warm hW, hD⟩, hS.F ht⟩) hS.2.2 hd h2
theorem z_widen {k' n' : Nat} (h1 : k ≤ k') (h2 : n ≤ n') (K : Z g X nL k' n' ws lv st pc) : Z g X nL k n ws lv st pc := fun H locs ls hP hD hS hl => W.widen h1 h2 (K H locs ls hP hD hS hl)
end ZR
/-- the room of a method at height d of the calls -/
def zR (d mc ms : Nat) : Room := { frames := d, cells := mc, slots := ms, locals := 40 * d }
/-- A CONTRACT: from the world w the method y, called with av, ends with an answer and a world that Q allows -/
def Ct (g : GC) (y : MethodName) (cc : ByteArray) (maxL : Nat) (ret : Option FieldType) (d mc ms : Nat) (av : List Value) (w : va_W) (Q : Option Value → va_W → Prop) : Prop :=
  ∀ sz : Nat, Met g.1 y (Cond.code y cc maxL ret :: lwA) (zR d mc ms) (va_Pc av (fun U => U.heap.size = sz ∧ va_P g.2.1 zCl w U.heap ∧ zK g U ∧ va_D (fun _ => True) w)) (QcZ g (va_A w sz) Q) mc ms (va_A w sz)
/-- a contract out of a walk -/
theorem Ct.of {g : GC} {y : MethodName} {cc : ByteArray} {maxL d mc ms : Nat} {ret : Option FieldType} {av : List Value} {w : va_W} {Q : Option Value → va_W → Prop} (hy : plainName y.cls = true) (hav : (lg_sl av).length ≤ maxL)
    (walk : ∀ X : XC, Ob g X cc maxL y.cls → Oe g X ret Q mc ms → X.2.2.1 = zR d mc ms → X.2.2.2.1.heap.size = X.2.2.2.1.heap.size → (y.name = X.2.2.2.2.2.2.2.1.name) → Z g X maxL 0 0 w (lv_args 0 av) [] 0) : Ct g y cc maxL ret d mc ms av w Q := by
  intro sz
  refine Met.ofW (cc := cc) (maxL := maxL) (ret := ret) hy rfl ?_
  intro p e s m args below meth c s₁ B hml hv
  obtain ⟨rfl, hsz, hP, hK, hD0⟩ := hv
  subst hsz
  have hts := atoms_spec (ws := Cond.code y cc maxL ret :: lwA) B.pre
  have hown : s.vm.findClass y.cls = some m.cls := findClass_of_methodNamed B.named
  have hl := lv_entry av (n := maxL) hav
  rw [lg_entry_eq]
  exact walk (p, e, zR d mc ms, s, m, av.toArray, below, meth, c, va_A w s.heap.size, MQ below (QcZ g (va_A w s.heap.size) Q) av.toArray s mc ms (va_A w s.heap.size))
    ⟨B.exec, B.bytes, hml, hown, fun x hx => hts x (List.mem_cons_of_mem _ hx), hK, fun q h => Or.inr h⟩ ⟨B.returns, B.notSynchronized, rfl⟩ rfl rfl (name_of_methodNamed B.named B.method).1.symm
    s.heap [] _ hP (hD0.self (sz := s.heap.size)) va_S.rf hl
def bI (b : Bool) : Int32 := cond b 1 0
theorem bI_t : bI true = 1 := rfl
theorem bI_f : bI false = 0 := rfl
theorem bI_0 {b : Bool} (h : bI b = 0) : b = false := by cases b; rfl; exact absurd h (by decide)
theorem bI_n {b : Bool} (h : ¬ bI b = 0) : b = true := by cases b; exact absurd rfl h; rfl
theorem bI_nar (b : Bool) : narrow .boolean (.int (bI b)) = .int (bI b) := by cases b <;> rfl
theorem bI_nI (b : Bool) : bI b = nI (cond b 1 0) := by cases b <;> rfl
/-- a whole number below 2^31, one less: for -1 and up -/
def pI (x : Nat) : Int32 := nI x - 1
theorem updN (f : Nat → Nat) (i x : Nat) : upd (fun k => nI (f k)) i (nI x) = fun k => nI (va_up f i x k) := by
  funext k
  unfold upd va_up
  by_cases h : k = i
  · rw [if_pos h, if_pos h]
  · rw [if_neg h, if_neg h]
theorem updLN (f : Nat → Nat) (i x : Nat) : vp_updL (fun k => lN (f k)) i (lN x) = fun k => lN (va_up f i x k) := by
  funext k
  unfold vp_updL va_up
  by_cases h : k = i
  · rw [if_pos h, if_pos h]
  · rw [if_neg h, if_neg h]
theorem nar01 {x : Nat} (h : x ≤ 1) : vp_nar .boolean (nI x) = nI x := by
  rcases (show x = 0 ∨ x = 1 by omega) with rfl | rfl <;> rfl
theorem narb01 {x : Nat} (h : x ≤ 1) : narrow .boolean (.int (nI x)) = .int (nI x) := by
  rcases (show x = 0 ∨ x = 1 by omega) with rfl | rfl <;> rfl
theorem fit01 {x : Nat} (h : x ≤ 1) : fits .boolean (.int (nI x)) = true := by
  rcases (show x = 0 ∨ x = 1 by omega) with rfl | rfl <;> rfl
section ZN
variable {g : GC} {X : XC} {cc : ByteArray} {nL k n pc : Nat} {own : String} {ws : va_W} {lv lv' : List (Nat × Value)} {st : List Value}
theorem z_iaddN (E : Ob g X cc nL own) {a b : Nat} (hd : decode cc pc = .ok (.iadd, 1)) (K : Z g X nL k n ws lv (.int (nI (a + b)) :: st) (pc + 1)) : Z g X nL k n ws lv (.int (nI b) :: .int (nI a) :: st) pc := z_iadd E hd (z_topi (nI_add a b) K)
theorem z_imulN (E : Ob g X cc nL own) {a b : Nat} (hd : decode cc pc = .ok (.imul, 1)) (K : Z g X nL k n ws lv (.int (nI (a * b)) :: st) (pc + 1)) : Z g X nL k n ws lv (.int (nI b) :: .int (nI a) :: st) pc := z_imul E hd (z_topi (pk_mul a b) K)
theorem z_isubN (E : Ob g X cc nL own) {a b : Nat} (hd : decode cc pc = .ok (.isub, 1)) (h : b ≤ a) (K : Z g X nL k n ws lv (.int (nI (a - b)) :: st) (pc + 1)) : Z g X nL k n ws lv (.int (nI b) :: .int (nI a) :: st) pc := z_isub E hd (z_topi (pk_sub h) K)
theorem z_iincN (E : Ob g X cc nL own) {j a : Nat} (hd : decode cc pc = .ok (.iinc j 1, 3)) (i : Nat) (h : lv[i]? = some (j, .int (nI a))) (hn : j < nL) (hl' : lset j (.int (nI (a + 1))) lv = lv') (K : Z g X nL k n ws lv' st (pc + 3)) : Z g X nL k n ws lv st pc :=
  z_iinc E hd i h (nI_1 a) hn hl' K
theorem z_ialdN (E : Ob g X cc nL own) (hd : decode cc pc = .ok (.iaload, 1)) (q : Nat) {a N : Nat} {f : Nat → Nat} (he : ws[q]? = some (a, .inl (g.2.2 0, N, .inl (fun k => nI (f k))))) {i : Nat} (hi : i < N) (hN : N < 2 ^ 31) (K : Z g X nL k n ws lv (.int (nI (f i)) :: st) (pc + 1)) : Z g X nL k n ws lv (.int (nI i) :: .ref a :: st) pc :=
  z_iald E hd q he (vp_in_nI hi hN) (by rw [nI_clamp (by omega)]; exact K)
theorem z_iastN (E : Ob g X cc nL own) (hd : decode cc pc = .ok (.iastore, 1)) (q : Nat) {a N : Nat} {f : Nat → Nat} (he : ws[q]? = some (a, .inl (g.2.2 0, N, .inl (fun k => nI (f k))))) {i x : Nat} (hi : i < N) (hN : N < 2 ^ 31) {ws' : va_W} (hws : ws.set q (a, .inl (g.2.2 0, N, .inl (fun k => nI (va_up f i x k)))) = ws') (K : Z g X nL k n ws' lv st (pc + 1)) : Z g X nL k n ws lv (.int (nI x) :: .int (nI i) :: .ref a :: st) pc :=
  z_iast E hd q he (vp_in_nI hi hN) (by rw [nI_clamp (by omega), updN]; exact hws) K
theorem z_laldN (E : Ob g X cc nL own) (hd : decode cc pc = .ok (.laload, 1)) (q : Nat) {a N : Nat} {f : Nat → Nat} (he : ws[q]? = some (a, .inl (g.2.2 1, N, .inr (.inl (fun k => lN (f k)))))) {i : Nat} (hi : i < N) (hN : N < 2 ^ 31) (K : Z g X nL k n ws lv (.long (lN (f i)) :: st) (pc + 1)) : Z g X nL k n ws lv (.int (nI i) :: .ref a :: st) pc :=
  z_lald E hd q he (vp_in_nI hi hN) (by rw [nI_clamp (by omega)]; exact K)
theorem z_lastN (E : Ob g X cc nL own) (hd : decode cc pc = .ok (.lastore, 1)) (q : Nat) {a N : Nat} {f : Nat → Nat} (he : ws[q]? = some (a, .inl (g.2.2 1, N, .inr (.inl (fun k => lN (f k)))))) {i x : Nat} (hi : i < N) (hN : N < 2 ^ 31) {ws' : va_W} (hws : ws.set q (a, .inl (g.2.2 1, N, .inr (.inl (fun k => lN (va_up f i x k))))) = ws') (K : Z g X nL k n ws' lv st (pc + 1)) : Z g X nL k n ws lv (.long (lN x) :: .int (nI i) :: .ref a :: st) pc :=
  z_last E hd q he (vp_in_nI hi hN) (by rw [nI_clamp (by omega), updLN]; exact hws) K
theorem z_zaldN (E : Ob g X cc nL own) (hd : decode cc pc = .ok (.baload, 1)) (q : Nat) {a N : Nat} {f : Nat → Nat} (he : ws[q]? = some (a, .inl (g.2.2 2, N, .inl (fun k => nI (f k))))) {i : Nat} (hi : i < N) (hN : N < 2 ^ 31) (K : Z g X nL k n ws lv (.int (nI (f i)) :: st) (pc + 1)) : Z g X nL k n ws lv (.int (nI i) :: .ref a :: st) pc :=
  z_zald E hd q he (vp_in_nI hi hN) (by rw [nI_clamp (by omega)]; exact K)
theorem z_zastN (E : Ob g X cc nL own) (hd : decode cc pc = .ok (.bastore, 1)) (q : Nat) {a N : Nat} {f : Nat → Nat} (he : ws[q]? = some (a, .inl (g.2.2 2, N, .inl (fun k => nI (f k))))) {i x : Nat} (hi : i < N) (hN : N < 2 ^ 31) (hx : x ≤ 1) {ws' : va_W} (hws : ws.set q (a, .inl (g.2.2 2, N, .inl (fun k => nI (va_up f i x k)))) = ws') (K : Z g X nL k n ws' lv st (pc + 1)) : Z g X nL k n ws lv (.int (nI x) :: .int (nI i) :: .ref a :: st) pc :=
  z_zast E hd q he (vp_in_nI hi hN) (nar01 hx) (by rw [nI_clamp (by omega), updN]; exact hws) K
theorem z_ifN_eq (E : Ob g X cc nL own) {a : Nat} {off : Int} (hd : decode cc pc = .ok (.ifCond .eq off, 3)) (tgt : Nat) (ht : (pc : Int) + off = (tgt : Int)) (ha : a < 2 ^ 31) (kt : a = 0 → Z g X nL k n ws lv st tgt) (kf : a ≠ 0 → Z g X nL k n ws lv st (pc + 3)) : Z g X nL k n ws lv (.int (nI a) :: st) pc :=
  z_if_eq E hd tgt ht (fun h => kt ((nI_eq ha (by decide)).mp (h.trans nI_0.symm))) (fun h => kf (fun e => h (by rw [e]; rfl)))
theorem z_ifN_ne (E : Ob g X cc nL own) {a : Nat} {off : Int} (hd : decode cc pc = .ok (.ifCond .ne off, 3)) (tgt : Nat) (ht : (pc : Int) + off = (tgt : Int)) (ha : a < 2 ^ 31) (kt : a ≠ 0 → Z g X nL k n ws lv st tgt) (kf : a = 0 → Z g X nL k n ws lv st (pc + 3)) : Z g X nL k n ws lv (.int (nI a) :: st) pc :=
  z_if_ne E hd tgt ht (fun h => kt (fun e => h (by rw [e]; rfl))) (fun h => kf ((nI_eq ha (by decide)).mp (h.trans nI_0.symm)))
theorem z_ifN_le (E : Ob g X cc nL own) {a : Nat} {off : Int} (hd : decode cc pc = .ok (.ifCond .le off, 3)) (tgt : Nat) (ht : (pc : Int) + off = (tgt : Int)) (ha : a < 2 ^ 31) (kt : a = 0 → Z g X nL k n ws lv st tgt) (kf : a ≠ 0 → Z g X nL k n ws lv st (pc + 3)) : Z g X nL k n ws lv (.int (nI a) :: st) pc :=
  z_if_le E hd tgt ht (fun h => kt (by have := (nI_leI (a := a) (b := 0) ha (by decide)).mp h; omega)) (fun h => kf (fun e => h (by rw [e]; decide)))
theorem z_ifN_gt (E : Ob g X cc nL own) {a : Nat} {off : Int} (hd : decode cc pc = .ok (.ifCond .gt off, 3)) (tgt : Nat) (ht : (pc : Int) + off = (tgt : Int)) (ha : a < 2 ^ 31) (kt : a ≠ 0 → Z g X nL k n ws lv st tgt) (kf : a = 0 → Z g X nL k n ws lv st (pc + 3)) : Z g X nL k n ws lv (.int (nI a) :: st) pc :=
  z_if_gt E hd tgt ht (fun h => kt (fun e => by rw [e] at h; exact absurd h (by decide))) (fun h => kf (Nat.eq_zero_of_not_pos (fun e => h ((nI_ltI (a := 0) (b := a) (by decide) ha).mpr e))))
theorem z_ifN_ge (E : Ob g X cc nL own) {a : Nat} {off : Int} (hd : decode cc pc = .ok (.ifCond .ge off, 3)) (tgt : Nat) (ht : (pc : Int) + off = (tgt : Int)) (ha : a < 2 ^ 31) (kt : Z g X nL k n ws lv st tgt) : Z g X nL k n ws lv (.int (nI a) :: st) pc :=
  z_if_ge E hd tgt ht (fun _ => kt) (fun h => absurd (nI_pos' ha) h)
theorem z_ifN_lt (E : Ob g X cc nL own) {a : Nat} {off : Int} (hd : decode cc pc = .ok (.ifCond .lt off, 3)) (tgt : Nat) (ht : (pc : Int) + off = (tgt : Int)) (ha : a < 2 ^ 31) (kf : Z g X nL k n ws lv st (pc + 3)) : Z g X nL k n ws lv (.int (nI a) :: st) pc :=
  z_if_lt E hd tgt ht (fun h => absurd h (nI_pos ha)) (fun _ => kf)
theorem z_ifB_eq (E : Ob g X cc nL own) {b : Bool} {off : Int} (hd : decode cc pc = .ok (.ifCond .eq off, 3)) (tgt : Nat) (ht : (pc : Int) + off = (tgt : Int)) (kt : b = false → Z g X nL k n ws lv st tgt) (kf : b = true → Z g X nL k n ws lv st (pc + 3)) : Z g X nL k n ws lv (.int (bI b) :: st) pc :=
  z_if_eq E hd tgt ht (fun h => kt (bI_0 h)) (fun h => kf (bI_n h))
theorem z_ifB_ne (E : Ob g X cc nL own) {b : Bool} {off : Int} (hd : decode cc pc = .ok (.ifCond .ne off, 3)) (tgt : Nat) (ht : (pc : Int) + off = (tgt : Int)) (kt : b = true → Z g X nL k n ws lv st tgt) (kf : b = false → Z g X nL k n ws lv st (pc + 3)) : Z g X nL k n ws lv (.int (bI b) :: st) pc :=
  z_if_ne E hd tgt ht (fun h => kt (bI_n h)) (fun h => kf (bI_0 h))
/-- a call that runs: from the callee's world w to an end that Q allows -/
def Run (g : GC) (X : XC) (nL k n mc ms : Nat) (lv : List (Nat × Value)) (st0 rest : List Value) (pc : Nat) (av : List Value) (w : va_W) (Q : Option Value → va_W → Prop) : Prop :=
  ∀ (H : Heap) (locs : List Loc) (ls : Array Slot), va_P g.2.1 zCl w H → va_D (fun _ => True) w → lv_has ls nL lv → va_Run X.1 g.1 X.2.1 X.2.2.1 X.2.2.2.1 X.2.2.2.2.1 X.2.2.2.2.2.1 X.2.2.2.2.2.2.1 X.2.2.2.2.2.2.2.1 X.2.2.2.2.2.2.2.2.1 H locs k n mc ms (F0 X.2.2.2.2.1 pc ls st0) rest (QcZ g (va_A w H.size) Q av.toArray) (va_A w H.size)
/-- the core of a call: the callee's world w among ws at the places isC, the rest wr at isR -/
theorem z_core (E : Ob g X cc nL own) {mc ms : Nat} {w wr : va_W} {Q : Option Value → va_W → Prop} {av : List Value} {rest st0 : List Value} (isC isR : List Nat) (hC : isC.map (fun i => ws[i]?) = w.map some) (hR : isR.map (fun i => ws[i]?) = wr.map some) (hnC : va_nd isC = true) (hn : va_nd isR = true) (hdis : ∀ i ∈ isR, i ∉ isC)
    (run : Run g X nL k n mc ms lv st0 rest pc av w Q)
    (K : ∀ (v : Option Value) (w2 : va_W), Q v w2 → Z g X nL (k + mc) (n + ms) (wr ++ w2) lv (v.toList ++ rest) (pc + 3)) : Z g X nL k n ws lv st0 pc := by
  obtain ⟨p, e, R, s, m, args, below, meth, c, A, F⟩ := X
  intro H locs ls hP hD hS hl
  dsimp only [Run] at run hP hD hS ⊢
  have hPc : va_P g.2.1 zCl w H := by
    intro j q hq
    have h1 : (isC.map (fun i => ws[i]?))[j]? = some (some q) := by rw [hC, List.getElem?_map, hq]; rfl
    rw [List.getElem?_map] at h1
    cases hi : isC[j]? with
    | none => rw [hi] at h1; cases h1
    | some i => rw [hi] at h1; exact hP i q (Option.some.inj h1)
  have hA : ∀ q, s.heap.size ≤ q → A q := E.2.2.2.2.2.2
  have hFc := va_free (wc := w) hD hS hA isC hC
  have hDc : va_D (fun _ => True) w := (hD.sub isC hnC hC).weaken (fun _ _ _ _ => trivial)
  intro T hT X
  obtain ⟨v, st₀, t, T', L, h0, X', hL, e1, e2, ⟨⟨v', w2, hv, hq, hP1, hK1, hD1⟩, hz, hk⟩, stp⟩ := run H locs ls hPc hDc hl T hT X
  cases hv
  rw [h0] at hz hk
  obtain ⟨hP2, hD2⟩ := va_join hP hD isC isR hC hR hn hdis (H1 := T'.heap) (fun q h1 h2 => by rw [e1]; exact hk q h1 h2) hFc (by rw [e1]; exact hP1) hD1
  have hS2 : va_S A s.heap T'.heap (locs ++ L) := ⟨Nat.le_trans hS.1 (by rw [e1]; exact hz), fun q h1 h2 => by rw [e1, hk q (Nat.lt_of_lt_of_le h1 hS.1) (fun z => h2 (hFc q z))]; exact hS.2.1 q h1 h2, fun q hq => by
    rcases List.mem_append.mp hq with h | h
    · exact hS.2.2 q h
    · exact hFc _ (hL q h)⟩
  obtain ⟨t2, a1, b1⟩ := K v w2 hq T'.heap (locs ++ L) ls hP2 hD2 hS2 hl T' rfl X'
  exact ⟨t2, stp t2 a1, b1⟩
/-- the callee's cells put back in their places -/
def wput : va_W → List Nat → va_W → va_W
  | ws, i :: is, c :: w => wput (ws.set i c) is w
  | ws, _, _ => ws
theorem wput_get : ∀ (is : List Nat) (w ws : va_W) (k : Nat) (q : Nat × va_E), is.length = w.length → va_nd is = true → (wput ws is w)[k]? = some q → (∃ j : Nat, is[j]? = some k ∧ w[j]? = some q) ∨ (ws[k]? = some q ∧ k ∉ is)
  | [], [], ws, k, q, _, _, h => Or.inr ⟨h, List.not_mem_nil⟩
  | [], c :: w, ws, k, q, hl, _, h => by cases hl
  | i :: is, [], ws, k, q, hl, _, h => by cases hl
  | i :: is, c :: w, ws, k, q, hl, hn, h => by
    simp only [va_nd, Bool.and_eq_true, decide_eq_true_eq] at hn
    rcases wput_get is w (ws.set i c) k q (Nat.succ.inj hl) hn.2 h with ⟨j, h1, h2⟩ | ⟨h1, h2⟩
    · exact Or.inl ⟨j + 1, h1, h2⟩
    · by_cases hk : k = i
      · subst hk
        rw [List.getElem?_set] at h1
        simp only [if_true] at h1
        by_cases hb : k < ws.length
        · rw [if_pos hb] at h1
          exact Or.inl ⟨0, rfl, h1⟩
        · rw [if_neg hb] at h1
          cases h1
      · rw [List.getElem?_set, if_neg (fun e => hk e.symm)] at h1
        exact Or.inr ⟨h1, fun hm => (List.mem_cons.mp hm).elim hk h2⟩
theorem z_core2 (E : Ob g X cc nL own) {w : va_W} {Q : Option Value → va_W → Prop} {av : List Value} {rest st0 : List Value} (run : Run g X nL k n 0 0 lv st0 rest pc av w Q) (isC : List Nat) (hC : isC.map (fun i => ws[i]?) = w.map some) (hnC : va_nd isC = true)
    (K : ∀ (v : Option Value) (w2 : va_W), Q v w2 → w2.map Prod.fst = w.map Prod.fst ∧ Z g X nL k n (wput ws isC w2) lv (v.toList ++ rest) (pc + 3)) : Z g X nL k n ws lv st0 pc := by
  obtain ⟨p, e, R, s, m, args, below, meth, c, A, F⟩ := X
  intro H locs ls hP hD hS hl
  dsimp only [Run] at run hP hD hS ⊢
  have atC : ∀ (j : Nat) (q : Nat × va_E), w[j]? = some q → ∃ i, isC[j]? = some i ∧ ws[i]? = some q := by
    intro j q hq
    have h1 : (isC.map (fun i => ws[i]?))[j]? = some (some q) := by rw [hC, List.getElem?_map, hq]; rfl
    rw [List.getElem?_map] at h1
    cases hi : isC[j]? with
    | none => rw [hi] at h1; cases h1
    | some i => rw [hi] at h1; exact ⟨i, rfl, Option.some.inj h1⟩
  have hPc : va_P g.2.1 zCl w H := by
    intro j q hq
    obtain ⟨i, -, h2⟩ := atC j q hq
    exact hP i q h2
  have hA : ∀ q, s.heap.size ≤ q → A q := E.2.2.2.2.2.2
  have hFc := va_free (wc := w) hD hS hA isC hC
  have hDc : va_D (fun _ => True) w := (hD.sub isC hnC hC).weaken (fun _ _ _ _ => trivial)
  have hlen : isC.length = w.length := by have := congrArg List.length hC; simpa using this
  intro T hT X
  obtain ⟨v, st₀, t, T', L, h0, X', hL, e1, e2, ⟨⟨v', w2, hv, hq, hP1, hK1, hD1⟩, hz, hk⟩, stp⟩ := run H locs ls hPc hDc hl T hT X
  cases hv
  rw [h0] at hz hk
  obtain ⟨hfst, K⟩ := K v w2 hq
  have hlen2 : isC.length = w2.length := by rw [hlen]; have := congrArg List.length hfst; simpa using this.symm
  have old : ∀ (i : Nat) (q : Nat × va_E), (wput ws isC w2)[i]? = some q → ∃ q', ws[i]? = some q' ∧ q'.1 = q.1 := by
    intro i q hq
    rcases wput_get isC w2 ws i q hlen2 hnC hq with ⟨j, h1, h2⟩ | ⟨h1, -⟩
    · have h3 : (w2.map Prod.fst)[j]? = some q.1 := by rw [List.getElem?_map, h2]; rfl
      rw [hfst, List.getElem?_map] at h3
      cases hw : w[j]? with
      | none => rw [hw] at h3; cases h3
      | some q' =>
        rw [hw] at h3
        obtain ⟨i', h4, h5⟩ := atC j q' hw
        rw [h1] at h4
        cases h4
        exact ⟨q', h5, Option.some.inj h3⟩
    · exact ⟨q, h1, rfl⟩
  have hD2 : va_D A (wput ws isC w2) := by
    refine ⟨fun i j x y hx hy hxy => ?_, fun i x hx => ?_⟩
    · obtain ⟨x', a1, a2⟩ := old i x hx
      obtain ⟨y', b1, b2⟩ := old j y hy
      exact hD.1 i j x' y' a1 b1 (by rw [a2, b2, hxy])
    · obtain ⟨x', a1, a2⟩ := old i x hx
      rw [← a2]
      exact hD.2 i x' a1
  have hP2 : va_P g.2.1 zCl (wput ws isC w2) T'.heap := by
    intro i q hq
    rcases wput_get isC w2 ws i q hlen2 hnC hq with ⟨j, h1, h2⟩ | ⟨h1, h2⟩
    · rw [e1]
      exact hP1 j q h2
    · have hl1 := (hP i q h1).lt
      refine (hP i q h1).kept ?_
      rw [e1]
      refine hk q.1 hl1 (fun hA1 => ?_)
      rcases hA1 with ⟨j, c1, hj⟩ | hj
      · obtain ⟨i', h4, h5⟩ := atC j (q.1, c1) hj
        have := hD.1 i i' q (q.1, c1) h1 h5 rfl
        subst this
        exact h2 (List.mem_of_getElem? h4)
      · exact absurd hj (Nat.not_le.mpr hl1)
  have hS2 : va_S A s.heap T'.heap (locs ++ L) := ⟨Nat.le_trans hS.1 (by rw [e1]; exact hz), fun q h1 h2 => by rw [e1, hk q (Nat.lt_of_lt_of_le h1 hS.1) (fun z => h2 (hFc q z))]; exact hS.2.1 q h1 h2, fun q hq => by
    rcases List.mem_append.mp hq with h | h
    · exact hS.2.2 q h
    · exact hFc _ (hL q h)⟩
  obtain ⟨t2, a1, b1⟩ := K T'.heap (locs ++ L) ls hP2 hD2 hS2 hl T' rfl X'
  exact ⟨t2, stp t2 a1, b1⟩
theorem wput_same : ∀ (is : List Nat) (w ws : va_W), is.map (fun i => ws[i]?) = w.map some → wput ws is w = ws
  | [], [], ws, _ => rfl
  | [], c :: w, ws, h => by cases h
  | i :: is, [], ws, h => by cases h
  | i :: is, c :: w, ws, h => by
    have h1 : ws[i]? = some c := (List.cons.inj h).1
    have h2 : ws.set i c = ws := by
      apply List.ext_getElem?
      intro j
      rw [List.getElem?_set]
      by_cases hj : i = j
      · subst hj
        rw [if_pos rfl, h1]
        have hl : i < ws.length := by
          rcases Nat.lt_or_ge i ws.length with q | q
          · exact q
          · rw [List.getElem?_eq_none q] at h1; cases h1
        rw [if_pos hl]
      · rw [if_neg hj]
    unfold wput
    rw [h2]
    exact wput_same is w ws (List.cons.inj h).2
/-- what the tables say of a method -/
def MW (y : MethodName) (bytes : ByteArray) (maxL : Nat) (ret : Option FieldType) (np : Nat) : Prop :=
  Cond.code y bytes maxL ret ∈ lwA ∧ Cond.initialized y.cls ∈ lwA ∧ (y.cls ≠ "java/lang/invoke/MethodHandle" ∧ y.cls ≠ "java/lang/invoke/VarHandle") ∧ (parseMethodDescriptor y.desc).map (fun d => d.parameters.length) = some np ∧ maxL ≤ 21
def MWV (y : MethodName) (bytes : ByteArray) (maxL : Nat) (ret : Option FieldType) (np : Nat) : Prop := MW y bytes maxL ret np ∧ Cond.instanceMethod y ∈ lwA ∧ Cond.selects y.cls y y ∈ lwA
theorem zB {y : MethodName} {bytes : ByteArray} {maxL d mc ms np D0 K0 N0 ix : Nat} {ret : Option FieldType} (E : Ob g X cc nL own) (hX : X.2.2.1 = zR D0 K0 N0) (hm : MW y bytes maxL ret np) (hl : Cond.methodLink own ix y ∈ lwA) (hd : d + 1 ≤ D0) :
    CallB X.2.2.1 X.2.2.2.1 X.2.2.2.2.2.1 own ix y bytes maxL ret (Cond.code y bytes maxL ret :: lwA) (zR d mc ms) mc ms np := by
  refine ⟨rfl, rfl, by rw [hX]; exact hd, by rw [hX]; show 8 + (maxL + 11) + 40 * d ≤ 40 * D0; have := hm.2.2.2.2; omega, pay_in E.2.2.2.2.1 (lwA_in hm.1), List.mem_cons_self, E.2.2.2.2.1 _ hm.1, E.2.2.2.2.1 _ hm.2.1, hm.2.2.1, fun sig h => ?_, E.2.2.2.2.1 _ hl⟩
  have h2 := hm.2.2.2.1
  rw [h] at h2
  exact (Option.some.inj h2).symm
theorem zBN {y : MethodName} {bytes : ByteArray} {maxL d mc ms np D0 K0 N0 ix : Nat} {ret : Option FieldType} {host : String} (E : Ob g X cc nL own) (hX : X.2.2.1 = zR D0 K0 N0) (hm : MW y bytes maxL ret np) (hl : (own, ix, y, host) ∈ zNest) (hd : d + 1 ≤ D0) :
    va_CN X.2.2.1 X.2.2.2.1 X.2.2.2.2.2.1 own ix y host bytes maxL ret (Cond.code y bytes maxL ret :: lwA) (zR d mc ms) mc ms np := by
  refine ⟨⟨rfl, rfl, by rw [hX]; exact hd, by rw [hX]; show 8 + (maxL + 11) + 40 * d ≤ 40 * D0; have := hm.2.2.2.2; omega, pay_in E.2.2.2.2.1 (lwA_in hm.1), List.mem_cons_self⟩, E.2.2.2.2.1 _ hm.1, E.2.2.2.2.1 _ hm.2.1, hm.2.2.1, fun sig h => ?_, va_Nw.use rfl (E.2.2.2.2.2.1.2.1 _ hl)⟩
  have h2 := hm.2.2.2.1
  rw [h] at h2
  exact (Option.some.inj h2).symm
theorem zBl {av : List Value} {w : va_W} {sz : Nat} : FrameBlind (va_Pc av (fun U => U.heap.size = sz ∧ va_P g.2.1 zCl w U.heap ∧ zK g U ∧ va_D (fun _ => True) w)) := by
  intro a U g' mk q
  obtain ⟨q0, q1, qP, qK, qD⟩ := q
  exact ⟨q0, q1, qP, zK.moved (u := U) (U := U.calling g' mk a) rfl qK, qD⟩
theorem rV (E : Ob g X cc nL own) {D0 K0 N0 : Nat} (hX : X.2.2.1 = zR D0 K0 N0) {y : MethodName} {bytes : ByteArray} {maxL d mc ms np ix b : Nat} {ret : Option FieldType} {As rest st0 : List Value} {w : va_W} {Q : Option Value → va_W → Prop}
    (hct : Ct g y bytes maxL ret d mc ms (.ref b :: As) w Q) (hm : MWV y bytes maxL ret np) (hl : Cond.methodLink own ix y ∈ lwA) (hdg : decode cc pc = .ok (.invokevirtual ix, 3)) (hd : d + 1 ≤ D0) (hk : k + mc ≤ K0 ∧ n + ms ≤ N0) (hn : As.length = np) (hst : st0 = As.reverse ++ .ref b :: rest) (h8 : (rest.map fun v => v.category).sum ≤ 8)
    (q0 : Nat) {ci : Nat} {fs : List Value} {T : u_T} {N : Nat} (hq0 : w[q0]? = some (b, .inr (ci, fs))) (hci : zCl[ci]? = some (y.cls, T, N)) : Run g X nL k n mc ms lv st0 rest pc (.ref b :: As) w Q :=
  fun H locs ls hP hDt hl' => va_runV (C := y.cls) (As := As) (rest := rest) ⟨E.1, E.2.1, E.2.2.1, E.2.2.2.1, E.2.2.2.2.1⟩ (hct H.size) ⟨zB E hX hm.1 hl hd, E.2.2.2.2.1 _ hm.2.1, E.2.2.2.2.1 _ hm.2.2⟩ ⟨zBl, va_recv E.2.2.2.2.2.1.1 hP hci hq0, fun U hU hW => ⟨rfl, by rw [hU], by rw [hU]; exact hP, E.2.2.2.2.2.1.warm hW, hDt⟩⟩ rfl hn hl'.1 hst (lv_room h8) hdg (by rw [hX]; exact hk)
theorem rS (E : Ob g X cc nL own) {D0 K0 N0 : Nat} (hX : X.2.2.1 = zR D0 K0 N0) {y : MethodName} {bytes : ByteArray} {maxL d mc ms np ix : Nat} {ret : Option FieldType} {As rest st0 : List Value} {w : va_W} {Q : Option Value → va_W → Prop}
    (hct : Ct g y bytes maxL ret d mc ms As w Q) (hm : MW y bytes maxL ret np) (hs : Cond.static y ∈ lwA) (hl : Cond.methodLink own ix y ∈ lwA) (hdg : decode cc pc = .ok (.invokestatic ix, 3)) (hd : d + 1 ≤ D0) (hk : k + mc ≤ K0 ∧ n + ms ≤ N0) (hn : As.length = np) (hst : st0 = As.reverse ++ rest) (h8 : (rest.map fun v => v.category).sum ≤ 8)
    : Run g X nL k n mc ms lv st0 rest pc (As) w Q :=
  fun H locs ls hP hDt hl' => va_runS (As := As) (rest := rest) ⟨E.1, E.2.1, E.2.2.1, E.2.2.2.1, E.2.2.2.2.1⟩ (hct H.size) ⟨zB E hX hm hl hd, E.2.2.2.2.1 _ hs⟩ ⟨zBl, fun U hU hW => ⟨rfl, by rw [hU], by rw [hU]; exact hP, E.2.2.2.2.2.1.warm hW, hDt⟩⟩ rfl hn hl'.1 hst (lv_room h8) hdg (by rw [hX]; exact hk)
theorem rSN (E : Ob g X cc nL own) {D0 K0 N0 : Nat} (hX : X.2.2.1 = zR D0 K0 N0) {y : MethodName} {host : String} {bytes : ByteArray} {maxL d mc ms np ix : Nat} {ret : Option FieldType} {As rest st0 : List Value} {w : va_W} {Q : Option Value → va_W → Prop}
    (hct : Ct g y bytes maxL ret d mc ms As w Q) (hm : MW y bytes maxL ret np) (hs : Cond.static y ∈ lwA) (hl : (own, ix, y, host) ∈ zNest) (hdg : decode cc pc = .ok (.invokestatic ix, 3)) (hd : d + 1 ≤ D0) (hk : k + mc ≤ K0 ∧ n + ms ≤ N0) (hn : As.length = np) (hst : st0 = As.reverse ++ rest) (h8 : (rest.map fun v => v.category).sum ≤ 8)
    : Run g X nL k n mc ms lv st0 rest pc (As) w Q :=
  fun H locs ls hP hDt hl' => va_runSN (As := As) (rest := rest) ⟨E.1, E.2.1, E.2.2.1, E.2.2.2.1, E.2.2.2.2.1⟩ (hct H.size) ⟨zBN E hX hm hl hd, E.2.2.2.2.1 _ hs, trivial⟩ ⟨zBl, fun U hU hW => ⟨rfl, by rw [hU], by rw [hU]; exact hP, E.2.2.2.2.2.1.warm hW, hDt⟩⟩ rfl hn hl'.1 hst (lv_room h8) hdg (by rw [hX]; exact hk)
theorem rI (E : Ob g X cc nL own) {D0 K0 N0 : Nat} (hX : X.2.2.1 = zR D0 K0 N0) {y : MethodName} {bytes : ByteArray} {maxL d mc ms np ix b : Nat} {As rest st0 : List Value} {w : va_W} {Q : Option Value → va_W → Prop}
    (hct : Ct g y bytes maxL none d mc ms (.ref b :: As) w Q) (hm : MW y bytes maxL none np) (hi : y.name = "<init>" ∧ Cond.instanceMethod y ∈ lwA) (hl : Cond.methodLink own ix y ∈ lwA) (hdg : decode cc pc = .ok (.invokespecial ix, 3)) (hd : d + 1 ≤ D0) (hk : k + mc ≤ K0 ∧ n + ms ≤ N0) (hn : As.length = np) (hst : st0 = As.reverse ++ .ref b :: rest) (h8 : (rest.map fun v => v.category).sum ≤ 8)
    : Run g X nL k n mc ms lv st0 rest pc (.ref b :: As) w Q :=
  fun H locs ls hP hDt hl' => va_runI (As := As) (rest := rest) ⟨E.1, E.2.1, E.2.2.1, E.2.2.2.1, E.2.2.2.2.1⟩ (hct H.size) ⟨zB E hX hm hl hd, hi.1, E.2.2.2.2.1 _ hi.2⟩ ⟨zBl, fun U hU hW => ⟨rfl, by rw [hU], by rw [hU]; exact hP, E.2.2.2.2.2.1.warm hW, hDt⟩⟩ rfl hn hl'.1 hst (lv_room h8) hdg (by rw [hX]; exact hk)
theorem rIN (E : Ob g X cc nL own) {D0 K0 N0 : Nat} (hX : X.2.2.1 = zR D0 K0 N0) {y : MethodName} {host : String} {bytes : ByteArray} {maxL d mc ms np ix b : Nat} {As rest st0 : List Value} {w : va_W} {Q : Option Value → va_W → Prop}
    (hct : Ct g y bytes maxL none d mc ms (.ref b :: As) w Q) (hm : MW y bytes maxL none np) (hi : y.name = "<init>" ∧ Cond.instanceMethod y ∈ lwA) (hl : (own, ix, y, host) ∈ zNest) (hdg : decode cc pc = .ok (.invokespecial ix, 3)) (hd : d + 1 ≤ D0) (hk : k + mc ≤ K0 ∧ n + ms ≤ N0) (hn : As.length = np) (hst : st0 = As.reverse ++ .ref b :: rest) (h8 : (rest.map fun v => v.category).sum ≤ 8)
    : Run g X nL k n mc ms lv st0 rest pc (.ref b :: As) w Q :=
  fun H locs ls hP hDt hl' => va_runIN (As := As) (rest := rest) ⟨E.1, E.2.1, E.2.2.1, E.2.2.2.1, E.2.2.2.2.1⟩ (hct H.size) ⟨zBN E hX hm hl hd, hi.1, E.2.2.2.2.1 _ hi.2⟩ ⟨zBl, fun U hU hW => ⟨rfl, by rw [hU], by rw [hU]; exact hP, E.2.2.2.2.2.1.warm hW, hDt⟩⟩ rfl hn hl'.1 hst (lv_room h8) hdg (by rw [hX]; exact hk)
/-- ends of contracts -/
def QI (P : Int32 → va_W → Prop) : Option Value → va_W → Prop := fun v w => ∃ r : Int32, v = some (.int r) ∧ P r w
def QL (P : Int64 → va_W → Prop) : Option Value → va_W → Prop := fun v w => ∃ r : Int64, v = some (.long r) ∧ P r w
def QV (P : va_W → Prop) : Option Value → va_W → Prop := fun v w => v = none ∧ P w
def DI (r : Int32) (w : va_W) : Option Value → va_W → Prop := fun v w2 => v = some (.int r) ∧ w2 = w
def DL (r : Int64) (w : va_W) : Option Value → va_W → Prop := fun v w2 => v = some (.long r) ∧ w2 = w
def DV (w : va_W) : Option Value → va_W → Prop := fun v w2 => v = none ∧ w2 = w
theorem k_DI {r : Int32} {w wr ws2 : va_W} {rest : List Value} (h : wr ++ w = ws2) (K : Z g X nL k n ws2 lv (.int r :: rest) (pc + 3)) : ∀ (v : Option Value) (w2 : va_W), DI r w v w2 → Z g X nL (k + 0) (n + 0) (wr ++ w2) lv (v.toList ++ rest) (pc + 3) := by
  intro v w2 hq
  obtain ⟨rfl, rfl⟩ := hq
  rw [h]
  exact K
theorem k_DL {r : Int64} {w wr ws2 : va_W} {rest : List Value} (h : wr ++ w = ws2) (K : Z g X nL k n ws2 lv (.long r :: rest) (pc + 3)) : ∀ (v : Option Value) (w2 : va_W), DL r w v w2 → Z g X nL (k + 0) (n + 0) (wr ++ w2) lv (v.toList ++ rest) (pc + 3) := by
  intro v w2 hq
  obtain ⟨rfl, rfl⟩ := hq
  rw [h]
  exact K
theorem k_DV {w wr ws2 : va_W} {rest : List Value} (h : wr ++ w = ws2) (K : Z g X nL k n ws2 lv rest (pc + 3)) : ∀ (v : Option Value) (w2 : va_W), DV w v w2 → Z g X nL (k + 0) (n + 0) (wr ++ w2) lv (v.toList ++ rest) (pc + 3) := by
  intro v w2 hq
  obtain ⟨rfl, rfl⟩ := hq
  rw [h]
  exact K
theorem k_QI {P : Int32 → va_W → Prop} {wr : va_W} {rest : List Value} (K : ∀ (r : Int32) (w2 : va_W), P r w2 → Z g X nL k n (wr ++ w2) lv (.int r :: rest) (pc + 3)) : ∀ (v : Option Value) (w2 : va_W), QI P v w2 → Z g X nL (k + 0) (n + 0) (wr ++ w2) lv (v.toList ++ rest) (pc + 3) := by
  intro v w2 hq
  obtain ⟨r, rfl, h⟩ := hq
  exact K r w2 h
theorem k_QL {P : Int64 → va_W → Prop} {wr : va_W} {rest : List Value} (K : ∀ (r : Int64) (w2 : va_W), P r w2 → Z g X nL k n (wr ++ w2) lv (.long r :: rest) (pc + 3)) : ∀ (v : Option Value) (w2 : va_W), QL P v w2 → Z g X nL (k + 0) (n + 0) (wr ++ w2) lv (v.toList ++ rest) (pc + 3) := by
  intro v w2 hq
  obtain ⟨r, rfl, h⟩ := hq
  exact K r w2 h
theorem k_QV {P : va_W → Prop} {wr : va_W} {rest : List Value} (K : ∀ (w2 : va_W), P w2 → Z g X nL k n (wr ++ w2) lv rest (pc + 3)) : ∀ (v : Option Value) (w2 : va_W), QV P v w2 → Z g X nL (k + 0) (n + 0) (wr ++ w2) lv (v.toList ++ rest) (pc + 3) := by
  intro v w2 hq
  obtain ⟨rfl, h⟩ := hq
  exact K w2 h
/-- another order of the world -/
theorem z_perm {ws' : va_W} (ps : List Nat) (hp : ps.map (fun i => ws[i]?) = ws'.map some) (hn : va_nd ps = true) (K : Z g X nL k n ws' lv st pc) : Z g X nL k n ws lv st pc := fun H locs ls hP hD hS hl => K H locs ls (fun j q hq => by
    have h1 : (ps.map (fun i => ws[i]?))[j]? = some (some q) := by rw [hp, List.getElem?_map, hq]; rfl
    rw [List.getElem?_map] at h1
    cases hi : ps[j]? with
    | none => rw [hi] at h1; cases h1
    | some i => rw [hi] at h1; exact hP i q (Option.some.inj h1)) (hD.sub ps hn hp) hS hl
/-- all places of a world -/
theorem rng_map {α : Type} (w : List α) : (List.range w.length).map (fun i => w[i]?) = w.map some := by
  apply List.ext_getElem
  · simp
  · intro i h1 h2
    simp at h1
    simp [h1]
theorem va_nd_of : ∀ l : List Nat, l.Nodup → va_nd l = true
  | [], _ => rfl
  | a :: l, h => by
    have h1 := List.nodup_cons.mp h
    simp only [va_nd, Bool.and_eq_true, decide_eq_true_eq]
    exact ⟨h1.1, va_nd_of l h1.2⟩
theorem va_nd_range (n : Nat) : va_nd (List.range n) = true := va_nd_of _ List.nodup_range
/-- an answer, nothing written -/
theorem z_ro (E : Ob g X cc nL own) {w : va_W} {r : Int32} {av rest st0 : List Value} (run : Run g X nL k n 0 0 lv st0 rest pc av w (DI r w)) (isC : List Nat) (hC : isC.map (fun i => ws[i]?) = w.map some) (hnC : va_nd isC = true) (K : Z g X nL k n ws lv (.int r :: rest) (pc + 3)) : Z g X nL k n ws lv st0 pc :=
  z_core2 E run isC hC hnC (fun v w2 hq => by
    obtain ⟨rfl, rfl⟩ := hq
    refine ⟨rfl, ?_⟩
    rw [wput_same isC w2 ws hC]
    exact K)
theorem z_rol (E : Ob g X cc nL own) {w : va_W} {r : Int64} {av rest st0 : List Value} (run : Run g X nL k n 0 0 lv st0 rest pc av w (DL r w)) (isC : List Nat) (hC : isC.map (fun i => ws[i]?) = w.map some) (hnC : va_nd isC = true) (K : Z g X nL k n ws lv (.long r :: rest) (pc + 3)) : Z g X nL k n ws lv st0 pc :=
  z_core2 E run isC hC hnC (fun v w2 hq => by
    obtain ⟨rfl, rfl⟩ := hq
    refine ⟨rfl, ?_⟩
    rw [wput_same isC w2 ws hC]
    exact K)
/-- an answer and a new world, both known -/
theorem z_rw (E : Ob g X cc nL own) {w w2 ws2 : va_W} {r : Int32} {av rest st0 : List Value} (run : Run g X nL k n 0 0 lv st0 rest pc av w (DI r w2)) (isC : List Nat) (hC : isC.map (fun i => ws[i]?) = w.map some) (hnC : va_nd isC = true) (hf : w2.map Prod.fst = w.map Prod.fst) (hp : wput ws isC w2 = ws2) (K : Z g X nL k n ws2 lv (.int r :: rest) (pc + 3)) : Z g X nL k n ws lv st0 pc :=
  z_core2 E run isC hC hnC (fun v w3 hq => by
    obtain ⟨rfl, rfl⟩ := hq
    refine ⟨hf, ?_⟩
    rw [hp]
    exact K)
theorem z_rwv (E : Ob g X cc nL own) {w w2 ws2 : va_W} {av rest st0 : List Value} (run : Run g X nL k n 0 0 lv st0 rest pc av w (DV w2)) (isC : List Nat) (hC : isC.map (fun i => ws[i]?) = w.map some) (hnC : va_nd isC = true) (hf : w2.map Prod.fst = w.map Prod.fst) (hp : wput ws isC w2 = ws2) (K : Z g X nL k n ws2 lv rest (pc + 3)) : Z g X nL k n ws lv st0 pc :=
  z_core2 E run isC hC hnC (fun v w3 hq => by
    obtain ⟨rfl, rfl⟩ := hq
    refine ⟨hf, ?_⟩
    rw [hp]
    exact K)
/-- the same where the callee's world is all the world -/
theorem z_ro0 (E : Ob g X cc nL own) {r : Int32} {av rest st0 : List Value} (run : Run g X nL k n 0 0 lv st0 rest pc av ws (DI r ws)) (K : Z g X nL k n ws lv (.int r :: rest) (pc + 3)) : Z g X nL k n ws lv st0 pc :=
  z_ro E run (List.range ws.length) (rng_map ws) (va_nd_range _) K
theorem wput_all : ∀ (pre w w2 : va_W), w.length = w2.length → wput (pre ++ w) ((List.range w.length).map (fun i => pre.length + i)) w2 = pre ++ w2
  | pre, [], [], _ => rfl
  | pre, [], c :: w, h => by cases h
  | pre, c :: w, [], h => by cases h
  | pre, c :: w, d :: w2, h => by
    rw [List.length_cons, List.range_succ_eq_map, List.map_cons, List.map_map]
    unfold wput
    have h1 : (pre ++ c :: w).set (pre.length + 0) d = (pre ++ [d]) ++ w := by simp
    rw [h1]
    have h2 := wput_all (pre ++ [d]) w w2 (Nat.succ.inj h)
    have h3 : (List.range w.length).map ((fun i => pre.length + i) ∘ Nat.succ) = (List.range w.length).map (fun i => (pre ++ [d]).length + i) := by
      apply List.map_congr_left
      intro a _
      simp only [Function.comp, List.length_append, List.length_cons, List.length_nil]
      omega
    rw [h3, h2]
    simp
theorem wput0 (w w2 : va_W) (h : w2.map Prod.fst = w.map Prod.fst) : wput w (List.range w.length) w2 = w2 := by
  have hl : w.length = w2.length := by have := congrArg List.length h; simpa using this.symm
  have h1 := wput_all [] w w2 hl
  simpa using h1
theorem z_rw0 (E : Ob g X cc nL own) {w2 : va_W} {r : Int32} {av rest st0 : List Value} (run : Run g X nL k n 0 0 lv st0 rest pc av ws (DI r w2)) (hf : w2.map Prod.fst = ws.map Prod.fst) (K : Z g X nL k n w2 lv (.int r :: rest) (pc + 3)) : Z g X nL k n ws lv st0 pc :=
  z_rw E run (List.range ws.length) (rng_map ws) (va_nd_range _) hf (wput0 ws w2 hf) K
theorem z_rwv0 (E : Ob g X cc nL own) {w2 : va_W} {av rest st0 : List Value} (run : Run g X nL k n 0 0 lv st0 rest pc av ws (DV w2)) (hf : w2.map Prod.fst = ws.map Prod.fst) (K : Z g X nL k n w2 lv rest (pc + 3)) : Z g X nL k n ws lv st0 pc :=
  z_rwv E run (List.range ws.length) (rng_map ws) (va_nd_range _) hf (wput0 ws w2 hf) K
/-- a static method without a world -/
theorem z_se (E : Ob g X cc nL own) {r : Int32} {av rest st0 : List Value} (run : Run g X nL k n 0 0 lv st0 rest pc av [] (DI r [])) (K : Z g X nL k n ws lv (.int r :: rest) (pc + 3)) : Z g X nL k n ws lv st0 pc := z_ro E run [] rfl rfl K
theorem z_sel (E : Ob g X cc nL own) {r : Int64} {av rest st0 : List Value} (run : Run g X nL k n 0 0 lv st0 rest pc av [] (DL r [])) (K : Z g X nL k n ws lv (.long r :: rest) (pc + 3)) : Z g X nL k n ws lv st0 pc := z_rol E run [] rfl rfl K
/-- an answer and a world of which something is known -/
theorem z_q (E : Ob g X cc nL own) {w : va_W} {P : Int32 → va_W → Prop} {av rest st0 : List Value} (run : Run g X nL k n 0 0 lv st0 rest pc av w (QI P)) (isC : List Nat) (hC : isC.map (fun i => ws[i]?) = w.map some) (hnC : va_nd isC = true) (K : ∀ (r : Int32) (w2 : va_W), P r w2 → w2.map Prod.fst = w.map Prod.fst ∧ Z g X nL k n (wput ws isC w2) lv (.int r :: rest) (pc + 3)) : Z g X nL k n ws lv st0 pc :=
  z_core2 E run isC hC hnC (fun v w3 hq => by
    obtain ⟨r, rfl, h⟩ := hq
    exact K r w3 h)
theorem z_qv (E : Ob g X cc nL own) {w : va_W} {P : va_W → Prop} {av rest st0 : List Value} (run : Run g X nL k n 0 0 lv st0 rest pc av w (QV P)) (isC : List Nat) (hC : isC.map (fun i => ws[i]?) = w.map some) (hnC : va_nd isC = true) (K : ∀ (w2 : va_W), P w2 → w2.map Prod.fst = w.map Prod.fst ∧ Z g X nL k n (wput ws isC w2) lv rest (pc + 3)) : Z g X nL k n ws lv st0 pc :=
  z_core2 E run isC hC hnC (fun v w3 hq => by
    obtain ⟨rfl, h⟩ := hq
    exact K w3 h)
theorem z_q0 (E : Ob g X cc nL own) {P : Int32 → va_W → Prop} {av rest st0 : List Value} (run : Run g X nL k n 0 0 lv st0 rest pc av ws (QI P)) (K : ∀ (r : Int32) (w2 : va_W), P r w2 → w2.map Prod.fst = ws.map Prod.fst ∧ Z g X nL k n w2 lv (.int r :: rest) (pc + 3)) : Z g X nL k n ws lv st0 pc :=
  z_q E run (List.range ws.length) (rng_map ws) (va_nd_range _) (fun r w2 h => ⟨(K r w2 h).1, by rw [wput0 ws w2 (K r w2 h).1]; exact (K r w2 h).2⟩)
theorem z_qv0 (E : Ob g X cc nL own) {P : va_W → Prop} {av rest st0 : List Value} (run : Run g X nL k n 0 0 lv st0 rest pc av ws (QV P)) (K : ∀ (w2 : va_W), P w2 → w2.map Prod.fst = ws.map Prod.fst ∧ Z g X nL k n w2 lv rest (pc + 3)) : Z g X nL k n ws lv st0 pc :=
  z_qv E run (List.range ws.length) (rng_map ws) (va_nd_range _) (fun w2 h => ⟨(K w2 h).1, by rw [wput0 ws w2 (K w2 h).1]; exact (K w2 h).2⟩)
theorem bz1 {b : Bool} (h : b = true) : some (Value.int (nI 1)) = some (.int (bI b)) := by rw [h]; rfl
theorem bz0 {b : Bool} (h : b = false) : some (Value.int (nI 0)) = some (.int (bI b)) := by rw [h]; rfl
end ZN
theorem zn_and (a b : Nat) : nI a &&& nI b = nI (a &&& b) := by
  apply Int32.toBitVec_inj.1
  show BitVec.ofNat 32 a &&& BitVec.ofNat 32 b = BitVec.ofNat 32 (a &&& b)
  apply BitVec.eq_of_getLsbD_eq
  intro i hi
  simp [hi]
theorem zn_or (a b : Nat) : nI a ||| nI b = nI (a ||| b) := by
  apply Int32.toBitVec_inj.1
  show BitVec.ofNat 32 a ||| BitVec.ofNat 32 b = BitVec.ofNat 32 (a ||| b)
  apply BitVec.eq_of_getLsbD_eq
  intro i hi
  simp [hi]
theorem zn_xor (a b : Nat) : nI a ^^^ nI b = nI (a ^^^ b) := by
  apply Int32.toBitVec_inj.1
  show BitVec.ofNat 32 a ^^^ BitVec.ofNat 32 b = BitVec.ofNat 32 (a ^^^ b)
  apply BitVec.eq_of_getLsbD_eq
  intro i hi
  simp [hi]
theorem zn_sl : ∀ n, n < 32 → ((nI n &&& 31).toBitVec.smod 32).toNat = n := by decide +kernel
theorem zn_shl (a : Nat) {b : Nat} (h : b < 32) : nI a <<< (nI b &&& 31) = nI (a <<< b) := by
  apply Int32.toBitVec_inj.1
  apply BitVec.eq_of_toNat_eq
  rw [pk_shl (nI a) (nI b &&& 31) b (zn_sl b h)]
  show (BitVec.ofNat 32 a).toNat * 2 ^ b % 2 ^ 32 = (BitVec.ofNat 32 (a <<< b)).toNat
  rw [BitVec.toNat_ofNat, BitVec.toNat_ofNat, Nat.shiftLeft_eq, Nat.mod_mul_mod]
theorem zn_shr {a b : Nat} (ha : a < 2 ^ 31) (h : b < 32) : nI a >>> (nI b &&& 31) = nI (a >>> b) := by
  rw [pk_shrN ha (nI b &&& 31) b (zn_sl b h), Nat.shiftRight_eq_div_pow]
section ZM
variable {g : GC} {X : XC} {cc : ByteArray} {nL k n pc : Nat} {own : String} {ws : va_W} {lv lv' : List (Nat × Value)} {st : List Value}
theorem z_iandN (E : Ob g X cc nL own) {a b : Nat} (hd : decode cc pc = .ok (.iand, 1)) (K : Z g X nL k n ws lv (.int (nI (a &&& b)) :: st) (pc + 1)) : Z g X nL k n ws lv (.int (nI b) :: .int (nI a) :: st) pc := z_iand E hd (z_topi (zn_and a b) K)
theorem z_iorN (E : Ob g X cc nL own) {a b : Nat} (hd : decode cc pc = .ok (.ior, 1)) (K : Z g X nL k n ws lv (.int (nI (a ||| b)) :: st) (pc + 1)) : Z g X nL k n ws lv (.int (nI b) :: .int (nI a) :: st) pc := z_ior E hd (z_topi (zn_or a b) K)
theorem z_ixorN (E : Ob g X cc nL own) {a b : Nat} (hd : decode cc pc = .ok (.ixor, 1)) (K : Z g X nL k n ws lv (.int (nI (a ^^^ b)) :: st) (pc + 1)) : Z g X nL k n ws lv (.int (nI b) :: .int (nI a) :: st) pc := z_ixor E hd (z_topi (zn_xor a b) K)
theorem z_ishlN (E : Ob g X cc nL own) {a b : Nat} (hd : decode cc pc = .ok (.ishl, 1)) (hb : b < 32) (K : Z g X nL k n ws lv (.int (nI (a <<< b)) :: st) (pc + 1)) : Z g X nL k n ws lv (.int (nI b) :: .int (nI a) :: st) pc := z_ishl E hd (z_topi (zn_shl a hb) K)
theorem z_ishrN (E : Ob g X cc nL own) {a b : Nat} (hd : decode cc pc = .ok (.ishr, 1)) (ha : a < 2 ^ 31) (hb : b < 32) (K : Z g X nL k n ws lv (.int (nI (a >>> b)) :: st) (pc + 1)) : Z g X nL k n ws lv (.int (nI b) :: .int (nI a) :: st) pc := z_ishr E hd (z_topi (zn_shr ha hb) K)
theorem z_idivN (E : Ob g X cc nL own) {a b : Nat} (hd : decode cc pc = .ok (.idiv, 1)) (ha : a < 2 ^ 31) (h0 : 0 < b) (hb : b < 2 ^ 31) (K : Z g X nL k n ws lv (.int (nI (a / b)) :: st) (pc + 1)) : Z g X nL k n ws lv (.int (nI b) :: .int (nI a) :: st) pc := z_idiv E hd (nI_ne0 h0 hb) (z_topi (pk_div ha h0 hb) K)
theorem z_laddN (E : Ob g X cc nL own) {a b : Nat} (hd : decode cc pc = .ok (.ladd, 1)) (K : Z g X nL k n ws lv (.long (lN (a + b)) :: st) (pc + 1)) : Z g X nL k n ws lv (.long (lN b) :: .long (lN a) :: st) pc := z_ladd E hd (z_topl (lN_add a b) K)
theorem z_lmulN (E : Ob g X cc nL own) {a b : Nat} (hd : decode cc pc = .ok (.lmul, 1)) (K : Z g X nL k n ws lv (.long (lN (a * b)) :: st) (pc + 1)) : Z g X nL k n ws lv (.long (lN b) :: .long (lN a) :: st) pc := z_lmul E hd (z_topl (lN_mul a b) K)
theorem lN_ne0 {b : Nat} (h0 : 0 < b) (hb : b < 2 ^ 63) : ¬ lN b = 0 := fun h => by have := (pk_lEQ hb (show (0 : Nat) < 2 ^ 63 by decide)).mp h; omega
theorem z_ldivN (E : Ob g X cc nL own) {a b : Nat} (hd : decode cc pc = .ok (.ldiv, 1)) (ha : a < 2 ^ 63) (h0 : 0 < b) (hb : b < 2 ^ 63) (K : Z g X nL k n ws lv (.long (lN (a / b)) :: st) (pc + 1)) : Z g X nL k n ws lv (.long (lN b) :: .long (lN a) :: st) pc := z_ldiv E hd (lN_ne0 h0 hb) (z_topl (pk_lDiv ha h0 hb) K)
theorem z_lremN (E : Ob g X cc nL own) {a b : Nat} (hd : decode cc pc = .ok (.lrem, 1)) (ha : a < 2 ^ 63) (h0 : 0 < b) (hb : b < 2 ^ 63) (K : Z g X nL k n ws lv (.long (lN (a % b)) :: st) (pc + 1)) : Z g X nL k n ws lv (.long (lN b) :: .long (lN a) :: st) pc := z_lrem E hd (lN_ne0 h0 hb) (z_topl (pk_lRem ha h0 hb) K)
theorem z_ifL_eq (E : Ob g X cc nL own) {a b : Nat} {off : Int} (hd : decode cc pc = .ok (.ifCond .eq off, 3)) (tgt : Nat) (ht : (pc : Int) + off = (tgt : Int)) (ha : a < 2 ^ 63) (hb : b < 2 ^ 63) (kt : a = b → Z g X nL k n ws lv st tgt) (kf : a ≠ b → Z g X nL k n ws lv st (pc + 3)) : Z g X nL k n ws lv (.int (lg_cmp (lN a) (lN b)) :: st) pc :=
  z_if_eq E hd tgt ht (fun h => kt ((pk_lEQ ha hb).mp ((lg_cmp_eq _ _).mp h))) (fun h => kf (fun e => h ((lg_cmp_eq _ _).mpr (by rw [e]))))
theorem z_ifL_le (E : Ob g X cc nL own) {a b : Nat} {off : Int} (hd : decode cc pc = .ok (.ifCond .le off, 3)) (tgt : Nat) (ht : (pc : Int) + off = (tgt : Int)) (ha : a < 2 ^ 63) (hb : b < 2 ^ 63) (kt : a ≤ b → Z g X nL k n ws lv st tgt) (kf : b < a → Z g X nL k n ws lv st (pc + 3)) : Z g X nL k n ws lv (.int (lg_cmp (lN a) (lN b)) :: st) pc :=
  z_if_le E hd tgt ht (fun h => kt ((pk_lLE ha hb).mp ((lg_cmp_le _ _).mp h))) (fun h => kf (Nat.not_le.mp (fun e => h ((lg_cmp_le _ _).mpr ((pk_lLE ha hb).mpr e)))))
theorem z_ifL_ne (E : Ob g X cc nL own) {a b : Nat} {off : Int} (hd : decode cc pc = .ok (.ifCond .ne off, 3)) (tgt : Nat) (ht : (pc : Int) + off = (tgt : Int)) (ha : a < 2 ^ 63) (hb : b < 2 ^ 63) (kt : a ≠ b → Z g X nL k n ws lv st tgt) (kf : a = b → Z g X nL k n ws lv st (pc + 3)) : Z g X nL k n ws lv (.int (lg_cmp (lN a) (lN b)) :: st) pc :=
  z_if_ne E hd tgt ht (fun h => kt (fun e => h ((lg_cmp_eq _ _).mpr (by rw [e])))) (fun h => kf ((pk_lEQ ha hb).mp ((lg_cmp_eq _ _).mp h)))
end ZM
/-- the state of an object: its numbers by their slots, its arrays by the slots that hold them -/
abbrev NS : Type := (Nat → Nat) × (Nat → Nat → Nat)
def sF (T : NS) (k v : Nat) : NS := (va_up T.1 k v, T.2)
def sA (T : NS) (k : Nat) (f : Nat → Nat) : NS := (T.1, va_up T.2 k f)
/-- all numbers small -/
def sm (T : NS) : Prop := (∀ k, T.1 k < 2 ^ 31) ∧ ∀ i k, T.2 i k < 2 ^ 31
theorem sm.F {T : NS} (h : sm T) {k v : Nat} (hv : v < 2 ^ 31) : sm (sF T k v) := ⟨fun j => by unfold sF va_up; dsimp only; split; exact hv; exact h.1 j, h.2⟩
theorem sm.A {T : NS} (h : sm T) {k : Nat} {f : Nat → Nat} (hf : ∀ j, f j < 2 ^ 31) : sm (sA T k f) := ⟨h.1, fun i j => by unfold sA va_up; dsimp only; split; exact hf j; exact h.2 i j⟩
theorem up_lt {f : Nat → Nat} {i x M : Nat} (hf : ∀ j, f j < M) (hx : x < M) : ∀ j, va_up f i x j < M := fun j => by unfold va_up; split; exact hx; exact hf j
def cm : Nat → Int32
  | 0 => -9
  | k + 1 => nI k
def pm : Nat → Int32
  | 0 => -1
  | k + 1 => nI k
def tk : Nat → Int32
  | 0 => -3
  | 1 => -2
  | 2 => -1
  | k + 3 => nI k
theorem arrV_cg {c : ClassId} {n : Nat} {f f' : Nat → Value} (h : ∀ j, j < n → f j = f' j) : arrV c n f = arrV c n f' := by
  unfold arrV
  congr 1
  congr 1
  funext j
  exact h j.val j.isLt
theorem cpyN (f h : Nat → Nat) (sp dp n : Nat) : va_cpy (fun k => nI (f k)) (fun k => nI (h k)) sp dp n = fun k => nI (va_cpy f h sp dp n k) := by
  funext k
  unfold va_cpy
  by_cases q : dp ≤ k ∧ k < dp + n
  · rw [if_pos q, if_pos q]
  · rw [if_neg q, if_neg q]
theorem cpyJ (f h : Nat → Nat) (sp dp n : Nat) : va_cpy (fun k => lN (f k)) (fun k => lN (h k)) sp dp n = fun k => lN (va_cpy f h sp dp n k) := by
  funext k
  unfold va_cpy
  by_cases q : dp ≤ k ∧ k < dp + n
  · rw [if_pos q, if_pos q]
  · rw [if_neg q, if_neg q]
section ZC
variable {g : GC} {X : XC} {cc : ByteArray} {nL k n pc : Nat} {own : String} {ws : va_W} {lv lv' : List (Nat × Value)} {st : List Value}
/-- an array, as far as it goes -/
theorem z_arrN {c : ClassId} (q : Nat) {a N : Nat} {f f' : Nat → Nat} (he : ws[q]? = some (a, .inl (c, N, .inl (fun k => nI (f k))))) (hff : ∀ j, j < N → f j = f' j) {ws' : va_W} (hws : ws.set q (a, .inl (c, N, .inl (fun k => nI (f' k)))) = ws') (K : Z g X nL k n ws' lv st pc) : Z g X nL k n ws lv st pc := fun H locs ls hP hD hS hl => by
  subst hws
  refine K H locs ls (hP.set hD he ?_ (fun _ _ => rfl)) (hD.set he) hS hl
  have h1 := hP q _ he
  show H[a]? = some (arrV c N (fun j => .int (nI (f' j))))
  rw [arrV_cg (f' := fun j => .int (nI (f j))) (fun j hj => by rw [hff j hj])]
  exact h1
theorem z_arrJ {c : ClassId} (q : Nat) {a N : Nat} {f f' : Nat → Nat} (he : ws[q]? = some (a, .inl (c, N, .inr (.inl (fun k => lN (f k)))))) (hff : ∀ j, j < N → f j = f' j) {ws' : va_W} (hws : ws.set q (a, .inl (c, N, .inr (.inl (fun k => lN (f' k))))) = ws') (K : Z g X nL k n ws' lv st pc) : Z g X nL k n ws lv st pc := fun H locs ls hP hD hS hl => by
  subst hws
  refine K H locs ls (hP.set hD he ?_ (fun _ _ => rfl)) (hD.set he) hS hl
  have h1 := hP q _ he
  show H[a]? = some (arrV c N (fun j => .long (lN (f' j))))
  rw [arrV_cg (f' := fun j => .long (lN (f j))) (fun j hj => by rw [hff j hj])]
  exact h1
theorem z_copyN (E : Ob g X cc nL own) {D0 K0 N0 : Nat} (hX : X.2.2.1 = zR D0 K0 N0) {ix : Nat} (hd : decode cc pc = .ok (.invokestatic ix, 3)) (hl : Cond.methodLink own ix arraycopyName ∈ lwA) (hw : Cond.native arraycopyName ∈ lwA ∧ Cond.static arraycopyName ∈ lwA ∧ Cond.initialized "java/lang/System" ∈ lwA) (hD0 : 1 ≤ D0) (h8 : (st.map fun v => v.category).sum ≤ 8)
    (q0 q1 : Nat) {a0 a1 n0 n1 : Nat} {f h : Nat → Nat} (ha0 : ws[q0]? = some (a0, .inl (g.2.2 0, n0, .inl (fun k => nI (f k))))) (ha1 : ws[q1]? = some (a1, .inl (g.2.2 0, n1, .inl (fun k => nI (h k))))) {sp dp m : Nat} (h1 : sp + m ≤ n0) (h2 : dp + m ≤ n1) (hn0 : n0 < 2 ^ 31) (hn1 : n1 < 2 ^ 31) {ws' : va_W} (hws : ws.set q1 (a1, .inl (g.2.2 0, n1, .inl (fun k => nI (va_cpy f h sp dp m k)))) = ws') (K : Z g X nL k n ws' lv st (pc + 3)) :
    Z g X nL k n ws lv (.int (nI m) :: .int (nI dp) :: .ref a1 :: .int (nI sp) :: .ref a0 :: st) pc := fun H locs ls hP hD hS hlv => by
  have c1 : (nI sp).toNatClampNeg = sp := nI_clamp (by omega)
  have c2 : (nI dp).toNatClampNeg = dp := nI_clamp (by omega)
  have c3 : (nI m).toNatClampNeg = m := nI_clamp (by omega)
  refine va_copyi E.1 E.2.1 (E.2.2.1.trans hlv.1.symm) E.2.2.2.1 (E.2.2.2.2.1 _ hl) (E.2.2.2.2.1 _ hw.1) (E.2.2.2.2.1 _ hw.2.1) (E.2.2.2.2.1 _ hw.2.2) E.2.2.2.2.2.1.1 hP hD hS q0 q1 0 0 (ty := .int) ha0 ha1 rfl rfl rfl (nI_pos (by omega)) (nI_pos (by omega)) (nI_pos (by omega)) (by rw [c1, c3]; exact h1) (by rw [c2, c3]; exact h2) (fun _ _ => rfl) (by rw [hX]; exact hD0) (by rw [hX]; show _ + (7 + 11) ≤ 40 * D0; omega) hd (fun H1 locs1 p1 p2 p3 => ?_)
  rw [c1, c2, c3, cpyN, hws] at p1 p2
  exact K H1 locs1 ls p1 p2 p3 hlv
theorem z_copyJ (E : Ob g X cc nL own) {D0 K0 N0 : Nat} (hX : X.2.2.1 = zR D0 K0 N0) {ix : Nat} (hd : decode cc pc = .ok (.invokestatic ix, 3)) (hl : Cond.methodLink own ix arraycopyName ∈ lwA) (hw : Cond.native arraycopyName ∈ lwA ∧ Cond.static arraycopyName ∈ lwA ∧ Cond.initialized "java/lang/System" ∈ lwA) (hD0 : 1 ≤ D0) (h8 : (st.map fun v => v.category).sum ≤ 8)
    (q0 q1 : Nat) {a0 a1 n0 n1 : Nat} {f h : Nat → Nat} (ha0 : ws[q0]? = some (a0, .inl (g.2.2 1, n0, .inr (.inl (fun k => lN (f k)))))) (ha1 : ws[q1]? = some (a1, .inl (g.2.2 1, n1, .inr (.inl (fun k => lN (h k)))))) {sp dp m : Nat} (h1 : sp + m ≤ n0) (h2 : dp + m ≤ n1) (hn0 : n0 < 2 ^ 31) (hn1 : n1 < 2 ^ 31) {ws' : va_W} (hws : ws.set q1 (a1, .inl (g.2.2 1, n1, .inr (.inl (fun k => lN (va_cpy f h sp dp m k))))) = ws') (K : Z g X nL k n ws' lv st (pc + 3)) :
    Z g X nL k n ws lv (.int (nI m) :: .int (nI dp) :: .ref a1 :: .int (nI sp) :: .ref a0 :: st) pc := fun H locs ls hP hD hS hlv => by
  have c1 : (nI sp).toNatClampNeg = sp := nI_clamp (by omega)
  have c2 : (nI dp).toNatClampNeg = dp := nI_clamp (by omega)
  have c3 : (nI m).toNatClampNeg = m := nI_clamp (by omega)
  refine va_copyl E.1 E.2.1 (E.2.2.1.trans hlv.1.symm) E.2.2.2.1 (E.2.2.2.2.1 _ hl) (E.2.2.2.2.1 _ hw.1) (E.2.2.2.2.1 _ hw.2.1) (E.2.2.2.2.1 _ hw.2.2) E.2.2.2.2.2.1.1 hP hD hS q0 q1 1 1 (ty := .long) ha0 ha1 rfl rfl rfl (nI_pos (by omega)) (nI_pos (by omega)) (nI_pos (by omega)) (by rw [c1, c3]; exact h1) (by rw [c2, c3]; exact h2) (fun _ _ => rfl) (by rw [hX]; exact hD0) (by rw [hX]; show _ + (7 + 11) ≤ 40 * D0; omega) hd (fun H1 locs1 p1 p2 p3 => ?_)
  rw [c1, c2, c3, cpyJ, hws] at p1 p2
  exact K H1 locs1 ls p1 p2 p3 hlv
end ZC
theorem cpy_all {f h : Nat → Nat} {n j : Nat} (hj : j < n) : va_cpy f h 0 0 n j = f j := by
  unfold va_cpy
  rw [if_pos ⟨Nat.zero_le _, by omega⟩]
  simp
theorem z_aaldN {g : GC} {X : XC} {cc : ByteArray} {nL k n pc : Nat} {own : String} {ws : va_W} {lv : List (Nat × Value)} {st : List Value} (E : Ob g X cc nL own) (hd : decode cc pc = .ok (.aaload, 1)) (q : Nat) {a N : Nat} {b : Nat → Nat} (he : ws[q]? = some (a, .inl (g.2.2 3, N, .inr (.inr (.inr (.inr (fun i => some (b i)))))))) {i : Nat} (hi : i < N) (hN : N < 2 ^ 31) (K : Z g X nL k n ws lv (.ref (b i) :: st) (pc + 1)) : Z g X nL k n ws lv (.int (nI i) :: .ref a :: st) pc :=
  z_aald E hd q he (vp_in_nI hi hN) (by rw [nI_clamp (by omega)]; exact K)
