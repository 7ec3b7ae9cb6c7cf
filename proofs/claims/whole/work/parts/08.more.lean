section ZX
variable {g : GC} {X : XC} {cc : ByteArray} {nL k n pc : Nat} {own : String} {ws : va_W} {lv lv' : List (Nat × Value)} {st : List Value}
theorem z_ldcw (E : Ob g X cc nL own) {ix : Nat} {v : Int32} (hd : decode cc pc = .ok (.ldc_w ix, 3)) (hw : Cond.constant own ix v ∈ lwA) (K : Z g X nL k n ws lv (.int v :: st) (pc + 3)) : Z g X nL k n ws lv st pc :=
  fun H locs ls hP hD hS hl => lv_ldcw E.1 E.2.1 E.2.2.2.1 (E.2.2.2.2.1 _ hw) hd (K H locs ls hP hD hS hl)
theorem z_iushr (E : Ob g X cc nL own) {x y v : Int32} (hd : decode cc pc = .ok (.iushr, 1)) (hv : (x.toUInt32 >>> (y.toUInt32 &&& Int32.toUInt32 31)).toInt32 = v) (K : Z g X nL k n ws lv (.int v :: st) (pc + 1)) : Z g X nL k n ws lv (.int y :: .int x :: st) pc :=
  fun H locs ls hP hD hS hl => lv_iushr E.1 E.2.1 hd hv (K H locs ls hP hD hS hl)
theorem mm_words : Cond.static Lib.Math.min.name ∈ lwA ∧ Cond.initialized "java/lang/Math" ∈ lwA ∧ Cond.code Lib.Math.min.name Lib.Math.min.code 2 (some .int) ∈ lwA := ⟨ms_J9_min_7cf53, ini_J9, mw_J9_min_7cf53.1⟩
theorem z_minN (E : Ob g X cc nL own) {D0 K0 N0 : Nat} (hX : X.2.2.1 = zR D0 K0 N0) {ix : Nat} (hd : decode cc pc = .ok (.invokestatic ix, 3)) (hl : Cond.methodLink own ix yJ9_min_7cf53 ∈ lwA) (hD0 : 1 ≤ D0) (h8 : (st.map fun v => v.category).sum ≤ 8) (hk : k ≤ K0 ∧ n ≤ N0) {a b : Nat} (ha : a < 2 ^ 31) (hb : b < 2 ^ 31) (K : Z g X nL k n ws lv (.int (nI (min a b)) :: st) (pc + 3)) : Z g X nL k n ws lv (.int (nI b) :: .int (nI a) :: st) pc :=
  fun H locs ls hP hD hS hlv => va_mmin E.1 E.2.1 (E.2.2.1.trans hlv.1.symm) E.2.2.2.1 (E.2.2.2.2.1 _ hl) (E.2.2.2.2.1 _ mm_words.1) (E.2.2.2.2.1 _ mm_words.2.1) (E.2.2.2.2.1 _ mm_words.2.2) (by rw [hX]; exact hD0) (by rw [hX]; show _ + 13 ≤ 40 * D0; omega) (by rw [hX]; exact hk.1) (by rw [hX]; exact hk.2) hd (by
    have e : (if nI b < nI a then nI b else nI a) = nI (min a b) := by
      by_cases q : b < a
      · rw [if_pos ((nI_ltI hb ha).mpr q), show min a b = b by omega]
      · rw [if_neg (fun z => q ((nI_ltI hb ha).mp z)), show min a b = a by omega]
    rw [e]
    exact K H locs ls hP hD hS hlv)
end ZX
/-- how many of the first twelve bits are set -/
def pc12 (x : Nat) : Nat := ((List.range 12).map (fun k => x >>> k &&& 1)).sum
def bcU (x y : Int32) : Int32 := (x.toUInt32 >>> (y.toUInt32 &&& Int32.toUInt32 31)).toInt32
def bcF (x : Int32) : Int32 :=
  let a := x - (bcU x (nI 1) &&& nI 1431655765)
  let b := (a &&& nI 858993459) + (bcU a (nI 2) &&& nI 858993459)
  let c := (b + bcU b (nI 4)) &&& nI 252645135
  let d := c + bcU c (nI 8)
  let e := d + bcU d (nI 16)
  e &&& nI 63
theorem bc_2 : ∀ a, a < 64 → ∀ b, b < 64 → bcF (nI (64 * a + b)) = nI (pc12 (64 * a + b)) := by decide +kernel
theorem bc_all (x : Nat) (h : x < 4096) : bcF (nI x) = nI (pc12 x) := by
  have := bc_2 (x / 64) (by omega) (x % 64) (by omega)
  rwa [Nat.div_add_mod] at this
