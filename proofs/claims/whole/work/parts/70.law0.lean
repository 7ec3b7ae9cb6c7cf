section ZL
variable {g : GC} {X : XC} {cc : ByteArray} {nL k n pc : Nat} {own : String} {ws : va_W} {lv lv' : List (Nat × Value)} {st : List Value}
theorem z_slen (E : Ob g X cc nL own) {b L : Nat} {xs : Nat → Int32} (hx : va_X b L xs X.2.2.2.1 X.2.2.2.1.heap) (hb : b < X.2.2.2.1.heap.size) (hA : ¬ X.2.2.2.2.2.2.2.2.2.1 b) (hd : decode cc pc = .ok (.arraylength, 1)) (K : Z g X nL k n ws lv (.int (Int32.ofNat L) :: st) (pc + 1)) : Z g X nL k n ws lv (.ref b :: st) pc :=
  fun H locs ls hP hD hS hl => va_slen E.1 E.2.1 hx hb hA hS hd (K H locs ls hP hD hS hl)
theorem z_sld (E : Ob g X cc nL own) {b L : Nat} {xs : Nat → Int32} (hx : va_X b L xs X.2.2.2.1 X.2.2.2.1.heap) (hb : b < X.2.2.2.1.heap.size) (hA : ¬ X.2.2.2.2.2.2.2.2.2.1 b) {i : Nat} (hi : i < L) (hL : L < 2 ^ 31) (hd : decode cc pc = .ok (.iaload, 1)) (K : Z g X nL k n ws lv (.int (xs i) :: st) (pc + 1)) : Z g X nL k n ws lv (.int (nI i) :: .ref b :: st) pc :=
  fun H locs ls hP hD hS hl => va_sld E.1 E.2.1 hx hb hA hS (vp_in_nI hi hL) hd (by rw [nI_clamp (by omega)]; exact K H locs ls hP hD hS hl)
end ZL
theorem lg_self (x : Int64) : lg_cmp x x = 0 := by unfold lg_cmp; simp
theorem inc4 (i : Nat) : nI i + Int32.ofInt 4 = nI (i + 4) := nI_add i 4

