/-! the law's script -/
def XS (X : xg_X) (b L : Nat) (xs : Nat → Int32) : Prop :=
  match X with
  | (_, _, _, _, s, _, _, _, _, _, _, A) => va_X b L xs s s.heap ∧ b < s.heap.size ∧ ¬ A b
theorem xg_sld {l : Launch} {D : va_G} {cI : ClassId} {X : xg_X} {cc : ByteArray} {nL : Nat} {own : String} {rm : Room} {k n pc : Nat} {ws : va_W} {lv : List (Nat × Value)} {rest : List Value} (hX : OK l D cI X cc nL own rm) {b L : Nat} {xs : Nat → Int32} (h0 : XS X b L xs) (i : Nat) (hi : i < L) (hL : L < 100000) (hdg : decode cc pc = .ok (.iaload, 1)) (kk : GG D X k n (pc + 1) ws lv (.int (xs i) :: rest)) : GG D X k n pc ws lv (.int (nI i) :: .ref b :: rest) := by
  obtain ⟨p, l', e, R, s, m, args, below, meth, c, Q, A⟩ := X
  obtain ⟨hx, hb, hml, hown, hts, hK, hA, hR, hl0⟩ := hX
  obtain ⟨g1, g2, g3⟩ := h0
  intro H locs ls hP hD hS hl
  refine va_sld hx hb g1 g2 g3 hS (vp_in_nI hi (show L < 2 ^ 31 by omega)) hdg ?_
  rw [nI_clamp (show i < 2 ^ 31 by omega)]
  exact kk H locs ls hP hD hS hl
theorem xg_slen {l : Launch} {D : va_G} {cI : ClassId} {X : xg_X} {cc : ByteArray} {nL : Nat} {own : String} {rm : Room} {k n pc : Nat} {ws : va_W} {lv : List (Nat × Value)} {rest : List Value} (hX : OK l D cI X cc nL own rm) {b L : Nat} {xs : Nat → Int32} (h0 : XS X b L xs) (hdg : decode cc pc = .ok (.arraylength, 1)) (kk : GG D X k n (pc + 1) ws lv (.int (nI L) :: rest)) : GG D X k n pc ws lv (.ref b :: rest) := by
  obtain ⟨p, l', e, R, s, m, args, below, meth, c, Q, A⟩ := X
  obtain ⟨hx, hb, hml, hown, hts, hK, hA, hR, hl0⟩ := hX
  obtain ⟨g1, g2, g3⟩ := h0
  intro H locs ls hP hD hS hl
  exact va_slen hx hb g1 g2 g3 hS hdg (kk H locs ls hP hD hS hl)
