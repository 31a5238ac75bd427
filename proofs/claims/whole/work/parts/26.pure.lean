theorem fo_st1 {M T : Nat → Nat} {bl zr : Bool} {s_ zn k : Nat} {u v : PW} {F : Option PW} (hq : F = fol M T bl zr (65 - s_) (nI zn) u) (hnx : nxO M (nI zn) = some k) (hk : 0 < k) (hs : s_ < 64) (ht : takesN k = false) (ho : pOb T bl zr k (nxO M (nI zn + 1)) u = some v) : F = fol M T bl zr (65 - (s_ + 1)) (nI (zn + 1)) v := by
  rw [hq, show 65 - s_ = (65 - (s_ + 1)) + 1 by omega, fol_s hnx hk (by omega), ho, ht]
  show fol M T bl zr (65 - (s_ + 1)) (nI zn + nI 1) v = _
  rw [nI_add]
theorem fo_st2 {M T : Nat → Nat} {bl zr : Bool} {s_ zn k : Nat} {u v : PW} {F : Option PW} (hq : F = fol M T bl zr (65 - s_) (nI zn) u) (hnx : nxO M (nI zn) = some k) (hk : 0 < k) (hs : s_ < 64) (ht : takesN k = true) (ho : pOb T bl zr k (nxO M (nI zn + 1)) u = some v) : F = fol M T bl zr (65 - (s_ + 1)) (nI (zn + 1 + 1)) v := by
  rw [hq, show 65 - s_ = (65 - (s_ + 1)) + 1 by omega, fol_s hnx hk (by omega), ho, ht]
  show fol M T bl zr (65 - (s_ + 1)) (nI zn + nI 2) v = _
  rw [nI_add]
theorem fo_no {M T : Nat → Nat} {bl zr : Bool} {s_ zn k : Nat} {u : PW} {F : Option PW} (hq : F = fol M T bl zr (65 - s_) (nI zn) u) (hnx : nxO M (nI zn) = some k) (hk : 0 < k) (hs : s_ < 64) (ho : pOb T bl zr k (nxO M (nI zn + 1)) u = none) : F = none := by
  rw [hq, show 65 - s_ = (65 - (s_ + 1)) + 1 by omega, fol_s hnx hk (by omega), ho]
  rfl
theorem fo_la {M T : Nat → Nat} {bl zr : Bool} {s_ zn k : Nat} {u : PW} {F : Option PW} (hq : F = fol M T bl zr (65 - s_) (nI zn) u) (hnx : nxO M (nI zn) = some k) (hk : 0 < k) (hs : s_ = 64) : F = none := by
  rw [hq, hs]
  exact fol_last hnx hk
theorem fo_e {M T : Nat → Nat} {bl zr : Bool} {s_ zn k : Nat} {u : PW} {F : Option PW} (hq : F = fol M T bl zr (65 - s_) (nI zn) u) (hnx : nxO M (nI zn) = some k) (hk : k = 0) (hs : s_ ≤ 64) : F = if u.2.2.1 = 0 then some u else none := by
  rw [hq, show 65 - s_ = (64 - s_) + 1 by omega]
  exact fol_0 (by rw [hnx, hk])
theorem nx_1 {M : Nat → Nat} {zn : Nat} (h : zn + 1 < 256) : nxO M (nI zn + 1) = some (M (zn + 1)) := by
  have e : nI zn + 1 = nI (zn + 1) := nI_1 zn
  unfold nxO
  rw [e, xn_ti (by omega), if_pos (by omega)]
  rfl
theorem nx_0 {M : Nat → Nat} {zn : Nat} (hz : zn < 256) (h : 256 ≤ zn + 1) : nxO M (nI zn + 1) = none := by
  have e : nI zn + 1 = nI (zn + 1) := nI_1 zn
  unfold nxO
  rw [e, xn_ti (by omega), if_neg (by omega)]
theorem tk_f {k : Nat} (h : ¬ (4 ≤ k ∧ k ≤ 8)) : takesN k = false := decide_eq_false h
theorem tk_t {k : Nat} (h : 4 ≤ k ∧ k ≤ 8) : takesN k = true := decide_eq_true h
section OB
variable {T W : Nat → Nat} {bl zr sg : Bool} {k cn lf fi si x : Nat} {nx : Option Nat}
theorem ob_1 (hk : k = 1) : pOb T bl zr k nx (W, cn, lf, sg, fi, si) = some (W, cn, lf, false, fi, si) := by subst hk; rfl
theorem ob_2 (hk : k = 2) : pOb T bl zr k nx (W, cn, lf, sg, fi, si) = some (W, cn, lf, true, fi, si) := by subst hk; rfl
theorem ob_3 (hk : k = 3) (h : cn < 64) : pOb T bl zr k nx (W, cn, lf, sg, fi, si) = some (up W cn si, cn + 1, lf, sg, fi, si) := by subst hk; exact if_pos h
theorem ob_3n (hk : k = 3) (h : 64 ≤ cn) : pOb T bl zr k nx (W, cn, lf, sg, fi, si) = none := by subst hk; exact if_neg (Nat.not_lt.mpr h)
theorem ob_t (hk : 4 ≤ k ∧ k ≤ 8) (hx : nx = some x) : pOb T bl zr k nx (W, cn, lf, sg, fi, si) = pNx bl zr k x (W, cn, lf, sg, fi, si) := by
  unfold pOb
  rw [if_neg (by omega), if_neg (by omega), if_neg (by omega), if_pos hk, hx]
  rfl
theorem ob_tn (hk : 4 ≤ k ∧ k ≤ 8) (hx : nx = none) : pOb T bl zr k nx (W, cn, lf, sg, fi, si) = none := by
  unfold pOb
  rw [if_neg (by omega), if_neg (by omega), if_neg (by omega), if_pos hk, hx]
  rfl
theorem px_4 (hk : k = 4) : pNx bl zr k x (W, cn, lf, sg, fi, si) = some (W, cn, lf, sg, x, si) := by subst hk; rfl
theorem px_5 (hk : k = 5) (hb : bl = false) : pNx bl zr k x (W, cn, lf, sg, fi, si) = some (W, cn, lf, sg, fi, x) := by subst hk; subst hb; rfl
theorem px_5b (hk : k = 5) (hb : bl = true) : pNx bl zr k x (W, cn, lf, sg, fi, si) = some (W, cn, lf, sg, fi, si) := by subst hk; subst hb; rfl
theorem px_6 (hk : k = 6) (hb : bl = true) : pNx bl zr k x (W, cn, lf, sg, fi, si) = some (W, cn, lf, sg, fi, x) := by subst hk; subst hb; rfl
theorem px_6b (hk : k = 6) (hb : bl = false) : pNx bl zr k x (W, cn, lf, sg, fi, si) = some (W, cn, lf, sg, fi, si) := by subst hk; subst hb; rfl
theorem px_7 (hk : k = 7) (hs : sg = true) (h : cn < 64) : pNx bl zr k x (W, cn, lf, sg, fi, si) = some (up W cn x, cn + 1, lf, sg, fi, si) := by subst hk; subst hs; exact if_pos h
theorem px_7b (hk : k = 7) (hs : sg = false) (h : cn < 64) : pNx bl zr k x (W, cn, lf, sg, fi, si) = some (up W cn fi, cn + 1, lf, sg, fi, si) := by subst hk; subst hs; exact if_pos h
theorem px_7n (hk : k = 7) (h : 64 ≤ cn) : pNx bl zr k x (W, cn, lf, sg, fi, si) = none := by subst hk; exact if_neg (Nat.not_lt.mpr h)
theorem px_8 (hk : k = 8) : pNx bl zr k x (W, cn, lf, sg, fi, si) = pL8 zr x (W, cn, lf, sg, fi, si) := by subst hk; rfl
theorem ob_f (hk : 129 ≤ k ∧ k ≤ 143) : pOb T bl zr k nx (W, cn, lf, sg, fi, si) = pFl (k % 16) (W, cn, lf, sg, fi, si) := by
  unfold pOb
  rw [if_neg (by omega), if_neg (by omega), if_pos (by omega), show k - 128 = k % 16 by omega]
theorem ob_d (hk : 145 ≤ k ∧ k ≤ 159) : pOb T bl zr k nx (W, cn, lf, sg, fi, si) = pDs T false (k % 16) (W, cn, lf, sg, fi, si) := by
  unfold pOb
  rw [if_neg (by omega), if_pos (by omega), show k - 144 = k % 16 by omega]
theorem ob_s (hk : 161 ≤ k ∧ k ≤ 175) : pOb T bl zr k nx (W, cn, lf, sg, fi, si) = pDs T true (k % 16) (W, cn, lf, sg, fi, si) := by
  unfold pOb
  rw [if_pos (by omega), show k - 160 = k % 16 by omega]
theorem ob_x (hk : 9 ≤ k ∧ (k ≤ 128 ∨ k = 144 ∨ k = 160 ∨ 176 ≤ k)) : pOb T bl zr k nx (W, cn, lf, sg, fi, si) = none := by
  unfold pOb
  rw [if_neg (by omega), if_neg (by omega), if_neg (by omega), if_neg (by omega), if_neg (by omega), if_neg (by omega)]
theorem pWr_no {c : Nat} (h : 64 ≤ cn) : pWr c (W, cn, lf, sg, fi, si) = none := if_neg (Nat.not_lt.mpr h)
end OB
def g8 (W : Nat → Nat) (fi cn i : Nat) : Nat → Nat := fun j => if cn - i ≤ j ∧ j < cn then fi else W j
theorem g8_0 {W : Nat → Nat} {fi cn : Nat} : ∀ j, W j = g8 W fi cn 0 j := by
  intro j
  unfold g8
  rw [if_neg (by omega)]
theorem g8_s {W : Nat → Nat} {fi cn i : Nat} (h : i < cn) : ∀ j, up (g8 W fi cn i) (cn - 1 - i) fi j = g8 W fi cn (i + 1) j := by
  intro j
  unfold up g8
  by_cases q : j = cn - 1 - i
  · subst q; rw [if_pos rfl, if_pos (by omega)]
  · rw [if_neg q]
    by_cases q2 : cn - i ≤ j ∧ j < cn
    · rw [if_pos q2, if_pos (by omega)]
    · rw [if_neg q2, if_neg (by omega)]
theorem px_8t {W : Nat → Nat} {zr sg : Bool} {x cn lf fi si : Nat} (h : x ≤ cn) (hz : zr = true) : pL8 zr x (W, cn, lf, sg, fi, si) = some (g8 W fi cn x, cn, lf, sg, fi, si) := by
  subst hz
  exact if_neg (Nat.not_lt.mpr h)
def blM (M : Nat → Nat) (n a : Int32) : Bool := rdG M (tn n) (tn a) && hasD (rdD M (tn n) (tn a)) 0 200
def edPM (M W : Nat → Nat) (n a p : Int32) : Option PW := fol M (rdD M (tn n) (tn a)) (blM M n a) (!hasD (rdD M (tn n) (tn a)) 0 200) 64 p (W, 0, tn n, false, 32, if blM M n a = true then 45 else 32)
def editM (M : Nat → Nat) (en : Bool) (W : Nat → Nat) (n a p b : Int32) : Int32 × (Nat → Nat) × Bool :=
  if dfits n a = true then (if rdb M (tn n) (tn a) = true then
    (match edPM M W n a p with
     | none => (-2, M, en)
     | some u => if arB b u.2.1 = true then (nI u.2.1, edM M u.1 (tn b) u.2.1, u.2.2.2.1) else (-1, M, en)) else (-2, M, en)) else (-1, M, en)
theorem pDs_no {T W : Nat → Nat} {sd sg : Bool} {x cn lf fi si : Nat} (h : lf = 0) : pDs T sd (x + 1) (W, cn, lf, sg, fi, si) = none := if_pos h
section DG
variable {T W : Nat → Nat} {sd sg : Bool} {cn lf fi si : Nat}
theorem dg_f (h : T (lf - 1) = 0) (hs : sg = false) : pDg T sd (W, cn, lf, sg, fi, si) = pWr fi (W, cn, lf - 1, sg, fi, si) := if_pos ⟨h, hs⟩
theorem dg_0 (hs : sg = true) : pDg T sd (W, cn, lf, sg, fi, si) = pWr (48 + T (lf - 1)) (W, cn, lf - 1, true, fi, si) := by
  show (if T (lf - 1) = 0 ∧ sg = false then _ else if sd = true ∧ sg = false then _ else _) = _
  rw [if_neg (fun q => absurd (hs.symm.trans q.2) (by decide)), if_neg (fun q => absurd (hs.symm.trans q.2) (by decide))]
theorem dg_n (h : 0 < T (lf - 1)) (hd : sd = false) : pDg T sd (W, cn, lf, sg, fi, si) = pWr (48 + T (lf - 1)) (W, cn, lf - 1, true, fi, si) := by
  show (if T (lf - 1) = 0 ∧ sg = false then _ else if sd = true ∧ sg = false then _ else _) = _
  rw [if_neg (fun q => absurd q.1 (by omega)), if_neg (fun q => absurd (hd.symm.trans q.1) (by decide))]
theorem dg_s (h : 0 < T (lf - 1)) (hd : sd = true) (hs : sg = false) : pDg T sd (W, cn, lf, sg, fi, si) = (pWr si (W, cn, lf - 1, true, fi, si)).bind (pWr (48 + T (lf - 1))) := by
  show (if T (lf - 1) = 0 ∧ sg = false then _ else if sd = true ∧ sg = false then _ else _) = _
  rw [if_neg (fun q => absurd q.1 (by omega)), if_pos ⟨hd, hs⟩]
end DG
theorem nxO_out {M : Nat → Nat} {x : Int32} (h : nxO M x = none) : ¬ (0 ≤ x.toInt ∧ x.toInt < 256) := by
  intro q
  unfold nxO at h
  rw [if_pos q] at h
  cases h
