/-! the pure words for the memory -/
def byt (M : Nat → Nat) (x : Int32) : Int32 := if 0 ≤ x.toInt ∧ x.toInt < 256 then nI (M x.toInt.toNat) else -1
def lo8 (b : Int32) : Nat := b.toBitVec.toNat % 256
def inM (x : Int32) : Bool := decide (0 ≤ x.toInt ∧ x.toInt < 256)
def putM (M : Nat → Nat) (x b : Int32) : Nat → Nat := if 0 ≤ x.toInt ∧ x.toInt < 256 then up M x.toInt.toNat (lo8 b) else M
def dfits (n a : Int32) : Bool := decide (0 ≤ n.toInt ∧ n.toInt ≤ 31 ∧ 0 ≤ a.toInt ∧ a.toInt < 256 - n.toInt / 2)
def cfits (n a : Int32) : Bool := decide (0 ≤ n.toInt ∧ n.toInt ≤ 31 ∧ 0 ≤ a.toInt ∧ a.toInt < 256 - n.toInt)
theorem xn_self {x : Int32} (h : 0 ≤ x.toInt) : x = nI x.toInt.toNat := by
  have h1 := x.toInt_lt
  apply Int32.toInt_inj.mp
  rw [xn_ti (by omega)]
  omega
theorem xn_lo8 (b : Int32) : b &&& nI 255 = nI (lo8 b) := pk_and b 8 (by decide)
theorem lo8_lt (b : Int32) : lo8 b < 256 := Nat.mod_lt _ (by decide)
theorem xn_and15 {n : Nat} (h : n < 256) : nI n &&& nI 15 = nI (n % 16) := pk_andN (show n < 2 ^ 32 by omega) 4 (by decide)
theorem xn_and255 {n : Nat} (h : n < 256) : nI n &&& nI 255 = nI n := by
  rw [pk_andN (show n < 2 ^ 32 by omega) 8 (by decide), Nat.mod_eq_of_lt h]
theorem xn_shr4 {n : Nat} (h : n < 256) : nI n >>> (nI 4 &&& 31) = nI (n / 16) := pk_shrN (show n < 2 ^ 31 by omega) (nI 4 &&& 31) 4 (by decide)
/-- the half byte that lies h halves ahead of the last one -/
def hfE (M : Nat → Nat) (n a h : Nat) : Nat := if h % 2 = 0 then M (a + n / 2 - h / 2) % 16 else M (a + n / 2 - h / 2) / 16 % 16
theorem hfE_lt (M : Nat → Nat) (n a h : Nat) : hfE M n a h < 16 := by
  unfold hfE
  by_cases q : h % 2 = 0
  · rw [if_pos q]; exact Nat.mod_lt _ (by decide)
  · rw [if_neg q]; exact Nat.mod_lt _ (by decide)
def rdD (M : Nat → Nat) (n a : Nat) : Nat → Nat := fun k => if k < n then hfE M n a (k + 1) else 0
def rdb (M : Nat → Nat) (n a : Nat) : Bool := decide (10 ≤ hfE M n a 0) && (List.range n).all (fun k => decide (hfE M n a (k + 1) ≤ 9))
def rdS (M : Nat → Nat) (n a : Nat) : Bool := decide (hfE M n a 0 = 13 ∨ hfE M n a 0 = 11) && hasD (rdD M n a) 0 130
theorem rdb_iff {M : Nat → Nat} {n a : Nat} : rdb M n a = true ↔ 10 ≤ hfE M n a 0 ∧ ∀ k, k < n → hfE M n a (k + 1) ≤ 9 := by
  unfold rdb
  rw [Bool.and_eq_true, List.all_eq_true, decide_eq_true_eq]
  constructor
  · rintro ⟨h1, h2⟩
    exact ⟨h1, fun k hk => by simpa using h2 k (List.mem_range.mpr hk)⟩
  · rintro ⟨h1, h2⟩
    exact ⟨h1, fun k hk => by simpa using h2 k (List.mem_range.mp hk)⟩
theorem rdb_f {M : Nat → Nat} {n a : Nat} (h : ¬ (10 ≤ hfE M n a 0 ∧ ∀ k, k < n → hfE M n a (k + 1) ≤ 9)) : rdb M n a = false := by
  cases q : rdb M n a with
  | false => rfl
  | true => exact absurd (rdb_iff.mp q) h
theorem rdD_lt {M : Nat → Nat} {n a : Nat} (h : ∀ k, k < n → hfE M n a (k + 1) ≤ 9) : ∀ j, rdD M n a j < 10 := by
  intro j
  unfold rdD
  by_cases q : j < n
  · rw [if_pos q]; have := h j q; omega
  · rw [if_neg q]; decide
theorem rdD_hi {M : Nat → Nat} {n a j : Nat} (h : n ≤ j) : rdD M n a j = 0 := by
  unfold rdD
  rw [if_neg (by omega)]
theorem rdD_at {M : Nat → Nat} {n a j : Nat} (h : j < n) : hfE M n a (j + 1) = rdD M n a j := by
  unfold rdD
  rw [if_pos h]
theorem rdD_fin {M : Nat → Nat} {n a : Nat} : ∀ j, mix n (rdD M n a) zf j = rdD M n a j := by
  intro j
  unfold mix
  by_cases q : j < n
  · rw [if_pos q]
  · rw [if_neg q, rdD_hi (by omega)]; rfl
/-- characters: a sign, then digits -/
def chD (M : Nat → Nat) (n a : Nat) : Nat → Nat := fun k => if k < n then M (a + n - k) - 48 else 0
def chb (M : Nat → Nat) (n a : Nat) : Bool := decide (M a = 43 ∨ M a = 45 ∨ M a = 32) && (List.range n).all (fun k => decide (48 ≤ M (a + n - k) ∧ M (a + n - k) ≤ 57))
def chS (M : Nat → Nat) (n a : Nat) : Bool := decide (M a = 45) && hasD (chD M n a) 0 130
theorem chb_iff {M : Nat → Nat} {n a : Nat} : chb M n a = true ↔ (M a = 43 ∨ M a = 45 ∨ M a = 32) ∧ ∀ k, k < n → 48 ≤ M (a + n - k) ∧ M (a + n - k) ≤ 57 := by
  unfold chb
  rw [Bool.and_eq_true, List.all_eq_true, decide_eq_true_eq]
  constructor
  · rintro ⟨h1, h2⟩
    exact ⟨h1, fun k hk => by simpa using h2 k (List.mem_range.mpr hk)⟩
  · rintro ⟨h1, h2⟩
    exact ⟨h1, fun k hk => by simpa using h2 k (List.mem_range.mp hk)⟩
theorem chb_f {M : Nat → Nat} {n a : Nat} (h : ¬ ((M a = 43 ∨ M a = 45 ∨ M a = 32) ∧ ∀ k, k < n → 48 ≤ M (a + n - k) ∧ M (a + n - k) ≤ 57)) : chb M n a = false := by
  cases q : chb M n a with
  | false => rfl
  | true => exact absurd (chb_iff.mp q) h
theorem chD_lt {M : Nat → Nat} {n a : Nat} (h : ∀ k, k < n → 48 ≤ M (a + n - k) ∧ M (a + n - k) ≤ 57) : ∀ j, chD M n a j < 10 := by
  intro j
  unfold chD
  by_cases q : j < n
  · rw [if_pos q]; have := h j q; omega
  · rw [if_neg q]; decide
theorem chD_hi {M : Nat → Nat} {n a j : Nat} (h : n ≤ j) : chD M n a j = 0 := by
  unfold chD
  rw [if_neg (by omega)]
theorem chD_at {M : Nat → Nat} {n a j : Nat} (h : j < n) : M (a + n - j) - 48 = chD M n a j := by
  unfold chD
  rw [if_pos h]
theorem chD_fin {M : Nat → Nat} {n a : Nat} : ∀ j, mix n (chD M n a) zf j = chD M n a j := by
  intro j
  unfold mix
  by_cases q : j < n
  · rw [if_pos q]
  · rw [if_neg q, chD_hi (by omega)]; rfl
/-- writing: ng, is what is left below 0 -/
def ng (d : Nat → Nat) (s : Bool) (n : Nat) : Bool := hasD d 0 n && s
theorem xn_f8 (d : Nat → Nat) (s : Bool) (n : Nat) : nI (flg d s n) &&& nI 8 = nI (if ng d s n = true then 8 else 0) := by
  unfold flg ng
  cases hasD d 0 n <;> cases hasD d n 130 <;> cases s <;> decide
theorem flg_lt (d : Nat → Nat) (s : Bool) (n : Nat) : flg d s n < 16 := by
  unfold flg
  cases hasD d 0 n <;> cases hasD d n 130 <;> cases s <;> decide
def wrL (d : Nat → Nat) (sg : Nat) : Nat → Nat
  | 0 => sg
  | i + 1 => d (2 * i + 1)
def wrB (d : Nat → Nat) (sg n i : Nat) : Nat := (if 2 * i < n then d (2 * i) else 0) * 16 + wrL d sg i
/-- i bytes from the last on are written -/
def wrP (M d : Nat → Nat) (sg n a i : Nat) : Nat → Nat := fun j => if j ≤ a + n / 2 ∧ a + n / 2 < j + i then wrB d sg n (a + n / 2 - j) else M j
def wrM (M d : Nat → Nat) (s : Bool) (n a : Nat) : Nat → Nat := wrP M d (if ng d s n = true then 13 else 12) n a (n / 2 + 1)
theorem wrL_lt {d : Nat → Nat} {sg : Nat} (hd : ∀ j, d j < 10) (hs : sg < 16) (i : Nat) : wrL d sg i < 16 := by
  cases i with
  | zero => exact hs
  | succ i => have := hd (2 * i + 1); show d (2 * i + 1) < 16; omega
theorem wrP_0 {M d : Nat → Nat} {sg n a : Nat} : ∀ j, M j = wrP M d sg n a 0 j := by
  intro j
  unfold wrP
  rw [if_neg (by omega)]
theorem wrP_s {M d : Nat → Nat} {sg n a i v : Nat} (hi : i ≤ n / 2) (hv : v = wrB d sg n i) : ∀ j, up (wrP M d sg n a i) (a + n / 2 - i) v j = wrP M d sg n a (i + 1) j := by
  intro j
  unfold up wrP
  by_cases h : j = a + n / 2 - i
  · subst h
    rw [if_pos rfl, if_pos (by omega), hv]
    congr 1
    omega
  · rw [if_neg h]
    by_cases h2 : j ≤ a + n / 2 ∧ a + n / 2 < j + i
    · rw [if_pos h2, if_pos (by omega)]
    · rw [if_neg h2, if_neg (by omega)]
/-! the pure words for a pattern: what is written, how much, digits left, significance, fill, sign -/
abbrev PW : Type := (Nat → Nat) × Nat × Nat × Bool × Nat × Nat
def pWr (c : Nat) (u : PW) : Option PW := if u.2.1 < 64 then some (up u.1 u.2.1 c, u.2.1 + 1, u.2.2) else none
def pFl : Nat → PW → Option PW
  | 0, u => some u
  | x + 1, u => (pWr u.2.2.2.2.1 u).bind (pFl x)
def pDg (T : Nat → Nat) (sd : Bool) (u : PW) : Option PW :=
  match u with
  | (W, cn, lf, sg, fi, si) =>
    if T (lf - 1) = 0 ∧ sg = false then pWr fi (W, cn, lf - 1, sg, fi, si)
    else if sd = true ∧ sg = false then (pWr si (W, cn, lf - 1, true, fi, si)).bind (pWr (48 + T (lf - 1)))
    else pWr (48 + T (lf - 1)) (W, cn, lf - 1, true, fi, si)
def pDs (T : Nat → Nat) (sd : Bool) : Nat → PW → Option PW
  | 0, u => some u
  | x + 1, u => if u.2.2.1 = 0 then none else (pDg T sd u).bind (pDs T sd x)
def pL8 (zr : Bool) (x : Nat) (u : PW) : Option PW :=
  match u with
  | (W, cn, lf, sg, fi, si) => if cn < x then none else some (if zr = true then (fun j => if cn - x ≤ j ∧ j < cn then fi else W j) else W, cn, lf, sg, fi, si)
/-- bytes 4 .. 8, with the next one -/
def pNx (bl zr : Bool) (k x : Nat) (u : PW) : Option PW :=
  match u with
  | (W, cn, lf, sg, fi, si) =>
    if k = 4 then some (W, cn, lf, sg, x, si)
    else if k = 5 then some (W, cn, lf, sg, fi, if bl = true then si else x)
    else if k = 6 then some (W, cn, lf, sg, fi, if bl = true then x else si)
    else if k = 7 then pWr (if sg = true then x else fi) (W, cn, lf, sg, fi, si)
    else pL8 zr x (W, cn, lf, sg, fi, si)
/-- a byte that isn't 0; nx: the next one, none beyond memory -/
def pOb (T : Nat → Nat) (bl zr : Bool) (k : Nat) (nx : Option Nat) (u : PW) : Option PW :=
  if 160 < k ∧ k ≤ 175 then pDs T true (k - 160) u
  else if 144 < k ∧ k ≤ 159 then pDs T false (k - 144) u
  else if 128 < k ∧ k ≤ 143 then pFl (k - 128) u
  else if 4 ≤ k ∧ k ≤ 8 then nx.bind (fun x => pNx bl zr k x u)
  else if k = 1 ∨ k = 2 then some (u.1, u.2.1, u.2.2.1, decide (k = 2), u.2.2.2.2)
  else if k = 3 then pWr u.2.2.2.2.2 u
  else none
def takesN (k : Nat) : Bool := decide (4 ≤ k ∧ k ≤ 8)
def pres (ok : Bool) (o : Option PW) (u : PW) : Prop := (ok = true ∧ o = some u) ∨ (ok = false ∧ o = none)
theorem pres_t {o : Option PW} {u : PW} (h : o = some u) : pres true o u := Or.inl ⟨rfl, h⟩
theorem pres_f {o : Option PW} {u : PW} (h : o = none) : pres false o u := Or.inr ⟨rfl, h⟩
theorem pres_some {ok : Bool} {o : Option PW} {u : PW} (h : pres ok o u) (hk : ok = true) : o = some u := by
  rcases h with ⟨_, h⟩ | ⟨q, _⟩
  · exact h
  · rw [hk] at q; cases q
theorem pres_none {ok : Bool} {o : Option PW} {u : PW} (h : pres ok o u) (hk : ok = false) : o = none := by
  rcases h with ⟨q, _⟩ | ⟨_, h⟩
  · rw [hk] at q; cases q
  · exact h
theorem pWr_cn {c : Nat} {u v : PW} (h : pWr c u = some v) : v = (up u.1 u.2.1 c, u.2.1 + 1, u.2.2) ∧ u.2.1 < 64 := by
  unfold pWr at h
  by_cases q : u.2.1 < 64
  · rw [if_pos q] at h; exact ⟨(Option.some.inj h).symm, q⟩
  · rw [if_neg q] at h; cases h
theorem pDg_lf {T : Nat → Nat} {sd : Bool} {u v : PW} (h : pDg T sd u = some v) : v.2.2.1 = u.2.2.1 - 1 ∧ v.2.1 ≤ 64 := by
  obtain ⟨W, cn, lf, sg, fi, si⟩ := u
  simp only [pDg] at h
  by_cases h1 : T (lf - 1) = 0 ∧ sg = false
  · rw [if_pos h1] at h
    obtain ⟨rfl, q⟩ := pWr_cn h
    exact ⟨rfl, q⟩
  · rw [if_neg h1] at h
    by_cases h2 : sd = true ∧ sg = false
    · rw [if_pos h2] at h
      cases h3 : pWr si (W, cn, lf - 1, true, fi, si) with
      | none => rw [h3] at h; cases h
      | some w =>
        rw [h3] at h
        obtain ⟨rfl, q⟩ := pWr_cn h3
        obtain ⟨rfl, q2⟩ := pWr_cn (show pWr _ _ = some v from h)
        exact ⟨rfl, q2⟩
    · rw [if_neg h2] at h
      obtain ⟨rfl, q⟩ := pWr_cn h
      exact ⟨rfl, q⟩
theorem pDs_more {T : Nat → Nat} {sd : Bool} (x : Nat) : ∀ u : PW, u.2.2.1 < x → pDs T sd x u = none := by
  induction x with
  | zero => intro u h; exact absurd h (Nat.not_lt_zero _)
  | succ x ih =>
    intro u h
    unfold pDs
    by_cases h0 : u.2.2.1 = 0
    · rw [if_pos h0]
    · rw [if_neg h0]
      cases h3 : pDg T sd u with
      | none => rfl
      | some v =>
        show pDs T sd x v = none
        exact ih v (by have := (pDg_lf h3).1; omega)
theorem pWr_eq {c cn lf fi si cn2 lf2 fi2 si2 : Nat} {sg sg2 : Bool} {W W2 : Nat → Nat} (h : pWr c (W, cn, lf, sg, fi, si) = some (W2, cn2, lf2, sg2, fi2, si2)) : up W cn c = W2 ∧ cn + 1 = cn2 ∧ lf = lf2 ∧ sg = sg2 ∧ fi = fi2 ∧ si = si2 ∧ cn < 64 := by
  obtain ⟨q, e⟩ := pWr_cn h
  cases q
  exact ⟨rfl, rfl, rfl, rfl, rfl, rfl, e⟩
theorem pWr_lt {c cn lf fi si : Nat} {sg : Bool} {W : Nat → Nat} (h : cn < 64) : pWr c (W, cn, lf, sg, fi, si) = some (up W cn c, cn + 1, lf, sg, fi, si) := if_pos h
theorem pFl_s {x cn lf fi si : Nat} {sg : Bool} {W : Nat → Nat} : pFl (x + 1) (W, cn, lf, sg, fi, si) = (pWr fi (W, cn, lf, sg, fi, si)).bind (pFl x) := rfl
theorem pDs_s {T : Nat → Nat} {sd : Bool} {x cn lf fi si : Nat} {sg : Bool} {W : Nat → Nat} (h : lf ≠ 0) : pDs T sd (x + 1) (W, cn, lf, sg, fi, si) = (pDg T sd (W, cn, lf, sg, fi, si)).bind (pDs T sd x) := if_neg h
theorem pDg_eq {T : Nat → Nat} {sd : Bool} {cn lf fi si : Nat} {sg : Bool} {W : Nat → Nat} : pDg T sd (W, cn, lf + 1, sg, fi, si) = if T lf = 0 ∧ sg = false then pWr fi (W, cn, lf, sg, fi, si) else if sd = true ∧ sg = false then (pWr si (W, cn, lf, true, fi, si)).bind (pWr (48 + T lf)) else pWr (48 + T lf) (W, cn, lf, true, fi, si) := rfl
theorem pDg_keep {T : Nat → Nat} {sd : Bool} {cn lf fi si cn2 lf2 fi2 si2 : Nat} {sg sg2 : Bool} {W W2 : Nat → Nat} (h : pDg T sd (W, cn, lf + 1, sg, fi, si) = some (W2, cn2, lf2, sg2, fi2, si2)) : lf = lf2 ∧ fi = fi2 ∧ si = si2 ∧ cn2 ≤ 64 := by
  rw [pDg_eq] at h
  by_cases h1 : T lf = 0 ∧ sg = false
  · rw [if_pos h1] at h
    obtain ⟨-, rfl, rfl, -, rfl, rfl, e⟩ := pWr_eq h
    exact ⟨rfl, rfl, rfl, e⟩
  · rw [if_neg h1] at h
    by_cases h2 : sd = true ∧ sg = false
    · rw [if_pos h2] at h
      cases h3 : pWr si (W, cn, lf, true, fi, si) with
      | none => rw [h3] at h; cases h
      | some w =>
        obtain ⟨q, e⟩ := pWr_cn h3
        rw [h3] at h
        cases q
        obtain ⟨-, rfl, rfl, -, rfl, rfl, e⟩ := pWr_eq (show pWr (48 + T lf) _ = _ from h)
        exact ⟨rfl, rfl, rfl, e⟩
    · rw [if_neg h2] at h
      obtain ⟨-, rfl, rfl, -, rfl, rfl, e⟩ := pWr_eq h
      exact ⟨rfl, rfl, rfl, e⟩
def f8 (W : Nat → Nat) (fi cn x i : Nat) : Nat → Nat := fun j => if cn - x ≤ j ∧ j < i then fi else W j
theorem f8_0 {W : Nat → Nat} {fi cn x : Nat} : ∀ j, W j = f8 W fi cn x (cn - x) j := by
  intro j
  unfold f8
  rw [if_neg (by omega)]
theorem f8_s {W : Nat → Nat} {fi cn x i : Nat} (h : cn - x ≤ i) : ∀ j, up (f8 W fi cn x i) i fi j = f8 W fi cn x (i + 1) j := by
  intro j
  unfold up f8
  by_cases q : j = i
  · subst q; rw [if_pos rfl, if_pos (by omega)]
  · rw [if_neg q]
    by_cases q2 : cn - x ≤ j ∧ j < i
    · rw [if_pos q2, if_pos (by omega)]
    · rw [if_neg q2, if_neg (by omega)]
theorem pL8_no {zr : Bool} {x cn lf fi si : Nat} {sg : Bool} {W : Nat → Nat} (h : cn < x) : pL8 zr x (W, cn, lf, sg, fi, si) = none := if_pos h
theorem pL8_f {zr : Bool} {x cn lf fi si : Nat} {sg : Bool} {W : Nat → Nat} (h : x ≤ cn) (hz : zr = false) : pL8 zr x (W, cn, lf, sg, fi, si) = some (W, cn, lf, sg, fi, si) := by
  subst hz
  exact if_neg (Nat.not_lt.mpr h)
theorem pL8_t {zr : Bool} {x cn lf fi si : Nat} {sg : Bool} {W : Nat → Nat} (h : x ≤ cn) (hz : zr = true) : pL8 zr x (W, cn, lf, sg, fi, si) = some (f8 W fi cn x cn, cn, lf, sg, fi, si) := by
  subst hz
  exact if_neg (Nat.not_lt.mpr h)
def nxI : Option Nat → Int32
  | none => -1
  | some y => nI y
def nxO (M : Nat → Nat) (x : Int32) : Option Nat := if 0 ≤ x.toInt ∧ x.toInt < 256 then some (M x.toInt.toNat) else none
theorem nxO_I (M : Nat → Nat) (x : Int32) : byt M x = nxI (nxO M x) := by
  unfold byt nxO
  by_cases h : 0 ≤ x.toInt ∧ x.toInt < 256
  · rw [if_pos h, if_pos h]; rfl
  · rw [if_neg h, if_neg h]; rfl
/-- a pattern from at on, n bytes that tell what to do left; M: the memory -/
def fol (M T : Nat → Nat) (bl zr : Bool) : Nat → Int32 → PW → Option PW
  | 0, _, _ => none
  | n + 1, p, u => (nxO M p).bind (fun k => if k = 0 then (if u.2.2.1 = 0 then some u else none) else if n = 0 then none else (pOb T bl zr k (nxO M (p + 1)) u).bind (fol M T bl zr n (p + nI (if takesN k = true then 2 else 1))))
