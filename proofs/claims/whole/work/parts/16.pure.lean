theorem pWr_le {c : Nat} {u v : PW} (h : pWr c u = some v) : v.2.1 ≤ 64 ∧ v.2.2.1 ≤ u.2.2.1 := by
  obtain ⟨rfl, q⟩ := pWr_cn h
  exact ⟨q, Nat.le_refl _⟩
theorem pFl_le (x : Nat) : ∀ {u v : PW}, pFl x u = some v → u.2.1 ≤ 64 → v.2.1 ≤ 64 ∧ v.2.2.1 ≤ u.2.2.1 := by
  induction x with
  | zero => intro u v h hu; cases h; exact ⟨hu, Nat.le_refl _⟩
  | succ x ih =>
    intro u v h hu
    unfold pFl at h
    cases h3 : pWr u.2.2.2.2.1 u with
    | none => rw [h3] at h; cases h
    | some w =>
      rw [h3] at h
      have h1 := pWr_le h3
      have h2 := ih (show pFl x w = some v from h) h1.1
      exact ⟨h2.1, Nat.le_trans h2.2 h1.2⟩
theorem pDs_le {T : Nat → Nat} {sd : Bool} (x : Nat) : ∀ {u v : PW}, pDs T sd x u = some v → u.2.1 ≤ 64 → v.2.1 ≤ 64 ∧ v.2.2.1 ≤ u.2.2.1 := by
  induction x with
  | zero => intro u v h hu; cases h; exact ⟨hu, Nat.le_refl _⟩
  | succ x ih =>
    intro u v h hu
    unfold pDs at h
    by_cases h0 : u.2.2.1 = 0
    · rw [if_pos h0] at h; cases h
    · rw [if_neg h0] at h
      cases h3 : pDg T sd u with
      | none => rw [h3] at h; cases h
      | some w =>
        rw [h3] at h
        have h1 := pDg_lf h3
        have h2 := ih (show pDs T sd x w = some v from h) h1.2
        exact ⟨h2.1, by omega⟩
theorem pL8_le {zr : Bool} {x : Nat} {u v : PW} (h : pL8 zr x u = some v) (hu : u.2.1 ≤ 64) : v.2.1 ≤ 64 ∧ v.2.2.1 ≤ u.2.2.1 := by
  obtain ⟨W, cn, lf, sg, fi, si⟩ := u
  simp only [pL8] at h
  by_cases h0 : cn < x
  · rw [if_pos h0] at h; cases h
  · rw [if_neg h0] at h; cases h; exact ⟨hu, Nat.le_refl _⟩
theorem pNx_le {bl zr : Bool} {k x : Nat} {u v : PW} (h : pNx bl zr k x u = some v) (hu : u.2.1 ≤ 64) : v.2.1 ≤ 64 ∧ v.2.2.1 ≤ u.2.2.1 := by
  obtain ⟨W, cn, lf, sg, fi, si⟩ := u
  simp only [pNx] at h
  by_cases h4 : k = 4
  · rw [if_pos h4] at h; cases h; exact ⟨hu, Nat.le_refl _⟩
  · rw [if_neg h4] at h
    by_cases h5 : k = 5
    · rw [if_pos h5] at h; cases h; exact ⟨hu, Nat.le_refl _⟩
    · rw [if_neg h5] at h
      by_cases h6 : k = 6
      · rw [if_pos h6] at h; cases h; exact ⟨hu, Nat.le_refl _⟩
      · rw [if_neg h6] at h
        by_cases h7 : k = 7
        · rw [if_pos h7] at h; exact pWr_le h
        · rw [if_neg h7] at h; exact pL8_le h hu
theorem pOb_le {T : Nat → Nat} {bl zr : Bool} {k : Nat} {nx : Option Nat} {u v : PW} (h : pOb T bl zr k nx u = some v) (hu : u.2.1 ≤ 64) : v.2.1 ≤ 64 ∧ v.2.2.1 ≤ u.2.2.1 := by
  unfold pOb at h
  by_cases h1 : 160 < k ∧ k ≤ 175
  · rw [if_pos h1] at h; exact pDs_le _ h hu
  · rw [if_neg h1] at h
    by_cases h2 : 144 < k ∧ k ≤ 159
    · rw [if_pos h2] at h; exact pDs_le _ h hu
    · rw [if_neg h2] at h
      by_cases h3 : 128 < k ∧ k ≤ 143
      · rw [if_pos h3] at h; exact pFl_le _ h hu
      · rw [if_neg h3] at h
        by_cases h4 : 4 ≤ k ∧ k ≤ 8
        · rw [if_pos h4] at h
          cases nx with
          | none => cases h
          | some x => exact pNx_le (show pNx bl zr k x u = some v from h) hu
        · rw [if_neg h4] at h
          by_cases h5 : k = 1 ∨ k = 2
          · rw [if_pos h5] at h; cases h; exact ⟨hu, Nat.le_refl _⟩
          · rw [if_neg h5] at h
            by_cases h6 : k = 3
            · rw [if_pos h6] at h; exact pWr_le h
            · rw [if_neg h6] at h; cases h
theorem nxO_in {M : Nat → Nat} {x : Int32} {k : Nat} (h : nxO M x = some k) : 0 ≤ x.toInt ∧ x.toInt < 256 ∧ k = M x.toInt.toNat := by
  unfold nxO at h
  by_cases q : 0 ≤ x.toInt ∧ x.toInt < 256
  · rw [if_pos q] at h; exact ⟨q.1, q.2, (Option.some.inj h).symm⟩
  · rw [if_neg q] at h; cases h
theorem nxO_lt {M : Nat → Nat} (hM : ∀ j, M j < 256) (x : Int32) : ∀ y, nxO M x = some y → y < 256 := fun y h => by rw [(nxO_in h).2.2]; exact hM _
theorem fol_none {M T : Nat → Nat} {bl zr : Bool} {n : Nat} {p : Int32} {u : PW} (h : nxO M p = none) : fol M T bl zr n p u = none := by
  cases n with
  | zero => rfl
  | succ n => unfold fol; rw [h]; rfl
theorem fol_0 {M T : Nat → Nat} {bl zr : Bool} {n : Nat} {p : Int32} {u : PW} (h : nxO M p = some 0) : fol M T bl zr (n + 1) p u = if u.2.2.1 = 0 then some u else none := by
  unfold fol; rw [h]; rfl
theorem fol_last {M T : Nat → Nat} {bl zr : Bool} {k : Nat} {p : Int32} {u : PW} (h : nxO M p = some k) (hk : 0 < k) : fol M T bl zr (0 + 1) p u = none := by
  unfold fol; rw [h]
  show (if k = 0 then _ else _) = _
  rw [if_neg (by omega)]; rfl
theorem fol_s {M T : Nat → Nat} {bl zr : Bool} {n k : Nat} {p : Int32} {u : PW} (h : nxO M p = some k) (hk : 0 < k) (hn : 0 < n) : fol M T bl zr (n + 1) p u = (pOb T bl zr k (nxO M (p + 1)) u).bind (fol M T bl zr n (p + nI (if takesN k = true then 2 else 1))) := by
  rw [fol, h]
  show (if k = 0 then _ else _) = _
  rw [if_neg (by omega), if_neg (by omega)]
theorem fol_le {M T : Nat → Nat} {bl zr : Bool} {n : Nat} : ∀ {p : Int32} {u v : PW}, fol M T bl zr n p u = some v → u.2.1 ≤ 64 → v.2.1 ≤ 64 := by
  induction n with
  | zero => intro p u v h; cases h
  | succ n ih =>
    intro p u v h hu
    cases hx : nxO M p with
    | none => rw [fol_none hx] at h; cases h
    | some k =>
      by_cases h0 : k = 0
      · subst h0
        rw [fol_0 hx] at h
        by_cases h1 : u.2.2.1 = 0
        · rw [if_pos h1] at h; cases h; exact hu
        · rw [if_neg h1] at h; cases h
      · by_cases hn : n = 0
        · subst hn; rw [fol_last hx (by omega)] at h; cases h
        · rw [fol_s hx (by omega) (by omega)] at h
          cases h3 : pOb T bl zr k (nxO M (p + 1)) u with
          | none => rw [h3] at h; cases h
          | some w =>
            rw [h3] at h
            exact ih (show fol M T bl zr n _ w = some v from h) (pOb_le h3 hu).1
/-- all that was written is a byte, and so are fill and sign -/
def pbO (u : PW) : Prop := (∀ j, j < u.2.1 → u.1 j < 256) ∧ u.2.2.2.2.1 < 256 ∧ u.2.2.2.2.2 < 256
theorem pbO_wr {c : Nat} {u v : PW} (h : pWr c u = some v) (hc : c < 256) (hu : pbO u) : pbO v := by
  obtain ⟨rfl, q⟩ := pWr_cn h
  refine ⟨fun j hj => ?_, hu.2.1, hu.2.2⟩
  show up u.1 u.2.1 c j < 256
  by_cases h1 : j = u.2.1
  · rw [h1, up_s]; exact hc
  · rw [up_n h1]; exact hu.1 j (by have h2 : j < u.2.1 + 1 := hj; omega)
theorem pbO_fl (x : Nat) : ∀ {u v : PW}, pFl x u = some v → pbO u → pbO v := by
  induction x with
  | zero => intro u v h hu; cases h; exact hu
  | succ x ih =>
    intro u v h hu
    unfold pFl at h
    cases h3 : pWr u.2.2.2.2.1 u with
    | none => rw [h3] at h; cases h
    | some w =>
      rw [h3] at h
      exact ih (show pFl x w = some v from h) (pbO_wr h3 hu.2.1 hu)
theorem pbO_dg {T : Nat → Nat} {sd : Bool} {u v : PW} (hT : ∀ j, T j < 10) (h : pDg T sd u = some v) (hu : pbO u) : pbO v := by
  obtain ⟨W, cn, lf, sg, fi, si⟩ := u
  have ht := hT (lf - 1)
  simp only [pDg] at h
  by_cases h1 : T (lf - 1) = 0 ∧ sg = false
  · rw [if_pos h1] at h
    exact pbO_wr h hu.2.1 hu
  · rw [if_neg h1] at h
    by_cases h2 : sd = true ∧ sg = false
    · rw [if_pos h2] at h
      cases h3 : pWr si (W, cn, lf - 1, true, fi, si) with
      | none => rw [h3] at h; cases h
      | some w =>
        rw [h3] at h
        have h4 : pbO w := pbO_wr h3 hu.2.2 hu
        exact pbO_wr (show pWr _ _ = some v from h) (by omega) h4
    · rw [if_neg h2] at h
      exact pbO_wr h (by omega) hu
theorem pbO_ds {T : Nat → Nat} {sd : Bool} (hT : ∀ j, T j < 10) (x : Nat) : ∀ {u v : PW}, pDs T sd x u = some v → pbO u → pbO v := by
  induction x with
  | zero => intro u v h hu; cases h; exact hu
  | succ x ih =>
    intro u v h hu
    unfold pDs at h
    by_cases h0 : u.2.2.1 = 0
    · rw [if_pos h0] at h; cases h
    · rw [if_neg h0] at h
      cases h3 : pDg T sd u with
      | none => rw [h3] at h; cases h
      | some w =>
        rw [h3] at h
        exact ih (show pDs T sd x w = some v from h) (pbO_dg hT h3 hu)
theorem pbO_l8 {zr : Bool} {x : Nat} {u v : PW} (h : pL8 zr x u = some v) (hu : pbO u) : pbO v := by
  obtain ⟨W, cn, lf, sg, fi, si⟩ := u
  simp only [pL8] at h
  by_cases h0 : cn < x
  · rw [if_pos h0] at h; cases h
  · rw [if_neg h0] at h; cases h
    refine ⟨fun j hj => ?_, hu.2.1, hu.2.2⟩
    have h1 := hu.1 j hj
    have h2 := hu.2.1
    cases zr with
    | false => exact h1
    | true =>
      show (if cn - x ≤ j ∧ j < cn then fi else W j) < 256
      by_cases q : cn - x ≤ j ∧ j < cn
      · rw [if_pos q]; exact h2
      · rw [if_neg q]; exact h1
theorem pbO_nx {bl zr : Bool} {k x : Nat} {u v : PW} (hx : x < 256) (h : pNx bl zr k x u = some v) (hu : pbO u) : pbO v := by
  obtain ⟨W, cn, lf, sg, fi, si⟩ := u
  obtain ⟨u1, u2, u3⟩ := hu
  simp only [pNx] at h
  by_cases h4 : k = 4
  · rw [if_pos h4] at h; cases h; exact ⟨u1, hx, u3⟩
  · rw [if_neg h4] at h
    by_cases h5 : k = 5
    · rw [if_pos h5] at h; cases h; refine ⟨u1, u2, ?_⟩
      show (if bl = true then si else x) < 256
      split
      · exact u3
      · exact hx
    · rw [if_neg h5] at h
      by_cases h6 : k = 6
      · rw [if_pos h6] at h; cases h; refine ⟨u1, u2, ?_⟩
        show (if bl = true then x else si) < 256
        split
        · exact hx
        · exact u3
      · rw [if_neg h6] at h
        by_cases h7 : k = 7
        · rw [if_pos h7] at h
          refine pbO_wr h ?_ ⟨u1, u2, u3⟩
          split
          · exact hx
          · exact u2
        · rw [if_neg h7] at h; exact pbO_l8 h ⟨u1, u2, u3⟩
theorem pbO_ob {T : Nat → Nat} {bl zr : Bool} {k : Nat} {nx : Option Nat} {u v : PW} (hT : ∀ j, T j < 10) (hnx : ∀ y, nx = some y → y < 256) (h : pOb T bl zr k nx u = some v) (hu : pbO u) : pbO v := by
  unfold pOb at h
  by_cases h1 : 160 < k ∧ k ≤ 175
  · rw [if_pos h1] at h; exact pbO_ds hT _ h hu
  · rw [if_neg h1] at h
    by_cases h2 : 144 < k ∧ k ≤ 159
    · rw [if_pos h2] at h; exact pbO_ds hT _ h hu
    · rw [if_neg h2] at h
      by_cases h3 : 128 < k ∧ k ≤ 143
      · rw [if_pos h3] at h; exact pbO_fl _ h hu
      · rw [if_neg h3] at h
        by_cases h4 : 4 ≤ k ∧ k ≤ 8
        · rw [if_pos h4] at h
          cases nx with
          | none => cases h
          | some x => exact pbO_nx (hnx x rfl) (show pNx bl zr k x u = some v from h) hu
        · rw [if_neg h4] at h
          by_cases h5 : k = 1 ∨ k = 2
          · rw [if_pos h5] at h; cases h; exact hu
          · rw [if_neg h5] at h
            by_cases h6 : k = 3
            · rw [if_pos h6] at h; exact pbO_wr h hu.2.2 hu
            · rw [if_neg h6] at h; cases h
theorem pbO_fol {M T : Nat → Nat} {bl zr : Bool} (hM : ∀ j, M j < 256) (hT : ∀ j, T j < 10) {n : Nat} : ∀ {p : Int32} {u v : PW}, fol M T bl zr n p u = some v → pbO u → pbO v := by
  induction n with
  | zero => intro p u v h; cases h
  | succ n ih =>
    intro p u v h hu
    cases hx : nxO M p with
    | none => rw [fol_none hx] at h; cases h
    | some k =>
      by_cases h0 : k = 0
      · subst h0
        rw [fol_0 hx] at h
        by_cases h1 : u.2.2.1 = 0
        · rw [if_pos h1] at h; cases h; exact hu
        · rw [if_neg h1] at h; cases h
      · by_cases hn : n = 0
        · subst hn; rw [fol_last hx (by omega)] at h; cases h
        · rw [fol_s hx (by omega) (by omega)] at h
          cases h3 : pOb T bl zr k (nxO M (p + 1)) u with
          | none => rw [h3] at h; cases h
          | some w =>
            rw [h3] at h
            exact ih (show fol M T bl zr n _ w = some v from h) (pbO_ob hT (nxO_lt hM _) h3 hu)
theorem fol_W {M W : Nat → Nat} {n a p : Int32} {v : PW} (hM : ∀ j, M j < 256) (hx : ∀ j, rdD M (tn n) (tn a) j < 10) (h : edP M W n a p = some v) : ∀ j, j < v.2.1 → v.1 j < 256 :=
  (pbO_fol hM hx h ⟨fun j hj => absurd hj (Nat.not_lt_zero _), (show 32 < 256 by decide), by show (if rdS M (tn n) (tn a) = true then 45 else 32) < 256; split <;> decide⟩).1
