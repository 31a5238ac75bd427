/-! the pure words for the rows of digits -/
def zf : Nat → Nat := fun _ => 0
def mix (i : Nat) (A B : Nat → Nat) : Nat → Nat := fun j => if j < i then A j else B j
theorem mix_up {i v : Nat} {A B : Nat → Nat} (h : v = A i) : ∀ j, up (mix i A B) i v j = mix (i + 1) A B j := by
  intro j
  unfold up mix
  by_cases h1 : j = i
  · subst h1; simp [h]
  · by_cases h2 : j < i
    · simp [h1, h2, show j < i + 1 by omega]
    · simp [h1, h2, show ¬ j < i + 1 by omega]
theorem mix_0 {A B : Nat → Nat} : ∀ j, B j = mix 0 A B j := by intro j; simp [mix]
theorem mix_hi {i j : Nat} {A B : Nat → Nat} (h : i ≤ j) : mix i A B j = B j := by simp [mix, show ¬ j < i by omega]
theorem mix_lo {i j : Nat} {A B : Nat → Nat} (h : j < i) : mix i A B j = A j := by simp [mix, h]
def hasD (d : Nat → Nat) (a b : Nat) : Bool := (List.range b).any (fun j => decide (a ≤ j) && decide (d j ≠ 0))
theorem hasD_iff {d : Nat → Nat} {a b : Nat} : hasD d a b = true ↔ ∃ j, a ≤ j ∧ j < b ∧ d j ≠ 0 := by
  unfold hasD
  rw [List.any_eq_true]
  constructor
  · rintro ⟨j, h1, h2⟩
    rw [List.mem_range] at h1
    simp only [Bool.and_eq_true, decide_eq_true_eq] at h2
    exact ⟨j, h2.1, h1, h2.2⟩
  · rintro ⟨j, h1, h2, h3⟩
    exact ⟨j, List.mem_range.mpr h2, by simp [h1, h3]⟩
theorem hasD_t {d : Nat → Nat} {a b : Nat} (j : Nat) (h1 : a ≤ j) (h2 : j < b) (h3 : d j ≠ 0) : hasD d a b = true := hasD_iff.mpr ⟨j, h1, h2, h3⟩
theorem hasD_f {d : Nat → Nat} {a b : Nat} (h : ∀ j, a ≤ j → j < b → d j = 0) : hasD d a b = false := by
  cases hq : hasD d a b with
  | false => rfl
  | true =>
    obtain ⟨j, h1, h2, h3⟩ := hasD_iff.mp hq
    exact absurd (h j h1 h2) h3
theorem hasD_0 {d : Nat → Nat} {a b : Nat} (h : hasD d a b = false) : ∀ j, a ≤ j → j < b → d j = 0 := by
  intro j h1 h2
  by_cases h3 : d j = 0
  · exact h3
  · rw [hasD_t j h1 h2 h3] at h; cases h
theorem hasD_ext {d e : Nat → Nat} {a b : Nat} (h : ∀ j, a ≤ j → j < b → d j = e j) : hasD d a b = hasD e a b := by
  cases hq : hasD e a b with
  | true =>
    obtain ⟨j, h1, h2, h3⟩ := hasD_iff.mp hq
    exact hasD_t j h1 h2 (by rw [h j h1 h2]; exact h3)
  | false => exact hasD_f (fun j h1 h2 => by rw [h j h1 h2]; exact hasD_0 hq j h1 h2)
/-- flags of the lowest k digits, of W in all -/
def flg (d : Nat → Nat) (s : Bool) (k : Nat) : Nat := (if hasD d 0 k = true then (if s = true then 8 else 0) else 4) + (if hasD d k 130 = true then 2 else 0)
def dig (m : Nat) : Nat → Nat := fun j => m / 10 ^ j % 10
theorem dig_s (m i : Nat) : m / 10 ^ i / 10 = m / 10 ^ (i + 1) := by rw [Nat.div_div_eq_div_mul, Nat.pow_succ]
theorem dig_lt (m j : Nat) : dig m j < 10 := Nat.mod_lt _ (by decide)
def lbF (d : Nat → Nat) : Nat → Int64
  | 0 => 0
  | n + 1 => lbF d n * 10 + lN (d (30 - n))
def cmpZ (d e : Nat → Nat) : Nat → Int32
  | 0 => 0
  | n + 1 => if d n = e n then cmpZ d e n else if d n < e n then -1 else 1
theorem cmpZ_tri (d e : Nat → Nat) (n : Nat) : cmpZ d e n = 0 ∨ cmpZ d e n = -1 ∨ cmpZ d e n = 1 := by
  induction n with
  | zero => exact Or.inl rfl
  | succ n ih =>
    unfold cmpZ
    by_cases h1 : d n = e n
    · simp only [h1, if_true]; exact ih
    · by_cases h2 : d n < e n
      · simp [h1, h2]
      · simp [h1, h2]
def ordS (d : Nat → Nat) (s : Bool) (e : Nat → Nat) (t : Bool) : Int32 := if s = t then (if s = true then -(cmpZ d e 32) else cmpZ d e 32) else if s = true then -1 else 1
def adC (x y : Nat → Nat) : Nat → Nat
  | 0 => 0
  | k + 1 => (x k + y k + adC x y k) / 10
def adD (x y : Nat → Nat) : Nat → Nat := fun k => (x k + y k + adC x y k) % 10
theorem adC_le {x y : Nat → Nat} (hx : ∀ j, x j < 10) (hy : ∀ j, y j < 10) (k : Nat) : adC x y k ≤ 1 := by
  induction k with
  | zero => exact Nat.zero_le _
  | succ k ih =>
    unfold adC
    have h1 := hx k
    have h2 := hy k
    omega
theorem adD_lt (x y : Nat → Nat) (k : Nat) : adD x y k < 10 := Nat.mod_lt _ (by decide)
def suB (x y : Nat → Nat) : Nat → Nat
  | 0 => 0
  | k + 1 => if x k < y k + suB x y k then 1 else 0
def suD (x y : Nat → Nat) : Nat → Nat := fun k => x k + 10 * suB x y (k + 1) - (y k + suB x y k)
theorem suB_le (x y : Nat → Nat) (k : Nat) : suB x y k ≤ 1 := by
  cases k with
  | zero => exact Nat.zero_le _
  | succ k =>
    unfold suB
    by_cases h : x k < y k + suB x y k <;> simp [h]
theorem suD_lt {x y : Nat → Nat} (hx : ∀ j, x j < 10) (hy : ∀ j, y j < 10) (k : Nat) : suD x y k < 10 := by
  have h1 := hx k
  have h2 := hy k
  have h3 := suB_le x y k
  unfold suD
  show x k + 10 * (if x k < y k + suB x y k then 1 else 0) - (y k + suB x y k) < 10
  by_cases h : x k < y k + suB x y k
  · rw [if_pos h]; omega
  · rw [if_neg h]; omega
def inC (d : Nat → Nat) : Nat → Nat
  | 0 => 1
  | k + 1 => (d k + inC d k) / 10
def inD (d : Nat → Nat) : Nat → Nat := fun k => (d k + inC d k) % 10
theorem inC_le {d : Nat → Nat} (hd : ∀ j, d j < 10) (k : Nat) : inC d k ≤ 1 := by
  induction k with
  | zero => exact Nat.le_refl _
  | succ k ih =>
    unfold inC
    have h1 := hd k
    omega
theorem inC_0 {d : Nat → Nat} (hd : ∀ j, d j < 10) {k : Nat} (h : inC d k = 0) : ∀ j, k ≤ j → inC d j = 0 := by
  intro j hj
  induction j with
  | zero => obtain rfl : k = 0 := by omega
            exact h
  | succ j ih =>
    by_cases hk : k = j + 1
    · subst hk; exact h
    · have h2 := ih (by omega)
      have h1 := hd j
      unfold inC
      rw [h2]; omega
def amC (d y : Nat → Nat) (f a : Nat) : Nat → Nat
  | 0 => 0
  | k + 1 => (d (a + k) + f * y k + amC d y f a k) / 10
def amD (d y : Nat → Nat) (f a : Nat) : Nat → Nat := fun j => if a ≤ j then (d j + f * y (j - a) + amC d y f a (j - a)) % 10 else d j
/-- the first k of the 32 places from a on are done -/
def amR (d y : Nat → Nat) (f a k : Nat) : Nat → Nat := mix (a + k) (amD d y f a) d
theorem amC_le {d y : Nat → Nat} {f a : Nat} (hd : ∀ j, d j < 10) (hy : ∀ j, y j < 10) (hf : f < 10) (k : Nat) : amC d y f a k ≤ 9 := by
  induction k with
  | zero => exact Nat.zero_le _
  | succ k ih =>
    unfold amC
    have h1 := hd (a + k)
    have h2 := hy k
    have h3 : f * y k ≤ 81 := by
      have : f * y k ≤ 9 * 9 := Nat.mul_le_mul (by omega) (by omega)
      omega
    omega
def muR (x y : Nat → Nat) : Nat → Nat → Nat
  | 0 => zf
  | i + 1 => if x i = 0 then muR x y i else amR (muR x y i) y (x i) i 32
theorem amR_lt {d y : Nat → Nat} {f a k : Nat} (hd : ∀ j, d j < 10) (j : Nat) : amR d y f a k j < 10 := by
  unfold amR mix amD
  by_cases h : j < a + k
  · by_cases h2 : a ≤ j
    · simp only [h, h2, if_true]; exact Nat.mod_lt _ (by decide)
    · simp only [h, h2, if_true, if_false]; exact hd j
  · simp only [h, if_false]; exact hd j
theorem muR_lt (x y : Nat → Nat) (i : Nat) : ∀ j, muR x y i j < 10 := by
  induction i with
  | zero => intro j; show 0 < 10; decide
  | succ i ih =>
    intro j
    unfold muR
    by_cases h : x i = 0
    · simp only [h, if_true]; exact ih j
    · simp only [h, if_false]; exact amR_lt ih j
/-- long division; w: how many places the rest has -/
def bdW (w : Nat) (r : Nat → Nat) (g : Nat) : Nat → Nat := fun j => if j = 0 then g else if j < w then r (j - 1) else r j
def sbW (w : Nat) (r e : Nat → Nat) : Nat → Nat := mix w (suD r e) r
def taF (w : Nat) (e : Nat → Nat) : Nat → (Nat → Nat) → Nat × (Nat → Nat)
  | 0, r => (0, r)
  | f + 1, r => if cmpZ r e w < 0 then (0, r) else ((taF w e f (sbW w r e)).1 + 1, (taF w e f (sbW w r e)).2)
def dvR (w : Nat) (x e : Nat → Nat) : Nat → (Nat → Nat)
  | 0 => zf
  | n + 1 => (taF w e 9 (bdW w (dvR w x e n) (x (30 - n)))).2
/-- the quotient's digit at place i -/
def dvQ (w : Nat) (x e : Nat → Nat) : Nat → Nat := fun i => (taF w e 9 (bdW w (dvR w x e (30 - i)) (x i))).1
def mvD (x : Nat → Nat) (by_ : Int) : Nat → Nat := fun j => if by_ ≤ (j : Int) ∧ (j : Int) < 31 + by_ then x ((j : Int) - by_).toNat else 0
def absN (x : Int32) : Nat := x.toInt.natAbs
theorem absN_lt (x : Int32) : absN x ≤ 2147483648 := by
  have h1 := x.toInt_lt
  have h2 := x.le_toInt
  unfold absN
  omega
theorem xn_labs (x : Int32) : (if 0 < x.toInt64 then x.toInt64 else -x.toInt64) = lN (absN x) := by
  have h1 := x.toInt_lt
  have h2 := x.le_toInt
  have h3 : x.toInt64.toInt = x.toInt := Int32.toInt_toInt64 x
  have hb := absN_lt x
  have h0 : (0 : Int64).toInt = 0 := rfl
  apply Int64.toInt_inj.mp
  rw [pk_lT (show absN x < 2 ^ 63 by omega)]
  by_cases h : 0 < x.toInt64
  · rw [if_pos h, h3]
    rw [Int64.lt_iff_toInt_lt, h3, h0] at h
    unfold absN
    omega
  · rw [if_neg h, Int64.toInt_neg, h3]
    rw [Int64.lt_iff_toInt_lt, h3, h0] at h
    unfold absN
    rw [Int.bmod_eq_of_le (by omega) (by omega)]
    omega
theorem lb_s {d : Nat → Nat} {j : Nat} (h : j + 1 ≤ 31) : lbF d (31 - (j + 1)) * 10 + lN (d j) = lbF d (31 - j) := by
  rw [show 31 - j = (31 - (j + 1)) + 1 by omega]
  show _ = lbF d (31 - (j + 1)) * 10 + lN (d (30 - (31 - (j + 1))))
  rw [show 30 - (31 - (j + 1)) = j by omega]
theorem xn_s3 {a b c : Nat} (ha : a < 1000000) (hb : b < 1000000) (hc : c < 1000000) : (nI a - nI b - nI c).toInt = (a : Int) - (b : Int) - (c : Int) := by
  rw [Int32.toInt_sub, Int32.toInt_sub, xn_ti (by omega), xn_ti (by omega), xn_ti (by omega)]
  rw [Int.bmod_eq_of_le (n := (a : Int) - (b : Int)) (by omega) (by omega), Int.bmod_eq_of_le (by omega) (by omega)]
theorem xn_s4 {a b c e : Nat} (h : b + c ≤ a + e) : nI a - nI b - nI c + nI e = nI (a + e - (b + c)) := by
  have h1 : nI a + nI e = nI (a + e - (b + c)) + (nI b + nI c) := by
    rw [nI_add, nI_add, nI_add]
    congr 1
    omega
  generalize nI (a + e - (b + c)) = r at h1 ⊢
  grind
theorem xn_addZ {i : Nat} {b : Int32} (hi : i < 1000000) (h1 : -1000000 ≤ b.toInt) (h2 : b.toInt ≤ 1000000) : (nI i + b).toInt = (i : Int) + b.toInt := by
  rw [Int32.toInt_add, xn_ti (by omega), Int.bmod_eq_of_le (by omega) (by omega)]
theorem xn_addN {i : Nat} {b : Int32} (hi : i < 1000000) (h2 : b.toInt ≤ 1000000) (h : 0 ≤ (i : Int) + b.toInt) : nI i + b = nI ((i : Int) + b.toInt).toNat := by
  apply Int32.toInt_inj.mp
  rw [xn_addZ hi (by omega) h2, xn_ti (by omega)]
  omega
theorem in_fin {d : Nat → Nat} (hd : ∀ j, d j < 10) {i : Nat} (hi : i ≤ 32) (h : i = 32 ∨ inC d i = 0) : ∀ j, mix i (inD d) d j = mix 32 (inD d) d j := by
  intro j
  rcases h with rfl | h
  · rfl
  · unfold mix
    by_cases h1 : j < i
    · simp [h1, show j < 32 by omega]
    · by_cases h2 : j < 32
      · simp only [h1, h2, if_true, if_false]
        unfold inD
        have h3 := inC_0 hd h j (by omega)
        have h4 := hd j
        omega
      · simp [h1, h2]
theorem amR_0 {d y : Nat → Nat} {f a : Nat} : ∀ j, d j = amR d y f a 0 j := by
  intro j
  unfold amR mix amD
  by_cases h : j < a + 0
  · simp [show j < a by omega, show ¬ a ≤ j by omega]
  · simp only [h, if_false]
theorem amR_s {d y : Nat → Nat} {f a i : Nat} : ∀ j, up (amR d y f a i) (a + i) ((d (a + i) + f * y i + amC d y f a i) % 10) j = amR d y f a (i + 1) j := by
  intro j
  unfold amR
  rw [mix_up (i := a + i) (A := amD d y f a) (B := d) (by
    unfold amD
    rw [if_pos (by omega), Nat.add_sub_cancel_left])]
  rfl
def bdP (d : Nat → Nat) (i : Nat) : Nat → Nat := fun j => if i < j ∧ j < 32 then d (j - 1) else d j
theorem bdP_0 {d : Nat → Nat} : ∀ j, d j = bdP d 31 j := by
  intro j
  unfold bdP
  rw [if_neg (by omega)]
theorem bdP_at {d : Nat → Nat} {i : Nat} (h : 0 < i) : bdP d i (i - 1) = d (i - 1) := by
  unfold bdP
  rw [if_neg (by omega)]
theorem bdP_s {d : Nat → Nat} {i : Nat} (h : 0 < i ∧ i ≤ 31) : ∀ j, up (bdP d i) i (d (i - 1)) j = bdP d (i - 1) j := by
  intro j
  unfold up bdP
  by_cases h1 : j = i
  · subst h1; rw [if_pos rfl, if_pos (by omega)]
  · rw [if_neg h1]
    by_cases h2 : i < j ∧ j < 32
    · rw [if_pos h2, if_pos (by omega)]
    · rw [if_neg h2, if_neg (by omega)]
theorem bdP_e {d : Nat → Nat} {g : Nat} : ∀ j, up (bdP d 0) 0 g j = bdW 32 d g j := by
  intro j
  unfold up bdP bdW
  by_cases h1 : j = 0
  · simp [h1]
  · rw [if_neg h1, if_neg h1]
    by_cases h2 : j < 32
    · rw [if_pos (by omega), if_pos h2]
    · rw [if_neg (by omega), if_neg h2]
theorem sbW_lt {w : Nat} {r e : Nat → Nat} (hr : ∀ j, r j < 10) (he : ∀ j, e j < 10) : ∀ j, sbW w r e j < 10 := by
  intro j
  unfold sbW mix
  by_cases h : j < w
  · rw [if_pos h]; exact suD_lt hr he j
  · rw [if_neg h]; exact hr j
theorem bdW_lt {w : Nat} {r : Nat → Nat} {g : Nat} (hr : ∀ j, r j < 10) (hg : g < 10) : ∀ j, bdW w r g j < 10 := by
  intro j
  unfold bdW
  by_cases h : j = 0
  · rw [if_pos h]; exact hg
  · rw [if_neg h]
    by_cases h2 : j < w
    · rw [if_pos h2]; exact hr _
    · rw [if_neg h2]; exact hr _
theorem taF_lt {w : Nat} {e : Nat → Nat} (he : ∀ j, e j < 10) (f : Nat) : ∀ r : Nat → Nat, (∀ j, r j < 10) → ∀ j, (taF w e f r).2 j < 10 := by
  induction f with
  | zero => intro r hr; exact hr
  | succ f ih =>
    intro r hr j
    unfold taF
    by_cases h : cmpZ r e w < 0
    · rw [if_pos h]; exact hr j
    · rw [if_neg h]; exact ih _ (sbW_lt hr he) j
theorem dvR_lt {w : Nat} {x e : Nat → Nat} (hx : ∀ j, x j < 10) (he : ∀ j, e j < 10) (n : Nat) : ∀ j, dvR w x e n j < 10 := by
  induction n with
  | zero => intro j; show 0 < 10; decide
  | succ n ih => exact taF_lt he 9 _ (bdW_lt ih (hx _))
theorem taF_s {w : Nat} {e r : Nat → Nat} {k : Nat} (h9 : k < 9) (h : ¬ cmpZ r e w < 0) : (k + (taF w e (9 - k) r).1, (taF w e (9 - k) r).2) = (k + 1 + (taF w e (9 - (k + 1)) (sbW w r e)).1, (taF w e (9 - (k + 1)) (sbW w r e)).2) := by
  rw [show 9 - k = (9 - (k + 1)) + 1 by omega]
  have h1 : taF w e ((9 - (k + 1)) + 1) r = ((taF w e (9 - (k + 1)) (sbW w r e)).1 + 1, (taF w e (9 - (k + 1)) (sbW w r e)).2) := by
    show (if cmpZ r e w < 0 then _ else _) = _
    rw [if_neg h]
  rw [h1]
  congr 1
  show k + (_ + 1) = k + 1 + _
  omega
theorem taF_end9 {w : Nat} {e r : Nat → Nat} {k : Nat} (h9 : k = 9) : (k + (taF w e (9 - k) r).1, (taF w e (9 - k) r).2) = (k, r) := by
  subst h9
  rfl
theorem taF_lt0 {w : Nat} {e r : Nat → Nat} {k : Nat} (h9 : k < 9) (h : cmpZ r e w < 0) : (k + (taF w e (9 - k) r).1, (taF w e (9 - k) r).2) = (k, r) := by
  rw [show 9 - k = (9 - (k + 1)) + 1 by omega]
  have h1 : taF w e ((9 - (k + 1)) + 1) r = (0, r) := by
    show (if cmpZ r e w < 0 then _ else _) = _
    rw [if_pos h]
  rw [h1]
  rfl
def qmx (c : Nat) (Q : Nat → Nat) : Nat → Nat := fun j => if c ≤ j ∧ j < 31 then Q j else 0
theorem qmx_31 {Q : Nat → Nat} {n : Nat} : ∀ j, j < n → zf j = qmx 31 Q j := by
  intro j _
  unfold qmx zf
  rw [if_neg (by omega)]
theorem qmx_s {Q : Nat → Nat} {j v : Nat} (hj : j + 1 ≤ 31) (hv : v = Q j) : ∀ i, up (qmx (j + 1) Q) j v i = qmx j Q i := by
  intro i
  unfold up qmx
  by_cases h : i = j
  · subst h; rw [if_pos rfl, if_pos (by omega)]; exact hv
  · rw [if_neg h]
    by_cases h2 : j + 1 ≤ i ∧ i < 31
    · rw [if_pos h2, if_pos (by omega)]
    · rw [if_neg h2, if_neg (by omega)]
theorem dv_q {w : Nat} {x e : Nat → Nat} {j : Nat} (h : j + 1 ≤ 31) : (taF w e 9 (bdW w (dvR w x e (31 - (j + 1))) (x j))).1 = dvQ w x e j := by
  unfold dvQ
  rw [show 31 - (j + 1) = 30 - j by omega]
theorem dv_s {w : Nat} {x e : Nat → Nat} {j : Nat} (h : j + 1 ≤ 31) : (taF w e 9 (bdW w (dvR w x e (31 - (j + 1))) (x j))).2 = dvR w x e (31 - j) := by
  rw [show 31 - j = (31 - (j + 1)) + 1 by omega]
  show _ = (taF w e 9 (bdW w (dvR w x e (31 - (j + 1))) (x (30 - (31 - (j + 1)))))).2
  rw [show 30 - (31 - (j + 1)) = j by omega]
def mvI (x : Nat → Nat) (b : Int) (i : Nat) : Nat → Nat := fun j => if b ≤ (j : Int) ∧ (j : Int) < (i : Int) + b then x ((j : Int) - b).toNat else 0
theorem mvI_0 {x : Nat → Nat} {b : Int} : ∀ j, zf j = mvI x b 0 j := by
  intro j
  unfold mvI zf
  rw [if_neg (by omega)]
theorem mvI_neg {x : Nat → Nat} {b : Int} {i : Nat} (h : (i : Int) + b < 0) : ∀ j, mvI x b i j = mvI x b (i + 1) j := by
  intro j
  unfold mvI
  rw [if_neg (by omega), if_neg (by omega)]
theorem mvI_s {x : Nat → Nat} {b : Int} {i k : Nat} (h : (k : Int) = (i : Int) + b) : ∀ j, up (mvI x b i) k (x i) j = mvI x b (i + 1) j := by
  intro j
  unfold up mvI
  by_cases h1 : j = k
  · subst h1
    rw [if_pos rfl, if_pos (by omega)]
    congr 1
    omega
  · rw [if_neg h1]
    by_cases h2 : b ≤ (j : Int) ∧ (j : Int) < (i : Int) + b
    · rw [if_pos h2, if_pos (by omega)]
    · rw [if_neg h2, if_neg (by omega)]
def asD (x : Nat → Nat) (s : Bool) (y : Nat → Nat) (t : Bool) : Nat → Nat := if s = t then mix 32 (adD x y) zf else if cmpZ x y 32 < 0 then mix 32 (suD y x) zf else mix 32 (suD x y) zf
def asS (x : Nat → Nat) (s : Bool) (y : Nat → Nat) (t : Bool) : Bool := if s = t then s else if cmpZ x y 32 < 0 then t else s
theorem muR_0 {x y : Nat → Nat} {i : Nat} (h : x i = 0) : muR x y (i + 1) = muR x y i := if_pos h
theorem muR_1 {x y : Nat → Nat} {i : Nat} (h : x i ≠ 0) : muR x y (i + 1) = amR (muR x y i) y (x i) i 32 := if_neg h
