/-! the calls, of the class, as functions of memory and arguments -/
def tn (x : Int32) : Nat := x.toInt.toNat
theorem dfits_sp {n a : Int32} (h : dfits n a = true) : 0 ≤ n.toInt ∧ n.toInt ≤ 31 ∧ 0 ≤ a.toInt ∧ a.toInt < 256 - n.toInt / 2 := of_decide_eq_true h
theorem cfits_sp {n a : Int32} (h : cfits n a = true) : 0 ≤ n.toInt ∧ n.toInt ≤ 31 ∧ 0 ≤ a.toInt ∧ a.toInt < 256 - n.toInt := of_decide_eq_true h
theorem xn_tn {x : Int32} (h : 0 ≤ x.toInt) : x = nI (tn x) := xn_self h
theorem tn_le {x : Int32} {c : Nat} (h : x.toInt ≤ (c : Int)) : tn x ≤ c := by unfold tn; omega
theorem df1 {n a : Int32} (h : dfits n a = true) : tn n ≤ 31 := by have := dfits_sp h; unfold tn; omega
theorem df2 {n a : Int32} (h : dfits n a = true) : tn a + tn n / 2 < 256 := by have := dfits_sp h; unfold tn; omega
theorem df3 {n a : Int32} (h : dfits n a = true) : n = nI (tn n) := xn_tn (dfits_sp h).1
theorem df4 {n a : Int32} (h : dfits n a = true) : a = nI (tn a) := xn_tn (dfits_sp h).2.2.1
theorem cf1 {n a : Int32} (h : cfits n a = true) : tn n ≤ 31 := by have := cfits_sp h; unfold tn; omega
theorem cf2 {n a : Int32} (h : cfits n a = true) : tn a + tn n < 256 := by have := cfits_sp h; unfold tn; omega
theorem cf3 {n a : Int32} (h : cfits n a = true) : n = nI (tn n) := xn_tn (cfits_sp h).1
theorem cf4 {n a : Int32} (h : cfits n a = true) : a = nI (tn a) := xn_tn (cfits_sp h).2.2.1
def opR (M : Nat → Nat) (n a m b k c : Int32) : Int32 := if (dfits n a && dfits m b && dfits k c) = true then (if (rdb M (tn n) (tn a) && rdb M (tn m) (tn b)) = true then 0 else -2) else -1
theorem opR_0 {M : Nat → Nat} {n a m b k c : Int32} (h : opR M n a m b k c = 0) : dfits n a = true ∧ dfits m b = true ∧ dfits k c = true ∧ rdb M (tn n) (tn a) = true ∧ rdb M (tn m) (tn b) = true := by
  unfold opR at h
  by_cases h1 : (dfits n a && dfits m b && dfits k c) = true
  · rw [if_pos h1] at h
    by_cases h2 : (rdb M (tn n) (tn a) && rdb M (tn m) (tn b)) = true
    · simp only [Bool.and_eq_true] at h1 h2
      exact ⟨h1.1.1, h1.1.2, h1.2, h2.1, h2.2⟩
    · rw [if_neg h2] at h; exact absurd h (by decide)
  · rw [if_neg h1] at h; exact absurd h (by decide)
theorem rd_lt {M : Nat → Nat} {n a : Nat} (h : rdb M n a = true) : ∀ j, rdD M n a j < 10 := rdD_lt (rdb_iff.mp h).2
def arZ (o : Int32) (M D : Nat → Nat) (S : Bool) (k c : Int32) : Int32 × (Nat → Nat) := if o = 0 then (nI (flg D S (tn k)), wrM M D S (tn k) (tn c)) else (o, M)
def sumZ (M : Nat → Nat) (n a m b k c : Int32) : Int32 × (Nat → Nat) :=
  arZ (opR M n a m b k c) M (asD (rdD M (tn m) (tn b)) (rdS M (tn m) (tn b)) (rdD M (tn n) (tn a)) (rdS M (tn n) (tn a))) (asS (rdD M (tn m) (tn b)) (rdS M (tn m) (tn b)) (rdD M (tn n) (tn a)) (rdS M (tn n) (tn a))) k c
def lessZ (M : Nat → Nat) (n a m b k c : Int32) : Int32 × (Nat → Nat) :=
  arZ (opR M n a m b k c) M (asD (rdD M (tn m) (tn b)) (rdS M (tn m) (tn b)) (rdD M (tn n) (tn a)) (!rdS M (tn n) (tn a))) (asS (rdD M (tn m) (tn b)) (rdS M (tn m) (tn b)) (rdD M (tn n) (tn a)) (!rdS M (tn n) (tn a))) k c
def prodZ (M : Nat → Nat) (n a m b k c : Int32) : Int32 × (Nat → Nat) :=
  arZ (opR M n a m b k c) M (muR (rdD M (tn n) (tn a)) (rdD M (tn m) (tn b)) 31) (rdS M (tn n) (tn a) != rdS M (tn m) (tn b)) k c
def quotZ (M : Nat → Nat) (n a m b k c : Int32) : Int32 × (Nat → Nat) :=
  arZ (if opR M n a m b k c = 0 then (if hasD (rdD M (tn n) (tn a)) 0 130 = true then 0 else -3) else opR M n a m b k c) M (qmx 0 (dvQ 32 (rdD M (tn m) (tn b)) (rdD M (tn n) (tn a)))) (rdS M (tn m) (tn b) != rdS M (tn n) (tn a)) k c
def shR (M : Nat → Nat) (n a y up_ m b : Int32) : Int32 := if (dfits n a && dfits m b) = true then (if -99 ≤ y.toInt ∧ y.toInt ≤ 99 ∧ 0 ≤ up_.toInt ∧ up_.toInt ≤ 9 then (if rdb M (tn n) (tn a) = true then 0 else -2) else -1) else -1
def shD (x : Nat → Nat) (y up_ : Int32) : Nat → Nat := if y.toInt < 0 ∧ 9 < x ((-y.toInt - 1).toNat) + tn up_ then mix 32 (inD (mvI x y.toInt 31)) (mvI x y.toInt 31) else mvI x y.toInt 31
def shiftZ (M : Nat → Nat) (n a y up_ m b : Int32) : Int32 × (Nat → Nat) := arZ (shR M n a y up_ m b) M (shD (rdD M (tn n) (tn a)) y up_) (rdS M (tn n) (tn a)) m b
def cmpR (M : Nat → Nat) (n a m b : Int32) : Int32 := if (dfits n a && dfits m b) = true then (if (rdb M (tn n) (tn a) && rdb M (tn m) (tn b)) = true then (if ordS (rdD M (tn n) (tn a)) (rdS M (tn n) (tn a)) (rdD M (tn m) (tn b)) (rdS M (tn m) (tn b)) = 0 then 4 else if ordS (rdD M (tn n) (tn a)) (rdS M (tn n) (tn a)) (rdD M (tn m) (tn b)) (rdS M (tn m) (tn b)) < 0 then 8 else 0) else -2) else -1
def numZ (M : Nat → Nat) (v n a : Int32) : Int32 × (Nat → Nat) := arZ (if dfits n a = true then 0 else -1) M (mix 31 (dig (absN v)) zf) (decide (v.toInt < 0)) n a
def valR (M : Nat → Nat) (n a : Int32) : Int64 := if dfits n a = true ∧ rdb M (tn n) (tn a) = true then (if rdS M (tn n) (tn a) = true then -(lbF (rdD M (tn n) (tn a)) 31) else lbF (rdD M (tn n) (tn a)) 31) else 0
def chO (M : Nat → Nat) (n a m b : Int32) : Int32 := if (dfits n a && cfits m b) = true then (if rdb M (tn n) (tn a) = true then 0 else -2) else -1
/-- i digits from the last on, and the sign, are written as characters -/
def chP (M d : Nat → Nat) (sg m b i : Nat) : Nat → Nat := fun j => if j = b then sg else if j ≤ b + m ∧ b + m < j + i then 48 + d (b + m - j) else M j
def charZ (M : Nat → Nat) (n a m b : Int32) : Int32 × (Nat → Nat) :=
  if chO M n a m b = 0 then (nI (flg (rdD M (tn n) (tn a)) (rdS M (tn n) (tn a)) (tn m)), chP M (rdD M (tn n) (tn a)) (if ng (rdD M (tn n) (tn a)) (rdS M (tn n) (tn a)) (tn m) = true then 45 else 43) (tn m) (tn b) (tn m)) else (chO M n a m b, M)
def digZ (M : Nat → Nat) (n a m b : Int32) : Int32 × (Nat → Nat) := arZ (if (cfits n a && dfits m b) = true then (if chb M (tn n) (tn a) = true then 0 else -2) else -1) M (chD M (tn n) (tn a)) (chS M (tn n) (tn a)) m b
def bgW (W d : Nat → Nat) (s : Bool) (n : Nat) : PW := (W, 0, n, false, 32, if s = true then 45 else 32)
/-- what the pattern makes of a decimal; W: what lay there before -/
def edP (M W : Nat → Nat) (n a p : Int32) : Option PW := fol M (rdD M (tn n) (tn a)) (rdS M (tn n) (tn a)) (!hasD (rdD M (tn n) (tn a)) 0 130) 64 p (bgW W (rdD M (tn n) (tn a)) (rdS M (tn n) (tn a)) (tn n))
def edM (M W : Nat → Nat) (b i : Nat) : Nat → Nat := fun j => if b ≤ j ∧ j < b + i then W (j - b) else M j
def editZ (M : Nat → Nat) (en : Bool) (W : Nat → Nat) (n a p b : Int32) : Int32 × (Nat → Nat) × Bool :=
  if dfits n a = true then (if rdb M (tn n) (tn a) = true then
    (match edP M W n a p with
     | none => (-2, M, en)
     | some u => if 0 ≤ b.toInt ∧ b.toInt ≤ 256 ∧ (u.2.1 : Int) ≤ 256 - b.toInt then (nI u.2.1, edM M u.1 (tn b) u.2.1, u.2.2.2.1) else (-1, M, en)) else (-2, M, en)) else (-1, M, en)
theorem chP_0 {M d : Nat → Nat} {sg m b : Nat} : ∀ j, up M b sg j = chP M d sg m b 0 j := by
  intro j
  unfold up chP
  by_cases h : j = b
  · rw [if_pos h, if_pos h]
  · rw [if_neg h, if_neg h, if_neg (by omega)]
theorem chP_s {M d : Nat → Nat} {sg m b i : Nat} (h : i < m) : ∀ j, up (chP M d sg m b i) (b + m - i) (48 + d i) j = chP M d sg m b (i + 1) j := by
  intro j
  unfold up chP
  by_cases h0 : j = b + m - i
  · subst h0
    rw [if_pos rfl, if_neg (by omega), if_pos (by omega)]
    congr 2
    omega
  · rw [if_neg h0]
    by_cases h1 : j = b
    · rw [if_pos h1, if_pos h1]
    · rw [if_neg h1, if_neg h1]
      by_cases h2 : j ≤ b + m ∧ b + m < j + i
      · rw [if_pos h2, if_pos (by omega)]
      · rw [if_neg h2, if_neg (by omega)]
theorem edM_0 {M W : Nat → Nat} {b : Nat} : ∀ j, M j = edM M W b 0 j := by
  intro j
  unfold edM
  rw [if_neg (by omega)]
theorem edM_s {M W : Nat → Nat} {b i : Nat} : ∀ j, up (edM M W b i) (b + i) (W i) j = edM M W b (i + 1) j := by
  intro j
  unfold up edM
  by_cases h0 : j = b + i
  · subst h0
    rw [if_pos rfl, if_pos (by omega), Nat.add_sub_cancel_left]
  · rw [if_neg h0]
    by_cases h2 : b ≤ j ∧ j < b + i
    · rw [if_pos h2, if_pos (by omega)]
    · rw [if_neg h2, if_neg (by omega)]
theorem wrP_lt {M d : Nat → Nat} {sg n a i : Nat} (hM : ∀ j, M j < 256) (hd : ∀ j, d j < 10) (hs : sg < 16) : ∀ j, wrP M d sg n a i j < 256 := by
  intro j
  unfold wrP
  by_cases h : j ≤ a + n / 2 ∧ a + n / 2 < j + i
  · rw [if_pos h]
    unfold wrB
    have h1 := wrL_lt hd hs (a + n / 2 - j)
    by_cases h2 : 2 * (a + n / 2 - j) < n
    · rw [if_pos h2]; have := hd (2 * (a + n / 2 - j)); omega
    · rw [if_neg h2]; omega
  · rw [if_neg h]; exact hM j
theorem wrM_lt {M d : Nat → Nat} {s : Bool} {n a : Nat} (hM : ∀ j, M j < 256) (hd : ∀ j, d j < 10) : ∀ j, wrM M d s n a j < 256 := wrP_lt hM hd (by split <;> decide)
theorem asD_lt {x y : Nat → Nat} {s t : Bool} (hx : ∀ j, x j < 10) (hy : ∀ j, y j < 10) : ∀ j, asD x s y t j < 10 := by
  have hm : ∀ A : Nat → Nat, (∀ j, A j < 10) → ∀ j, mix 32 A zf j < 10 := by
    intro A hA j
    unfold mix
    by_cases h : j < 32
    · rw [if_pos h]; exact hA j
    · rw [if_neg h]; show 0 < 10; decide
  intro j
  unfold asD
  by_cases h1 : s = t
  · rw [if_pos h1]; exact hm _ (adD_lt x y) j
  · rw [if_neg h1]
    by_cases h2 : cmpZ x y 32 < 0
    · rw [if_pos h2]; exact hm _ (suD_lt hy hx) j
    · rw [if_neg h2]; exact hm _ (suD_lt hx hy) j
theorem taF_le {w : Nat} {e : Nat → Nat} (f : Nat) : ∀ r : Nat → Nat, (taF w e f r).1 ≤ f := by
  induction f with
  | zero => intro r; exact Nat.le_refl _
  | succ f ih =>
    intro r
    unfold taF
    by_cases h : cmpZ r e w < 0
    · rw [if_pos h]; exact Nat.zero_le _
    · rw [if_neg h]; exact Nat.succ_le_succ (ih _)
theorem dvQ_lt {w : Nat} {x e : Nat → Nat} (_hx : ∀ j, x j < 10) (_he : ∀ j, e j < 10) : ∀ j, dvQ w x e j < 10 := fun _ => Nat.lt_succ_of_le (taF_le 9 _)
theorem qmx_lt {c : Nat} {Q : Nat → Nat} (h : ∀ j, Q j < 10) : ∀ j, qmx c Q j < 10 := by
  intro j
  unfold qmx
  by_cases q : c ≤ j ∧ j < 31
  · rw [if_pos q]; exact h j
  · rw [if_neg q]; decide
theorem mvI_lt {x : Nat → Nat} {b : Int} {i : Nat} (h : ∀ j, x j < 10) : ∀ j, mvI x b i j < 10 := by
  intro j
  unfold mvI
  by_cases q : b ≤ (j : Int) ∧ (j : Int) < (i : Int) + b
  · rw [if_pos q]; exact h _
  · rw [if_neg q]; decide
theorem inD_lt (d : Nat → Nat) (k : Nat) : inD d k < 10 := Nat.mod_lt _ (by decide)
theorem shD_lt {x : Nat → Nat} {y u : Int32} (h : ∀ j, x j < 10) : ∀ j, shD x y u j < 10 := by
  intro j
  unfold shD
  by_cases q : y.toInt < 0 ∧ 9 < x ((-y.toInt - 1).toNat) + tn u
  · rw [if_pos q]
    unfold mix
    by_cases q2 : j < 32
    · rw [if_pos q2]; exact inD_lt _ j
    · rw [if_neg q2]; exact mvI_lt h j
  · rw [if_neg q]; exact mvI_lt h j
theorem mdz_lt (m : Nat) : ∀ j, mix 31 (dig m) zf j < 10 := by
  intro j
  unfold mix
  by_cases q : j < 31
  · rw [if_pos q]; exact dig_lt m j
  · rw [if_neg q]; show 0 < 10; decide
theorem xn_negm1 {y : Int32} (h1 : -99 ≤ y.toInt) (h2 : y.toInt < 0) : -y - nI 1 = nI ((-y.toInt - 1).toNat) := by
  apply Int32.toInt_inj.mp
  rw [Int32.toInt_sub, Int32.toInt_neg, xn_ti (show 1 < 2147483648 by decide), xn_ti (by omega)]
  rw [Int.bmod_eq_of_le (n := -y.toInt) (by omega) (by omega), Int.bmod_eq_of_le (by omega) (by omega)]
  omega
theorem xn_nlt {x : Int32} (h : 0 ≤ x) : ¬ x < 0 := by
  have h0 : (0 : Int32).toInt = 0 := rfl
  simp only [Int32.lt_iff_toInt_lt, Int32.le_iff_toInt_le, h0] at *
  omega
theorem xn_ltn {x : Int32} (h : ¬ 0 ≤ x) : x < 0 := by
  have h0 : (0 : Int32).toInt = 0 := rfl
  simp only [Int32.lt_iff_toInt_lt, Int32.le_iff_toInt_le, h0] at *
  omega
theorem arZ_no {o : Int32} {M D : Nat → Nat} {S : Bool} {k c : Int32} (h : o ≠ 0) : arZ o M D S k c = (o, M) := if_neg h
theorem arZ_ys {M D : Nat → Nat} {S : Bool} {k c : Int32} : arZ 0 M D S k c = (nI (flg D S (tn k)), wrM M D S (tn k) (tn c)) := if_pos rfl
