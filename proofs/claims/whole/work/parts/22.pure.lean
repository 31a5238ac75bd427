/-- rows of at most 31 digits -/
def sm (x : Nat → Nat) : Prop := (∀ j, x j < 10) ∧ ∀ j, 31 ≤ j → x j = 0
theorem sm_rd {M : Nat → Nat} {n a : Nat} (hn : n ≤ 31) (h : rdb M n a = true) : sm (rdD M n a) := ⟨rd_lt h, fun _ hj => rdD_hi (by omega)⟩
theorem cz_hi {x y : Nat → Nat} (hx : sm x) (hy : sm y) {n : Nat} (hn : 31 ≤ n) : cmpZ x y n = cmpZ x y 31 := by
  induction n with
  | zero => omega
  | succ n ih =>
    by_cases q : n + 1 = 31
    · rw [q]
    · rw [← ih (by omega)]
      exact if_pos (by rw [hx.2 n (by omega), hy.2 n (by omega)])
theorem suB_c {x y : Nat → Nat} (n : Nat) : suB x y n = if cmpZ x y n = -1 then 1 else 0 := by
  induction n with
  | zero => rfl
  | succ n ih =>
    show (if x n < y n + suB x y n then 1 else 0) = if (if x n = y n then cmpZ x y n else if x n < y n then -1 else 1) = -1 then 1 else 0
    have hb := suB_le x y n
    by_cases h1 : x n = y n
    · rw [if_pos h1, ← ih]
      by_cases h2 : suB x y n = 0
      · rw [h2, if_neg (by omega)]
      · rw [if_pos (by omega)]; omega
    · rw [if_neg h1]
      by_cases h2 : x n < y n
      · rw [if_pos h2, if_pos rfl, if_pos (by omega)]
      · rw [if_neg h2, if_neg (show ¬ x n < y n + suB x y n by omega), if_neg (by decide)]
theorem suD_hi {x y : Nat → Nat} (hx : sm x) (hy : sm y) (hc : ¬ cmpZ x y 200 < 0) {j : Nat} (hj : 31 ≤ j) : suD x y j = 0 := by
  have h0 : cmpZ x y 31 ≠ -1 := by
    intro q
    rw [cz_hi hx hy (by decide), q] at hc
    exact hc (by decide)
  unfold suD
  rw [suB_c (j + 1), suB_c j, cz_hi hx hy hj, cz_hi hx hy (show 31 ≤ j + 1 by omega), if_neg h0, hx.2 j hj, hy.2 j hj]
theorem adC_hi {x y : Nat → Nat} (hx : sm x) (hy : sm y) {j : Nat} (hj : 32 ≤ j) : adC x y j = 0 := by
  obtain ⟨i, rfl⟩ : ∃ i, j = i + 1 := ⟨j - 1, by omega⟩
  have h := adC_le hx.1 hy.1 i
  show (x i + y i + adC x y i) / 10 = 0
  rw [hx.2 i (by omega), hy.2 i (by omega)]
  omega
theorem adD_hi {x y : Nat → Nat} (hx : sm x) (hy : sm y) {j : Nat} (hj : 32 ≤ j) : adD x y j = 0 := by
  unfold adD
  rw [adC_hi hx hy hj, hx.2 j (by omega), hy.2 j (by omega)]
theorem adM_z {x y : Nat → Nat} {s t : Bool} (hx : sm x) (hy : sm y) : (∀ j, adM x s y t zf j < 10) ∧ ∀ j, 130 ≤ j → adM x s y t zf j = 0 := by
  have hcs : cmpZ x y 200 < 0 → ¬ cmpZ y x 200 < 0 := by
    intro h h2
    have e : ∀ n, cmpZ x y n = -1 → cmpZ y x n = -1 → False := by
      intro n
      induction n with
      | zero => intro q; exact absurd (show (0 : Int32) = -1 from q) (by decide)
      | succ n ih =>
        intro q1 q2
        replace q1 : (if x n = y n then cmpZ x y n else if x n < y n then -1 else 1) = -1 := q1
        replace q2 : (if y n = x n then cmpZ y x n else if y n < x n then -1 else 1) = -1 := q2
        by_cases a : x n = y n
        · rw [if_pos a] at q1; rw [if_pos a.symm] at q2; exact ih q1 q2
        · rw [if_neg a] at q1; rw [if_neg (Ne.symm a)] at q2
          by_cases b : x n < y n
          · rw [if_neg (by omega)] at q2; exact absurd q2 (by decide)
          · rw [if_neg b] at q1; exact absurd q1 (by decide)
    have g : ∀ u v : Nat → Nat, cmpZ u v 200 < 0 → cmpZ u v 200 = -1 := by
      intro u v q
      rcases cmpZ_tri u v 200 with q1 | q1 | q1
      · rw [q1] at q; exact absurd q (by decide)
      · exact q1
      · rw [q1] at q; exact absurd q (by decide)
    exact e 200 (g x y h) (g y x h2)
  constructor
  · intro j
    unfold adM
    by_cases h1 : s = t
    · rw [if_pos h1]; unfold mix; by_cases q : j < 200
      · rw [if_pos q]; exact adD_lt x y j
      · rw [if_neg q]; show 0 < 10; decide
    · rw [if_neg h1]
      by_cases h2 : cmpZ x y 200 < 0
      · rw [if_pos h2]; unfold mix; by_cases q : j < 200
        · rw [if_pos q]; exact suD_lt hy.1 hx.1 j
        · rw [if_neg q]; show 0 < 10; decide
      · rw [if_neg h2]; unfold mix; by_cases q : j < 200
        · rw [if_pos q]; exact suD_lt hx.1 hy.1 j
        · rw [if_neg q]; show 0 < 10; decide
  · intro j hj
    unfold adM
    by_cases h1 : s = t
    · rw [if_pos h1]; unfold mix; by_cases q : j < 200
      · rw [if_pos q]; exact adD_hi hx hy (by omega)
      · rw [if_neg q]; rfl
    · rw [if_neg h1]
      by_cases h2 : cmpZ x y 200 < 0
      · rw [if_pos h2]; unfold mix; by_cases q : j < 200
        · rw [if_pos q]; exact suD_hi hy hx (hcs h2) (by omega)
        · rw [if_neg q]; rfl
      · rw [if_neg h2]; unfold mix; by_cases q : j < 200
        · rw [if_pos q]; exact suD_hi hx hy h2 (by omega)
        · rw [if_neg q]; rfl
theorem adM_x {x y z : Nat → Nat} {s t : Bool} : ∀ j, j < 200 → adM x s y t z j = adM x s y t zf j := by
  intro j hj
  unfold adM
  by_cases h1 : s = t
  · rw [if_pos h1, if_pos h1, mix_lo hj, mix_lo hj]
  · rw [if_neg h1, if_neg h1]
    by_cases h2 : cmpZ x y 200 < 0
    · rw [if_pos h2, if_pos h2, mix_lo hj, mix_lo hj]
    · rw [if_neg h2, if_neg h2, mix_lo hj, mix_lo hj]
/-! the product: sums of products, then carries -/
def cvJ (f x y : Nat → Nat) (i : Nat) : Nat → (Nat → Nat)
  | 0 => f
  | j + 1 => up (cvJ f x y i j) (i + j) (cvJ f x y i j (i + j) + x i * y j)
def cvI (x y : Nat → Nat) : Nat → (Nat → Nat)
  | 0 => zf
  | i + 1 => cvJ (cvI x y i) x y i 31
theorem cvJ_o {f x y : Nat → Nat} {i p : Nat} (j : Nat) (h : p < i ∨ i + j ≤ p) : cvJ f x y i j p = f p := by
  induction j with
  | zero => rfl
  | succ j ih =>
    show up (cvJ f x y i j) (i + j) _ p = f p
    rw [up_n (by omega)]
    exact ih (by omega)
theorem cvJ_le {f x y : Nat → Nat} {i : Nat} (hx : ∀ j, x j < 10) (hy : ∀ j, y j < 10) (j : Nat) : ∀ p, cvJ f x y i j p ≤ f p + 81 := by
  induction j with
  | zero => intro p; show f p ≤ f p + 81; omega
  | succ j ih =>
    intro p
    show up (cvJ f x y i j) (i + j) _ p ≤ f p + 81
    by_cases q : p = i + j
    · subst q
      rw [up_s, cvJ_o j (Or.inr (Nat.le_refl _))]
      have h1 := hx i
      have h2 := hy j
      have h3 : x i * y j ≤ 9 * 9 := Nat.mul_le_mul (by omega) (by omega)
      omega
    · rw [up_n q]; exact ih p
theorem cvI_le {x y : Nat → Nat} (hx : ∀ j, x j < 10) (hy : ∀ j, y j < 10) (i : Nat) : ∀ p, cvI x y i p ≤ 81 * i := by
  induction i with
  | zero => intro p; show 0 ≤ _; omega
  | succ i ih =>
    intro p
    have h1 := cvJ_le (f := cvI x y i) (i := i) hx hy 31 p
    have h2 := ih p
    show cvJ (cvI x y i) x y i 31 p ≤ 81 * (i + 1)
    omega
theorem cvI_hi {x y : Nat → Nat} (i : Nat) : ∀ p, i + 30 ≤ p → cvI x y i p = 0 := by
  induction i with
  | zero => intro p _; rfl
  | succ i ih =>
    intro p hp
    show cvJ (cvI x y i) x y i 31 p = 0
    rw [cvJ_o 31 (by omega)]
    exact ih p (by omega)
def nmC (f : Nat → Nat) : Nat → Nat
  | 0 => 0
  | k + 1 => (f k + nmC f k) / 10
def nmP (f : Nat → Nat) (i : Nat) : Nat → Nat := fun j => if j < i then (f j + nmC f j) % 10 else if j = i then f j + nmC f j else f j
theorem nmC_le {f : Nat → Nat} {B : Nat} (h : ∀ p, f p ≤ B) (k : Nat) : nmC f k ≤ B := by
  induction k with
  | zero => exact Nat.zero_le _
  | succ k ih =>
    have h1 := h k
    show (f k + nmC f k) / 10 ≤ B
    omega
theorem nmC_hi {f : Nat → Nat} {a : Nat} (h : ∀ p, f p ≤ 5000) (h0 : ∀ p, a ≤ p → f p = 0) {k : Nat} (hk : a + 5 ≤ k) : nmC f k = 0 := by
  have hs : ∀ p, a ≤ p → nmC f (p + 1) = nmC f p / 10 := by
    intro p hp
    show (f p + nmC f p) / 10 = _
    rw [h0 p hp, Nat.zero_add]
  have e0 := nmC_le h a
  have e1 := hs a (by omega)
  have e2 : nmC f (a + 2) = nmC f (a + 1) / 10 := hs (a + 1) (by omega)
  have e3 : nmC f (a + 3) = nmC f (a + 2) / 10 := hs (a + 2) (by omega)
  have e4 : nmC f (a + 4) = nmC f (a + 3) / 10 := hs (a + 3) (by omega)
  have e5 : nmC f (a + 5) = nmC f (a + 4) / 10 := hs (a + 4) (by omega)
  have key : nmC f (a + 5) = 0 := by omega
  induction k with
  | zero => omega
  | succ k ih =>
    by_cases q : k + 1 = a + 5
    · rw [q]; exact key
    · rw [hs k (by omega), ih (by omega)]
theorem nmP_0 {f : Nat → Nat} : ∀ j, f j = nmP f 0 j := by
  intro j
  unfold nmP
  rw [if_neg (by omega)]
  by_cases q : j = 0
  · rw [if_pos q, q]; rfl
  · rw [if_neg q]
theorem nmP_s {f : Nat → Nat} {i v w : Nat} (hv : v = f (i + 1) + (f i + nmC f i) / 10) (hw : w = (f i + nmC f i) % 10) : ∀ j, up (up (nmP f i) (i + 1) v) i w j = nmP f (i + 1) j := by
  intro j
  unfold up nmP
  by_cases q : j = i
  · subst q; rw [if_pos rfl, if_pos (by omega)]; exact hw
  · rw [if_neg q]
    by_cases q2 : j = i + 1
    · subst q2; rw [if_pos rfl, if_neg (by omega), if_pos rfl]; exact hv
    · rw [if_neg q2]
      by_cases q3 : j < i
      · rw [if_pos q3, if_pos (by omega)]
      · rw [if_neg q3, if_neg q, if_neg (by omega), if_neg q2]
theorem nmP_at {f : Nat → Nat} {i : Nat} : nmP f i i = f i + nmC f i := by
  unfold nmP
  rw [if_neg (by omega), if_pos rfl]
theorem nmP_a1 {f : Nat → Nat} {i : Nat} : nmP f i (i + 1) = f (i + 1) := by
  unfold nmP
  rw [if_neg (by omega), if_neg (by omega)]
def cvD (x y : Nat → Nat) : Nat → Nat := fun j => (cvI x y 31 j + nmC (cvI x y 31) j) % 10
theorem cvD_hi {x y : Nat → Nat} (hx : ∀ j, x j < 10) (hy : ∀ j, y j < 10) {j : Nat} (hj : 66 ≤ j) : cvI x y 31 j = 0 ∧ nmC (cvI x y 31) j = 0 :=
  ⟨cvI_hi 31 j (by omega), nmC_hi (a := 61) (fun p => Nat.le_trans (cvI_le hx hy 31 p) (by decide)) (fun p hp => cvI_hi 31 p (by omega)) (by omega)⟩
theorem nmP_e {x y : Nat → Nat} (hx : ∀ j, x j < 10) (hy : ∀ j, y j < 10) : ∀ j, j < 200 → nmP (cvI x y 31) 199 j = cvD x y j := by
  intro j hj
  unfold nmP cvD
  by_cases q : j < 199
  · rw [if_pos q]
  · obtain ⟨h1, h2⟩ := cvD_hi hx hy (show 66 ≤ j by omega)
    rw [if_neg q, if_pos (by omega), h1, h2]
theorem cvD_z {x y : Nat → Nat} (hx : ∀ j, x j < 10) (hy : ∀ j, y j < 10) : ∀ j, 130 ≤ j → cvD x y j = 0 := by
  intro j hj
  obtain ⟨h1, h2⟩ := cvD_hi hx hy (show 66 ≤ j by omega)
  unfold cvD
  rw [h1, h2]
theorem cvD_lt (x y : Nat → Nat) : ∀ j, cvD x y j < 10 := fun _ => Nat.mod_lt _ (by decide)
/-! the quotient -/
def bdQ (w : Nat) (d : Nat → Nat) (i : Nat) : Nat → Nat := fun j => if i < j ∧ j < w then d (j - 1) else d j
theorem bdQ_0 {w : Nat} {d : Nat → Nat} : ∀ j, d j = bdQ w d (w - 1) j := by
  intro j
  unfold bdQ
  rw [if_neg (by omega)]
theorem bdQ_at {w : Nat} {d : Nat → Nat} {i : Nat} (h : 0 < i) : bdQ w d i (i - 1) = d (i - 1) := by
  unfold bdQ
  rw [if_neg (by omega)]
theorem bdQ_s {w : Nat} {d : Nat → Nat} {i : Nat} (h : 0 < i ∧ i < w) : ∀ j, up (bdQ w d i) i (d (i - 1)) j = bdQ w d (i - 1) j := by
  intro j
  unfold up bdQ
  by_cases h1 : j = i
  · subst h1; rw [if_pos rfl, if_pos (by omega)]
  · rw [if_neg h1]
    by_cases h2 : i < j ∧ j < w
    · rw [if_pos h2, if_pos (by omega)]
    · rw [if_neg h2, if_neg (by omega)]
theorem bdQ_e {w : Nat} {d : Nat → Nat} {g : Nat} : ∀ j, up (bdQ w d 0) 0 g j = bdW w d g j := by
  intro j
  unfold up bdQ bdW
  by_cases h1 : j = 0
  · simp [h1]
  · rw [if_neg h1, if_neg h1]
    by_cases h2 : j < w
    · rw [if_pos (by omega), if_pos h2]
    · rw [if_neg (by omega), if_neg h2]
theorem qmx_u {Q : Nat → Nat} {j : Nat} : ∀ i, qmx (j + 1) Q i = up (qmx (j + 1) Q) j 0 i := by
  intro i
  unfold up
  by_cases h : i = j
  · rw [if_pos h, h]; unfold qmx; rw [if_neg (by omega)]
  · rw [if_neg h]
theorem up_up {d : Nat → Nat} {k v w : Nat} : ∀ j, up (up d k v) k w j = up d k w j := by
  intro j
  unfold up
  by_cases h : j = k
  · rw [if_pos h, if_pos h]
  · rw [if_neg h, if_neg h, if_neg h]
/-! the shift -/
def shM (x : Nat → Nat) (b : Int) (i : Nat) : Nat → Nat := mvI x b i
def srC (x : Nat → Nat) (b c0 : Nat) : Nat → Nat
  | 0 => c0
  | k + 1 => (x (k + b) + srC x b c0 k) / 10
def srD (x : Nat → Nat) (b c0 : Nat) : Nat → Nat := fun k => (x (k + b) + srC x b c0 k) % 10
theorem srC_le {x : Nat → Nat} {b c0 : Nat} (hx : ∀ j, x j < 10) (hc : c0 ≤ 1) (k : Nat) : srC x b c0 k ≤ 1 := by
  induction k with
  | zero => exact hc
  | succ k ih =>
    have h1 := hx (k + b)
    show (x (k + b) + srC x b c0 k) / 10 ≤ 1
    omega
theorem srD_lt (x : Nat → Nat) (b c0 k : Nat) : srD x b c0 k < 10 := Nat.mod_lt _ (by decide)
theorem opR_ge {M : Nat → Nat} {n a m b k c : Int32} (h : 0 ≤ opR M n a m b k c) : opR M n a m b k c = 0 := by
  unfold opR at h ⊢
  by_cases h1 : (dfits n a && dfits m b && dfits k c) = true
  · rw [if_pos h1] at h ⊢
    by_cases h2 : (rdb M (tn n) (tn a) && rdb M (tn m) (tn b)) = true
    · rw [if_pos h2]
    · rw [if_neg h2] at h; exact absurd h (by decide)
  · rw [if_neg h1] at h; exact absurd h (by decide)
def sumM (M : Nat → Nat) (n a m b k c : Int32) : Int32 × (Nat → Nat) := arZ (opR M n a m b k c) M (adM (rdD M (tn n) (tn a)) (rdG M (tn n) (tn a)) (rdD M (tn m) (tn b)) (rdG M (tn m) (tn b)) zf) (adS (rdD M (tn n) (tn a)) (rdG M (tn n) (tn a)) (rdD M (tn m) (tn b)) (rdG M (tn m) (tn b))) k c
def lessM (M : Nat → Nat) (n a m b k c : Int32) : Int32 × (Nat → Nat) := arZ (opR M n a m b k c) M (adM (rdD M (tn n) (tn a)) (!rdG M (tn n) (tn a)) (rdD M (tn m) (tn b)) (rdG M (tn m) (tn b)) zf) (adS (rdD M (tn n) (tn a)) (!rdG M (tn n) (tn a)) (rdD M (tn m) (tn b)) (rdG M (tn m) (tn b))) k c
def prodM (M : Nat → Nat) (n a m b k c : Int32) : Int32 × (Nat → Nat) := arZ (opR M n a m b k c) M (cvD (rdD M (tn n) (tn a)) (rdD M (tn m) (tn b))) (rdG M (tn n) (tn a) != rdG M (tn m) (tn b)) k c
def quotM (M : Nat → Nat) (n a m b k c : Int32) : Int32 × (Nat → Nat) := arZ (if opR M n a m b k c = 0 then (if hasD (rdD M (tn n) (tn a)) 0 200 = true then 0 else -3) else opR M n a m b k c) M (qmx 0 (dvQ 200 (rdD M (tn m) (tn b)) (rdD M (tn n) (tn a)))) (rdG M (tn n) (tn a) != rdG M (tn m) (tn b)) k c
theorem qmx_z {c : Nat} {Q : Nat → Nat} : ∀ j, 130 ≤ j → qmx c Q j = 0 := by
  intro j hj
  unfold qmx
  rw [if_neg (by omega)]
theorem xn_subneg {k : Nat} {y : Int32} (hk : k < 1000000) (h1 : -99 ≤ y.toInt) (h2 : y.toInt < 0) : nI k - y = nI (k + (-y.toInt).toNat) := by
  apply Int32.toInt_inj.mp
  rw [Int32.toInt_sub, xn_ti (by omega), xn_ti (by omega), Int.bmod_eq_of_le (by omega) (by omega)]
  omega
def shDM (x : Nat → Nat) (y u : Int32) : Nat → Nat := if y.toInt < 0 then mix 40 (srD x ((-y.toInt).toNat) ((x ((-y.toInt - 1).toNat) + tn u) / 10)) zf else mvI x y.toInt 31
theorem shDM_lt {x : Nat → Nat} {y u : Int32} (hx : ∀ j, x j < 10) : ∀ j, shDM x y u j < 10 := by
  intro j
  unfold shDM
  by_cases h : y.toInt < 0
  · rw [if_pos h]; unfold mix
    by_cases q : j < 40
    · rw [if_pos q]; exact srD_lt _ _ _ j
    · rw [if_neg q]; show 0 < 10; decide
  · rw [if_neg h]; exact mvI_lt hx j
theorem shDM_z {x : Nat → Nat} {y u : Int32} (h2 : y.toInt ≤ 99) : ∀ j, 130 ≤ j → shDM x y u j = 0 := by
  intro j hj
  unfold shDM
  by_cases h : y.toInt < 0
  · rw [if_pos h, mix_hi (by omega)]; rfl
  · rw [if_neg h]; unfold mvI; rw [if_neg (by omega)]
def shiftM (M : Nat → Nat) (n a y up_ m b : Int32) : Int32 × (Nat → Nat) := arZ (shR M n a y up_ m b) M (shDM (rdD M (tn n) (tn a)) y up_) (rdG M (tn n) (tn a)) m b
def bel (Hx g1 g2 : Bool) (c : Int32) : Bool := if g1 = g2 then (if g1 = true then decide (¬ c ≤ 0) else decide (¬ 0 ≤ c)) else ((g1 && Hx) || (!Hx && !g2))
theorem bel_1 {Hx g1 g2 : Bool} {c : Int32} (h : ¬ g1 = g2) (a : g1 = true) (b : (!Hx) = false) : bel Hx g1 g2 c = true := by
  unfold bel; rw [if_neg h, a, nb_f b]; rfl
theorem bel_2 {Hx g1 g2 : Bool} {c : Int32} (h : ¬ g1 = g2) (a : g1 = false) (b : (!Hx) = false) : bel Hx g1 g2 c = false := by
  unfold bel; rw [if_neg h, a, nb_f b]; rfl
theorem bel_3 {Hx g1 g2 : Bool} {c : Int32} (h : ¬ g1 = g2) (b : (!Hx) = true) (d : g2 = true) : bel Hx g1 g2 c = false := by
  unfold bel; rw [if_neg h, d, nb_t b]; cases g1 <;> rfl
theorem bel_4 {Hx g1 g2 : Bool} {c : Int32} (h : ¬ g1 = g2) (b : (!Hx) = true) (d : g2 = false) : bel Hx g1 g2 c = true := by
  unfold bel; rw [if_neg h, d, nb_t b]; cases g1 <;> rfl
theorem bel_5 {Hx g1 g2 : Bool} {c : Int32} (h : g1 = g2) (a : g1 = true) (d : c ≤ 0) : bel Hx g1 g2 c = false := by
  unfold bel; rw [if_pos h, if_pos a, decide_eq_false (fun q => q d)]
theorem bel_6 {Hx g1 g2 : Bool} {c : Int32} (h : g1 = g2) (a : g1 = true) (d : ¬ c ≤ 0) : bel Hx g1 g2 c = true := by
  unfold bel; rw [if_pos h, if_pos a, decide_eq_true d]
theorem bel_7 {Hx g1 g2 : Bool} {c : Int32} (h : g1 = g2) (a : g1 = false) (d : 0 ≤ c) : bel Hx g1 g2 c = false := by
  unfold bel; rw [if_pos h, if_neg (by rw [a]; decide), decide_eq_false (fun q => q d)]
theorem bel_8 {Hx g1 g2 : Bool} {c : Int32} (h : g1 = g2) (a : g1 = false) (d : ¬ 0 ≤ c) : bel Hx g1 g2 c = true := by
  unfold bel; rw [if_pos h, if_neg (by rw [a]; decide), decide_eq_true d]
def cmW (x y : Nat → Nat) (g1 g2 : Bool) : Int32 :=
  if (!hasD x 0 200 && !hasD y 0 200) = true ∨ (cmpZ x y 200 = 0 ∧ g1 = g2) then 4 else if bel (hasD x 0 200) g1 g2 (cmpZ x y 200) = true then 8 else 0
def cmpM (M : Nat → Nat) (n a m b : Int32) : Int32 := if (dfits n a && dfits m b) = true then (if (rdb M (tn n) (tn a) && rdb M (tn m) (tn b)) = true then cmW (rdD M (tn n) (tn a)) (rdD M (tn m) (tn b)) (rdG M (tn n) (tn a)) (rdG M (tn m) (tn b)) else -2) else -1
theorem xn_l1 {v : Int32} (h : 0 ≤ v.toInt) : v.toInt64 = lN (absN v) := by
  have h1 := v.toInt_lt
  have h3 : v.toInt64.toInt = v.toInt := Int32.toInt_toInt64 v
  have hb := absN_lt v
  apply Int64.toInt_inj.mp
  rw [pk_lT (show absN v < 2 ^ 63 by omega), h3]
  unfold absN
  omega
theorem xn_l2 {v : Int32} (h : v.toInt < 0) : -v.toInt64 = lN (absN v) := by
  have h1 := v.le_toInt
  have h3 : v.toInt64.toInt = v.toInt := Int32.toInt_toInt64 v
  have hb := absN_lt v
  apply Int64.toInt_inj.mp
  rw [pk_lT (show absN v < 2 ^ 63 by omega), Int64.toInt_neg, h3, Int.bmod_eq_of_le (by omega) (by omega)]
  unfold absN
  omega
theorem dig_z {m : Nat} (hm : m ≤ 2147483648) : ∀ j, 31 ≤ j → dig m j = 0 := by
  intro j hj
  unfold dig
  have h1 : 10 ^ 31 ≤ 10 ^ j := Nat.pow_le_pow_right (by decide) hj
  have h2 : m < 10 ^ j := Nat.lt_of_lt_of_le (Nat.lt_of_le_of_lt hm (by decide)) h1
  rw [Nat.div_eq_of_lt h2]
def numM (M : Nat → Nat) (v n a : Int32) : Int32 × (Nat → Nat) := arZ (if dfits n a = true then 0 else -1) M (dig (absN v)) (decide (v.toInt < 0)) n a
theorem lb_s2 {d : Nat → Nat} {j : Nat} (h : j + 1 ≤ 31) : 10 * lbF d (31 - (j + 1)) + lN (d j) = lbF d (31 - j) := by
  rw [← lb_s h, Int64.mul_comm]
def valM (M : Nat → Nat) (n a : Int32) : Int64 := if dfits n a = true ∧ rdb M (tn n) (tn a) = true then (if rdG M (tn n) (tn a) = true then -(lbF (rdD M (tn n) (tn a)) 31) else lbF (rdD M (tn n) (tn a)) 31) else 0
def charM (M : Nat → Nat) (n a m b : Int32) : Int32 × (Nat → Nat) :=
  if chO M n a m b = 0 then (nI (flg (rdD M (tn n) (tn a)) (rdG M (tn n) (tn a)) (tn m)), chP M (rdD M (tn n) (tn a)) (if ng (rdD M (tn n) (tn a)) (rdG M (tn n) (tn a)) (tn m) = true then 45 else 43) (tn m) (tn b) (tn m)) else (chO M n a m b, M)
def chQ (M : Nat → Nat) (n a : Nat) : Nat → Bool
  | 0 => decide (M a = 43 ∨ M a = 45 ∨ M a = 32)
  | i + 1 => chQ M n a i && decide (i < n → 48 ≤ M (a + n - i) ∧ M (a + n - i) ≤ 57)
theorem chQ_iff {M : Nat → Nat} {n a : Nat} (i : Nat) : chQ M n a i = true ↔ (M a = 43 ∨ M a = 45 ∨ M a = 32) ∧ ∀ k, k < i → k < n → 48 ≤ M (a + n - k) ∧ M (a + n - k) ≤ 57 := by
  induction i with
  | zero =>
    unfold chQ
    rw [decide_eq_true_eq]
    exact ⟨fun h => ⟨h, fun k hk => absurd hk (Nat.not_lt_zero _)⟩, fun h => h.1⟩
  | succ i ih =>
    unfold chQ
    rw [Bool.and_eq_true, decide_eq_true_eq, ih]
    constructor
    · rintro ⟨⟨h1, h2⟩, h3⟩
      refine ⟨h1, fun k hk hn => ?_⟩
      by_cases q : k = i
      · subst q; exact h3 hn
      · exact h2 k (by omega) hn
    · rintro ⟨h1, h2⟩
      exact ⟨⟨h1, fun k hk hn => h2 k (by omega) hn⟩, fun hn => h2 i (by omega) hn⟩
theorem chQ_n {M : Nat → Nat} {n a i : Nat} (hi : n ≤ i) : chQ M n a i = chb M n a := by
  cases h : chb M n a with
  | true => exact (chQ_iff i).mpr ⟨(chb_iff.mp h).1, fun k _ hn => (chb_iff.mp h).2 k hn⟩
  | false =>
    cases h2 : chQ M n a i with
    | false => rfl
    | true =>
      have q := (chQ_iff i).mp h2
      rw [chb_iff.mpr ⟨q.1, fun k hk => q.2 k (by omega) hk⟩] at h
      cases h
theorem chQ_s1 {M : Nat → Nat} {n a i : Nat} (h : chQ M n a i = false) : chQ M n a (i + 1) = false := by
  show (chQ M n a i && _) = false
  rw [h]; rfl
theorem chQ_s2 {M : Nat → Nat} {n a i : Nat} (h : chQ M n a i = true) (h2 : i < n → 48 ≤ M (a + n - i) ∧ M (a + n - i) ≤ 57) : chQ M n a (i + 1) = true := by
  show (chQ M n a i && decide (i < n → 48 ≤ M (a + n - i) ∧ M (a + n - i) ≤ 57)) = true
  rw [h, decide_eq_true h2]; rfl
theorem chQ_s3 {M : Nat → Nat} {n a i : Nat} (hn : i < n) (h2 : ¬ (48 ≤ M (a + n - i) ∧ M (a + n - i) ≤ 57)) : chQ M n a (i + 1) = false := by
  show (chQ M n a i && decide (i < n → 48 ≤ M (a + n - i) ∧ M (a + n - i) ≤ 57)) = false
  rw [decide_eq_false (fun q => h2 (q hn)), Bool.and_false]
def digM (M : Nat → Nat) (n a m b : Int32) : Int32 × (Nat → Nat) := arZ (if (cfits n a && dfits m b) = true then (if chb M (tn n) (tn a) = true then 0 else -2) else -1) M (chD M (tn n) (tn a)) (decide (M (tn a) = 45)) m b
theorem chD_z {M : Nat → Nat} {n a : Nat} (hn : n ≤ 31) : ∀ j, 130 ≤ j → chD M n a j = 0 := fun j hj => chD_hi (by omega)
theorem rdD_z {M : Nat → Nat} {n a : Nat} (hn : n ≤ 31) : ∀ j, 130 ≤ j → rdD M n a j = 0 := fun j hj => rdD_hi (by omega)
theorem mix_lt {n : Nat} {A : Nat → Nat} (h : ∀ j, A j < 10) : ∀ j, mix n A zf j < 1000 := by
  intro j
  unfold mix
  by_cases q : j < n
  · rw [if_pos q]; have := h j; omega
  · rw [if_neg q]; show 0 < 1000; decide
