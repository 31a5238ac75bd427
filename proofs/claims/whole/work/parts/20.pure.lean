/-! the reference's pure words -/
theorem hz_keep {d : Nat → Nat} {a i : Nat} (h : hasD d a i = true) : hasD d a (i + 1) = true := by
  obtain ⟨j, h1, h2, h3⟩ := hasD_iff.mp h
  exact hasD_t j h1 (by omega) h3
theorem hz_new {d : Nat → Nat} {a i : Nat} (ha : a ≤ i) (h : d i ≠ 0) : hasD d a (i + 1) = true := hasD_t i ha (by omega) h
theorem hz_none {d : Nat → Nat} {a i : Nat} (h : hasD d a i = false) (h2 : d i = 0) : hasD d a (i + 1) = false := hasD_f (fun j h3 h4 => by
  by_cases q : j = i
  · rw [q]; exact h2
  · exact hasD_0 h j h3 (by omega))
theorem hz_e {d : Nat → Nat} {a : Nat} : hasD d a a = false := hasD_f (fun j h1 h2 => by omega)
theorem nb_t {b : Bool} (h : (!b) = true) : b = false := by cases b <;> simp_all
theorem nb_f {b : Bool} (h : (!b) = false) : b = true := by cases b <;> simp_all
def icnt (n : Int32) : Bool := decide (0 ≤ n.toInt ∧ n.toInt ≤ 31)
def arB (a : Int32) (k : Nat) : Bool := decide (0 ≤ a.toInt ∧ a.toInt ≤ 256 - (k : Int))
theorem ic_sp {n : Int32} (h : icnt n = true) : 0 ≤ n.toInt ∧ n.toInt ≤ 31 := of_decide_eq_true h
theorem df_mk {n a : Int32} (h1 : icnt n = true) (h2 : arB a (tn n / 2 + 1) = true) : dfits n a = true := by
  have q1 := ic_sp h1
  have q2 : 0 ≤ a.toInt ∧ a.toInt ≤ 256 - ((tn n / 2 + 1 : Nat) : Int) := of_decide_eq_true h2
  apply decide_eq_true
  unfold tn at q2
  omega
theorem df_n1 {n a : Int32} (h1 : icnt n = false) : dfits n a = false := by
  have q1 := of_decide_eq_false h1
  apply decide_eq_false
  omega
theorem df_n2 {n a : Int32} (h1 : icnt n = true) (h2 : arB a (tn n / 2 + 1) = false) : dfits n a = false := by
  have q1 := ic_sp h1
  have q2 : ¬ (0 ≤ a.toInt ∧ a.toInt ≤ 256 - ((tn n / 2 + 1 : Nat) : Int)) := of_decide_eq_false h2
  apply decide_eq_false
  unfold tn at q2
  omega
theorem cf_mk {n a : Int32} (h1 : icnt n = true) (h2 : arB a (tn n + 1) = true) : cfits n a = true := by
  have q1 := ic_sp h1
  have q2 : 0 ≤ a.toInt ∧ a.toInt ≤ 256 - ((tn n + 1 : Nat) : Int) := of_decide_eq_true h2
  apply decide_eq_true
  unfold tn at q2
  omega
theorem cf_n1 {n a : Int32} (h1 : icnt n = false) : cfits n a = false := by
  have q1 := of_decide_eq_false h1
  apply decide_eq_false
  omega
theorem cf_n2 {n a : Int32} (h1 : icnt n = true) (h2 : arB a (tn n + 1) = false) : cfits n a = false := by
  have q1 := ic_sp h1
  have q2 : ¬ (0 ≤ a.toInt ∧ a.toInt ≤ 256 - ((tn n + 1 : Nat) : Int)) := of_decide_eq_false h2
  apply decide_eq_false
  unfold tn at q2
  omega
def rdP (M : Nat → Nat) (n a : Nat) : Nat → Bool
  | 0 => decide (9 < hfE M n a 0)
  | i + 1 => rdP M n a i && decide (hfE M n a (i + 1) < 10)
theorem rdP_iff {M : Nat → Nat} {n a : Nat} (i : Nat) : rdP M n a i = true ↔ 10 ≤ hfE M n a 0 ∧ ∀ k, k < i → hfE M n a (k + 1) ≤ 9 := by
  induction i with
  | zero =>
    unfold rdP
    rw [decide_eq_true_eq]
    exact ⟨fun h => ⟨h, fun k hk => absurd hk (Nat.not_lt_zero _)⟩, fun h => h.1⟩
  | succ i ih =>
    unfold rdP
    rw [Bool.and_eq_true, decide_eq_true_eq, ih]
    constructor
    · rintro ⟨⟨h1, h2⟩, h3⟩
      refine ⟨h1, fun k hk => ?_⟩
      by_cases q : k = i
      · rw [q]; omega
      · exact h2 k (by omega)
    · rintro ⟨h1, h2⟩
      exact ⟨⟨h1, fun k hk => h2 k (by omega)⟩, by have := h2 i (by omega); omega⟩
theorem rdP_n {M : Nat → Nat} {n a : Nat} : rdP M n a n = rdb M n a := by
  cases h : rdb M n a with
  | true => exact (rdP_iff n).mpr (rdb_iff.mp h)
  | false =>
    cases h2 : rdP M n a n with
    | false => rfl
    | true => rw [rdb_iff.mpr ((rdP_iff n).mp h2)] at h; cases h
def rdG (M : Nat → Nat) (n a : Nat) : Bool := decide (hfE M n a 0 = 13 ∨ hfE M n a 0 = 11)
def rdV (M : Nat → Nat) (n a : Nat) : Nat := if rdb M n a = true then (if rdG M n a = true then 2 else 1) else 0
theorem rdV_lt (M : Nat → Nat) (n a : Nat) : rdV M n a < 3 := by
  unfold rdV
  split
  · split <;> decide
  · decide
theorem rdV_0 {M : Nat → Nat} {n a : Nat} (h : rdV M n a = 0) : rdb M n a = false := by
  unfold rdV at h
  cases q : rdb M n a with
  | false => rfl
  | true => rw [q] at h; cases hg : rdG M n a <;> rw [hg] at h <;> exact absurd h (by decide)
theorem rdV_p {M : Nat → Nat} {n a : Nat} (h : 0 < rdV M n a) : rdb M n a = true := by
  unfold rdV at h
  cases q : rdb M n a with
  | true => rfl
  | false => rw [q] at h; simp at h
theorem rdV_2 {M : Nat → Nat} {n a : Nat} (h : rdb M n a = true) : decide (rdV M n a = 2) = rdG M n a := by
  unfold rdV
  rw [if_pos h]
  cases rdG M n a <;> rfl
theorem hf_e {M : Nat → Nat} {n a i : Nat} (hM : ∀ j, M j < 256) (h : i % 2 = 0) : M (a + n / 2 - (i + 1) / 2) / 16 = hfE M n a (i + 1) := by
  unfold hfE
  rw [if_neg (by omega)]
  have := hM (a + n / 2 - (i + 1) / 2)
  omega
theorem hf_o {M : Nat → Nat} {n a i : Nat} (h : 0 < i % 2) : M (a + n / 2 - (i + 1) / 2) % 16 = hfE M n a (i + 1) := by
  unfold hfE
  rw [if_pos (by omega)]
theorem hf_0 {M : Nat → Nat} {n a : Nat} : M (a + n / 2) % 16 = hfE M n a 0 := by
  unfold hfE
  rw [if_pos (by decide)]
  rfl
def ctP (d : Nat → Nat) (n i : Nat) : Nat → Nat := fun j => if n ≤ j ∧ j < i then 0 else d j
theorem ctP_0 {d : Nat → Nat} {n : Nat} : ∀ j, d j = ctP d n n j := by
  intro j
  unfold ctP
  rw [if_neg (by omega)]
theorem ctP_s {d : Nat → Nat} {n i : Nat} (h : n ≤ i) : ∀ j, up (ctP d n i) i 0 j = ctP d n (i + 1) j := by
  intro j
  unfold up ctP
  by_cases q : j = i
  · subst q; rw [if_pos rfl, if_pos (by omega)]
  · rw [if_neg q]
    by_cases q2 : n ≤ j ∧ j < i
    · rw [if_pos q2, if_pos (by omega)]
    · rw [if_neg q2, if_neg (by omega)]
theorem ctP_at {d : Nat → Nat} {n i : Nat} : ctP d n i i = d i := by
  unfold ctP
  rw [if_neg (by omega)]
theorem ctP_e {d : Nat → Nat} {n : Nat} : ∀ j, j < 200 → ctP d n 200 j = mix n d zf j := by
  intro j hj
  unfold ctP mix
  by_cases q : j < n
  · rw [if_pos q, if_neg (by omega)]
  · rw [if_neg q, if_pos (by omega)]; rfl
def flgM (o z l : Bool) : Nat := (if (o && !z) = true then 8 else 0) + (if z = true then 4 else 0) + (if l = true then 2 else 0)
theorem flgM_eq {d : Nat → Nat} {o : Bool} {n : Nat} (hn : n ≤ 130) (hz : ∀ j, 130 ≤ j → d j = 0) : flgM o (!hasD (mix n d zf) 0 200) (hasD d n 200) = flg d o n := by
  have h1 : hasD (mix n d zf) 0 200 = hasD d 0 n := by
    cases q : hasD d 0 n with
    | true =>
      obtain ⟨j, a1, a2, a3⟩ := hasD_iff.mp q
      exact hasD_t j a1 (by omega) (by rw [mix_lo a2]; exact a3)
    | false =>
      refine hasD_f (fun j a1 a2 => ?_)
      by_cases b : j < n
      · rw [mix_lo b]; exact hasD_0 q j a1 b
      · rw [mix_hi (by omega)]; rfl
  have h2 : hasD d n 200 = hasD d n 130 := by
    cases q : hasD d n 130 with
    | true =>
      obtain ⟨j, a1, a2, a3⟩ := hasD_iff.mp q
      exact hasD_t j a1 (by omega) a3
    | false =>
      refine hasD_f (fun j a1 a2 => ?_)
      by_cases b : j < 130
      · exact hasD_0 q j a1 b
      · exact hz j (by omega)
  rw [h1, h2]
  unfold flgM flg
  cases hasD d 0 n <;> cases hasD d n 130 <;> cases o <;> rfl
/-- writing by the reference: k digits are laid -/
def wkB (d : Nat → Nat) (sg k i : Nat) : Nat := (if 2 * i < k then d (2 * i) else 0) * 16 + (if i = 0 then sg else if 2 * i - 1 < k then d (2 * i - 1) else 0)
def wkP (M d : Nat → Nat) (sg n a k : Nat) : Nat → Nat := fun j => if a ≤ j ∧ j ≤ a + n / 2 then wkB d sg k (a + n / 2 - j) else M j
def z0P (M : Nat → Nat) (a i : Nat) : Nat → Nat := fun j => if a ≤ j ∧ j < i then 0 else M j
theorem z0P_0 {M : Nat → Nat} {a : Nat} : ∀ j, M j = z0P M a a j := by
  intro j
  unfold z0P
  rw [if_neg (by omega)]
theorem z0P_s {M : Nat → Nat} {a i : Nat} (h : a ≤ i) : ∀ j, up (z0P M a i) i 0 j = z0P M a (i + 1) j := by
  intro j
  unfold up z0P
  by_cases q : j = i
  · subst q; rw [if_pos rfl, if_pos (by omega)]
  · rw [if_neg q]
    by_cases q2 : a ≤ j ∧ j < i
    · rw [if_pos q2, if_pos (by omega)]
    · rw [if_neg q2, if_neg (by omega)]
theorem wkP_0 {M d : Nat → Nat} {sg n a i : Nat} (hi : i = a + n / 2 + 1) : ∀ j, up (z0P M a i) (a + n / 2) sg j = wkP M d sg n a 0 j := by
  intro j
  subst hi
  unfold up z0P wkP wkB
  by_cases q : j = a + n / 2
  · subst q
    rw [if_pos rfl, if_pos (by omega), if_neg (by omega), if_pos (by omega)]
    omega
  · rw [if_neg q]
    by_cases q2 : a ≤ j ∧ j ≤ a + n / 2
    · rw [if_pos (by omega), if_pos q2, if_neg (by omega), if_neg (by omega), if_neg (by omega)]
    · rw [if_neg (by omega), if_neg q2]
theorem wkP_s {M d : Nat → Nat} {sg n a k v : Nat} (hk : k < n) (hv : v = wkP M d sg n a k (a + n / 2 - (k + 1) / 2) + d k * (if k % 2 = 0 then 16 else 1)) : ∀ j, up (wkP M d sg n a k) (a + n / 2 - (k + 1) / 2) v j = wkP M d sg n a (k + 1) j := by
  intro j
  unfold up
  by_cases q : j = a + n / 2 - (k + 1) / 2
  · subst q
    rw [if_pos rfl, hv]
    unfold wkP
    have q1 : a ≤ a + n / 2 - (k + 1) / 2 ∧ a + n / 2 - (k + 1) / 2 ≤ a + n / 2 := by omega
    rw [if_pos q1, if_pos q1]
    have e : a + n / 2 - (a + n / 2 - (k + 1) / 2) = (k + 1) / 2 := by omega
    rw [e]
    unfold wkB
    by_cases p : k % 2 = 0
    · have e2 : 2 * ((k + 1) / 2) = k := by omega
      rw [if_pos p, e2, if_neg (show ¬ k < k by omega), if_pos (show k < k + 1 by omega)]
      by_cases z : (k + 1) / 2 = 0
      · rw [if_pos z, if_pos z]; omega
      · rw [if_neg z, if_neg z, if_pos (show k - 1 < k by omega), if_pos (show k - 1 < k + 1 by omega)]; omega
    · have e2 : 2 * ((k + 1) / 2) = k + 1 := by omega
      rw [if_neg p, e2, if_neg (show ¬ k + 1 < k by omega), if_neg (show ¬ k + 1 < k + 1 by omega), if_neg (show ¬ (k + 1) / 2 = 0 by omega), if_neg (show ¬ (k + 1) / 2 = 0 by omega), if_neg (show ¬ k + 1 - 1 < k by omega), if_pos (show k + 1 - 1 < k + 1 by omega), Nat.add_sub_cancel]; omega
  · rw [if_neg q]
    unfold wkP
    by_cases q2 : a ≤ j ∧ j ≤ a + n / 2
    · rw [if_pos q2, if_pos q2]
      unfold wkB
      have e3 : a + n / 2 - j ≠ (k + 1) / 2 := by omega
      generalize a + n / 2 - j = i at e3
      have h1 : (if 2 * i < k then d (2 * i) else 0) = (if 2 * i < k + 1 then d (2 * i) else 0) := by
        by_cases b : 2 * i < k
        · rw [if_pos b, if_pos (by omega)]
        · rw [if_neg b, if_neg (by omega)]
      have h2 : i ≠ 0 → (if 2 * i - 1 < k then d (2 * i - 1) else 0) = (if 2 * i - 1 < k + 1 then d (2 * i - 1) else 0) := by
        intro hi
        by_cases b : 2 * i - 1 < k
        · rw [if_pos b, if_pos (by omega)]
        · rw [if_neg b, if_neg (by omega)]
      rw [h1]
      by_cases b : i = 0
      · rw [if_pos b, if_pos b]
      · rw [if_neg b, if_neg b, h2 b]
    · rw [if_neg q2, if_neg q2]
theorem wkP_n {M d : Nat → Nat} {sg n a : Nat} : ∀ j, wkP M d sg n a n j = wrP M d sg n a (n / 2 + 1) j := by
  intro j
  unfold wkP wrP
  by_cases q2 : a ≤ j ∧ j ≤ a + n / 2
  · rw [if_pos q2, if_pos (by omega)]
    unfold wkB wrB
    congr 1
    have e3 : a + n / 2 - j ≤ n / 2 := by omega
    generalize a + n / 2 - j = i at e3
    cases i with
    | zero => rfl
    | succ i =>
      rw [if_neg (by omega), if_pos (by omega)]
      show d (2 * (i + 1) - 1) = d (2 * i + 1)
      congr 1
  · rw [if_neg q2, if_neg (by omega)]
theorem wkP_lt {M d : Nat → Nat} {sg n a k : Nat} (hM : ∀ j, M j < 256) (hd : ∀ j, d j < 10) (hs : sg < 16) : ∀ j, wkP M d sg n a k j < 256 := by
  intro j
  unfold wkP
  by_cases q2 : a ≤ j ∧ j ≤ a + n / 2
  · rw [if_pos q2]
    unfold wkB
    generalize a + n / 2 - j = i
    have h1 := hd (2 * i)
    have h2 := hd (2 * i - 1)
    by_cases b : 2 * i < k
    · rw [if_pos b]
      by_cases z : i = 0
      · rw [if_pos z]; omega
      · rw [if_neg z]
        by_cases y : 2 * i - 1 < k
        · rw [if_pos y]; omega
        · rw [if_neg y]; omega
    · rw [if_neg b]
      by_cases z : i = 0
      · rw [if_pos z]; omega
      · rw [if_neg z]
        by_cases y : 2 * i - 1 < k
        · rw [if_pos y]; omega
        · rw [if_neg y]; omega
  · rw [if_neg q2]; exact hM j
theorem xn_fM8 (d : Nat → Nat) (s : Bool) (n : Nat) : nI (flg d s n) &&& nI 8 = nI (if ng d s n = true then 8 else 0) := xn_f8 d s n
def adM (x : Nat → Nat) (s : Bool) (y : Nat → Nat) (t : Bool) (z : Nat → Nat) : Nat → Nat := if s = t then mix 200 (adD x y) z else if cmpZ x y 200 < 0 then mix 200 (suD y x) z else mix 200 (suD x y) z
def adS (x : Nat → Nat) (s : Bool) (y : Nat → Nat) (t : Bool) : Bool := if s = t then s else if cmpZ x y 200 < 0 then t else s
