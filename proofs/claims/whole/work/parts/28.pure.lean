/-! class and reference: the same functions of memory and arguments -/
theorem flg_c {d : Nat → Nat} {s t : Bool} {n : Nat} (h : hasD d 0 n = true → s = t) : flg d s n = flg d t n := by
  unfold flg
  cases q : hasD d 0 n with
  | true => rw [h q]
  | false => rfl
theorem ng_c {d : Nat → Nat} {s t : Bool} {n : Nat} (h : hasD d 0 n = true → s = t) : ng d s n = ng d t n := by
  unfold ng
  cases q : hasD d 0 n with
  | true => rw [h q]
  | false => rfl
theorem hasD_mono {d : Nat → Nat} {a n m : Nat} (h : n ≤ m) (q : hasD d a n = true) : hasD d a m = true := by
  obtain ⟨j, h1, h2, h3⟩ := hasD_iff.mp q
  exact hasD_t j h1 (by omega) h3
theorem arZ_c {o : Int32} {M D D' : Nat → Nat} {S S' : Bool} {k c : Int32} (hD : o = 0 → D = D') (hS : o = 0 → hasD D 0 130 = true → S = S') (hk : o = 0 → tn k ≤ 31) : arZ o M D S k c = arZ o M D' S' k c := by
  unfold arZ
  by_cases h : o = 0
  · rw [if_pos h, if_pos h, ← hD h]
    have e : hasD D 0 (tn k) = true → S = S' := fun q => hS h (hasD_mono (by have := hk h; omega) q)
    rw [flg_c e]
    unfold wrM
    rw [ng_c e]
  · rw [if_neg h, if_neg h]
theorem zf_sm : sm zf := ⟨fun _ => by show 0 < 10; decide, fun _ _ => rfl⟩
theorem hasD_zf {a b : Nat} : hasD zf a b = false := hasD_f (fun _ _ _ => rfl)
theorem sm_zf {x : Nat → Nat} (hx : sm x) (h : hasD x 0 130 = false) : x = zf := by
  funext j
  by_cases q : j < 130
  · exact hasD_0 h j (by omega) q
  · exact hx.2 j (by omega)
theorem sm_nz {x : Nat → Nat} (hx : sm x) : hasD x 0 200 = hasD x 0 130 := by
  cases q : hasD x 0 130 with
  | true => exact hasD_mono (by decide) q
  | false => rw [sm_zf hx q]; exact hasD_f (fun _ _ _ => rfl)
theorem sm_mix {x : Nat → Nat} (hx : sm x) {n : Nat} (hn : 31 ≤ n) : mix n x zf = x := by
  funext j
  unfold mix
  by_cases q : j < n
  · rw [if_pos q]
  · rw [if_neg q, hx.2 j (by omega)]; rfl
theorem adC_z (x : Nat → Nat) (hx : ∀ j, x j < 10) (k : Nat) : adC zf x k = 0 ∧ adC x zf k = 0 := by
  induction k with
  | zero => exact ⟨rfl, rfl⟩
  | succ k ih =>
    have h := hx k
    constructor
    · show (0 + x k + adC zf x k) / 10 = 0
      rw [ih.1]; omega
    · show (x k + 0 + adC x zf k) / 10 = 0
      rw [ih.2]; omega
theorem adD_z1 {x : Nat → Nat} (hx : ∀ j, x j < 10) : adD zf x = x := by
  funext j
  have h := hx j
  show (0 + x j + adC zf x j) % 10 = x j
  rw [(adC_z x hx j).1]; omega
theorem adD_z2 {x : Nat → Nat} (hx : ∀ j, x j < 10) : adD x zf = x := by
  funext j
  have h := hx j
  show (x j + 0 + adC x zf j) % 10 = x j
  rw [(adC_z x hx j).2]; omega
theorem suB_z (x : Nat → Nat) (k : Nat) : suB x zf k = 0 := by
  induction k with
  | zero => rfl
  | succ k ih =>
    show (if x k < 0 + suB x zf k then 1 else 0) = 0
    rw [ih, if_neg (by omega)]
theorem suD_z {x : Nat → Nat} : suD x zf = x := by
  funext j
  show x j + 10 * suB x zf (j + 1) - (0 + suB x zf j) = x j
  rw [suB_z, suB_z]; omega
theorem cz_z1 (x : Nat → Nat) (n : Nat) : ¬ cmpZ x zf n = -1 := by
  induction n with
  | zero => show ¬ (0 : Int32) = -1; decide
  | succ n ih =>
    show ¬ (if x n = 0 then cmpZ x zf n else if x n < 0 then -1 else 1) = (-1 : Int32)
    by_cases h : x n = 0
    · rw [if_pos h]; exact ih
    · rw [if_neg h, if_neg (by omega)]; decide
theorem cz_lt {x y : Nat → Nat} {n : Nat} : cmpZ x y n < 0 ↔ cmpZ x y n = -1 := by
  rcases cmpZ_tri x y n with q | q | q <;> rw [q] <;> decide
theorem cz_anti (x y : Nat → Nat) (n : Nat) : cmpZ y x n = -(cmpZ x y n) := by
  induction n with
  | zero => show (0 : Int32) = -0; decide
  | succ n ih =>
    show (if y n = x n then cmpZ y x n else if y n < x n then -1 else 1) = -(if x n = y n then cmpZ x y n else if x n < y n then -1 else 1)
    by_cases h : x n = y n
    · rw [if_pos h, if_pos h.symm]; exact ih
    · rw [if_neg h, if_neg (Ne.symm h)]
      by_cases h2 : x n < y n
      · rw [if_pos h2, if_neg (by omega)]; decide
      · rw [if_neg h2, if_pos (by omega)]
theorem cz_0 {x y : Nat → Nat} (n : Nat) : cmpZ x y n = 0 → ∀ j, j < n → x j = y j := by
  induction n with
  | zero => intro _ j hj; omega
  | succ n ih =>
    intro h j hj
    replace h : (if x n = y n then cmpZ x y n else if x n < y n then -1 else 1) = 0 := h
    by_cases h1 : x n = y n
    · rw [if_pos h1] at h
      by_cases q : j = n
      · rw [q]; exact h1
      · exact ih h j (by omega)
    · rw [if_neg h1] at h
      by_cases h2 : x n < y n
      · rw [if_pos h2] at h; exact absurd h (by decide)
      · rw [if_neg h2] at h; exact absurd h (by decide)
theorem cz_zf {y : Nat → Nat} {n : Nat} (h : hasD y 0 n = true) : cmpZ zf y n = -1 := by
  rcases cmpZ_tri zf y n with q | q | q
  · obtain ⟨j, h1, h2, h3⟩ := hasD_iff.mp h
    exact absurd (cz_0 n q j h2).symm h3
  · exact q
  · have h2 := cz_anti zf y n
    rw [q] at h2
    exact absurd h2 (cz_z1 y n)
theorem cz_zr {x : Nat → Nat} {n : Nat} (h : hasD x 0 n = true) : cmpZ x zf n = 1 := by
  rw [cz_anti zf x n, cz_zf h]; decide
theorem adC_cm (x y : Nat → Nat) (k : Nat) : adC x y k = adC y x k := by
  induction k with
  | zero => rfl
  | succ k ih =>
    show (x k + y k + adC x y k) / 10 = (y k + x k + adC y x k) / 10
    rw [ih, Nat.add_comm (x k)]
theorem adD_cm (x y : Nat → Nat) : adD x y = adD y x := by
  funext k
  show (x k + y k + adC x y k) % 10 = (y k + x k + adC y x k) % 10
  rw [adC_cm, Nat.add_comm (x k)]
theorem mx_eq {A : Nat → Nat} (h : ∀ j, 32 ≤ j → A j = 0) : mix 200 A zf = mix 32 A zf := by
  funext j
  unfold mix
  by_cases q : j < 32
  · rw [if_pos q, if_pos (by omega)]
  · rw [if_neg q]
    by_cases q2 : j < 200
    · rw [if_pos q2, h j (by omega)]; rfl
    · rw [if_neg q2]
theorem as_eq {x y : Nat → Nat} {g1 g2 s1 s2 : Bool} (hx : sm x) (hy : sm y) (e1 : hasD x 0 130 = true → s1 = g1) (e2 : hasD y 0 130 = true → s2 = g2) :
    adM x g1 y g2 zf = asD y s2 x s1 ∧ (hasD (adM x g1 y g2 zf) 0 130 = true → adS x g1 y g2 = asS y s2 x s1) := by
  cases qx : hasD x 0 130 with
  | false =>
    have hz := sm_zf hx qx
    subst hz
    have a1 : adM zf g1 y g2 zf = y := by
      unfold adM
      by_cases h : g1 = g2
      · rw [if_pos h, adD_z1 hy.1, sm_mix hy (by decide)]
      · rw [if_neg h]
        by_cases h2 : cmpZ zf y 200 < 0
        · rw [if_pos h2, suD_z, sm_mix hy (by decide)]
        · rw [if_neg h2]
          have qy : hasD y 0 130 = false := by
            cases q : hasD y 0 130 with
            | false => rfl
            | true => exact absurd (cz_lt.mpr (cz_zf (hasD_mono (show 130 ≤ 200 by decide) q))) h2
          rw [sm_zf hy qy, suD_z, sm_mix zf_sm (by decide)]
    have a2 : asD y s2 zf s1 = y := by
      unfold asD
      by_cases h : s2 = s1
      · rw [if_pos h, adD_z2 hy.1, sm_mix hy (by decide)]
      · rw [if_neg h, if_neg (fun q => cz_z1 y 32 (cz_lt.mp q)), suD_z, sm_mix hy (by decide)]
    refine ⟨a1.trans a2.symm, fun hn => ?_⟩
    rw [a1] at hn
    have b1 : adS zf g1 y g2 = g2 := by
      unfold adS
      by_cases h : g1 = g2
      · rw [if_pos h]; exact h
      · rw [if_neg h, if_pos (cz_lt.mpr (cz_zf (hasD_mono (by decide) hn)))]
    have b2 : asS y s2 zf s1 = s2 := by
      unfold asS
      by_cases h : s2 = s1
      · rw [if_pos h]
      · rw [if_neg h, if_neg (fun q => cz_z1 y 32 (cz_lt.mp q))]
    rw [b1, b2, e2 hn]
  | true =>
    have es := e1 qx
    subst es
    cases qy : hasD y 0 130 with
    | false =>
      have hz := sm_zf hy qy
      subst hz
      have a1 : adM x s1 zf g2 zf = x := by
        unfold adM
        by_cases h : s1 = g2
        · rw [if_pos h, adD_z2 hx.1, sm_mix hx (by decide)]
        · rw [if_neg h, if_neg (fun q => cz_z1 x 200 (cz_lt.mp q)), suD_z, sm_mix hx (by decide)]
      have hc : cmpZ zf x 32 < 0 := by
        rw [cz_hi zf_sm hx (show 31 ≤ 32 by decide), ← cz_hi zf_sm hx (show 31 ≤ 130 by decide)]
        exact cz_lt.mpr (cz_zf qx)
      have a2 : asD zf s2 x s1 = x := by
        unfold asD
        by_cases h : s2 = s1
        · rw [if_pos h, adD_z1 hx.1, sm_mix hx (by decide)]
        · rw [if_neg h, if_pos hc, suD_z, sm_mix hx (by decide)]
      refine ⟨a1.trans a2.symm, fun _ => ?_⟩
      have b1 : adS x s1 zf g2 = s1 := by
        unfold adS
        by_cases h : s1 = g2
        · rw [if_pos h]
        · rw [if_neg h, if_neg (fun q => cz_z1 x 200 (cz_lt.mp q))]
      have b2 : asS zf s2 x s1 = s1 := by
        unfold asS
        by_cases h : s2 = s1
        · rw [if_pos h]; exact h
        · rw [if_neg h, if_pos hc]
      rw [b1, b2]
    | true =>
      have es2 := e2 qy
      subst es2
      by_cases h : s1 = s2
      · have a1 : adM x s1 y s2 zf = asD y s2 x s1 := by
          unfold adM asD
          rw [if_pos h, if_pos h.symm, adD_cm x y]
          exact mx_eq (fun j hj => adD_hi hy hx hj)
        refine ⟨a1, fun _ => ?_⟩
        unfold adS asS
        rw [if_pos h, if_pos h.symm]; exact h
      · have c1 : cmpZ x y 200 = cmpZ x y 32 := by rw [cz_hi hx hy (show 31 ≤ 200 by decide), cz_hi hx hy (show 31 ≤ 32 by decide)]
        have c3 : cmpZ y x 200 = cmpZ y x 32 := by rw [cz_hi hy hx (show 31 ≤ 200 by decide), cz_hi hy hx (show 31 ≤ 32 by decide)]
        have c2 := cz_anti x y 32
        unfold adM asD adS asS
        rw [if_neg h, if_neg (Ne.symm h), if_neg h, if_neg (Ne.symm h)]
        rcases cmpZ_tri x y 32 with q | q | q
        · have hxy : x = y := by
            funext j
            by_cases qj : j < 32
            · exact cz_0 32 q j qj
            · rw [hx.2 j (by omega), hy.2 j (by omega)]
          rw [c1, c2, q, if_neg (by decide), if_neg (by decide), if_neg (by decide), if_neg (by decide)]
          subst hxy
          have hsu : ∀ j, suD x x j = 0 := by
            intro j
            have hb : ∀ k, suB x x k = 0 := by
              intro k
              induction k with
              | zero => rfl
              | succ k ih => show (if x k < x k + suB x x k then 1 else 0) = 0; rw [ih, if_neg (by omega)]
            unfold suD
            rw [hb, hb]; omega
          refine ⟨mx_eq (fun j hj => hsu j), fun hn => ?_⟩
          obtain ⟨j, j1, j2, j3⟩ := hasD_iff.mp hn
          rw [mix_lo (show j < 200 by omega), hsu j] at j3
          exact absurd rfl j3
        · rw [c1, c2, q, if_pos (by decide), if_neg (by decide), if_pos (by decide), if_neg (by decide)]
          refine ⟨mx_eq (fun j hj => suD_hi hy hx (by rw [c3, c2, q]; decide) (by omega)), fun _ => rfl⟩
        · rw [c1, c2, q, if_neg (by decide), if_pos (by decide), if_neg (by decide), if_pos (by decide)]
          refine ⟨mx_eq (fun j hj => suD_hi hx hy (by rw [c1, q]; decide) (by omega)), fun _ => rfl⟩
theorem rdS_g {M : Nat → Nat} {n a : Nat} (h : hasD (rdD M n a) 0 130 = true) : rdS M n a = rdG M n a := by
  unfold rdS rdG
  rw [h, Bool.and_true]
theorem sum_eq {M : Nat → Nat} {n a m b k c : Int32} : sumM M n a m b k c = sumZ M n a m b k c := by
  have key : opR M n a m b k c = 0 → _ := fun h => by
    obtain ⟨f1, f2, f3, g1, g2⟩ := opR_0 h
    exact as_eq (sm_rd (df1 f1) g1) (sm_rd (df1 f2) g2) (s1 := rdS M (tn n) (tn a)) (s2 := rdS M (tn m) (tn b)) rdS_g rdS_g
  exact arZ_c (fun h => (key h).1) (fun h => (key h).2) (fun h => df1 (opR_0 h).2.2.1)
theorem less_eq {M : Nat → Nat} {n a m b k c : Int32} : lessM M n a m b k c = lessZ M n a m b k c := by
  have key : opR M n a m b k c = 0 → _ := fun h => by
    obtain ⟨f1, f2, f3, g1, g2⟩ := opR_0 h
    exact as_eq (sm_rd (df1 f1) g1) (sm_rd (df1 f2) g2) (g1 := !rdG M (tn n) (tn a)) (s1 := !rdS M (tn n) (tn a)) (s2 := rdS M (tn m) (tn b)) (fun q => by rw [rdS_g q]) rdS_g
  exact arZ_c (fun h => (key h).1) (fun h => (key h).2) (fun h => df1 (opR_0 h).2.2.1)
/-! numbers of digits -/
def vl (d : Nat → Nat) : Nat → Nat
  | 0 => 0
  | n + 1 => vl d n + d n * 10 ^ n
theorem vl_lt {d : Nat → Nat} (h : ∀ j, d j < 10) (n : Nat) : vl d n < 10 ^ n := by
  induction n with
  | zero => show 0 < 1; decide
  | succ n ih =>
    have h1 := h n
    show vl d n + d n * 10 ^ n < 10 ^ (n + 1)
    rw [Nat.pow_succ]
    have h2 : d n * 10 ^ n ≤ 9 * 10 ^ n := Nat.mul_le_mul_right _ (by omega)
    omega
theorem vl_inj {d e : Nat → Nat} (hd : ∀ j, d j < 10) (he : ∀ j, e j < 10) (n : Nat) : vl d n = vl e n → ∀ j, j < n → d j = e j := by
  induction n with
  | zero => intro _ j hj; omega
  | succ n ih =>
    intro h
    replace h : vl d n + d n * 10 ^ n = vl e n + e n * 10 ^ n := h
    have a1 := vl_lt hd n
    have a2 := vl_lt he n
    have hp : 0 < 10 ^ n := Nat.pow_pos (by decide)
    have hn : d n = e n := by
      rcases Nat.lt_trichotomy (d n) (e n) with q | q | q
      · have : (d n + 1) * 10 ^ n ≤ e n * 10 ^ n := Nat.mul_le_mul_right _ q
        rw [Nat.add_mul] at this
        omega
      · exact q
      · have : (e n + 1) * 10 ^ n ≤ d n * 10 ^ n := Nat.mul_le_mul_right _ q
        rw [Nat.add_mul] at this
        omega
    intro j hj
    by_cases q : j = n
    · rw [q]; exact hn
    · exact ih (by rw [hn] at h; omega) j (by omega)
theorem vl_x {d e : Nat → Nat} {m : Nat} (n : Nat) (hm : m ≤ n) (h : ∀ j, m ≤ j → j < n → d j = e j) : vl d n + vl e m = vl e n + vl d m := by
  induction n with
  | zero => obtain rfl : m = 0 := by omega
            rfl
  | succ n ih =>
    by_cases q : m = n + 1
    · rw [q]; omega
    · have h1 := ih (by omega) (fun j a b => h j a (by omega))
      show vl d n + d n * 10 ^ n + vl e m = vl e n + e n * 10 ^ n + vl d m
      rw [h n (by omega) (by omega)]
      omega
theorem vl_c {d e : Nat → Nat} (n : Nat) (h : ∀ j, j < n → d j = e j) : vl d n = vl e n := by
  have := vl_x (d := d) (e := e) (m := 0) n (Nat.zero_le _) (fun j _ b => h j b)
  have t : vl d n + 0 = vl e n + 0 := this
  omega
theorem vl_up {f : Nat → Nat} {p t : Nat} (n : Nat) (hp : p < n) : vl (up f p (f p + t)) n = vl f n + t * 10 ^ p := by
  induction n with
  | zero => omega
  | succ n ih =>
    show vl (up f p (f p + t)) n + up f p (f p + t) n * 10 ^ n = vl f n + f n * 10 ^ n + t * 10 ^ p
    by_cases q : p = n
    · subst q
      rw [up_s, vl_c (d := up f p (f p + t)) (e := f) p (fun j hj => up_n (by omega)), Nat.add_mul]
      omega
    · rw [up_n (Ne.symm q), ih (by omega)]
      omega
theorem cvJ_v {f x y : Nat → Nat} {i N : Nat} (j : Nat) (h : i + j ≤ N) : vl (cvJ f x y i j) N = vl f N + x i * 10 ^ i * vl y j := by
  induction j with
  | zero => show vl f N = vl f N + x i * 10 ^ i * 0; omega
  | succ j ih =>
    show vl (up (cvJ f x y i j) (i + j) (cvJ f x y i j (i + j) + x i * y j)) N = vl f N + x i * 10 ^ i * (vl y j + y j * 10 ^ j)
    rw [vl_up N (by omega), ih (by omega), Nat.mul_add, Nat.pow_add]
    have : x i * y j * (10 ^ i * 10 ^ j) = x i * 10 ^ i * (y j * 10 ^ j) := by
      simp only [Nat.mul_assoc, Nat.mul_left_comm]
    omega
theorem cvI_v {x y : Nat → Nat} {N : Nat} (i : Nat) (h : i + 30 ≤ N) : vl (cvI x y i) N = vl x i * vl y 31 := by
  induction i with
  | zero =>
    have : ∀ n, vl zf n = 0 := by
      intro n
      induction n with
      | zero => rfl
      | succ n ih => show vl zf n + 0 * 10 ^ n = 0; omega
    show vl zf N = 0 * vl y 31
    rw [this]; omega
  | succ i ih =>
    show vl (cvJ (cvI x y i) x y i 31) N = (vl x i + x i * 10 ^ i) * vl y 31
    rw [cvJ_v 31 (by omega), ih (by omega), Nat.add_mul]
theorem nm_v {f : Nat → Nat} (n : Nat) : vl (fun j => (f j + nmC f j) % 10) n + nmC f n * 10 ^ n = vl f n := by
  induction n with
  | zero => rfl
  | succ n ih =>
    show vl (fun j => (f j + nmC f j) % 10) n + (f n + nmC f n) % 10 * 10 ^ n + (f n + nmC f n) / 10 * 10 ^ (n + 1) = vl f n + f n * 10 ^ n
    rw [← ih, Nat.pow_succ]
    have e : (f n + nmC f n) % 10 * 10 ^ n + (f n + nmC f n) / 10 * (10 ^ n * 10) = (f n + nmC f n) * 10 ^ n := by
      have h1 := Nat.div_add_mod (f n + nmC f n) 10
      generalize (f n + nmC f n) / 10 = q at h1
      generalize (f n + nmC f n) % 10 = r at h1
      rw [← h1, Nat.add_mul, Nat.mul_comm (10 ^ n) 10, ← Nat.mul_assoc, Nat.mul_comm q 10]
      omega
    rw [Nat.add_mul] at e
    omega
theorem am_v {d y : Nat → Nat} {f a : Nat} (k : Nat) : vl (amD d y f a) (a + k) + amC d y f a k * 10 ^ (a + k) = vl d (a + k) + f * 10 ^ a * vl y k := by
  induction k with
  | zero =>
    show vl (amD d y f a) a + 0 * 10 ^ a = vl d a + f * 10 ^ a * 0
    rw [vl_c (d := amD d y f a) (e := d) a (fun j hj => if_neg (by omega))]
    omega
  | succ k ih =>
    have e0 : amD d y f a (a + k) = (d (a + k) + f * y k + amC d y f a k) % 10 := by
      unfold amD
      rw [if_pos (by omega), Nat.add_sub_cancel_left]
    show vl (amD d y f a) (a + k) + amD d y f a (a + k) * 10 ^ (a + k) + (d (a + k) + f * y k + amC d y f a k) / 10 * 10 ^ (a + k + 1) = vl d (a + k) + d (a + k) * 10 ^ (a + k) + f * 10 ^ a * (vl y k + y k * 10 ^ k)
    rw [e0, Nat.pow_succ]
    have e : (d (a + k) + f * y k + amC d y f a k) % 10 * 10 ^ (a + k) + (d (a + k) + f * y k + amC d y f a k) / 10 * (10 ^ (a + k) * 10) = (d (a + k) + f * y k + amC d y f a k) * 10 ^ (a + k) := by
      have h1 := Nat.div_add_mod (d (a + k) + f * y k + amC d y f a k) 10
      generalize (d (a + k) + f * y k + amC d y f a k) / 10 = q at h1
      generalize (d (a + k) + f * y k + amC d y f a k) % 10 = r at h1
      rw [← h1, Nat.add_mul, Nat.mul_comm (10 ^ (a + k)) 10, ← Nat.mul_assoc, Nat.mul_comm q 10]
      omega
    rw [Nat.add_mul, Nat.add_mul] at e
    have e2 : f * y k * 10 ^ (a + k) = f * 10 ^ a * (y k * 10 ^ k) := by
      rw [Nat.pow_add]
      simp only [Nat.mul_assoc, Nat.mul_left_comm]
    rw [Nat.mul_add]
    omega
theorem muR_hi {x y : Nat → Nat} (i : Nat) : ∀ j, i + 31 ≤ j → muR x y i j = 0 := by
  induction i with
  | zero => intro j _; rfl
  | succ i ih =>
    intro j hj
    by_cases h : x i = 0
    · rw [muR_0 h]; exact ih j (by omega)
    · rw [muR_1 h]; unfold amR; rw [mix_hi (by omega)]; exact ih j (by omega)
theorem muR_v {x y : Nat → Nat} (hx : ∀ j, x j < 10) (hy : sm y) (i : Nat) (hi : i ≤ 31) : vl (muR x y i) 130 = vl x i * vl y 31 := by
  induction i with
  | zero =>
    have := cvI_v (x := x) (y := y) (N := 130) 0 (by decide)
    exact this
  | succ i ih =>
    show _ = (vl x i + x i * 10 ^ i) * vl y 31
    rw [Nat.add_mul, ← ih (by omega)]
    by_cases h : x i = 0
    · rw [muR_0 h, h]; omega
    · rw [muR_1 h]
      have hd := muR_lt x y i
      have h1 := am_v (d := muR x y i) (y := y) (f := x i) (a := i) 32
      have hc : amC (muR x y i) y (x i) i 32 = 0 := by
        have b := amC_le (a := i) hd hy.1 (hx i) 31
        show (muR x y i (i + 31) + x i * y 31 + amC (muR x y i) y (x i) i 31) / 10 = 0
        rw [muR_hi i _ (Nat.le_refl _), hy.2 31 (by decide), Nat.mul_zero]
        omega
      rw [hc] at h1
      have h2 : vl (amR (muR x y i) y (x i) i 32) (i + 32) = vl (amD (muR x y i) y (x i) i) (i + 32) := vl_c _ (fun j hj => mix_lo hj)
      have h3 := vl_x (d := amR (muR x y i) y (x i) i 32) (e := muR x y i) (m := i + 32) 130 (by omega) (fun j hj _ => mix_hi hj)
      have h4 : vl y 32 = vl y 31 := by show vl y 31 + y 31 * 10 ^ 31 = vl y 31; rw [hy.2 31 (by decide)]; omega
      rw [h4] at h1
      omega
theorem mu_eq {x y : Nat → Nat} (hx : sm x) (hy : sm y) : cvD x y = muR x y 31 := by
  funext j
  by_cases q : j < 130
  · refine vl_inj (cvD_lt x y) (muR_lt x y 31) 130 ?_ j q
    rw [muR_v hx.1 hy 31 (Nat.le_refl _), ← cvI_v (x := x) (y := y) (N := 130) 31 (by decide), ← nm_v (f := cvI x y 31) 130, (cvD_hi hx.1 hy.1 (show 66 ≤ 130 by decide)).2]
    show vl (cvD x y) 130 = vl (cvD x y) 130 + 0 * 10 ^ 130
    omega
  · rw [cvD_z hx.1 hy.1 j (by omega), muR_hi 31 j (by omega)]
theorem prod_eq {M : Nat → Nat} {n a m b k c : Int32} : prodM M n a m b k c = prodZ M n a m b k c := by
  refine arZ_c (fun h => ?_) (fun h hn => ?_) (fun h => df1 (opR_0 h).2.2.1)
  · obtain ⟨f1, f2, f3, g1, g2⟩ := opR_0 h
    exact mu_eq (sm_rd (df1 f1) g1) (sm_rd (df1 f2) g2)
  · obtain ⟨f1, f2, f3, g1, g2⟩ := opR_0 h
    have hx := sm_rd (df1 f1) g1
    have hy := sm_rd (df1 f2) g2
    rw [mu_eq hx hy] at hn
    have hxn : hasD (rdD M (tn n) (tn a)) 0 130 = true := by
      cases q : hasD (rdD M (tn n) (tn a)) 0 130 with
      | true => rfl
      | false =>
        rw [sm_zf hx q] at hn
        have hz : ∀ i, muR zf (rdD M (tn m) (tn b)) i = zf := by
          intro i
          induction i with
          | zero => rfl
          | succ i ih => rw [muR_0 rfl]; exact ih
        rw [hz] at hn
        rw [hasD_zf] at hn
        cases hn
    have hyn : hasD (rdD M (tn m) (tn b)) 0 130 = true := by
      cases q : hasD (rdD M (tn m) (tn b)) 0 130 with
      | true => rfl
      | false =>
        rw [← mu_eq hx hy, sm_zf hy q] at hn
        have hz : ∀ j, cvD (rdD M (tn n) (tn a)) zf j = 0 := by
          have z1 : ∀ i j f, (∀ p, f p = 0) → ∀ p, cvJ f (rdD M (tn n) (tn a)) zf i j p = 0 := by
            intro i j f hf
            induction j with
            | zero => exact hf
            | succ j ih =>
              intro p
              show up _ (i + j) (cvJ f (rdD M (tn n) (tn a)) zf i j (i + j) + rdD M (tn n) (tn a) i * 0) p = 0
              by_cases e : p = i + j
              · rw [e, up_s, ih]; omega
              · rw [up_n e]; exact ih p
          have z2 : ∀ i p, cvI (rdD M (tn n) (tn a)) zf i p = 0 := by
            intro i
            induction i with
            | zero => intro p; rfl
            | succ i ih => exact z1 i 31 _ ih
          have z3 : ∀ j, nmC (cvI (rdD M (tn n) (tn a)) zf 31) j = 0 := by
            intro j
            induction j with
            | zero => rfl
            | succ j ih => show (cvI (rdD M (tn n) (tn a)) zf 31 j + nmC _ j) / 10 = 0; rw [z2, ih]
          intro j
          show (cvI (rdD M (tn n) (tn a)) zf 31 j + nmC _ j) % 10 = 0
          rw [z2, z3]
        rw [hasD_f (fun j _ _ => hz j)] at hn
        cases hn
    rw [rdS_g hxn, rdS_g hyn]
