/-! the quotient, shift and the rest -/
def zfr (r : Nat → Nat) (m : Nat) : Prop := (∀ j, r j < 10) ∧ ∀ j, m ≤ j → r j = 0
theorem zfr_sm {r : Nat → Nat} {m : Nat} (h : zfr r m) (hm : m ≤ 31) : sm r := ⟨h.1, fun j hj => h.2 j (by omega)⟩
theorem ge_z {r e : Nat → Nat} {m : Nat} (hr : ∀ j, m ≤ j → r j = 0) (n : Nat) (hc : ¬ cmpZ r e n = -1) : ∀ j, m ≤ j → j < n → e j = 0 := by
  induction n with
  | zero => intro j _ hj; omega
  | succ n ih =>
    intro j hj hn
    replace hc : ¬ (if r n = e n then cmpZ r e n else if r n < e n then -1 else 1) = -1 := hc
    by_cases h1 : r n = e n
    · rw [if_pos h1] at hc
      by_cases q : j = n
      · rw [q, ← h1]; exact hr n (by omega)
      · exact ih hc j hj (by omega)
    · rw [if_neg h1] at hc
      by_cases h2 : r n < e n
      · rw [if_pos h2] at hc; exact absurd rfl hc
      · have := hr n (by omega)
        omega
theorem cz_c {r e : Nat → Nat} {m : Nat} (hr : ∀ j, m ≤ j → r j = 0) (he : ∀ j, m ≤ j → e j = 0) {n : Nat} (hn : m ≤ n) : cmpZ r e n = cmpZ r e m := by
  induction n with
  | zero => obtain rfl : m = 0 := by omega
            rfl
  | succ n ih =>
    by_cases q : n + 1 = m
    · rw [q]
    · rw [← ih (by omega)]
      exact if_pos (by rw [hr n (by omega), he n (by omega)])
theorem sb_z {r e : Nat → Nat} {m : Nat} (h : zfr r m) (hm : m ≤ 31) (he : sm e) (hc : ¬ cmpZ r e 200 < 0) : sbW 200 r e = sbW 32 r e ∧ zfr (sbW 32 r e) m := by
  have hsm := zfr_sm h hm
  have hc1 : ¬ cmpZ r e 200 = -1 := fun q => hc (cz_lt.mpr q)
  have hez : ∀ j, m ≤ j → e j = 0 := by
    intro j hj
    by_cases q : j < 200
    · exact ge_z h.2 200 hc1 j hj q
    · exact he.2 j (by omega)
  have hs : ∀ j, m ≤ j → suD r e j = 0 := by
    intro j hj
    have c0 : ∀ n, m ≤ n → ¬ cmpZ r e n = -1 := by
      intro n hn
      rw [cz_c h.2 hez hn, ← cz_c h.2 hez (show m ≤ 200 by omega)]
      exact hc1
    unfold suD
    rw [suB_c, suB_c, if_neg (c0 _ (by omega)), if_neg (c0 _ hj), h.2 j hj, hez j hj]
  refine ⟨?_, sbW_lt h.1 he.1, ?_⟩
  · funext j
    unfold sbW mix
    by_cases q : j < 32
    · rw [if_pos q, if_pos (by omega)]
    · rw [if_neg q]
      by_cases q2 : j < 200
      · rw [if_pos q2, hs j (by omega), h.2 j (by omega)]
      · rw [if_neg q2]
  · intro j hj
    unfold sbW mix
    by_cases q : j < 32
    · rw [if_pos q]; exact hs j hj
    · rw [if_neg q]; exact h.2 j hj
theorem ta_eq {e : Nat → Nat} {m : Nat} (hm : m ≤ 31) (he : sm e) (f : Nat) : ∀ r : Nat → Nat, zfr r m → taF 200 e f r = taF 32 e f r ∧ zfr (taF 32 e f r).2 m := by
  induction f with
  | zero => intro r h; exact ⟨rfl, h⟩
  | succ f ih =>
    intro r h
    have hsm := zfr_sm h hm
    have hc : cmpZ r e 200 = cmpZ r e 32 := by rw [cz_hi hsm he (show 31 ≤ 200 by decide), cz_hi hsm he (show 31 ≤ 32 by decide)]
    by_cases q : cmpZ r e 32 < 0
    · have a1 : taF 200 e (f + 1) r = (0, r) := by show (if cmpZ r e 200 < 0 then _ else _) = _; rw [hc, if_pos q]
      have a2 : taF 32 e (f + 1) r = (0, r) := by show (if cmpZ r e 32 < 0 then _ else _) = _; rw [if_pos q]
      rw [a1, a2]; exact ⟨rfl, h⟩
    · have a1 : taF 200 e (f + 1) r = ((taF 200 e f (sbW 200 r e)).1 + 1, (taF 200 e f (sbW 200 r e)).2) := by show (if cmpZ r e 200 < 0 then _ else _) = _; rw [hc, if_neg q]
      have a2 : taF 32 e (f + 1) r = ((taF 32 e f (sbW 32 r e)).1 + 1, (taF 32 e f (sbW 32 r e)).2) := by show (if cmpZ r e 32 < 0 then _ else _) = _; rw [if_neg q]
      obtain ⟨b1, b2⟩ := sb_z h hm he (by rw [hc]; exact q)
      obtain ⟨c1, c2⟩ := ih _ b2
      rw [a1, a2, b1, c1]
      exact ⟨rfl, c2⟩
theorem bd_eq {r : Nat → Nat} {g m : Nat} (h : zfr r m) (hm : m ≤ 30) (hg : g < 10) : bdW 200 r g = bdW 32 r g ∧ zfr (bdW 32 r g) (m + 1) := by
  refine ⟨?_, bdW_lt h.1 hg, ?_⟩
  · funext j
    unfold bdW
    by_cases q0 : j = 0
    · rw [if_pos q0, if_pos q0]
    · rw [if_neg q0, if_neg q0]
      by_cases q : j < 32
      · rw [if_pos q, if_pos (by omega)]
      · rw [if_neg q]
        by_cases q2 : j < 200
        · rw [if_pos q2, h.2 _ (by omega), h.2 _ (by omega)]
        · rw [if_neg q2]
  · intro j hj
    unfold bdW
    rw [if_neg (by omega)]
    by_cases q : j < 32
    · rw [if_pos q]; exact h.2 _ (by omega)
    · rw [if_neg q]; exact h.2 _ (by omega)
theorem dv_eq {x e : Nat → Nat} (hx : sm x) (he : sm e) (n : Nat) (hn : n ≤ 31) : dvR 200 x e n = dvR 32 x e n ∧ zfr (dvR 32 x e n) n := by
  induction n with
  | zero => exact ⟨rfl, fun _ => by show 0 < 10; decide, fun _ _ => rfl⟩
  | succ n ih =>
    obtain ⟨a1, a2⟩ := ih (by omega)
    obtain ⟨b1, b2⟩ := bd_eq (g := x (30 - n)) a2 (by omega) (hx.1 _)
    obtain ⟨c1, c2⟩ := ta_eq hn he 9 _ b2
    have d1 : dvR 200 x e (n + 1) = (taF 200 e 9 (bdW 200 (dvR 200 x e n) (x (30 - n)))).2 := rfl
    have d2 : dvR 32 x e (n + 1) = (taF 32 e 9 (bdW 32 (dvR 32 x e n) (x (30 - n)))).2 := rfl
    rw [d1, d2, a1, b1, c1]
    exact ⟨rfl, c2⟩
theorem dq_eq {x e : Nat → Nat} (hx : sm x) (he : sm e) : qmx 0 (dvQ 200 x e) = qmx 0 (dvQ 32 x e) := by
  funext j
  unfold qmx
  by_cases q : 0 ≤ j ∧ j < 31
  · rw [if_pos q, if_pos q]
    obtain ⟨a1, a2⟩ := dv_eq hx he (30 - j) (by omega)
    obtain ⟨b1, b2⟩ := bd_eq (g := x j) a2 (by omega) (hx.1 _)
    obtain ⟨c1, c2⟩ := ta_eq (show 30 - j + 1 ≤ 31 by omega) he 9 _ b2
    unfold dvQ
    rw [a1, b1, c1]
  · rw [if_neg q, if_neg q]
theorem dv_zn {e : Nat → Nat} (he : hasD e 0 130 = true) (hs : sm e) : ∀ j, qmx 0 (dvQ 32 zf e) j = 0 := by
  have ta0 : ∀ f, taF 32 e f zf = (0, zf) := by
    intro f
    cases f with
    | zero => rfl
    | succ f =>
      show (if cmpZ zf e 32 < 0 then _ else _) = _
      rw [if_pos]
      rw [cz_hi zf_sm hs (show 31 ≤ 32 by decide), ← cz_hi zf_sm hs (show 31 ≤ 130 by decide)]
      exact cz_lt.mpr (cz_zf he)
  have bd0 : bdW 32 zf 0 = zf := by
    funext j
    unfold bdW
    by_cases q : j = 0
    · rw [if_pos q]; rfl
    · rw [if_neg q]
      by_cases q2 : j < 32
      · rw [if_pos q2]; rfl
      · rw [if_neg q2]
  have r0 : ∀ n, dvR 32 zf e n = zf := by
    intro n
    induction n with
    | zero => rfl
    | succ n ih =>
      show (taF 32 e 9 (bdW 32 (dvR 32 zf e n) 0)).2 = zf
      rw [ih, bd0, ta0]
  intro j
  unfold qmx
  by_cases q : 0 ≤ j ∧ j < 31
  · rw [if_pos q]
    show (taF 32 e 9 (bdW 32 (dvR 32 zf e (30 - j)) 0)).1 = 0
    rw [r0, bd0, ta0]
  · rw [if_neg q]
theorem quot_eq {M : Nat → Nat} {n a m b k c : Int32} : quotM M n a m b k c = quotZ M n a m b k c := by
  unfold quotM quotZ
  by_cases h : opR M n a m b k c = 0
  · obtain ⟨f1, f2, f3, g1, g2⟩ := opR_0 h
    have hx := sm_rd (df1 f1) g1
    have hy := sm_rd (df1 f2) g2
    rw [sm_nz hx]
    refine arZ_c (fun _ => dq_eq hy hx) (fun h2 hn => ?_) (fun _ => df1 f3)
    rw [if_pos h] at h2
    have hxn : hasD (rdD M (tn n) (tn a)) 0 130 = true := by
      cases q : hasD (rdD M (tn n) (tn a)) 0 130 with
      | true => rfl
      | false => rw [q] at h2; exact absurd h2 (by decide)
    have hyn : hasD (rdD M (tn m) (tn b)) 0 130 = true := by
      cases q : hasD (rdD M (tn m) (tn b)) 0 130 with
      | true => rfl
      | false =>
        rw [dq_eq hy hx, sm_zf hy q, hasD_f (fun j _ _ => dv_zn hxn hx j)] at hn
        cases hn
    rw [rdS_g hxn, rdS_g hyn]
    cases rdG M (tn n) (tn a) <;> cases rdG M (tn m) (tn b) <;> rfl
  · rw [if_neg h, if_neg h, arZ_no h, arZ_no h]
theorem mv_x {x : Nat → Nat} (hx : sm x) {y : Int} (h : y < 0) : ∀ j, mvI x y 31 j = x (j + (-y).toNat) := by
  intro j
  unfold mvI
  by_cases q : y ≤ (j : Int) ∧ (j : Int) < ((31 : Nat) : Int) + y
  · rw [if_pos q]; congr 1; omega
  · rw [if_neg q, hx.2 _ (by omega)]
theorem sh_eq {x : Nat → Nat} (hx : sm x) {y u : Int32} (hu : tn u ≤ 9) : shDM x y u = shD x y u := by
  unfold shDM shD
  by_cases h : y.toInt < 0
  · have hm := mv_x hx h
    have hd := hx.1 ((-y.toInt - 1).toNat)
    rw [if_pos h]
    by_cases h9 : 9 < x ((-y.toInt - 1).toNat) + tn u
    · rw [if_pos ⟨h, h9⟩, show (x ((-y.toInt - 1).toNat) + tn u) / 10 = 1 by omega]
      have hC : ∀ k, srC x ((-y.toInt).toNat) 1 k = inC (mvI x y.toInt 31) k := by
        intro k
        induction k with
        | zero => rfl
        | succ k ih =>
          show (x (k + (-y.toInt).toNat) + srC x ((-y.toInt).toNat) 1 k) / 10 = (mvI x y.toInt 31 k + inC (mvI x y.toInt 31) k) / 10
          rw [ih, hm]
      have hmz : ∀ j, 31 ≤ j → mvI x y.toInt 31 j = 0 := fun j hj => by rw [hm]; exact hx.2 _ (by omega)
      have hI : ∀ j, 32 ≤ j → inC (mvI x y.toInt 31) j = 0 := by
        intro j hj
        obtain ⟨i, rfl⟩ : ∃ i, j = i + 1 := ⟨j - 1, by omega⟩
        have b := inC_le (mvI_lt (b := y.toInt) (i := 31) hx.1) i
        show (mvI x y.toInt 31 i + inC (mvI x y.toInt 31) i) / 10 = 0
        rw [hmz i (by omega)]; omega
      funext j
      unfold mix
      by_cases q : j < 32
      · rw [if_pos (by omega), if_pos q]
        unfold srD inD
        rw [hC, hm]
      · rw [if_neg q, hmz j (by omega)]
        by_cases q2 : j < 40
        · rw [if_pos q2]
          unfold srD
          rw [hC, hI j (by omega), hx.2 _ (by omega)]
        · rw [if_neg q2]; rfl
    · rw [if_neg (fun q => h9 q.2), show (x ((-y.toInt - 1).toNat) + tn u) / 10 = 0 by omega]
      have hC : ∀ k, srC x ((-y.toInt).toNat) 0 k = 0 := by
        intro k
        induction k with
        | zero => rfl
        | succ k ih =>
          have := hx.1 (k + (-y.toInt).toNat)
          show (x (k + (-y.toInt).toNat) + srC x ((-y.toInt).toNat) 0 k) / 10 = 0
          rw [ih]; omega
      funext j
      rw [hm]
      unfold mix
      by_cases q : j < 40
      · rw [if_pos q]
        unfold srD
        rw [hC]
        have := hx.1 (j + (-y.toInt).toNat)
        omega
      · rw [if_neg q, hx.2 _ (by omega)]; rfl
  · rw [if_neg h, if_neg (fun q => h q.1)]
theorem shR_0 {M : Nat → Nat} {n a y u m b : Int32} (h : shR M n a y u m b = 0) : dfits n a = true ∧ dfits m b = true ∧ u.toInt ≤ 9 ∧ rdb M (tn n) (tn a) = true := by
  unfold shR at h
  by_cases h1 : (dfits n a && dfits m b) = true
  · rw [if_pos h1] at h
    by_cases h2 : -99 ≤ y.toInt ∧ y.toInt ≤ 99 ∧ 0 ≤ u.toInt ∧ u.toInt ≤ 9
    · rw [if_pos h2] at h
      by_cases h3 : rdb M (tn n) (tn a) = true
      · simp only [Bool.and_eq_true] at h1
        exact ⟨h1.1, h1.2, h2.2.2.2, h3⟩
      · rw [if_neg h3] at h; exact absurd h (by decide)
    · rw [if_neg h2] at h; exact absurd h (by decide)
  · rw [if_neg h1] at h; exact absurd h (by decide)
theorem shD_zf {y u : Int32} (hu : tn u ≤ 9) : ∀ j, shD zf y u j = 0 := by
  intro j
  unfold shD
  rw [if_neg (fun q => by have : 9 < 0 + tn u := q.2; omega)]
  unfold mvI
  split
  · rfl
  · rfl
theorem shift_eq {M : Nat → Nat} {n a y u m b : Int32} : shiftM M n a y u m b = shiftZ M n a y u m b := by
  refine arZ_c (fun h => ?_) (fun h hn => ?_) (fun h => df1 (shR_0 h).2.1)
  · obtain ⟨f1, f2, f3, g1⟩ := shR_0 h
    exact sh_eq (sm_rd (df1 f1) g1) (tn_le f3)
  · obtain ⟨f1, f2, f3, g1⟩ := shR_0 h
    have hx := sm_rd (df1 f1) g1
    rw [sh_eq hx (tn_le f3)] at hn
    have hxn : hasD (rdD M (tn n) (tn a)) 0 130 = true := by
      cases q : hasD (rdD M (tn n) (tn a)) 0 130 with
      | true => rfl
      | false =>
        rw [sm_zf hx q, hasD_f (fun j _ _ => shD_zf (tn_le f3) j)] at hn
        cases hn
    exact (rdS_g hxn).symm
theorem num_eq {M : Nat → Nat} {v n a : Int32} : numM M v n a = numZ M v n a := by
  refine arZ_c (fun _ => ?_) (fun _ _ => rfl) (fun h => ?_)
  · funext j
    unfold mix
    by_cases q : j < 31
    · rw [if_pos q]
    · rw [if_neg q, dig_z (absN_lt v) j (by omega)]; rfl
  · by_cases q : dfits n a = true
    · exact df1 q
    · rw [if_neg q] at h; exact absurd h (by decide)
theorem dig_eq {M : Nat → Nat} {n a m b : Int32} : digM M n a m b = digZ M n a m b := by
  refine arZ_c (fun _ => rfl) (fun _ hn => ?_) (fun h => ?_)
  · unfold chS
    rw [hn, Bool.and_true]
  · by_cases q : (cfits n a && dfits m b) = true
    · simp only [Bool.and_eq_true] at q
      exact df1 q.2
    · rw [if_neg q] at h; exact absurd h (by decide)
theorem chO_0 {M : Nat → Nat} {n a m b : Int32} (h : chO M n a m b = 0) : dfits n a = true ∧ cfits m b = true ∧ rdb M (tn n) (tn a) = true := by
  unfold chO at h
  by_cases h1 : (dfits n a && cfits m b) = true
  · rw [if_pos h1] at h
    by_cases h3 : rdb M (tn n) (tn a) = true
    · simp only [Bool.and_eq_true] at h1
      exact ⟨h1.1, h1.2, h3⟩
    · rw [if_neg h3] at h; exact absurd h (by decide)
  · rw [if_neg h1] at h; exact absurd h (by decide)
theorem char_eq {M : Nat → Nat} {n a m b : Int32} : charM M n a m b = charZ M n a m b := by
  unfold charM charZ
  by_cases h : chO M n a m b = 0
  · rw [if_pos h, if_pos h]
    obtain ⟨f1, f2, g1⟩ := chO_0 h
    have e : hasD (rdD M (tn n) (tn a)) 0 (tn m) = true → rdG M (tn n) (tn a) = rdS M (tn n) (tn a) := fun q => (rdS_g (hasD_mono (by have := cf1 f2; omega) q)).symm
    rw [flg_c e, ng_c e]
  · rw [if_neg h, if_neg h]
theorem val_eq {M : Nat → Nat} {n a : Int32} : valM M n a = valR M n a := by
  unfold valM valR
  by_cases h : dfits n a = true ∧ rdb M (tn n) (tn a) = true
  · rw [if_pos h, if_pos h]
    have hx := sm_rd (df1 h.1) h.2
    cases q : hasD (rdD M (tn n) (tn a)) 0 130 with
    | true => rw [rdS_g q]
    | false =>
      have hz : ∀ i, lbF zf i = 0 := by
        intro i
        induction i with
        | zero => rfl
        | succ i ih => show lbF zf i * 10 + lN 0 = 0; rw [ih]; decide
      rw [sm_zf hx q, hz]
      split <;> split <;> decide
  · rw [if_neg h, if_neg h]
theorem cmp_fin : ∀ (Hx Hy g1 g2 : Bool) (c : Int32), (c = 0 ∨ c = -1 ∨ c = 1) → (Hx = false → Hy = false → c = 0) → (Hx = false → Hy = true → c = -1) → (Hx = true → Hy = false → c = 1) →
    (if (!Hx && !Hy) = true ∨ (c = 0 ∧ g1 = g2) then (4 : Int32) else if bel Hx g1 g2 c = true then 8 else 0) =
    (if (if (g1 && Hx) = (g2 && Hy) then (if (g1 && Hx) = true then -c else c) else if (g1 && Hx) = true then -1 else 1) = 0 then 4 else if (if (g1 && Hx) = (g2 && Hy) then (if (g1 && Hx) = true then -c else c) else if (g1 && Hx) = true then -1 else 1) < 0 then 8 else 0) := by
  intro Hx Hy g1 g2 c hc h1 h2 h3
  rcases hc with rfl | rfl | rfl
  · cases Hx <;> cases Hy <;> first | exact absurd (h2 rfl rfl) (by decide) | exact absurd (h3 rfl rfl) (by decide) | (cases g1 <;> cases g2 <;> decide)
  · cases Hx <;> cases Hy <;> first | exact absurd (h1 rfl rfl) (by decide) | exact absurd (h3 rfl rfl) (by decide) | (cases g1 <;> cases g2 <;> decide)
  · cases Hx <;> cases Hy <;> first | exact absurd (h1 rfl rfl) (by decide) | exact absurd (h2 rfl rfl) (by decide) | (cases g1 <;> cases g2 <;> decide)
theorem cmp_eq {M : Nat → Nat} {n a m b : Int32} : cmpM M n a m b = cmpR M n a m b := by
  unfold cmpM cmpR
  by_cases h : (dfits n a && dfits m b) = true
  · rw [if_pos h, if_pos h]
    by_cases h2 : (rdb M (tn n) (tn a) && rdb M (tn m) (tn b)) = true
    · rw [if_pos h2, if_pos h2]
      simp only [Bool.and_eq_true] at h h2
      have hx := sm_rd (df1 h.1) h2.1
      have hy := sm_rd (df1 h.2) h2.2
      have hc : cmpZ (rdD M (tn n) (tn a)) (rdD M (tn m) (tn b)) 200 = cmpZ (rdD M (tn n) (tn a)) (rdD M (tn m) (tn b)) 32 := by rw [cz_hi hx hy (show 31 ≤ 200 by decide), cz_hi hx hy (show 31 ≤ 32 by decide)]
      have e1 : rdS M (tn n) (tn a) = (rdG M (tn n) (tn a) && hasD (rdD M (tn n) (tn a)) 0 130) := rfl
      have e2 : rdS M (tn m) (tn b) = (rdG M (tn m) (tn b) && hasD (rdD M (tn m) (tn b)) 0 130) := rfl
      unfold cmW ordS
      rw [sm_nz hx, sm_nz hy, hc, e1, e2]
      refine cmp_fin _ _ _ _ _ (cmpZ_tri _ _ _) (fun q1 q2 => ?_) (fun q1 q2 => ?_) (fun q1 q2 => ?_)
      · rw [sm_zf hx q1, sm_zf hy q2]; decide
      · rw [← hc, sm_zf hx q1]; exact cz_zf (hasD_mono (by decide) q2)
      · rw [← hc, sm_zf hy q2]; exact cz_zr (hasD_mono (by decide) q1)
    · rw [if_neg h2, if_neg h2]
  · rw [if_neg h, if_neg h]
/-! patterns: what lay in the row of characters ahead doesn't matter -/
def pq (u v : PW) : Prop := (∀ j, j < u.2.1 → u.1 j = v.1 j) ∧ u.2 = v.2
def pqo (a b : Option PW) : Prop := match a, b with
  | none, none => True
  | some u, some v => pq u v
  | _, _ => False
theorem pqo_b {a b : Option PW} {f g : PW → Option PW} (h : pqo a b) (hf : ∀ u v, pq u v → pqo (f u) (g v)) : pqo (a.bind f) (b.bind g) := by
  cases a with
  | none => cases b with
    | none => trivial
    | some v => exact h.elim
  | some u => cases b with
    | none => exact h.elim
    | some v => exact hf u v h
theorem pq_wr {c : Nat} {u v : PW} (h : pq u v) : pqo (pWr c u) (pWr c v) := by
  obtain ⟨W, r⟩ := u
  obtain ⟨V, t⟩ := v
  obtain ⟨h1, h2⟩ := h
  replace h2 : r = t := h2
  subst h2
  unfold pWr
  by_cases q : r.1 < 64
  · rw [if_pos (show (W, r).2.1 < 64 from q), if_pos (show (V, r).2.1 < 64 from q)]
    refine ⟨fun j hj => ?_, rfl⟩
    show up W r.1 c j = up V r.1 c j
    by_cases e : j = r.1
    · rw [e, up_s, up_s]
    · rw [up_n e, up_n e]; exact h1 j (by have h3 : j < r.1 + 1 := hj; show j < r.1; omega)
  · rw [if_neg (show ¬ (W, r).2.1 < 64 from q), if_neg (show ¬ (V, r).2.1 < 64 from q)]; trivial
theorem pq_fl (x : Nat) : ∀ {u v : PW}, pq u v → pqo (pFl x u) (pFl x v) := by
  induction x with
  | zero => intro u v h; exact h
  | succ x ih =>
    intro u v h
    unfold pFl
    rw [← h.2]
    exact pqo_b (pq_wr h) (fun a b q => ih q)
theorem pq_dg {T : Nat → Nat} {sd : Bool} {u v : PW} (h : pq u v) : pqo (pDg T sd u) (pDg T sd v) := by
  obtain ⟨W, cn, lf, sg, fi, si⟩ := u
  obtain ⟨V, cn', lf', sg', fi', si'⟩ := v
  obtain ⟨h1, h2⟩ := h
  cases h2
  simp only [pDg]
  by_cases q1 : T (lf - 1) = 0 ∧ sg = false
  · rw [if_pos q1, if_pos q1]; exact pq_wr ⟨h1, rfl⟩
  · rw [if_neg q1, if_neg q1]
    by_cases q2 : sd = true ∧ sg = false
    · rw [if_pos q2, if_pos q2]; exact pqo_b (pq_wr ⟨h1, rfl⟩) (fun a b q => pq_wr q)
    · rw [if_neg q2, if_neg q2]; exact pq_wr ⟨h1, rfl⟩
theorem pq_ds {T : Nat → Nat} {sd : Bool} (x : Nat) : ∀ {u v : PW}, pq u v → pqo (pDs T sd x u) (pDs T sd x v) := by
  induction x with
  | zero => intro u v h; exact h
  | succ x ih =>
    intro u v h
    unfold pDs
    rw [← h.2]
    by_cases q : u.2.2.1 = 0
    · rw [if_pos q, if_pos q]; trivial
    · rw [if_neg q, if_neg q]; exact pqo_b (pq_dg h) (fun a b q => ih q)
theorem pq_l8 {zr : Bool} {x : Nat} {u v : PW} (h : pq u v) : pqo (pL8 zr x u) (pL8 zr x v) := by
  obtain ⟨W, cn, lf, sg, fi, si⟩ := u
  obtain ⟨V, cn', lf', sg', fi', si'⟩ := v
  obtain ⟨h1, h2⟩ := h
  cases h2
  simp only [pL8]
  by_cases q : cn < x
  · rw [if_pos q, if_pos q]; trivial
  · rw [if_neg q, if_neg q]
    refine ⟨fun j hj => ?_, rfl⟩
    have hj' : j < cn := hj
    cases zr with
    | false => exact h1 j hj
    | true =>
      show (if cn - x ≤ j ∧ j < cn then fi else W j) = (if cn - x ≤ j ∧ j < cn then fi else V j)
      rw [show W j = V j from h1 j hj]
theorem pq_nx {bl zr : Bool} {k x : Nat} {u v : PW} (h : pq u v) : pqo (pNx bl zr k x u) (pNx bl zr k x v) := by
  obtain ⟨W, cn, lf, sg, fi, si⟩ := u
  obtain ⟨V, cn', lf', sg', fi', si'⟩ := v
  obtain ⟨h1, h2⟩ := h
  cases h2
  simp only [pNx]
  by_cases h4 : k = 4
  · rw [if_pos h4, if_pos h4]; exact ⟨h1, rfl⟩
  · rw [if_neg h4, if_neg h4]
    by_cases h5 : k = 5
    · rw [if_pos h5, if_pos h5]; exact ⟨h1, rfl⟩
    · rw [if_neg h5, if_neg h5]
      by_cases h6 : k = 6
      · rw [if_pos h6, if_pos h6]; exact ⟨h1, rfl⟩
      · rw [if_neg h6, if_neg h6]
        by_cases h7 : k = 7
        · rw [if_pos h7, if_pos h7]; exact pq_wr ⟨h1, rfl⟩
        · rw [if_neg h7, if_neg h7]; exact pq_l8 ⟨h1, rfl⟩
theorem pq_ob {T : Nat → Nat} {bl zr : Bool} {k : Nat} {nx : Option Nat} {u v : PW} (h : pq u v) : pqo (pOb T bl zr k nx u) (pOb T bl zr k nx v) := by
  unfold pOb
  by_cases h1 : 160 < k ∧ k ≤ 175
  · rw [if_pos h1, if_pos h1]
    generalize k - 160 = x
    exact pq_ds x h
  · rw [if_neg h1, if_neg h1]
    by_cases h2 : 144 < k ∧ k ≤ 159
    · rw [if_pos h2, if_pos h2]
      generalize k - 144 = x
      exact pq_ds x h
    · rw [if_neg h2, if_neg h2]
      by_cases h3 : 128 < k ∧ k ≤ 143
      · rw [if_pos h3, if_pos h3]
        generalize k - 128 = x
        exact pq_fl x h
      · rw [if_neg h3, if_neg h3]
        by_cases h4 : 4 ≤ k ∧ k ≤ 8
        · rw [if_pos h4, if_pos h4]
          cases nx with
          | none => trivial
          | some x => exact pq_nx h
        · rw [if_neg h4, if_neg h4]
          by_cases h5 : k = 1 ∨ k = 2
          · rw [if_pos h5, if_pos h5, ← h.2]; exact ⟨h.1, rfl⟩
          · rw [if_neg h5, if_neg h5]
            by_cases h6 : k = 3
            · rw [if_pos h6, if_pos h6, ← h.2]; exact pq_wr h
            · rw [if_neg h6, if_neg h6]; trivial
theorem pq_fol {M T : Nat → Nat} {bl zr : Bool} (n : Nat) : ∀ {p : Int32} {u v : PW}, pq u v → pqo (fol M T bl zr n p u) (fol M T bl zr n p v) := by
  induction n with
  | zero => intro p u v _; trivial
  | succ n ih =>
    intro p u v h
    cases hx : nxO M p with
    | none => rw [fol_none hx, fol_none hx]; trivial
    | some k =>
      by_cases h0 : k = 0
      · subst h0
        rw [fol_0 hx, fol_0 hx, ← h.2]
        by_cases h1 : u.2.2.1 = 0
        · rw [if_pos h1, if_pos h1]; exact h
        · rw [if_neg h1, if_neg h1]; trivial
      · by_cases hn : n = 0
        · subst hn; rw [fol_last hx (by omega), fol_last hx (by omega)]; trivial
        · rw [fol_s hx (by omega) (by omega), fol_s hx (by omega) (by omega)]
          exact pqo_b (pq_ob h) (fun a b q => ih q)
theorem edit_eq {M : Nat → Nat} {en : Bool} {W V : Nat → Nat} {n a p b : Int32} : editM M en V n a p b = editZ M en W n a p b := by
  unfold editM editZ
  by_cases h : dfits n a = true
  · rw [if_pos h, if_pos h]
    by_cases h2 : rdb M (tn n) (tn a) = true
    · rw [if_pos h2, if_pos h2]
      have hx := sm_rd (df1 h) h2
      have e1 : blM M n a = rdS M (tn n) (tn a) := by unfold blM; rw [sm_nz hx]; rfl
      have e2 : edPM M V n a p = fol M (rdD M (tn n) (tn a)) (rdS M (tn n) (tn a)) (!hasD (rdD M (tn n) (tn a)) 0 130) 64 p (V, 0, tn n, false, 32, if rdS M (tn n) (tn a) = true then 45 else 32) := by
        unfold edPM; rw [e1, sm_nz hx]
      have e3 : pqo (edPM M V n a p) (edP M W n a p) := by
        rw [e2]
        exact pq_fol 64 ⟨fun j hj => absurd hj (Nat.not_lt_zero _), rfl⟩
      cases q1 : edPM M V n a p with
      | none =>
        cases q2 : edP M W n a p with
        | none => rfl
        | some v => rw [q1, q2] at e3; exact e3.elim
      | some u =>
        cases q2 : edP M W n a p with
        | none => rw [q1, q2] at e3; exact e3.elim
        | some v =>
          rw [q1, q2] at e3
          obtain ⟨a1, a2⟩ := (show pq u v from e3)
          show (if arB b u.2.1 = true then (nI u.2.1, edM M u.1 (tn b) u.2.1, u.2.2.2.1) else (-1, M, en)) = (if 0 ≤ b.toInt ∧ b.toInt ≤ 256 ∧ (v.2.1 : Int) ≤ 256 - b.toInt then (nI v.2.1, edM M v.1 (tn b) v.2.1, v.2.2.2.1) else (-1, M, en))
          rw [← a2]
          have em : edM M u.1 (tn b) u.2.1 = edM M v.1 (tn b) u.2.1 := by
            funext j
            unfold edM
            by_cases q : tn b ≤ j ∧ j < tn b + u.2.1
            · rw [if_pos q, if_pos q, a1 _ (by omega)]
            · rw [if_neg q, if_neg q]
          by_cases q : 0 ≤ b.toInt ∧ b.toInt ≤ 256 ∧ (u.2.1 : Int) ≤ 256 - b.toInt
          · rw [if_pos q, if_pos (show arB b u.2.1 = true from decide_eq_true (by omega)), em]
          · rw [if_neg q, if_neg (fun e : arB b u.2.1 = true => by have := of_decide_eq_true (show decide (0 ≤ b.toInt ∧ b.toInt ≤ 256 - (u.2.1 : Int)) = true from e); omega)]
    · rw [if_neg h2, if_neg h2]
  · rw [if_neg h, if_neg h]
/-! memory stays bytes -/
theorem arZ_m {o : Int32} {M D : Nat → Nat} {S : Bool} {k c : Int32} (hM : ∀ j, M j < 256) (hD : o = 0 → ∀ j, D j < 10) : ∀ j, (arZ o M D S k c).2 j < 256 := by
  unfold arZ
  by_cases h : o = 0
  · rw [if_pos h]; exact wrM_lt hM (hD h)
  · rw [if_neg h]; exact hM
theorem sumZ_m {M : Nat → Nat} {n a m b k c : Int32} (hM : ∀ j, M j < 256) : ∀ j, (sumZ M n a m b k c).2 j < 256 := arZ_m hM (fun h => asD_lt (rd_lt (opR_0 h).2.2.2.2) (rd_lt (opR_0 h).2.2.2.1))
theorem lessZ_m {M : Nat → Nat} {n a m b k c : Int32} (hM : ∀ j, M j < 256) : ∀ j, (lessZ M n a m b k c).2 j < 256 := arZ_m hM (fun h => asD_lt (rd_lt (opR_0 h).2.2.2.2) (rd_lt (opR_0 h).2.2.2.1))
theorem prodZ_m {M : Nat → Nat} {n a m b k c : Int32} (hM : ∀ j, M j < 256) : ∀ j, (prodZ M n a m b k c).2 j < 256 := arZ_m hM (fun _ => muR_lt _ _ 31)
theorem quotZ_m {M : Nat → Nat} {n a m b k c : Int32} (hM : ∀ j, M j < 256) : ∀ j, (quotZ M n a m b k c).2 j < 256 := arZ_m hM (fun _ => qmx_lt (fun _ => Nat.lt_succ_of_le (taF_le 9 _)))
theorem shiftZ_m {M : Nat → Nat} {n a y u m b : Int32} (hM : ∀ j, M j < 256) : ∀ j, (shiftZ M n a y u m b).2 j < 256 := arZ_m hM (fun h => shD_lt (rd_lt (shR_0 h).2.2.2))
theorem numZ_m {M : Nat → Nat} {v n a : Int32} (hM : ∀ j, M j < 256) : ∀ j, (numZ M v n a).2 j < 256 := arZ_m hM (fun _ => mdz_lt _)
theorem digZ_m {M : Nat → Nat} {n a m b : Int32} (hM : ∀ j, M j < 256) : ∀ j, (digZ M n a m b).2 j < 256 := by
  refine arZ_m hM (fun h => ?_)
  by_cases q : (cfits n a && dfits m b) = true
  · rw [if_pos q] at h
    by_cases q2 : chb M (tn n) (tn a) = true
    · exact chD_lt (chb_iff.mp q2).2
    · rw [if_neg q2] at h; exact absurd h (by decide)
  · rw [if_neg q] at h; exact absurd h (by decide)
theorem charZ_m {M : Nat → Nat} {n a m b : Int32} (hM : ∀ j, M j < 256) : ∀ j, (charZ M n a m b).2 j < 256 := by
  unfold charZ
  by_cases h : chO M n a m b = 0
  · rw [if_pos h]
    have hx := rd_lt (chO_0 h).2.2
    intro j
    show chP _ _ _ _ _ _ j < 256
    unfold chP
    by_cases q : j = tn b
    · rw [if_pos q]; split <;> decide
    · rw [if_neg q]
      by_cases q2 : j ≤ tn b + tn m ∧ tn b + tn m < j + tn m
      · rw [if_pos q2]; have := hx (tn b + tn m - j); omega
      · rw [if_neg q2]; exact hM j
  · rw [if_neg h]; exact hM
theorem editZ_m {M : Nat → Nat} {en : Bool} {W : Nat → Nat} {n a p b : Int32} (hM : ∀ j, M j < 256) : ∀ j, (editZ M en W n a p b).2.1 j < 256 := by
  unfold editZ
  by_cases h : dfits n a = true
  · rw [if_pos h]
    by_cases h2 : rdb M (tn n) (tn a) = true
    · rw [if_pos h2]
      cases q : edP M W n a p with
      | none => exact hM
      | some u =>
        have hw := fol_W hM (rd_lt h2) q
        show ∀ j, (if 0 ≤ b.toInt ∧ b.toInt ≤ 256 ∧ (u.2.1 : Int) ≤ 256 - b.toInt then (nI u.2.1, edM M u.1 (tn b) u.2.1, u.2.2.2.1) else (-1, M, en)).2.1 j < 256
        by_cases q3 : 0 ≤ b.toInt ∧ b.toInt ≤ 256 ∧ (u.2.1 : Int) ≤ 256 - b.toInt
        · rw [if_pos q3]
          intro j
          show edM M u.1 (tn b) u.2.1 j < 256
          unfold edM
          by_cases q2 : tn b ≤ j ∧ j < tn b + u.2.1
          · rw [if_pos q2]; exact hw _ (by omega)
          · rw [if_neg q2]; exact hM j
        · rw [if_neg q3]; exact hM
    · rw [if_neg h2]; exact hM
  · rw [if_neg h]; exact hM
theorem putM_m {M : Nat → Nat} {x b : Int32} (hM : ∀ j, M j < 256) : ∀ j, putM M x b j < 256 := by
  intro j
  unfold putM
  by_cases h : 0 ≤ x.toInt ∧ x.toInt < 256
  · rw [if_pos h]
    unfold up
    by_cases q : j = x.toInt.toNat
    · rw [if_pos q]; exact lo8_lt b
    · rw [if_neg q]; exact hM j
  · rw [if_neg h]; exact hM j
theorem p2 {α β : Type} {a c : α} {b d : β} {u : α × β} (h1 : (a, b) = u) (h2 : (c, d) = u) : a = c ∧ d = b := by
  subst h1
  cases h2
  exact ⟨rfl, rfl⟩
theorem p3 {α β γ : Type} {a c : α} {b d : β} {e f : γ} {u : α × β × γ} (h1 : (a, b, e) = u) (h2 : (c, d, f) = u) : a = c ∧ d = b ∧ f = e := by
  subst h1
  cases h2
  exact ⟨rfl, rfl, rfl⟩
theorem lgc_0 (x : Int64) : lg_cmp x x = 0 := by
  unfold lg_cmp
  rw [if_neg (fun q => absurd rfl (lg_lt_ne q)), if_pos rfl]
