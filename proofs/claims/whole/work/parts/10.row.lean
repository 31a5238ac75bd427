set_option maxHeartbeats 4000000 in
set_option maxRecDepth 100000 in
theorem xc_digitAt (l : Launch) (D : va_G) (cI : ClassId) (tq : Nat) (tp : Nat) (td : Nat → Nat) (ts : Bool) (k : Nat) (hk : k < 130) : Ctr l D cI yR_digitAt cR_digitAt 2 (some .int) { frames := 0, cells := 0, slots := 0, locals := 0 } [.ref tq, .int (nI k)] [(tq, .inr (0, [.ref tp, .int (bI ts)])), (tp, .inl (cI, 130, .inl (nf td)))] (fun _ : Unit => some (.int (nI (td k)))) (fun _ : Unit => True) (fun _ : Unit => [(tq, .inr (0, [.ref tp, .int (bI ts)])), (tp, .inl (cI, 130, .inl (nf td)))]) 0 0 := by
  refine xc_mkI (by decide +kernel) (Nat.le_of_ble_eq_true rfl) (fun X hX hret => ?_)
  show GG D X 0 0 0 [(tq, .inr (0, [.ref tp, .int (bI ts)])), (tp, .inl (cI, 130, .inl (nf td)))] [(0, .ref tq), (1, .int (nI k))] []
  refine xg_iload_n hX 1 dR_digitAt_0 rfl rfl ?_
  refine xg_if_ltN hX 20 (by omega) dR_digitAt_1 (by decide) ?_
  refine xg_iload_n hX 1 dR_digitAt_4 rfl rfl ?_
  refine xg_sipush hX (nI 130) dR_digitAt_5 (by decide) ?_
  refine xg_icmp_geN hX 20 (by omega) (by omega) dR_digitAt_8 (by decide) (fun hh_2 => absurd hh_2 (by omega)) (fun hh_2 => ?_)
  refine xg_aload_n hX 0 dR_digitAt_11 rfl rfl ?_
  refine xg_get hX (ci := 0) rfl hinR 0 rfl 0 (by decide) mt_21 rfl dR_digitAt_12 ?_
  refine xg_iload_n hX 1 dR_digitAt_15 rfl rfl ?_
  refine xg_iald hX 1 k rfl (by omega) (by decide) dR_digitAt_16 ?_
  refine xg_goto hX 21 dR_digitAt_17 (by decide) ?_
  exact hret () _ _ _ rfl trivial dR_digitAt_21
set_option maxHeartbeats 4000000 in
set_option maxRecDepth 100000 in
theorem xc_setDigit (l : Launch) (D : va_G) (cI : ClassId) (tq : Nat) (tp : Nat) (td : Nat → Nat) (ts : Bool) (k : Nat) (v : Nat) (hk : k < 130) : Ctr l D cI yR_setDigit cR_setDigit 3 none { frames := 0, cells := 0, slots := 0, locals := 0 } [.ref tq, .int (nI k), .int (nI v)] [(tq, .inr (0, [.ref tp, .int (bI ts)])), (tp, .inl (cI, 130, .inl (nf td)))] (fun _ : Unit => none) (fun _ : Unit => True) (fun _ : Unit => [(tq, .inr (0, [.ref tp, .int (bI ts)])), (tp, .inl (cI, 130, .inl (nf (up td k v))))]) 0 0 := by
  refine xc_mkV (by decide +kernel) (Nat.le_of_ble_eq_true rfl) (fun X hX hin hret => ?_)
  show GG D X 0 0 0 [(tq, .inr (0, [.ref tp, .int (bI ts)])), (tp, .inl (cI, 130, .inl (nf td)))] [(0, .ref tq), (1, .int (nI k)), (2, .int (nI v))] []
  refine xg_iload_n hX 1 dR_setDigit_0 rfl rfl ?_
  refine xg_if_ltN hX 18 (by omega) dR_setDigit_1 (by decide) ?_
  refine xg_iload_n hX 1 dR_setDigit_4 rfl rfl ?_
  refine xg_sipush hX (nI 130) dR_setDigit_5 (by decide) ?_
  refine xg_icmp_geN hX 18 (by omega) (by omega) dR_setDigit_8 (by decide) (fun hh_2 => absurd hh_2 (by omega)) (fun hh_2 => ?_)
  refine xg_aload_n hX 0 dR_setDigit_11 rfl rfl ?_
  refine xg_get hX (ci := 0) rfl hinR 0 rfl 0 (by decide) mt_21 rfl dR_setDigit_12 ?_
  refine xg_iload_n hX 1 dR_setDigit_15 rfl rfl ?_
  refine xg_iload_n hX 2 dR_setDigit_16 rfl rfl ?_
  refine xg_iast hX (ws' := [(tq, .inr (0, [.ref tp, .int (bI ts)])), (tp, .inl (cI, 130, .inl (nf (up td k v))))]) 1 k v rfl (by omega) (by decide) rfl dR_setDigit_17 ?_
  exact hret () _ _ rfl trivial dR_setDigit_18
set_option maxHeartbeats 4000000 in
set_option maxRecDepth 100000 in
theorem xc_setDigitNeg (l : Launch) (D : va_G) (cI : ClassId) (tq : Nat) (tp : Nat) (td : Nat → Nat) (ts : Bool) (x : Int32) (v : Nat) (hx : x.toInt < 0) : Ctr l D cI yR_setDigit cR_setDigit 3 none { frames := 0, cells := 0, slots := 0, locals := 0 } [.ref tq, .int x, .int (nI v)] [(tq, .inr (0, [.ref tp, .int (bI ts)])), (tp, .inl (cI, 130, .inl (nf td)))] (fun _ : Unit => none) (fun _ : Unit => True) (fun _ : Unit => [(tq, .inr (0, [.ref tp, .int (bI ts)])), (tp, .inl (cI, 130, .inl (nf td)))]) 0 0 := by
  refine xc_mkV (by decide +kernel) (Nat.le_of_ble_eq_true rfl) (fun X hX hin hret => ?_)
  show GG D X 0 0 0 [(tq, .inr (0, [.ref tp, .int (bI ts)])), (tp, .inl (cI, 130, .inl (nf td)))] [(0, .ref tq), (1, .int x), (2, .int (nI v))] []
  refine xg_iload_n hX 1 dR_setDigit_0 rfl rfl ?_
  refine xg_if_ltZ hX x.toInt rfl 18 dR_setDigit_1 (by decide) (fun hh_1 => ?_) (fun hh_1 => absurd hh_1 (by omega))
  exact hret () _ _ rfl trivial dR_setDigit_18
set_option maxHeartbeats 4000000 in
set_option maxRecDepth 100000 in
theorem xc_fill (l : Launch) (D : va_G) (cI : ClassId) (tp : Nat) (td : Nat → Nat) (v : Nat) : Ctr l D cI yJA_fill cJA_fill 4 none { frames := 0, cells := 0, slots := 0, locals := 0 } [.ref tp, .int (nI v)] [(tp, .inl (cI, 130, .inl (nf td)))] (fun _ : Unit => none) (fun _ : Unit => True) (fun _ : Unit => [(tp, .inl (cI, 130, .inl (nf (fun _ => v))))]) 0 0 := by
  refine xc_mkV (by decide +kernel) (Nat.le_of_ble_eq_true rfl) (fun X hX hin hret => ?_)
  show GG D X 0 0 0 [(tp, .inl (cI, 130, .inl (nf td)))] [(0, .ref tp), (1, .int (nI v))] []
  refine xg_iconst hX (nI 0) dJA_fill_0 (by decide) ?_
  refine xg_istore_n hX (lv' := [(2, .int (nI 0)), (0, .ref tp), (1, .int (nI v))]) dJA_fill_1 rfl (by decide) rfl ?_
  refine xg_aload_n hX 1 dJA_fill_2 rfl rfl ?_
  refine xg_alen hX 0 rfl dJA_fill_3 ?_
  refine xg_istore_n hX (lv' := [(3, .int (nI 130)), (2, .int (nI 0)), (0, .ref tp), (1, .int (nI v))]) dJA_fill_4 rfl (by decide) rfl ?_
  have lp1 : ∀ (fu2 : Nat) (i : Nat), (i ≤ 130) → 130 - i < fu2 → GG D X 0 0 5 [(tp, .inl (cI, 130, .inl (nf (mix i (fun _ => v) td))))] [(0, .ref tp), (1, .int (nI v)), (2, .int (nI i)), (3, .int (nI 130))] [] := by
    intro fu2
    induction fu2 with
    | zero => intro i hi hm4; exact absurd hm4 (Nat.not_lt_zero _)
    | succ fu2 ih3 =>
      intro i hi hm4
      refine xg_iload_n hX 2 dJA_fill_5 rfl rfl ?_
      refine xg_iload_n hX 3 dJA_fill_6 rfl rfl ?_
      refine xg_icmp_geN hX 20 (by omega) (by omega) dJA_fill_7 (by decide) (fun hh_5 => ?_) (fun hh_5 => ?_)
      ·
        have hie : i = 130 := by omega
        refine xg_ext hX (g := fun _ => v) (ws' := [(tp, .inl (cI, 130, .inl (nf (fun _ => v))))]) 0 rfl (fun j hj => by rw [hie]; exact mix_lo hj) rfl ?_
        exact hret () _ _ rfl trivial dJA_fill_20
      ·
        refine xg_aload_n hX 0 dJA_fill_10 rfl rfl ?_
        refine xg_iload_n hX 2 dJA_fill_11 rfl rfl ?_
        refine xg_iload_n hX 1 dJA_fill_12 rfl rfl ?_
        refine xg_iast hX (ws' := [(tp, .inl (cI, 130, .inl (nf (up (mix i (fun _ => v) td) i v))))]) 0 i v rfl (by omega) (by decide) rfl dJA_fill_13 ?_
        refine xg_iincN hX (lv' := [(2, .int (nI (i + 1))), (0, .ref tp), (1, .int (nI v)), (3, .int (nI 130))]) (i + 1) 2 dJA_fill_14 rfl (xn_inc _) (by decide) rfl ?_
        refine xg_goto hX 5 dJA_fill_17 (by decide) ?_
        refine xg_ext hX (g := mix (i + 1) (fun _ => v) td) (ws' := [(tp, .inl (cI, 130, .inl (nf (mix (i + 1) (fun _ => v) td))))]) 0 rfl (fun j hj => mix_up rfl j) rfl ?_
        refine xg_lv hX (lv' := [(0, .ref tp), (1, .int (nI v)), (2, .int (nI (i + 1))), (3, .int (nI 130))]) [1, 2, 0, 3] rfl ?_
        exact ih3 (i + 1) (by omega) (by omega)
  refine xg_ext hX (g := mix 0 (fun _ => v) td) (ws' := [(tp, .inl (cI, 130, .inl (nf (mix 0 (fun _ => v) td))))]) 0 rfl (fun j hj => mix_0 j) rfl ?_
  refine xg_lv hX (lv' := [(0, .ref tp), (1, .int (nI v)), (2, .int (nI 0)), (3, .int (nI 130))]) [2, 3, 1, 0] rfl ?_
  exact lp1 (130 - 0 + 1) 0 (by omega) (Nat.lt_succ_self _)
set_option maxHeartbeats 4000000 in
set_option maxRecDepth 100000 in
theorem xc_clear (l : Launch) (D : va_G) (cI : ClassId) (tq : Nat) (tp : Nat) (td : Nat → Nat) (ts : Bool) : Ctr l D cI yR_clear cR_clear 1 none { frames := 1, cells := 0, slots := 0, locals := 23 } [.ref tq] [(tq, .inr (0, [.ref tp, .int (bI ts)])), (tp, .inl (cI, 130, .inl (nf td)))] (fun _ : Unit => none) (fun _ : Unit => True) (fun _ : Unit => [(tq, .inr (0, [.ref tp, .int (bI false)])), (tp, .inl (cI, 130, .inl (nf zf)))]) 0 0 := by
  refine xc_mkV (by decide +kernel) (Nat.le_of_ble_eq_true rfl) (fun X hX hin hret => ?_)
  show GG D X 0 0 0 [(tq, .inr (0, [.ref tp, .int (bI ts)])), (tp, .inl (cI, 130, .inl (nf td)))] [(0, .ref tq)] []
  refine xg_aload_n hX 0 dR_clear_0 rfl rfl ?_
  refine xg_get hX (ci := 0) rfl hinR 0 rfl 0 (by decide) mt_21 rfl dR_clear_1 ?_
  refine xg_iconst hX (nI 0) dR_clear_4 (by decide) ?_
  refine xg_cS hX [.ref tp, .int (nI 0)] (hM := xc_fill l D cI tp td 0) (wr := [(tq, .inr (0, [.ref tp, .int (bI ts)]))]) (ws' := fun _ => [(tq, .inr (0, [.ref tp, .int (bI ts)])), (tp, .inl (cI, 130, .inl (nf (fun _ => 0))))]) (st' := fun _ => []) [1] [0] [0, 1] [] rfl mt_124 mt_122 mt_5 mt_123 hdJA_fill (by decide) ⟨rfl, rfl⟩ (by decide) rfl rfl (by decide) rfl (by decide) (by decide) (by decide) (fun u => rfl) (fun u => rfl) (fun u => rfl) rfl rfl (by simp [Value.category]) dR_clear_5 (fun _ _ => ?_)
  refine xg_aload_n hX 0 dR_clear_8 rfl rfl ?_
  refine xg_iconst hX (nI 0) dR_clear_9 (by decide) ?_
  refine xg_top (bI false) rfl ?_
  refine xg_put hX tyR tyR_ok nmR (ci := 0) rfl hinR (ws' := [(tq, .inr (0, [.ref tp, .int (bI false)])), (tp, .inl (cI, 130, .inl (nf (fun _ => 0))))]) 0 rfl 1 (by decide) mt_22 rfl (xn_narB _) (xn_fitB _) (Nat.le_of_ble_eq_true rfl) rfl dR_clear_10 ?_
  refine xg_ext hX (g := zf) (ws' := [(tq, .inr (0, [.ref tp, .int (bI false)])), (tp, .inl (cI, 130, .inl (nf zf)))]) 1 rfl (fun j hj => rfl) rfl ?_
  exact hret () _ _ rfl trivial dR_clear_13
set_option maxHeartbeats 4000000 in
set_option maxRecDepth 100000 in
theorem xc_hasDigit (l : Launch) (D : va_G) (cI : ClassId) (tq : Nat) (tp : Nat) (td : Nat → Nat) (ts : Bool) (a : Nat) (b : Nat) (hab : a ≤ b) (hb : b ≤ 130) (htd : ∀ j, td j < 10) : Ctr l D cI yR_hasDigit cR_hasDigit 4 (some .boolean) { frames := 1, cells := 0, slots := 0, locals := 21 } [.ref tq, .int (nI a), .int (nI b)] [(tq, .inr (0, [.ref tp, .int (bI ts)])), (tp, .inl (cI, 130, .inl (nf td)))] (fun _ : Unit => some (.int (bI (hasD td a b)))) (fun _ : Unit => True) (fun _ : Unit => [(tq, .inr (0, [.ref tp, .int (bI ts)])), (tp, .inl (cI, 130, .inl (nf td)))]) 0 0 := by
  refine xc_mkZ (by decide +kernel) (Nat.le_of_ble_eq_true rfl) (fun X hX hret => ?_)
  show GG D X 0 0 0 [(tq, .inr (0, [.ref tp, .int (bI ts)])), (tp, .inl (cI, 130, .inl (nf td)))] [(0, .ref tq), (1, .int (nI a)), (2, .int (nI b))] []
  refine xg_iload_n hX 1 dR_hasDigit_0 rfl rfl ?_
  refine xg_istore_n hX (lv' := [(3, .int (nI a)), (0, .ref tq), (1, .int (nI a)), (2, .int (nI b))]) dR_hasDigit_1 rfl (by decide) rfl ?_
  have lp1 : ∀ (fu2 : Nat) (i : Nat), (a ≤ i) → (i ≤ b) → (∀ j, a ≤ j → j < i → td j = 0) → b - i < fu2 → GG D X 0 0 2 [(tq, .inr (0, [.ref tp, .int (bI ts)])), (tp, .inl (cI, 130, .inl (nf td)))] [(0, .ref tq), (1, .int (nI a)), (2, .int (nI b)), (3, .int (nI i))] [] := by
    intro fu2
    induction fu2 with
    | zero => intro i hi1 hi2 hz hm4; exact absurd hm4 (Nat.not_lt_zero _)
    | succ fu2 ih3 =>
      intro i hi1 hi2 hz hm4
      refine xg_iload_n hX 3 dR_hasDigit_2 rfl rfl ?_
      refine xg_iload_n hX 2 dR_hasDigit_3 rfl rfl ?_
      refine xg_icmp_geN hX 23 (by omega) (by omega) dR_hasDigit_4 (by decide) (fun h4 => ?_) (fun h4 => ?_)
      ·
        refine xg_iconst hX (nI 0) dR_hasDigit_23 (by decide) ?_
        refine xg_top (bI (hasD td a b)) (by rw [hasD_f (fun j h1 h2 => hz j h1 (by omega))] <;> rfl) ?_
        exact hret () _ _ _ rfl (xn_narB _) trivial dR_hasDigit_24
      ·
        refine xg_aload_n hX 0 dR_hasDigit_7 rfl rfl ?_
        refine xg_iload_n hX 3 dR_hasDigit_8 rfl rfl ?_
        refine xg_cV hX tq [.int (nI i)] (hM := xc_digitAt l D cI tq tp td ts i (by omega)) (wr := []) (ws' := fun _ => [(tq, .inr (0, [.ref tp, .int (bI ts)])), (tp, .inl (cI, 130, .inl (nf td)))]) (st' := fun _ => [.int (nI (td i))]) [0, 1] [] [0, 1] [] rfl mt_144 mt_141 mt_2 mt_142 mt_143 0 rfl rfl hdR_digitAt (by decide) ⟨rfl, rfl⟩ (by decide) rfl rfl (by decide) rfl (by decide) (by decide) (by decide) (fun u => rfl) (fun u => rfl) (fun u => rfl) rfl rfl (by simp [Value.category]) dR_hasDigit_9 (fun _ _ => ?_)
        have htdi := htd i
        refine xg_if_eqN hX 17 (by omega) dR_hasDigit_12 (by decide) (fun h12 => ?_) (fun h12 => ?_)
        ·
          refine xg_iincN hX (lv' := [(3, .int (nI (i + 1))), (0, .ref tq), (1, .int (nI a)), (2, .int (nI b))]) (i + 1) 3 dR_hasDigit_17 rfl (xn_inc _) (by decide) rfl ?_
          refine xg_goto hX 2 dR_hasDigit_20 (by decide) ?_
          refine xg_lv hX (lv' := [(0, .ref tq), (1, .int (nI a)), (2, .int (nI b)), (3, .int (nI (i + 1)))]) [1, 2, 3, 0] rfl ?_
          exact ih3 (i + 1) (by omega) (by omega) (fun j h1 h2 => by rcases Nat.lt_or_ge j i with q | q; exact hz j h1 q; obtain rfl : j = i := (by omega); exact h12) (by omega)
        ·
          refine xg_iconst hX (nI 1) dR_hasDigit_15 (by decide) ?_
          refine xg_top (bI (hasD td a b)) (by rw [hasD_t i hi1 h4 (by omega)] <;> rfl) ?_
          exact hret () _ _ _ rfl (xn_narB _) trivial dR_hasDigit_16
  refine xg_lv hX (lv' := [(0, .ref tq), (1, .int (nI a)), (2, .int (nI b)), (3, .int (nI a))]) [1, 2, 3, 0] rfl ?_
  exact lp1 (b - a + 1) a (by omega) (by omega) (fun j h1 h2 => by omega) (Nat.lt_succ_self _)
set_option maxHeartbeats 4000000 in
set_option maxRecDepth 100000 in
theorem xc_isZero (l : Launch) (D : va_G) (cI : ClassId) (tq : Nat) (tp : Nat) (td : Nat → Nat) (ts : Bool) (htd : ∀ j, td j < 10) : Ctr l D cI yR_isZero cR_isZero 1 (some .boolean) { frames := 2, cells := 0, slots := 0, locals := 44 } [.ref tq] [(tq, .inr (0, [.ref tp, .int (bI ts)])), (tp, .inl (cI, 130, .inl (nf td)))] (fun _ : Unit => some (.int (bI (!hasD td 0 130)))) (fun _ : Unit => True) (fun _ : Unit => [(tq, .inr (0, [.ref tp, .int (bI ts)])), (tp, .inl (cI, 130, .inl (nf td)))]) 0 0 := by
  refine xc_mkZ (by decide +kernel) (Nat.le_of_ble_eq_true rfl) (fun X hX hret => ?_)
  show GG D X 0 0 0 [(tq, .inr (0, [.ref tp, .int (bI ts)])), (tp, .inl (cI, 130, .inl (nf td)))] [(0, .ref tq)] []
  refine xg_aload_n hX 0 dR_isZero_0 rfl rfl ?_
  refine xg_iconst hX (nI 0) dR_isZero_1 (by decide) ?_
  refine xg_sipush hX (nI 130) dR_isZero_2 (by decide) ?_
  refine xg_cV hX tq [.int (nI 0), .int (nI 130)] (hM := xc_hasDigit l D cI tq tp td ts 0 130 (by omega) (by omega) htd) (wr := []) (ws' := fun _ => [(tq, .inr (0, [.ref tp, .int (bI ts)])), (tp, .inl (cI, 130, .inl (nf td)))]) (st' := fun _ => [.int (bI (hasD td 0 130))]) [0, 1] [] [0, 1] [] rfl mt_140 mt_137 mt_2 mt_138 mt_139 0 rfl rfl hdR_hasDigit (by decide) ⟨rfl, rfl⟩ (by decide) rfl rfl (by decide) rfl (by decide) (by decide) (by decide) (fun u => rfl) (fun u => rfl) (fun u => rfl) rfl rfl (by simp [Value.category]) dR_isZero_5 (fun _ _ => ?_)
  refine xg_if_neB hX 15 dR_isZero_8 (by decide) (fun h8 => ?_) (fun h8 => ?_)
  ·
    refine xg_iconst hX (nI 0) dR_isZero_15 (by decide) ?_
    refine xg_top (bI (!hasD td 0 130)) (by rw [h8] <;> rfl) ?_
    exact hret () _ _ _ rfl (xn_narB _) trivial dR_isZero_16
  ·
    refine xg_iconst hX (nI 1) dR_isZero_11 (by decide) ?_
    refine xg_goto hX 16 dR_isZero_12 (by decide) ?_
    refine xg_top (bI (!hasD td 0 130)) (by rw [h8] <;> rfl) ?_
    exact hret () _ _ _ rfl (xn_narB _) trivial dR_isZero_16
set_option maxHeartbeats 4000000 in
set_option maxRecDepth 100000 in
theorem xc_setSign (l : Launch) (D : va_G) (cI : ClassId) (tq : Nat) (tp : Nat) (td : Nat → Nat) (ts : Bool) (b : Bool) (htd : ∀ j, td j < 10) : Ctr l D cI yR_setSign cR_setSign 2 none { frames := 3, cells := 0, slots := 0, locals := 64 } [.ref tq, .int (bI b)] [(tq, .inr (0, [.ref tp, .int (bI ts)])), (tp, .inl (cI, 130, .inl (nf td)))] (fun _ : Unit => none) (fun _ : Unit => True) (fun _ : Unit => [(tq, .inr (0, [.ref tp, .int (bI (b && hasD td 0 130))])), (tp, .inl (cI, 130, .inl (nf td)))]) 0 0 := by
  refine xc_mkV (by decide +kernel) (Nat.le_of_ble_eq_true rfl) (fun X hX hin hret => ?_)
  show GG D X 0 0 0 [(tq, .inr (0, [.ref tp, .int (bI ts)])), (tp, .inl (cI, 130, .inl (nf td)))] [(0, .ref tq), (1, .int (bI b))] []
  refine xg_aload_n hX 0 dR_setSign_0 rfl rfl ?_
  refine xg_iload_n hX 1 dR_setSign_1 rfl rfl ?_
  refine xg_if_eqB hX 16 dR_setSign_2 (by decide) (fun h2 => ?_) (fun h2 => ?_)
  ·
    refine xg_iconst hX (nI 0) dR_setSign_16 (by decide) ?_
    refine xg_top (bI false) rfl ?_
    refine xg_put hX tyR tyR_ok nmR (ci := 0) rfl hinR (ws' := [(tq, .inr (0, [.ref tp, .int (bI false)])), (tp, .inl (cI, 130, .inl (nf td)))]) 0 rfl 1 (by decide) mt_22 rfl (xn_narB _) (xn_fitB _) (Nat.le_of_ble_eq_true rfl) rfl dR_setSign_17 ?_
    refine xg_wsE (ws' := [(tq, .inr (0, [.ref tp, .int (bI (b && hasD td 0 130))])), (tp, .inl (cI, 130, .inl (nf td)))]) (by rw [← (show (bI false : Int32) = bI (b && hasD td 0 130) from (by first | (rw [h2] <;> rfl) | (have h8 : hasD td 0 130 = true := (by simpa using h9); rw [h2, h8] <;> rfl) | (have h8 : hasD td 0 130 = false := (by simpa using h9); rw [h2, h8] <;> rfl)))]) ?_
    exact hret () _ _ rfl trivial dR_setSign_20
  ·
    refine xg_aload_n hX 0 dR_setSign_5 rfl rfl ?_
    refine xg_cV hX tq [] (hM := xc_isZero l D cI tq tp td ts htd) (wr := []) (ws' := fun _ => [(tq, .inr (0, [.ref tp, .int (bI ts)])), (tp, .inl (cI, 130, .inl (nf td)))]) (st' := fun _ => [.int (bI (!hasD td 0 130)), .ref tq]) [0, 1] [] [0, 1] [.ref tq] rfl mt_136 mt_133 mt_2 mt_134 mt_135 0 rfl rfl hdR_isZero (by decide) ⟨rfl, rfl⟩ (by decide) rfl rfl (by decide) rfl (by decide) (by decide) (by decide) (fun u => rfl) (fun u => rfl) (fun u => rfl) rfl rfl (by simp [Value.category]) dR_setSign_6 (fun _ _ => ?_)
    refine xg_if_neB hX 16 dR_setSign_9 (by decide) (fun h9 => ?_) (fun h9 => ?_)
    ·
      refine xg_iconst hX (nI 0) dR_setSign_16 (by decide) ?_
      refine xg_top (bI false) rfl ?_
      refine xg_put hX tyR tyR_ok nmR (ci := 0) rfl hinR (ws' := [(tq, .inr (0, [.ref tp, .int (bI false)])), (tp, .inl (cI, 130, .inl (nf td)))]) 0 rfl 1 (by decide) mt_22 rfl (xn_narB _) (xn_fitB _) (Nat.le_of_ble_eq_true rfl) rfl dR_setSign_17 ?_
      refine xg_wsE (ws' := [(tq, .inr (0, [.ref tp, .int (bI (b && hasD td 0 130))])), (tp, .inl (cI, 130, .inl (nf td)))]) (by rw [← (show (bI false : Int32) = bI (b && hasD td 0 130) from (by first | (rw [h2] <;> rfl) | (have h8 : hasD td 0 130 = true := (by simpa using h9); rw [h2, h8] <;> rfl) | (have h8 : hasD td 0 130 = false := (by simpa using h9); rw [h2, h8] <;> rfl)))]) ?_
      exact hret () _ _ rfl trivial dR_setSign_20
    ·
      refine xg_iconst hX (nI 1) dR_setSign_12 (by decide) ?_
      refine xg_goto hX 17 dR_setSign_13 (by decide) ?_
      refine xg_top (bI true) rfl ?_
      refine xg_put hX tyR tyR_ok nmR (ci := 0) rfl hinR (ws' := [(tq, .inr (0, [.ref tp, .int (bI true)])), (tp, .inl (cI, 130, .inl (nf td)))]) 0 rfl 1 (by decide) mt_22 rfl (xn_narB _) (xn_fitB _) (Nat.le_of_ble_eq_true rfl) rfl dR_setSign_17 ?_
      refine xg_wsE (ws' := [(tq, .inr (0, [.ref tp, .int (bI (b && hasD td 0 130))])), (tp, .inl (cI, 130, .inl (nf td)))]) (by rw [← (show (bI true : Int32) = bI (b && hasD td 0 130) from (by first | (rw [h2] <;> rfl) | (have h8 : hasD td 0 130 = true := (by simpa using h9); rw [h2, h8] <;> rfl) | (have h8 : hasD td 0 130 = false := (by simpa using h9); rw [h2, h8] <;> rfl)))]) ?_
      exact hret () _ _ rfl trivial dR_setSign_20
set_option maxHeartbeats 4000000 in
set_option maxRecDepth 100000 in
theorem xc_flags (l : Launch) (D : va_G) (cI : ClassId) (tq : Nat) (tp : Nat) (td : Nat → Nat) (ts : Bool) (k : Nat) (hk : k ≤ 130) (htd : ∀ j, td j < 10) : Ctr l D cI yR_flagsOfLowest cR_flagsOfLowest 3 (some .int) { frames := 2, cells := 0, slots := 0, locals := 44 } [.ref tq, .int (nI k)] [(tq, .inr (0, [.ref tp, .int (bI ts)])), (tp, .inl (cI, 130, .inl (nf td)))] (fun _ : Unit => some (.int (nI (flg td ts k)))) (fun _ : Unit => True) (fun _ : Unit => [(tq, .inr (0, [.ref tp, .int (bI ts)])), (tp, .inl (cI, 130, .inl (nf td)))]) 0 0 := by
  refine xc_mkI (by decide +kernel) (Nat.le_of_ble_eq_true rfl) (fun X hX hret => ?_)
  show GG D X 0 0 0 [(tq, .inr (0, [.ref tp, .int (bI ts)])), (tp, .inl (cI, 130, .inl (nf td)))] [(0, .ref tq), (1, .int (nI k))] []
  refine xg_iconst hX (nI 0) dR_flagsOfLowest_0 (by decide) ?_
  refine xg_istore_n hX (lv' := [(2, .int (nI 0)), (0, .ref tq), (1, .int (nI k))]) dR_flagsOfLowest_1 rfl (by decide) rfl ?_
  refine xg_aload_n hX 1 dR_flagsOfLowest_2 rfl rfl ?_
  refine xg_iconst hX (nI 0) dR_flagsOfLowest_3 (by decide) ?_
  refine xg_iload_n hX 2 dR_flagsOfLowest_4 rfl rfl ?_
  refine xg_cV hX tq [.int (nI 0), .int (nI k)] (hM := xc_hasDigit l D cI tq tp td ts 0 k (by omega) (by omega) htd) (wr := []) (ws' := fun _ => [(tq, .inr (0, [.ref tp, .int (bI ts)])), (tp, .inl (cI, 130, .inl (nf td)))]) (st' := fun _ => [.int (bI (hasD td 0 k))]) [0, 1] [] [0, 1] [] rfl mt_140 mt_137 mt_2 mt_138 mt_139 0 rfl rfl hdR_hasDigit (by decide) ⟨rfl, rfl⟩ (by decide) rfl rfl (by decide) rfl (by decide) (by decide) (by decide) (fun u => rfl) (fun u => rfl) (fun u => rfl) rfl rfl (by simp [Value.category]) dR_flagsOfLowest_5 (fun _ _ => ?_)
  refine xg_if_neB hX 16 dR_flagsOfLowest_8 (by decide) (fun h8 => ?_) (fun h8 => ?_)
  ·
    refine xg_aload_n hX 1 dR_flagsOfLowest_16 rfl rfl ?_
    refine xg_get hX (ci := 0) rfl hinR 0 rfl 1 (by decide) mt_22 rfl dR_flagsOfLowest_17 ?_
    refine xg_if_eqB hX 26 dR_flagsOfLowest_20 (by decide) (fun h20 => ?_) (fun h20 => ?_)
    ·
      refine xg_aload_n hX 1 dR_flagsOfLowest_26 rfl rfl ?_
      refine xg_iload_n hX 2 dR_flagsOfLowest_27 rfl rfl ?_
      refine xg_sipush hX (nI 130) dR_flagsOfLowest_28 (by decide) ?_
      refine xg_cV hX tq [.int (nI k), .int (nI 130)] (hM := xc_hasDigit l D cI tq tp td ts k 130 (by omega) (by omega) htd) (wr := []) (ws' := fun _ => [(tq, .inr (0, [.ref tp, .int (bI ts)])), (tp, .inl (cI, 130, .inl (nf td)))]) (st' := fun _ => [.int (bI (hasD td k 130))]) [0, 1] [] [0, 1] [] rfl mt_140 mt_137 mt_2 mt_138 mt_139 0 rfl rfl hdR_hasDigit (by decide) ⟨rfl, rfl⟩ (by decide) rfl rfl (by decide) rfl (by decide) (by decide) (by decide) (fun u => rfl) (fun u => rfl) (fun u => rfl) rfl rfl (by simp [Value.category]) dR_flagsOfLowest_31 (fun _ _ => ?_)
      refine xg_if_eqB hX 43 dR_flagsOfLowest_34 (by decide) (fun h34 => ?_) (fun h34 => ?_)
      ·
        refine xg_iload_n hX 0 dR_flagsOfLowest_43 rfl rfl ?_
        refine xg_top (nI (flg td ts k)) (by simp only [flg, h34]; first | (simp [h8]; done) | (simp [h8, h20]; done)) ?_
        exact hret () _ _ _ rfl trivial dR_flagsOfLowest_44
      ·
        refine xg_iload_n hX 0 dR_flagsOfLowest_37 rfl rfl ?_
        refine xg_iconst hX (nI 2) dR_flagsOfLowest_38 (by decide) ?_
        refine xg_ior hX dR_flagsOfLowest_39 ?_
        refine xg_top (nI 2) (by decide) ?_
        refine xg_goto hX 44 dR_flagsOfLowest_40 (by decide) ?_
        refine xg_top (nI (flg td ts k)) (by simp only [flg, h34]; first | (simp [h8]; done) | (simp [h8, h20]; done)) ?_
        exact hret () _ _ _ rfl trivial dR_flagsOfLowest_44
    ·
      refine xg_bipush hX (nI 8) dR_flagsOfLowest_23 (by decide) ?_
      refine xg_istore_n hX (lv' := [(2, .int (nI 8)), (0, .ref tq), (1, .int (nI k))]) dR_flagsOfLowest_25 rfl (by decide) rfl ?_
      refine xg_aload_n hX 1 dR_flagsOfLowest_26 rfl rfl ?_
      refine xg_iload_n hX 2 dR_flagsOfLowest_27 rfl rfl ?_
      refine xg_sipush hX (nI 130) dR_flagsOfLowest_28 (by decide) ?_
      refine xg_cV hX tq [.int (nI k), .int (nI 130)] (hM := xc_hasDigit l D cI tq tp td ts k 130 (by omega) (by omega) htd) (wr := []) (ws' := fun _ => [(tq, .inr (0, [.ref tp, .int (bI ts)])), (tp, .inl (cI, 130, .inl (nf td)))]) (st' := fun _ => [.int (bI (hasD td k 130))]) [0, 1] [] [0, 1] [] rfl mt_140 mt_137 mt_2 mt_138 mt_139 0 rfl rfl hdR_hasDigit (by decide) ⟨rfl, rfl⟩ (by decide) rfl rfl (by decide) rfl (by decide) (by decide) (by decide) (fun u => rfl) (fun u => rfl) (fun u => rfl) rfl rfl (by simp [Value.category]) dR_flagsOfLowest_31 (fun _ _ => ?_)
      refine xg_if_eqB hX 43 dR_flagsOfLowest_34 (by decide) (fun h34 => ?_) (fun h34 => ?_)
      ·
        refine xg_iload_n hX 0 dR_flagsOfLowest_43 rfl rfl ?_
        refine xg_top (nI (flg td ts k)) (by simp only [flg, h34]; first | (simp [h8]; done) | (simp [h8, h20]; done)) ?_
        exact hret () _ _ _ rfl trivial dR_flagsOfLowest_44
      ·
        refine xg_iload_n hX 0 dR_flagsOfLowest_37 rfl rfl ?_
        refine xg_iconst hX (nI 2) dR_flagsOfLowest_38 (by decide) ?_
        refine xg_ior hX dR_flagsOfLowest_39 ?_
        refine xg_top (nI 10) (by decide) ?_
        refine xg_goto hX 44 dR_flagsOfLowest_40 (by decide) ?_
        refine xg_top (nI (flg td ts k)) (by simp only [flg, h34]; first | (simp [h8]; done) | (simp [h8, h20]; done)) ?_
        exact hret () _ _ _ rfl trivial dR_flagsOfLowest_44
  ·
    refine xg_iconst hX (nI 4) dR_flagsOfLowest_11 (by decide) ?_
    refine xg_istore_n hX (lv' := [(2, .int (nI 4)), (0, .ref tq), (1, .int (nI k))]) dR_flagsOfLowest_12 rfl (by decide) rfl ?_
    refine xg_goto hX 26 dR_flagsOfLowest_13 (by decide) ?_
    refine xg_aload_n hX 1 dR_flagsOfLowest_26 rfl rfl ?_
    refine xg_iload_n hX 2 dR_flagsOfLowest_27 rfl rfl ?_
    refine xg_sipush hX (nI 130) dR_flagsOfLowest_28 (by decide) ?_
    refine xg_cV hX tq [.int (nI k), .int (nI 130)] (hM := xc_hasDigit l D cI tq tp td ts k 130 (by omega) (by omega) htd) (wr := []) (ws' := fun _ => [(tq, .inr (0, [.ref tp, .int (bI ts)])), (tp, .inl (cI, 130, .inl (nf td)))]) (st' := fun _ => [.int (bI (hasD td k 130))]) [0, 1] [] [0, 1] [] rfl mt_140 mt_137 mt_2 mt_138 mt_139 0 rfl rfl hdR_hasDigit (by decide) ⟨rfl, rfl⟩ (by decide) rfl rfl (by decide) rfl (by decide) (by decide) (by decide) (fun u => rfl) (fun u => rfl) (fun u => rfl) rfl rfl (by simp [Value.category]) dR_flagsOfLowest_31 (fun _ _ => ?_)
    refine xg_if_eqB hX 43 dR_flagsOfLowest_34 (by decide) (fun h34 => ?_) (fun h34 => ?_)
    ·
      refine xg_iload_n hX 0 dR_flagsOfLowest_43 rfl rfl ?_
      refine xg_top (nI (flg td ts k)) (by simp only [flg, h34]; first | (simp [h8]; done) | (simp [h8, h20]; done)) ?_
      exact hret () _ _ _ rfl trivial dR_flagsOfLowest_44
    ·
      refine xg_iload_n hX 0 dR_flagsOfLowest_37 rfl rfl ?_
      refine xg_iconst hX (nI 2) dR_flagsOfLowest_38 (by decide) ?_
      refine xg_ior hX dR_flagsOfLowest_39 ?_
      refine xg_top (nI 6) (by decide) ?_
      refine xg_goto hX 44 dR_flagsOfLowest_40 (by decide) ?_
      refine xg_top (nI (flg td ts k)) (by simp only [flg, h34]; first | (simp [h8]; done) | (simp [h8, h20]; done)) ?_
      exact hret () _ _ _ rfl trivial dR_flagsOfLowest_44
set_option maxHeartbeats 4000000 in
set_option maxRecDepth 100000 in
theorem xc_take (l : Launch) (D : va_G) (cI : ClassId) (tq : Nat) (tp : Nat) (td : Nat → Nat) (ts : Bool) (x : Int32) : Ctr l D cI yR_take cR_take 5 none { frames := 2, cells := 0, slots := 0, locals := 43 } [.ref tq, .int x] [(tq, .inr (0, [.ref tp, .int (bI ts)])), (tp, .inl (cI, 130, .inl (nf td)))] (fun _ : Unit => none) (fun _ : Unit => True) (fun _ : Unit => [(tq, .inr (0, [.ref tp, .int (bI (decide (x.toInt < 0)))])), (tp, .inl (cI, 130, .inl (nf (mix 31 (dig (absN x)) zf))))]) 0 0 := by
  refine xc_mkV (by decide +kernel) (Nat.le_of_ble_eq_true rfl) (fun X hX hin hret => ?_)
  show GG D X 0 0 0 [(tq, .inr (0, [.ref tp, .int (bI ts)])), (tp, .inl (cI, 130, .inl (nf td)))] [(0, .ref tq), (1, .int x)] []
  refine xg_aload_n hX 0 dR_take_0 rfl rfl ?_
  refine xg_cV hX tq [] (hM := xc_clear l D cI tq tp td ts) (wr := []) (ws' := fun _ => [(tq, .inr (0, [.ref tp, .int (bI false)])), (tp, .inl (cI, 130, .inl (nf zf)))]) (st' := fun _ => []) [0, 1] [] [0, 1] [] rfl mt_121 mt_149 mt_2 mt_119 mt_120 0 rfl rfl hdR_clear (by decide) ⟨rfl, rfl⟩ (by decide) rfl rfl (by decide) rfl (by decide) (by decide) (by decide) (fun u => rfl) (fun u => rfl) (fun u => rfl) rfl rfl (by simp [Value.category]) dR_take_1 (fun _ _ => ?_)
  refine xg_iload_n hX 1 dR_take_4 rfl rfl ?_
  refine xg_i2l hX ((x).toInt64) dR_take_5 rfl ?_
  refine xg_labs hX mt_234 mt_235 mt_6 mt_236 (by decide) (by simp [Value.category]) (by decide) (by decide) dR_take_6 ?_
  refine xg_topl (lN (absN x)) (xn_labs x) ?_
  refine xg_lstore_n hX (lv' := [(2, .long (lN (absN x))), (0, .ref tq), (1, .int x)]) dR_take_9 rfl (by decide) rfl ?_
  refine xg_iconst hX (nI 0) dR_take_10 (by decide) ?_
  refine xg_istore hX (lv' := [(4, .int (nI 0)), (2, .long (lN (absN x))), (0, .ref tq), (1, .int x)]) dR_take_11 (by decide) rfl ?_
  have lp1 : ∀ (fu2 : Nat) (i : Nat), (i ≤ 31) → 31 - i < fu2 → GG D X 0 0 13 [(tq, .inr (0, [.ref tp, .int (bI false)])), (tp, .inl (cI, 130, .inl (nf (mix i (dig (absN x)) zf))))] [(0, .ref tq), (1, .int x), (2, .long (lN (absN x / 10 ^ i))), (4, .int (nI i))] [] := by
    intro fu2
    induction fu2 with
    | zero => intro i hi hm4; exact absurd hm4 (Nat.not_lt_zero _)
    | succ fu2 ih3 =>
      intro i hi hm4
      have hb := absN_lt x
      have hb2 : absN x / 10 ^ i < 2 ^ 63 := Nat.lt_of_le_of_lt (Nat.div_le_self _ _) (by omega)
      refine xg_iload hX 3 dR_take_13 rfl ?_
      refine xg_bipush hX (nI 31) dR_take_15 (by decide) ?_
      refine xg_icmp_geN hX 44 (by omega) (by omega) dR_take_17 (by decide) (fun h17 => ?_) (fun h17 => ?_)
      ·
        refine xg_aload_n hX 0 dR_take_44 rfl rfl ?_
        refine xg_iload_n hX 1 dR_take_45 rfl rfl ?_
        refine xg_if_geZ hX x.toInt rfl 53 dR_take_46 (by decide) (fun h46 => ?_) (fun h46 => ?_)
        ·
          refine xg_iconst hX (nI 0) dR_take_53 (by decide) ?_
          refine xg_top (bI false) rfl ?_
          refine xg_put hX tyR tyR_ok nmR (ci := 0) rfl hinR (ws' := [(tq, .inr (0, [.ref tp, .int (bI false)])), (tp, .inl (cI, 130, .inl (nf (mix i (dig (absN x)) zf))))]) 0 rfl 1 (by decide) mt_22 rfl (xn_narB _) (xn_fitB _) (Nat.le_of_ble_eq_true rfl) rfl dR_take_54 ?_
          have hie : i = 31 := by omega
          refine xg_wsE (ws' := [(tq, .inr (0, [.ref tp, .int (bI (decide (x.toInt < 0)))])), (tp, .inl (cI, 130, .inl (nf (mix i (dig (absN x)) zf))))]) (by rw [← (show (bI false : Int32) = bI (decide (x.toInt < 0)) from (by first | (rw [decide_eq_true (show x.toInt < 0 by omega)]; done) | (rw [decide_eq_false (show ¬ x.toInt < 0 by omega)]; done)))]) ?_
          refine xg_ext hX (g := mix 31 (dig (absN x)) zf) (ws' := [(tq, .inr (0, [.ref tp, .int (bI (decide (x.toInt < 0)))])), (tp, .inl (cI, 130, .inl (nf (mix 31 (dig (absN x)) zf))))]) 1 rfl (fun j hj => by first | rfl | (rw [hie]; done) | (rw [hie]; rfl)) rfl ?_
          exact hret () _ _ rfl trivial dR_take_57
        ·
          refine xg_iconst hX (nI 1) dR_take_49 (by decide) ?_
          refine xg_goto hX 54 dR_take_50 (by decide) ?_
          refine xg_top (bI true) rfl ?_
          refine xg_put hX tyR tyR_ok nmR (ci := 0) rfl hinR (ws' := [(tq, .inr (0, [.ref tp, .int (bI true)])), (tp, .inl (cI, 130, .inl (nf (mix i (dig (absN x)) zf))))]) 0 rfl 1 (by decide) mt_22 rfl (xn_narB _) (xn_fitB _) (Nat.le_of_ble_eq_true rfl) rfl dR_take_54 ?_
          have hie : i = 31 := by omega
          refine xg_wsE (ws' := [(tq, .inr (0, [.ref tp, .int (bI (decide (x.toInt < 0)))])), (tp, .inl (cI, 130, .inl (nf (mix i (dig (absN x)) zf))))]) (by rw [← (show (bI true : Int32) = bI (decide (x.toInt < 0)) from (by first | (rw [decide_eq_true (show x.toInt < 0 by omega)]; done) | (rw [decide_eq_false (show ¬ x.toInt < 0 by omega)]; done)))]) ?_
          refine xg_ext hX (g := mix 31 (dig (absN x)) zf) (ws' := [(tq, .inr (0, [.ref tp, .int (bI (decide (x.toInt < 0)))])), (tp, .inl (cI, 130, .inl (nf (mix 31 (dig (absN x)) zf))))]) 1 rfl (fun j hj => by first | rfl | (rw [hie]; done) | (rw [hie]; rfl)) rfl ?_
          exact hret () _ _ rfl trivial dR_take_57
      ·
        refine xg_aload_n hX 0 dR_take_20 rfl rfl ?_
        refine xg_iload hX 3 dR_take_21 rfl ?_
        refine xg_lload_n hX 2 dR_take_23 rfl rfl ?_
        refine xg_ldc2 hX 10 mt_237 dR_take_24 ?_
        refine xg_lrem hX dR_take_27 (by decide) ?_
        refine xg_topl (lN (absN x / 10 ^ i % 10)) (pk_lRem hb2 (by decide) (by decide)) ?_
        refine xg_l2i hX ((lN (absN x / 10 ^ i % 10)).toInt32) dR_take_28 rfl ?_
        refine xg_top (nI (absN x / 10 ^ i % 10)) (lN_i _) ?_
        refine xg_cV hX tq [.int (nI i), .int (nI (absN x / 10 ^ i % 10))] (hM := xc_setDigit l D cI tq tp (mix i (dig (absN x)) zf) false i (absN x / 10 ^ i % 10) (by omega)) (wr := []) (ws' := fun _ => [(tq, .inr (0, [.ref tp, .int (bI false)])), (tp, .inl (cI, 130, .inl (nf (up (mix i (dig (absN x)) zf) i (absN x / 10 ^ i % 10)))))]) (st' := fun _ => []) [0, 1] [] [0, 1] [] rfl mt_128 mt_154 mt_2 mt_126 mt_127 0 rfl rfl hdR_setDigit (by decide) ⟨rfl, rfl⟩ (by decide) rfl rfl (by decide) rfl (by decide) (by decide) (by decide) (fun u => rfl) (fun u => rfl) (fun u => rfl) rfl rfl (by simp [Value.category]) dR_take_29 (fun _ _ => ?_)
        refine xg_lload_n hX 2 dR_take_32 rfl rfl ?_
        refine xg_ldc2 hX 10 mt_237 dR_take_33 ?_
        refine xg_ldiv hX dR_take_36 (by decide) ?_
        refine xg_topl (lN (absN x / 10 ^ i / 10)) (pk_lDiv hb2 (by decide) (by decide)) ?_
        refine xg_lstore_n hX (lv' := [(2, .long (lN (absN x / 10 ^ i / 10))), (0, .ref tq), (1, .int x), (4, .int (nI i))]) dR_take_37 rfl (by decide) rfl ?_
        refine xg_iincN hX (lv' := [(4, .int (nI (i + 1))), (2, .long (lN (absN x / 10 ^ i / 10))), (0, .ref tq), (1, .int x)]) (i + 1) 3 dR_take_38 rfl (xn_inc _) (by decide) rfl ?_
        refine xg_goto hX 13 dR_take_41 (by decide) ?_
        refine xg_ext hX (g := mix (i + 1) (dig (absN x)) zf) (ws' := [(tq, .inr (0, [.ref tp, .int (bI false)])), (tp, .inl (cI, 130, .inl (nf (mix (i + 1) (dig (absN x)) zf))))]) 1 rfl (fun j hj => mix_up rfl j) rfl ?_
        refine xg_lv hX (lv' := [(0, .ref tq), (1, .int x), (2, .long (lN (absN x / 10 ^ i / 10))), (4, .int (nI (i + 1)))]) [2, 3, 1, 0] rfl ?_
        refine xg_lvE (lv' := [(0, .ref tq), (1, .int x), (2, .long (lN (absN x / 10 ^ (i + 1)))), (4, .int (nI (i + 1)))]) (by rw [← (show (lN (absN x / 10 ^ i / 10) : Int64) = lN (absN x / 10 ^ (i + 1)) from (by rw [dig_s]))]) ?_
        exact ih3 (i + 1) (by omega) (by omega)
  refine xg_ext hX (g := mix 0 (dig (absN x)) zf) (ws' := [(tq, .inr (0, [.ref tp, .int (bI false)])), (tp, .inl (cI, 130, .inl (nf (mix 0 (dig (absN x)) zf))))]) 1 rfl (fun j hj => mix_0 j) rfl ?_
  refine xg_lv hX (lv' := [(0, .ref tq), (1, .int x), (2, .long (lN (absN x))), (4, .int (nI 0))]) [2, 3, 1, 0] rfl ?_
  refine xg_lvE (lv' := [(0, .ref tq), (1, .int x), (2, .long (lN (absN x / 10 ^ 0))), (4, .int (nI 0))]) (by rw [← (show (lN (absN x) : Int64) = lN (absN x / 10 ^ 0) from (by rw [Nat.pow_zero, Nat.div_one]))]) ?_
  exact lp1 (31 - 0 + 1) 0 (by omega) (Nat.lt_succ_self _)
