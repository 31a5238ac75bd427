set_option maxHeartbeats 4000000 in
set_option maxRecDepth 100000 in
theorem yc_byteOf (l : Launch) (D : va_G) (cI : ClassId) (mq : Nat) (mm : Nat) (m1 : Nat) (m2 : Nat) (mo : Nat) (mr : Nat) (mw : Nat) (o1 : Bool) (o2 : Bool) (oo : Bool) (men : Bool) (M : Nat → Nat) (x : Int32) : Ctr l D cI yM_byteOf cM_byteOf 2 (some .int) { frames := 0, cells := 0, slots := 0, locals := 0 } [.ref mq, .int x] [(mq, .inr (3, [.ref mm, .ref m1, .ref m2, .ref mo, .ref mr, .int (bI o1), .int (bI o2), .int (bI oo), .ref mw, .int (bI men)])), (mm, .inl (cI, 256, .inl (nf M)))] (fun _ : Unit => some (.int (byt M x))) (fun _ : Unit => True) (fun _ : Unit => [(mq, .inr (3, [.ref mm, .ref m1, .ref m2, .ref mo, .ref mr, .int (bI o1), .int (bI o2), .int (bI oo), .ref mw, .int (bI men)])), (mm, .inl (cI, 256, .inl (nf M)))]) 0 0 := by
  refine xc_mkI (by decide +kernel) (Nat.le_of_ble_eq_true rfl) (fun X hX hret => ?_)
  show GG D X 0 0 0 [(mq, .inr (3, [.ref mm, .ref m1, .ref m2, .ref mo, .ref mr, .int (bI o1), .int (bI o2), .int (bI oo), .ref mw, .int (bI men)])), (mm, .inl (cI, 256, .inl (nf M)))] [(0, .ref mq), (1, .int x)] []
  refine xg_iload_n hX 1 dM_byteOf_0 rfl rfl ?_
  refine xg_if_ltZ hX x.toInt rfl 11 dM_byteOf_1 (by decide) (fun h1 => ?_) (fun h1 => ?_)
  ·
    refine xg_iconst hX ((-1)) dM_byteOf_11 (by decide) ?_
    refine xg_goto hX 21 dM_byteOf_12 (by decide) ?_
    refine xg_top (byt M x) (by unfold byt; first | (rw [if_neg (by omega)]; done) | (rw [if_pos ⟨h1, h8⟩]; done)) ?_
    exact hret () _ _ _ rfl trivial dM_byteOf_21
  ·
    refine xg_iload_n hX 1 dM_byteOf_4 rfl rfl ?_
    refine xg_sipush hX (nI 256) dM_byteOf_5 (by decide) ?_
    refine xg_icmp_ltZ hX x.toInt (256 : Nat) rfl (xn_ti (by omega)) 15 dM_byteOf_8 (by decide) (fun h8 => ?_) (fun h8 => ?_)
    ·
      refine xg_aload_n hX 0 dM_byteOf_15 rfl rfl ?_
      refine xg_get hX (ci := 3) rfl hinM 0 rfl 0 (by decide) mt_324 rfl dM_byteOf_16 ?_
      refine xg_iload_n hX 1 dM_byteOf_19 rfl rfl ?_
      refine xg_top (nI x.toInt.toNat) (xn_self h1) ?_
      refine xg_iald hX 1 x.toInt.toNat rfl (by omega) (by decide) dM_byteOf_20 ?_
      refine xg_top (byt M x) (by unfold byt; first | (rw [if_neg (by omega)]; done) | (rw [if_pos ⟨h1, h8⟩]; done)) ?_
      exact hret () _ _ _ rfl trivial dM_byteOf_21
    ·
      refine xg_iconst hX ((-1)) dM_byteOf_11 (by decide) ?_
      refine xg_goto hX 21 dM_byteOf_12 (by decide) ?_
      refine xg_top (byt M x) (by unfold byt; first | (rw [if_neg (by omega)]; done) | (rw [if_pos ⟨h1, h8⟩]; done)) ?_
      exact hret () _ _ _ rfl trivial dM_byteOf_21
set_option maxHeartbeats 4000000 in
set_option maxRecDepth 100000 in
theorem yc_put (l : Launch) (D : va_G) (cI : ClassId) (mq : Nat) (mm : Nat) (m1 : Nat) (m2 : Nat) (mo : Nat) (mr : Nat) (mw : Nat) (o1 : Bool) (o2 : Bool) (oo : Bool) (men : Bool) (M : Nat → Nat) (x : Int32) (b : Int32) : Ctr l D cI yM_put cM_put 3 (some .boolean) { frames := 0, cells := 0, slots := 0, locals := 0 } [.ref mq, .int x, .int b] [(mq, .inr (3, [.ref mm, .ref m1, .ref m2, .ref mo, .ref mr, .int (bI o1), .int (bI o2), .int (bI oo), .ref mw, .int (bI men)])), (mm, .inl (cI, 256, .inl (nf M)))] (fun _ : Unit => some (.int (bI (inM x)))) (fun _ : Unit => True) (fun _ : Unit => [(mq, .inr (3, [.ref mm, .ref m1, .ref m2, .ref mo, .ref mr, .int (bI o1), .int (bI o2), .int (bI oo), .ref mw, .int (bI men)])), (mm, .inl (cI, 256, .inl (nf (putM M x b))))]) 0 0 := by
  refine xc_mkZ (by decide +kernel) (Nat.le_of_ble_eq_true rfl) (fun X hX hret => ?_)
  show GG D X 0 0 0 [(mq, .inr (3, [.ref mm, .ref m1, .ref m2, .ref mo, .ref mr, .int (bI o1), .int (bI o2), .int (bI oo), .ref mw, .int (bI men)])), (mm, .inl (cI, 256, .inl (nf M)))] [(0, .ref mq), (1, .int x), (2, .int b)] []
  refine xg_iload_n hX 1 dM_put_0 rfl rfl ?_
  refine xg_if_ltZ hX x.toInt rfl 11 dM_put_1 (by decide) (fun h1 => ?_) (fun h1 => ?_)
  ·
    refine xg_iconst hX (nI 0) dM_put_11 (by decide) ?_
    refine xg_ext hX (g := putM M x b) (ws' := [(mq, .inr (3, [.ref mm, .ref m1, .ref m2, .ref mo, .ref mr, .int (bI o1), .int (bI o2), .int (bI oo), .ref mw, .int (bI men)])), (mm, .inl (cI, 256, .inl (nf (putM M x b))))]) 1 rfl (fun j hj => by unfold putM; rw [if_neg (by omega)]) rfl ?_
    refine xg_top (bI (inM x)) (by unfold inM; rw [decide_eq_false (by omega)] <;> rfl) ?_
    exact hret () _ _ _ rfl (xn_narB _) trivial dM_put_12
  ·
    refine xg_iload_n hX 1 dM_put_4 rfl rfl ?_
    refine xg_sipush hX (nI 256) dM_put_5 (by decide) ?_
    refine xg_icmp_ltZ hX x.toInt (256 : Nat) rfl (xn_ti (by omega)) 13 dM_put_8 (by decide) (fun h8 => ?_) (fun h8 => ?_)
    ·
      refine xg_aload_n hX 0 dM_put_13 rfl rfl ?_
      refine xg_get hX (ci := 3) rfl hinM 0 rfl 0 (by decide) mt_324 rfl dM_put_14 ?_
      refine xg_iload_n hX 1 dM_put_17 rfl rfl ?_
      refine xg_top (nI x.toInt.toNat) (xn_self h1) ?_
      refine xg_iload_n hX 2 dM_put_18 rfl rfl ?_
      refine xg_sipush hX (nI 255) dM_put_19 (by decide) ?_
      refine xg_iand hX dM_put_22 ?_
      refine xg_top (nI (lo8 b)) (xn_lo8 b) ?_
      refine xg_iast hX (ws' := [(mq, .inr (3, [.ref mm, .ref m1, .ref m2, .ref mo, .ref mr, .int (bI o1), .int (bI o2), .int (bI oo), .ref mw, .int (bI men)])), (mm, .inl (cI, 256, .inl (nf (up M x.toInt.toNat (lo8 b)))))]) 1 x.toInt.toNat (lo8 b) rfl (by omega) (by decide) rfl dM_put_23 ?_
      refine xg_iconst hX (nI 1) dM_put_24 (by decide) ?_
      refine xg_ext hX (g := putM M x b) (ws' := [(mq, .inr (3, [.ref mm, .ref m1, .ref m2, .ref mo, .ref mr, .int (bI o1), .int (bI o2), .int (bI oo), .ref mw, .int (bI men)])), (mm, .inl (cI, 256, .inl (nf (putM M x b))))]) 1 rfl (fun j hj => by unfold putM; rw [if_pos ⟨h1, h8⟩]) rfl ?_
      refine xg_top (bI (inM x)) (by unfold inM; rw [decide_eq_true (by omega)] <;> rfl) ?_
      exact hret () _ _ _ rfl (xn_narB _) trivial dM_put_25
    ·
      refine xg_iconst hX (nI 0) dM_put_11 (by decide) ?_
      refine xg_ext hX (g := putM M x b) (ws' := [(mq, .inr (3, [.ref mm, .ref m1, .ref m2, .ref mo, .ref mr, .int (bI o1), .int (bI o2), .int (bI oo), .ref mw, .int (bI men)])), (mm, .inl (cI, 256, .inl (nf (putM M x b))))]) 1 rfl (fun j hj => by unfold putM; rw [if_neg (by omega)]) rfl ?_
      refine xg_top (bI (inM x)) (by unfold inM; rw [decide_eq_false (by omega)] <;> rfl) ?_
      exact hret () _ _ _ rfl (xn_narB _) trivial dM_put_12
set_option maxHeartbeats 4000000 in
set_option maxRecDepth 100000 in
theorem yc_signif (l : Launch) (D : va_G) (cI : ClassId) (mq : Nat) (mm : Nat) (m1 : Nat) (m2 : Nat) (mo : Nat) (mr : Nat) (mw : Nat) (o1 : Bool) (o2 : Bool) (oo : Bool) (men : Bool) : Ctr l D cI yM_significant cM_significant 1 (some .boolean) { frames := 0, cells := 0, slots := 0, locals := 0 } [.ref mq] [(mq, .inr (3, [.ref mm, .ref m1, .ref m2, .ref mo, .ref mr, .int (bI o1), .int (bI o2), .int (bI oo), .ref mw, .int (bI men)]))] (fun _ : Unit => some (.int (bI men))) (fun _ : Unit => True) (fun _ : Unit => [(mq, .inr (3, [.ref mm, .ref m1, .ref m2, .ref mo, .ref mr, .int (bI o1), .int (bI o2), .int (bI oo), .ref mw, .int (bI men)]))]) 0 0 := by
  refine xc_mkZ (by decide +kernel) (Nat.le_of_ble_eq_true rfl) (fun X hX hret => ?_)
  show GG D X 0 0 0 [(mq, .inr (3, [.ref mm, .ref m1, .ref m2, .ref mo, .ref mr, .int (bI o1), .int (bI o2), .int (bI oo), .ref mw, .int (bI men)]))] [(0, .ref mq)] []
  refine xg_aload_n hX 0 dM_significant_0 rfl rfl ?_
  refine xg_get hX (ci := 3) rfl hinM 0 rfl 9 (by decide) mt_333 rfl dM_significant_1 ?_
  exact hret () _ _ _ rfl (xn_narB _) trivial dM_significant_4
set_option maxHeartbeats 4000000 in
set_option maxRecDepth 100000 in
theorem yc_isCount (l : Launch) (D : va_G) (cI : ClassId) (n : Int32) : Ctr l D cI yM_isCount cM_isCount 1 (some .boolean) { frames := 0, cells := 0, slots := 0, locals := 0 } [.int n] [] (fun _ : Unit => some (.int (bI (icnt n)))) (fun _ : Unit => True) (fun _ : Unit => []) 0 0 := by
  refine xc_mkZ (by decide +kernel) (Nat.le_of_ble_eq_true rfl) (fun X hX hret => ?_)
  show GG D X 0 0 0 [] [(0, .int n)] []
  refine xg_iload_n hX 0 dM_isCount_0 rfl rfl ?_
  refine xg_if_ltZ hX n.toInt rfl 14 dM_isCount_1 (by decide) (fun hh_1 => ?_) (fun hh_1 => ?_)
  ·
    refine xg_iconst hX (nI 0) dM_isCount_14 (by decide) ?_
    refine xg_top (bI (icnt n)) (by unfold icnt; first | (rw [decide_eq_true (by omega)] <;> rfl) | (rw [decide_eq_false (by omega)] <;> rfl)) ?_
    exact hret () _ _ _ rfl (xn_narB _) trivial dM_isCount_15
  ·
    refine xg_iload_n hX 0 dM_isCount_4 rfl rfl ?_
    refine xg_bipush hX (nI 31) dM_isCount_5 (by decide) ?_
    refine xg_icmp_gtZ hX n.toInt (31 : Nat) rfl (xn_ti (by omega)) 14 dM_isCount_7 (by decide) (fun hh_2 => ?_) (fun hh_2 => ?_)
    ·
      refine xg_iconst hX (nI 0) dM_isCount_14 (by decide) ?_
      refine xg_top (bI (icnt n)) (by unfold icnt; first | (rw [decide_eq_true (by omega)] <;> rfl) | (rw [decide_eq_false (by omega)] <;> rfl)) ?_
      exact hret () _ _ _ rfl (xn_narB _) trivial dM_isCount_15
    ·
      refine xg_iconst hX (nI 1) dM_isCount_10 (by decide) ?_
      refine xg_goto hX 15 dM_isCount_11 (by decide) ?_
      refine xg_top (bI (icnt n)) (by unfold icnt; first | (rw [decide_eq_true (by omega)] <;> rfl) | (rw [decide_eq_false (by omega)] <;> rfl)) ?_
      exact hret () _ _ _ rfl (xn_narB _) trivial dM_isCount_15
set_option maxHeartbeats 4000000 in
set_option maxRecDepth 100000 in
theorem yc_are (l : Launch) (D : va_G) (cI : ClassId) (a : Int32) (k : Nat) (hk : k ≤ 256) : Ctr l D cI yM_are cM_are 2 (some .boolean) { frames := 0, cells := 0, slots := 0, locals := 0 } [.int a, .int (nI k)] [] (fun _ : Unit => some (.int (bI (arB a k)))) (fun _ : Unit => True) (fun _ : Unit => []) 0 0 := by
  refine xc_mkZ (by decide +kernel) (Nat.le_of_ble_eq_true rfl) (fun X hX hret => ?_)
  show GG D X 0 0 0 [] [(0, .int a), (1, .int (nI k))] []
  refine xg_iload_n hX 0 dM_are_0 rfl rfl ?_
  refine xg_if_ltZ hX a.toInt rfl 17 dM_are_1 (by decide) (fun hh_1 => ?_) (fun hh_1 => ?_)
  ·
    refine xg_iconst hX (nI 0) dM_are_17 (by decide) ?_
    refine xg_top (bI (arB a k)) (by unfold arB; first | (rw [decide_eq_true (by omega)] <;> rfl) | (rw [decide_eq_false (by omega)] <;> rfl)) ?_
    exact hret () _ _ _ rfl (xn_narB _) trivial dM_are_18
  ·
    refine xg_iload_n hX 0 dM_are_4 rfl rfl ?_
    refine xg_sipush hX (nI 256) dM_are_5 (by decide) ?_
    refine xg_iload_n hX 1 dM_are_8 rfl rfl ?_
    refine xg_isubN hX (by omega) dM_are_9 ?_
    refine xg_icmp_gtZ hX a.toInt (256 - k : Nat) rfl (xn_ti (by omega)) 17 dM_are_10 (by decide) (fun hh_2 => ?_) (fun hh_2 => ?_)
    ·
      refine xg_iconst hX (nI 0) dM_are_17 (by decide) ?_
      refine xg_top (bI (arB a k)) (by unfold arB; first | (rw [decide_eq_true (by omega)] <;> rfl) | (rw [decide_eq_false (by omega)] <;> rfl)) ?_
      exact hret () _ _ _ rfl (xn_narB _) trivial dM_are_18
    ·
      refine xg_iconst hX (nI 1) dM_are_13 (by decide) ?_
      refine xg_goto hX 18 dM_are_14 (by decide) ?_
      refine xg_top (bI (arB a k)) (by unfold arB; first | (rw [decide_eq_true (by omega)] <;> rfl) | (rw [decide_eq_false (by omega)] <;> rfl)) ?_
      exact hret () _ _ _ rfl (xn_narB _) trivial dM_are_18
set_option maxHeartbeats 4000000 in
set_option maxRecDepth 100000 in
theorem yc_isThere (l : Launch) (D : va_G) (cI : ClassId) (n : Int32) (a : Int32) : Ctr l D cI yM_isThere cM_isThere 2 (some .boolean) { frames := 1, cells := 0, slots := 0, locals := 21 } [.int n, .int a] [] (fun _ : Unit => some (.int (bI (dfits n a)))) (fun _ : Unit => True) (fun _ : Unit => []) 0 0 := by
  refine xc_mkZ (by decide +kernel) (Nat.le_of_ble_eq_true rfl) (fun X hX hret => ?_)
  show GG D X 0 0 0 [] [(0, .int n), (1, .int a)] []
  refine xg_iload_n hX 0 dM_isThere_0 rfl rfl ?_
  refine xg_cS hX [.int n] (hM := yc_isCount l D cI n) (wr := []) (ws' := fun _ => []) (st' := fun _ => [.int (bI (icnt n))]) [] [] [] [] rfl mt_376 mt_374 mt_4 mt_375 hdM_isCount (by decide) ⟨rfl, rfl⟩ (by decide) rfl rfl (by decide) rfl (by decide) (by decide) (by decide) (fun u => rfl) (fun u => rfl) (fun u => rfl) rfl rfl (by simp [Value.category]) dM_isThere_1 (fun _ _ => ?_)
  refine xg_if_eqB hX 23 dM_isThere_4 (by decide) (fun h4 => ?_) (fun h4 => ?_)
  ·
    refine xg_iconst hX (nI 0) dM_isThere_23 (by decide) ?_
    refine xg_top (bI (dfits n a)) (by first | (rw [df_mk h4 h16] <;> rfl) | (rw [df_n1 h4] <;> rfl) | (rw [df_n2 h4 h16] <;> rfl)) ?_
    exact hret () _ _ _ rfl (xn_narB _) trivial dM_isThere_24
  ·
    refine xg_iload_n hX 1 dM_isThere_7 rfl rfl ?_
    refine xg_iload_n hX 0 dM_isThere_8 rfl rfl ?_
    refine xg_top (nI (tn n)) (xn_tn (ic_sp h4).1) ?_
    have e1 : tn n ≤ 31 := tn_le (ic_sp h4).2
    refine xg_iconst hX (nI 2) dM_isThere_9 (by decide) ?_
    refine xg_idivN hX (by omega) (by omega) (by omega) dM_isThere_10 ?_
    refine xg_iconst hX (nI 1) dM_isThere_11 (by decide) ?_
    refine xg_iaddN hX dM_isThere_12 ?_
    refine xg_cS hX [.int a, .int (nI (((tn n) / 2) + 1))] (hM := yc_are l D cI a (((tn n) / 2) + 1) (by omega)) (wr := []) (ws' := fun _ => []) (st' := fun _ => [.int (bI (arB a (((tn n) / 2) + 1)))]) [] [] [] [] rfl mt_379 mt_377 mt_4 mt_378 hdM_are (by decide) ⟨rfl, rfl⟩ (by decide) rfl rfl (by decide) rfl (by decide) (by decide) (by decide) (fun u => rfl) (fun u => rfl) (fun u => rfl) rfl rfl (by simp [Value.category]) dM_isThere_13 (fun _ _ => ?_)
    refine xg_if_eqB hX 23 dM_isThere_16 (by decide) (fun h16 => ?_) (fun h16 => ?_)
    ·
      refine xg_iconst hX (nI 0) dM_isThere_23 (by decide) ?_
      refine xg_top (bI (dfits n a)) (by first | (rw [df_mk h4 h16] <;> rfl) | (rw [df_n1 h4] <;> rfl) | (rw [df_n2 h4 h16] <;> rfl)) ?_
      exact hret () _ _ _ rfl (xn_narB _) trivial dM_isThere_24
    ·
      refine xg_iconst hX (nI 1) dM_isThere_19 (by decide) ?_
      refine xg_goto hX 24 dM_isThere_20 (by decide) ?_
      refine xg_top (bI (dfits n a)) (by first | (rw [df_mk h4 h16] <;> rfl) | (rw [df_n1 h4] <;> rfl) | (rw [df_n2 h4 h16] <;> rfl)) ?_
      exact hret () _ _ _ rfl (xn_narB _) trivial dM_isThere_24
set_option maxHeartbeats 4000000 in
set_option maxRecDepth 100000 in
theorem yc_read (l : Launch) (D : va_G) (cI : ClassId) (mq : Nat) (mm : Nat) (m1 : Nat) (m2 : Nat) (mo : Nat) (mr : Nat) (mw : Nat) (o1 : Bool) (o2 : Bool) (oo : Bool) (men : Bool) (M : Nat → Nat) (tp : Nat) (td : Nat → Nat) (n : Nat) (a : Nat) (hn : n ≤ 31) (ha : a + n / 2 < 256) (hM : ∀ j, M j < 256) : Ctr l D cI yM_read cM_read 10 (some .int) { frames := 0, cells := 0, slots := 0, locals := 0 } [.ref mq, .int (nI n), .int (nI a), .ref tp] [(mq, .inr (3, [.ref mm, .ref m1, .ref m2, .ref mo, .ref mr, .int (bI o1), .int (bI o2), .int (bI oo), .ref mw, .int (bI men)])), (mm, .inl (cI, 256, .inl (nf M))), (tp, .inl (cI, 200, .inl (nf td)))] (fun _ : Unit => some (.int (nI (rdV M n a)))) (fun _ : Unit => True) (fun _ : Unit => [(mq, .inr (3, [.ref mm, .ref m1, .ref m2, .ref mo, .ref mr, .int (bI o1), .int (bI o2), .int (bI oo), .ref mw, .int (bI men)])), (mm, .inl (cI, 256, .inl (nf M))), (tp, .inl (cI, 200, .inl (nf (rdD M n a))))]) 0 0 := by
  refine xc_mkI (by decide +kernel) (Nat.le_of_ble_eq_true rfl) (fun X hX hret => ?_)
  show GG D X 0 0 0 [(mq, .inr (3, [.ref mm, .ref m1, .ref m2, .ref mo, .ref mr, .int (bI o1), .int (bI o2), .int (bI oo), .ref mw, .int (bI men)])), (mm, .inl (cI, 256, .inl (nf M))), (tp, .inl (cI, 200, .inl (nf td)))] [(0, .ref mq), (1, .int (nI n)), (2, .int (nI a)), (3, .ref tp)] []
  refine xg_iconst hX (nI 0) dM_read_0 (by decide) ?_
  refine xg_istore hX (lv' := [(4, .int (nI 0)), (0, .ref mq), (1, .int (nI n)), (2, .int (nI a)), (3, .ref tp)]) dM_read_1 (by decide) rfl ?_
  have lp1 : ∀ (fu2 : Nat) (i : Nat), (i ≤ 200) → 200 - i < fu2 → GG D X 0 0 3 [(mq, .inr (3, [.ref mm, .ref m1, .ref m2, .ref mo, .ref mr, .int (bI o1), .int (bI o2), .int (bI oo), .ref mw, .int (bI men)])), (mm, .inl (cI, 256, .inl (nf M))), (tp, .inl (cI, 200, .inl (nf (mix i zf td))))] [(0, .ref mq), (1, .int (nI n)), (2, .int (nI a)), (3, .ref tp), (4, .int (nI i))] [] := by
    intro fu2
    induction fu2 with
    | zero => intro i hi hm4; exact absurd hm4 (Nat.not_lt_zero _)
    | succ fu2 ih3 =>
      intro i hi hm4
      refine xg_iload hX 4 dM_read_3 rfl ?_
      refine xg_sipush hX (nI 200) dM_read_5 (by decide) ?_
      refine xg_icmp_geN hX 22 (by omega) (by omega) dM_read_8 (by decide) (fun h8 => ?_) (fun h8 => ?_)
      ·
        refine xg_iload_n hX 2 dM_read_22 rfl rfl ?_
        refine xg_iload_n hX 1 dM_read_23 rfl rfl ?_
        refine xg_iconst hX (nI 2) dM_read_24 (by decide) ?_
        refine xg_idivN hX (by omega) (by omega) (by omega) dM_read_25 ?_
        refine xg_iaddN hX dM_read_26 ?_
        refine xg_istore hX (lv' := [(4, .int (nI (a + (n / 2)))), (0, .ref mq), (1, .int (nI n)), (2, .int (nI a)), (3, .ref tp)]) dM_read_27 (by decide) rfl ?_
        refine xg_aload_n hX 1 dM_read_29 rfl rfl ?_
        refine xg_get hX (ci := 3) rfl hinM 0 rfl 0 (by decide) mt_324 rfl dM_read_30 ?_
        refine xg_iload hX 0 dM_read_33 rfl ?_
        refine xg_iald hX 1 (a + (n / 2)) rfl (by omega) (by decide) dM_read_35 ?_
        have e0 := hM (a + (n / 2))
        refine xg_bipush hX (nI 16) dM_read_36 (by decide) ?_
        refine xg_iremN hX (by omega) (by omega) (by omega) dM_read_38 ?_
        refine xg_top (nI (hfE M n a 0)) (by rw [← hf_0]) ?_
        have e9 := hfE_lt M n a 0
        refine xg_istore hX (lv' := [(5, .int (nI (hfE M n a 0))), (4, .int (nI (a + (n / 2)))), (0, .ref mq), (1, .int (nI n)), (2, .int (nI a)), (3, .ref tp)]) dM_read_39 (by decide) rfl ?_
        refine xg_iload hX 0 dM_read_41 rfl ?_
        refine xg_bipush hX (nI 9) dM_read_43 (by decide) ?_
        refine xg_icmp_leN hX 52 (by omega) (by omega) dM_read_45 (by decide) (fun h45 => ?_) (fun h45 => ?_)
        ·
          refine xg_iconst hX (nI 0) dM_read_52 (by decide) ?_
          refine xg_istore hX (lv' := [(6, .int (nI 0)), (5, .int (nI (hfE M n a 0))), (4, .int (nI (a + (n / 2)))), (0, .ref mq), (1, .int (nI n)), (2, .int (nI a)), (3, .ref tp)]) dM_read_53 (by decide) rfl ?_
          refine xg_iconst hX (nI 0) dM_read_55 (by decide) ?_
          refine xg_istore hX (lv' := [(7, .int (nI 0)), (6, .int (nI 0)), (5, .int (nI (hfE M n a 0))), (4, .int (nI (a + (n / 2)))), (0, .ref mq), (1, .int (nI n)), (2, .int (nI a)), (3, .ref tp)]) dM_read_56 (by decide) rfl ?_
          have lp5 : ∀ (fu6 : Nat) (i : Nat), (i ≤ n) → n - i < fu6 → GG D X 0 0 58 [(mq, .inr (3, [.ref mm, .ref m1, .ref m2, .ref mo, .ref mr, .int (bI o1), .int (bI o2), .int (bI oo), .ref mw, .int (bI men)])), (mm, .inl (cI, 256, .inl (nf M))), (tp, .inl (cI, 200, .inl (nf (mix i (rdD M n a) zf))))] [(0, .ref mq), (1, .int (nI n)), (2, .int (nI a)), (3, .ref tp), (4, .int (nI (a + (n / 2)))), (5, .int (nI (hfE M n a 0))), (6, .int (bI (rdP M n a i))), (7, .int (nI i))] [] := by
            intro fu6
            induction fu6 with
            | zero => intro i hi hm8; exact absurd hm8 (Nat.not_lt_zero _)
            | succ fu6 ih7 =>
              intro i hi hm8
              have e1 := hfE_lt M n a (i + 1)
              have e2 := hM (a + n / 2 - (i + 1) / 2)
              refine xg_iload hX 7 dM_read_58 rfl ?_
              refine xg_iload_n hX 1 dM_read_60 rfl rfl ?_
              refine xg_icmp_geN hX 133 (by omega) (by omega) dM_read_61 (by decide) (fun h61 => ?_) (fun h61 => ?_)
              ·
                have hie : i = n := by omega
                have hgn : rdP M n a i = rdb M n a := by rw [hie]; exact rdP_n
                refine xg_ext hX (g := rdD M n a) (ws' := [(mq, .inr (3, [.ref mm, .ref m1, .ref m2, .ref mo, .ref mr, .int (bI o1), .int (bI o2), .int (bI oo), .ref mw, .int (bI men)])), (mm, .inl (cI, 256, .inl (nf M))), (tp, .inl (cI, 200, .inl (nf (rdD M n a))))]) 2 rfl (fun j hj => by rw [hie]; exact rdD_fin j) rfl ?_
                refine xg_iload hX 6 dM_read_133 rfl ?_
                refine xg_if_neB hX 142 dM_read_135 (by decide) (fun h135 => ?_) (fun h135 => ?_)
                ·
                  refine xg_iload hX 5 dM_read_142 rfl ?_
                  refine xg_bipush hX (nI 11) dM_read_144 (by decide) ?_
                  refine xg_icmp_eqN hX 156 (by omega) (by omega) dM_read_146 (by decide) (fun h146 => ?_) (fun h146 => ?_)
                  ·
                    refine xg_iconst hX (nI 2) dM_read_156 (by decide) ?_
                    refine xg_goto hX 161 dM_read_157 (by decide) ?_
                    refine xg_top (nI (rdV M n a)) (by unfold rdV; rw [← hgn, h135]; first | rfl | (rw [if_pos rfl, show rdG M n a = true from decide_eq_true (by omega)] <;> rfl) | (rw [if_pos rfl, show rdG M n a = false from decide_eq_false (by omega)] <;> rfl)) ?_
                    exact hret () _ _ _ rfl trivial dM_read_161
                  ·
                    refine xg_iload hX 5 dM_read_149 rfl ?_
                    refine xg_bipush hX (nI 13) dM_read_151 (by decide) ?_
                    refine xg_icmp_neN hX 160 (by omega) (by omega) dM_read_153 (by decide) (fun h153 => ?_) (fun h153 => ?_)
                    ·
                      refine xg_iconst hX (nI 1) dM_read_160 (by decide) ?_
                      refine xg_top (nI (rdV M n a)) (by unfold rdV; rw [← hgn, h135]; first | rfl | (rw [if_pos rfl, show rdG M n a = true from decide_eq_true (by omega)] <;> rfl) | (rw [if_pos rfl, show rdG M n a = false from decide_eq_false (by omega)] <;> rfl)) ?_
                      exact hret () _ _ _ rfl trivial dM_read_161
                    ·
                      refine xg_iconst hX (nI 2) dM_read_156 (by decide) ?_
                      refine xg_goto hX 161 dM_read_157 (by decide) ?_
                      refine xg_top (nI (rdV M n a)) (by unfold rdV; rw [← hgn, h135]; first | rfl | (rw [if_pos rfl, show rdG M n a = true from decide_eq_true (by omega)] <;> rfl) | (rw [if_pos rfl, show rdG M n a = false from decide_eq_false (by omega)] <;> rfl)) ?_
                      exact hret () _ _ _ rfl trivial dM_read_161
                ·
                  refine xg_iconst hX (nI 0) dM_read_138 (by decide) ?_
                  refine xg_goto hX 161 dM_read_139 (by decide) ?_
                  refine xg_top (nI (rdV M n a)) (by unfold rdV; rw [← hgn, h135]; first | rfl | (rw [if_pos rfl, show rdG M n a = true from decide_eq_true (by omega)] <;> rfl) | (rw [if_pos rfl, show rdG M n a = false from decide_eq_false (by omega)] <;> rfl)) ?_
                  exact hret () _ _ _ rfl trivial dM_read_161
              ·
                refine xg_aload_n hX 0 dM_read_64 rfl rfl ?_
                refine xg_get hX (ci := 3) rfl hinM 0 rfl 0 (by decide) mt_324 rfl dM_read_65 ?_
                refine xg_iload hX 4 dM_read_68 rfl ?_
                refine xg_iload hX 7 dM_read_70 rfl ?_
                refine xg_iconst hX (nI 1) dM_read_72 (by decide) ?_
                refine xg_iaddN hX dM_read_73 ?_
                refine xg_iconst hX (nI 2) dM_read_74 (by decide) ?_
                refine xg_idivN hX (by omega) (by omega) (by omega) dM_read_75 ?_
                refine xg_isubN hX (by omega) dM_read_76 ?_
                refine xg_iald hX 1 ((a + (n / 2)) - ((i + 1) / 2)) rfl (by omega) (by decide) dM_read_77 ?_
                refine xg_istore hX (lv' := [(8, .int (nI (M ((a + (n / 2)) - ((i + 1) / 2))))), (0, .ref mq), (1, .int (nI n)), (2, .int (nI a)), (3, .ref tp), (4, .int (nI (a + (n / 2)))), (5, .int (nI (hfE M n a 0))), (6, .int (bI (rdP M n a i))), (7, .int (nI i))]) dM_read_78 (by decide) rfl ?_
                refine xg_iload hX 8 dM_read_80 rfl ?_
                refine xg_iconst hX (nI 2) dM_read_82 (by decide) ?_
                refine xg_iremN hX (by omega) (by omega) (by omega) dM_read_83 ?_
                refine xg_if_neN hX 95 (by omega) dM_read_84 (by decide) (fun h84 => ?_) (fun h84 => ?_)
                ·
                  refine xg_iload hX 0 dM_read_95 rfl ?_
                  refine xg_bipush hX (nI 16) dM_read_97 (by decide) ?_
                  refine xg_iremN hX (by omega) (by omega) (by omega) dM_read_99 ?_
                  refine xg_top (nI (hfE M n a (i + 1))) (by rw [hf_o h84]) ?_
                  refine xg_istore hX (lv' := [(9, .int (nI (hfE M n a (i + 1)))), (8, .int (nI (M ((a + (n / 2)) - ((i + 1) / 2))))), (0, .ref mq), (1, .int (nI n)), (2, .int (nI a)), (3, .ref tp), (4, .int (nI (a + (n / 2)))), (5, .int (nI (hfE M n a 0))), (6, .int (bI (rdP M n a i))), (7, .int (nI i))]) dM_read_100 (by decide) rfl ?_
                  refine xg_iload hX 8 dM_read_102 rfl ?_
                  refine xg_if_eqB hX 118 dM_read_104 (by decide) (fun h104 => ?_) (fun h104 => ?_)
                  ·
                    refine xg_iconst hX (nI 0) dM_read_118 (by decide) ?_
                    refine xg_istore hX (lv' := [(6, .int (nI 0)), (9, .int (nI (hfE M n a (i + 1)))), (8, .int (nI (M ((a + (n / 2)) - ((i + 1) / 2))))), (0, .ref mq), (1, .int (nI n)), (2, .int (nI a)), (3, .ref tp), (4, .int (nI (a + (n / 2)))), (5, .int (nI (hfE M n a 0))), (7, .int (nI i))]) dM_read_119 (by decide) rfl ?_
                    refine xg_aload_n hX 6 dM_read_121 rfl rfl ?_
                    refine xg_iload hX 9 dM_read_122 rfl ?_
                    refine xg_iload hX 1 dM_read_124 rfl ?_
                    refine xg_iast hX (ws' := [(mq, .inr (3, [.ref mm, .ref m1, .ref m2, .ref mo, .ref mr, .int (bI o1), .int (bI o2), .int (bI oo), .ref mw, .int (bI men)])), (mm, .inl (cI, 256, .inl (nf M))), (tp, .inl (cI, 200, .inl (nf (up (mix i (rdD M n a) zf) i (hfE M n a (i + 1))))))]) 2 i (hfE M n a (i + 1)) rfl (by omega) (by decide) rfl dM_read_126 ?_
                    refine xg_iincN hX (lv' := [(7, .int (nI (i + 1))), (6, .int (nI 0)), (9, .int (nI (hfE M n a (i + 1)))), (8, .int (nI (M ((a + (n / 2)) - ((i + 1) / 2))))), (0, .ref mq), (1, .int (nI n)), (2, .int (nI a)), (3, .ref tp), (4, .int (nI (a + (n / 2)))), (5, .int (nI (hfE M n a 0)))]) (i + 1) 9 dM_read_127 rfl (xn_inc _) (by decide) rfl ?_
                    refine xg_goto hX 58 dM_read_130 (by decide) ?_
                    refine xg_ext hX (g := mix (i + 1) (rdD M n a) zf) (ws' := [(mq, .inr (3, [.ref mm, .ref m1, .ref m2, .ref mo, .ref mr, .int (bI o1), .int (bI o2), .int (bI oo), .ref mw, .int (bI men)])), (mm, .inl (cI, 256, .inl (nf M))), (tp, .inl (cI, 200, .inl (nf (mix (i + 1) (rdD M n a) zf))))]) 2 rfl (fun j hj => mix_up (rdD_at h61) j) rfl ?_
                    refine xg_lv hX (lv' := [(0, .ref mq), (1, .int (nI n)), (2, .int (nI a)), (3, .ref tp), (4, .int (nI (a + (n / 2)))), (5, .int (nI (hfE M n a 0))), (6, .int (nI 0)), (7, .int (nI (i + 1)))]) [4, 5, 6, 7, 8, 9, 1, 0] rfl ?_
                    refine xg_lvE (lv' := [(0, .ref mq), (1, .int (nI n)), (2, .int (nI a)), (3, .ref tp), (4, .int (nI (a + (n / 2)))), (5, .int (nI (hfE M n a 0))), (6, .int (bI (rdP M n a (i + 1)))), (7, .int (nI (i + 1)))]) (by rw [← (show (nI 0 : Int32) = bI (rdP M n a (i + 1)) from (by show _ = bI (rdP M n a i && decide (hfE M n a (i + 1) < 10)); rw [h104]; first | rfl | (rw [decide_eq_true h111] <;> rfl) | (rw [decide_eq_false (by omega)] <;> rfl)))]) ?_
                    exact ih7 (i + 1) (by omega) (by omega)
                  ·
                    refine xg_iload hX 0 dM_read_107 rfl ?_
                    refine xg_bipush hX (nI 10) dM_read_109 (by decide) ?_
                    refine xg_icmp_geN hX 118 (by omega) (by omega) dM_read_111 (by decide) (fun h111 => ?_) (fun h111 => ?_)
                    ·
                      refine xg_iconst hX (nI 0) dM_read_118 (by decide) ?_
                      refine xg_istore hX (lv' := [(6, .int (nI 0)), (9, .int (nI (hfE M n a (i + 1)))), (8, .int (nI (M ((a + (n / 2)) - ((i + 1) / 2))))), (0, .ref mq), (1, .int (nI n)), (2, .int (nI a)), (3, .ref tp), (4, .int (nI (a + (n / 2)))), (5, .int (nI (hfE M n a 0))), (7, .int (nI i))]) dM_read_119 (by decide) rfl ?_
                      refine xg_aload_n hX 6 dM_read_121 rfl rfl ?_
                      refine xg_iload hX 9 dM_read_122 rfl ?_
                      refine xg_iload hX 1 dM_read_124 rfl ?_
                      refine xg_iast hX (ws' := [(mq, .inr (3, [.ref mm, .ref m1, .ref m2, .ref mo, .ref mr, .int (bI o1), .int (bI o2), .int (bI oo), .ref mw, .int (bI men)])), (mm, .inl (cI, 256, .inl (nf M))), (tp, .inl (cI, 200, .inl (nf (up (mix i (rdD M n a) zf) i (hfE M n a (i + 1))))))]) 2 i (hfE M n a (i + 1)) rfl (by omega) (by decide) rfl dM_read_126 ?_
                      refine xg_iincN hX (lv' := [(7, .int (nI (i + 1))), (6, .int (nI 0)), (9, .int (nI (hfE M n a (i + 1)))), (8, .int (nI (M ((a + (n / 2)) - ((i + 1) / 2))))), (0, .ref mq), (1, .int (nI n)), (2, .int (nI a)), (3, .ref tp), (4, .int (nI (a + (n / 2)))), (5, .int (nI (hfE M n a 0)))]) (i + 1) 9 dM_read_127 rfl (xn_inc _) (by decide) rfl ?_
                      refine xg_goto hX 58 dM_read_130 (by decide) ?_
                      refine xg_ext hX (g := mix (i + 1) (rdD M n a) zf) (ws' := [(mq, .inr (3, [.ref mm, .ref m1, .ref m2, .ref mo, .ref mr, .int (bI o1), .int (bI o2), .int (bI oo), .ref mw, .int (bI men)])), (mm, .inl (cI, 256, .inl (nf M))), (tp, .inl (cI, 200, .inl (nf (mix (i + 1) (rdD M n a) zf))))]) 2 rfl (fun j hj => mix_up (rdD_at h61) j) rfl ?_
                      refine xg_lv hX (lv' := [(0, .ref mq), (1, .int (nI n)), (2, .int (nI a)), (3, .ref tp), (4, .int (nI (a + (n / 2)))), (5, .int (nI (hfE M n a 0))), (6, .int (nI 0)), (7, .int (nI (i + 1)))]) [4, 5, 6, 7, 8, 9, 1, 0] rfl ?_
                      refine xg_lvE (lv' := [(0, .ref mq), (1, .int (nI n)), (2, .int (nI a)), (3, .ref tp), (4, .int (nI (a + (n / 2)))), (5, .int (nI (hfE M n a 0))), (6, .int (bI (rdP M n a (i + 1)))), (7, .int (nI (i + 1)))]) (by rw [← (show (nI 0 : Int32) = bI (rdP M n a (i + 1)) from (by show _ = bI (rdP M n a i && decide (hfE M n a (i + 1) < 10)); rw [h104]; first | rfl | (rw [decide_eq_true h111] <;> rfl) | (rw [decide_eq_false (by omega)] <;> rfl)))]) ?_
                      exact ih7 (i + 1) (by omega) (by omega)
                    ·
                      refine xg_iconst hX (nI 1) dM_read_114 (by decide) ?_
                      refine xg_goto hX 119 dM_read_115 (by decide) ?_
                      refine xg_istore hX (lv' := [(6, .int (nI 1)), (9, .int (nI (hfE M n a (i + 1)))), (8, .int (nI (M ((a + (n / 2)) - ((i + 1) / 2))))), (0, .ref mq), (1, .int (nI n)), (2, .int (nI a)), (3, .ref tp), (4, .int (nI (a + (n / 2)))), (5, .int (nI (hfE M n a 0))), (7, .int (nI i))]) dM_read_119 (by decide) rfl ?_
                      refine xg_aload_n hX 6 dM_read_121 rfl rfl ?_
                      refine xg_iload hX 9 dM_read_122 rfl ?_
                      refine xg_iload hX 1 dM_read_124 rfl ?_
                      refine xg_iast hX (ws' := [(mq, .inr (3, [.ref mm, .ref m1, .ref m2, .ref mo, .ref mr, .int (bI o1), .int (bI o2), .int (bI oo), .ref mw, .int (bI men)])), (mm, .inl (cI, 256, .inl (nf M))), (tp, .inl (cI, 200, .inl (nf (up (mix i (rdD M n a) zf) i (hfE M n a (i + 1))))))]) 2 i (hfE M n a (i + 1)) rfl (by omega) (by decide) rfl dM_read_126 ?_
                      refine xg_iincN hX (lv' := [(7, .int (nI (i + 1))), (6, .int (nI 1)), (9, .int (nI (hfE M n a (i + 1)))), (8, .int (nI (M ((a + (n / 2)) - ((i + 1) / 2))))), (0, .ref mq), (1, .int (nI n)), (2, .int (nI a)), (3, .ref tp), (4, .int (nI (a + (n / 2)))), (5, .int (nI (hfE M n a 0)))]) (i + 1) 9 dM_read_127 rfl (xn_inc _) (by decide) rfl ?_
                      refine xg_goto hX 58 dM_read_130 (by decide) ?_
                      refine xg_ext hX (g := mix (i + 1) (rdD M n a) zf) (ws' := [(mq, .inr (3, [.ref mm, .ref m1, .ref m2, .ref mo, .ref mr, .int (bI o1), .int (bI o2), .int (bI oo), .ref mw, .int (bI men)])), (mm, .inl (cI, 256, .inl (nf M))), (tp, .inl (cI, 200, .inl (nf (mix (i + 1) (rdD M n a) zf))))]) 2 rfl (fun j hj => mix_up (rdD_at h61) j) rfl ?_
                      refine xg_lv hX (lv' := [(0, .ref mq), (1, .int (nI n)), (2, .int (nI a)), (3, .ref tp), (4, .int (nI (a + (n / 2)))), (5, .int (nI (hfE M n a 0))), (6, .int (nI 1)), (7, .int (nI (i + 1)))]) [4, 5, 6, 7, 8, 9, 1, 0] rfl ?_
                      refine xg_lvE (lv' := [(0, .ref mq), (1, .int (nI n)), (2, .int (nI a)), (3, .ref tp), (4, .int (nI (a + (n / 2)))), (5, .int (nI (hfE M n a 0))), (6, .int (bI (rdP M n a (i + 1)))), (7, .int (nI (i + 1)))]) (by rw [← (show (nI 1 : Int32) = bI (rdP M n a (i + 1)) from (by show _ = bI (rdP M n a i && decide (hfE M n a (i + 1) < 10)); rw [h104]; first | rfl | (rw [decide_eq_true h111] <;> rfl) | (rw [decide_eq_false (by omega)] <;> rfl)))]) ?_
                      exact ih7 (i + 1) (by omega) (by omega)
                ·
                  refine xg_iload hX 0 dM_read_87 rfl ?_
                  refine xg_bipush hX (nI 16) dM_read_89 (by decide) ?_
                  refine xg_idivN hX (by omega) (by omega) (by omega) dM_read_91 ?_
                  refine xg_top (nI (hfE M n a (i + 1))) (by rw [hf_e hM h84]) ?_
                  refine xg_goto hX 100 dM_read_92 (by decide) ?_
                  refine xg_istore hX (lv' := [(9, .int (nI (hfE M n a (i + 1)))), (8, .int (nI (M ((a + (n / 2)) - ((i + 1) / 2))))), (0, .ref mq), (1, .int (nI n)), (2, .int (nI a)), (3, .ref tp), (4, .int (nI (a + (n / 2)))), (5, .int (nI (hfE M n a 0))), (6, .int (bI (rdP M n a i))), (7, .int (nI i))]) dM_read_100 (by decide) rfl ?_
                  refine xg_iload hX 8 dM_read_102 rfl ?_
                  refine xg_if_eqB hX 118 dM_read_104 (by decide) (fun h104 => ?_) (fun h104 => ?_)
                  ·
                    refine xg_iconst hX (nI 0) dM_read_118 (by decide) ?_
                    refine xg_istore hX (lv' := [(6, .int (nI 0)), (9, .int (nI (hfE M n a (i + 1)))), (8, .int (nI (M ((a + (n / 2)) - ((i + 1) / 2))))), (0, .ref mq), (1, .int (nI n)), (2, .int (nI a)), (3, .ref tp), (4, .int (nI (a + (n / 2)))), (5, .int (nI (hfE M n a 0))), (7, .int (nI i))]) dM_read_119 (by decide) rfl ?_
                    refine xg_aload_n hX 6 dM_read_121 rfl rfl ?_
                    refine xg_iload hX 9 dM_read_122 rfl ?_
                    refine xg_iload hX 1 dM_read_124 rfl ?_
                    refine xg_iast hX (ws' := [(mq, .inr (3, [.ref mm, .ref m1, .ref m2, .ref mo, .ref mr, .int (bI o1), .int (bI o2), .int (bI oo), .ref mw, .int (bI men)])), (mm, .inl (cI, 256, .inl (nf M))), (tp, .inl (cI, 200, .inl (nf (up (mix i (rdD M n a) zf) i (hfE M n a (i + 1))))))]) 2 i (hfE M n a (i + 1)) rfl (by omega) (by decide) rfl dM_read_126 ?_
                    refine xg_iincN hX (lv' := [(7, .int (nI (i + 1))), (6, .int (nI 0)), (9, .int (nI (hfE M n a (i + 1)))), (8, .int (nI (M ((a + (n / 2)) - ((i + 1) / 2))))), (0, .ref mq), (1, .int (nI n)), (2, .int (nI a)), (3, .ref tp), (4, .int (nI (a + (n / 2)))), (5, .int (nI (hfE M n a 0)))]) (i + 1) 9 dM_read_127 rfl (xn_inc _) (by decide) rfl ?_
                    refine xg_goto hX 58 dM_read_130 (by decide) ?_
                    refine xg_ext hX (g := mix (i + 1) (rdD M n a) zf) (ws' := [(mq, .inr (3, [.ref mm, .ref m1, .ref m2, .ref mo, .ref mr, .int (bI o1), .int (bI o2), .int (bI oo), .ref mw, .int (bI men)])), (mm, .inl (cI, 256, .inl (nf M))), (tp, .inl (cI, 200, .inl (nf (mix (i + 1) (rdD M n a) zf))))]) 2 rfl (fun j hj => mix_up (rdD_at h61) j) rfl ?_
                    refine xg_lv hX (lv' := [(0, .ref mq), (1, .int (nI n)), (2, .int (nI a)), (3, .ref tp), (4, .int (nI (a + (n / 2)))), (5, .int (nI (hfE M n a 0))), (6, .int (nI 0)), (7, .int (nI (i + 1)))]) [4, 5, 6, 7, 8, 9, 1, 0] rfl ?_
                    refine xg_lvE (lv' := [(0, .ref mq), (1, .int (nI n)), (2, .int (nI a)), (3, .ref tp), (4, .int (nI (a + (n / 2)))), (5, .int (nI (hfE M n a 0))), (6, .int (bI (rdP M n a (i + 1)))), (7, .int (nI (i + 1)))]) (by rw [← (show (nI 0 : Int32) = bI (rdP M n a (i + 1)) from (by show _ = bI (rdP M n a i && decide (hfE M n a (i + 1) < 10)); rw [h104]; first | rfl | (rw [decide_eq_true h111] <;> rfl) | (rw [decide_eq_false (by omega)] <;> rfl)))]) ?_
                    exact ih7 (i + 1) (by omega) (by omega)
                  ·
                    refine xg_iload hX 0 dM_read_107 rfl ?_
                    refine xg_bipush hX (nI 10) dM_read_109 (by decide) ?_
                    refine xg_icmp_geN hX 118 (by omega) (by omega) dM_read_111 (by decide) (fun h111 => ?_) (fun h111 => ?_)
                    ·
                      refine xg_iconst hX (nI 0) dM_read_118 (by decide) ?_
                      refine xg_istore hX (lv' := [(6, .int (nI 0)), (9, .int (nI (hfE M n a (i + 1)))), (8, .int (nI (M ((a + (n / 2)) - ((i + 1) / 2))))), (0, .ref mq), (1, .int (nI n)), (2, .int (nI a)), (3, .ref tp), (4, .int (nI (a + (n / 2)))), (5, .int (nI (hfE M n a 0))), (7, .int (nI i))]) dM_read_119 (by decide) rfl ?_
                      refine xg_aload_n hX 6 dM_read_121 rfl rfl ?_
                      refine xg_iload hX 9 dM_read_122 rfl ?_
                      refine xg_iload hX 1 dM_read_124 rfl ?_
                      refine xg_iast hX (ws' := [(mq, .inr (3, [.ref mm, .ref m1, .ref m2, .ref mo, .ref mr, .int (bI o1), .int (bI o2), .int (bI oo), .ref mw, .int (bI men)])), (mm, .inl (cI, 256, .inl (nf M))), (tp, .inl (cI, 200, .inl (nf (up (mix i (rdD M n a) zf) i (hfE M n a (i + 1))))))]) 2 i (hfE M n a (i + 1)) rfl (by omega) (by decide) rfl dM_read_126 ?_
                      refine xg_iincN hX (lv' := [(7, .int (nI (i + 1))), (6, .int (nI 0)), (9, .int (nI (hfE M n a (i + 1)))), (8, .int (nI (M ((a + (n / 2)) - ((i + 1) / 2))))), (0, .ref mq), (1, .int (nI n)), (2, .int (nI a)), (3, .ref tp), (4, .int (nI (a + (n / 2)))), (5, .int (nI (hfE M n a 0)))]) (i + 1) 9 dM_read_127 rfl (xn_inc _) (by decide) rfl ?_
                      refine xg_goto hX 58 dM_read_130 (by decide) ?_
                      refine xg_ext hX (g := mix (i + 1) (rdD M n a) zf) (ws' := [(mq, .inr (3, [.ref mm, .ref m1, .ref m2, .ref mo, .ref mr, .int (bI o1), .int (bI o2), .int (bI oo), .ref mw, .int (bI men)])), (mm, .inl (cI, 256, .inl (nf M))), (tp, .inl (cI, 200, .inl (nf (mix (i + 1) (rdD M n a) zf))))]) 2 rfl (fun j hj => mix_up (rdD_at h61) j) rfl ?_
                      refine xg_lv hX (lv' := [(0, .ref mq), (1, .int (nI n)), (2, .int (nI a)), (3, .ref tp), (4, .int (nI (a + (n / 2)))), (5, .int (nI (hfE M n a 0))), (6, .int (nI 0)), (7, .int (nI (i + 1)))]) [4, 5, 6, 7, 8, 9, 1, 0] rfl ?_
                      refine xg_lvE (lv' := [(0, .ref mq), (1, .int (nI n)), (2, .int (nI a)), (3, .ref tp), (4, .int (nI (a + (n / 2)))), (5, .int (nI (hfE M n a 0))), (6, .int (bI (rdP M n a (i + 1)))), (7, .int (nI (i + 1)))]) (by rw [← (show (nI 0 : Int32) = bI (rdP M n a (i + 1)) from (by show _ = bI (rdP M n a i && decide (hfE M n a (i + 1) < 10)); rw [h104]; first | rfl | (rw [decide_eq_true h111] <;> rfl) | (rw [decide_eq_false (by omega)] <;> rfl)))]) ?_
                      exact ih7 (i + 1) (by omega) (by omega)
                    ·
                      refine xg_iconst hX (nI 1) dM_read_114 (by decide) ?_
                      refine xg_goto hX 119 dM_read_115 (by decide) ?_
                      refine xg_istore hX (lv' := [(6, .int (nI 1)), (9, .int (nI (hfE M n a (i + 1)))), (8, .int (nI (M ((a + (n / 2)) - ((i + 1) / 2))))), (0, .ref mq), (1, .int (nI n)), (2, .int (nI a)), (3, .ref tp), (4, .int (nI (a + (n / 2)))), (5, .int (nI (hfE M n a 0))), (7, .int (nI i))]) dM_read_119 (by decide) rfl ?_
                      refine xg_aload_n hX 6 dM_read_121 rfl rfl ?_
                      refine xg_iload hX 9 dM_read_122 rfl ?_
                      refine xg_iload hX 1 dM_read_124 rfl ?_
                      refine xg_iast hX (ws' := [(mq, .inr (3, [.ref mm, .ref m1, .ref m2, .ref mo, .ref mr, .int (bI o1), .int (bI o2), .int (bI oo), .ref mw, .int (bI men)])), (mm, .inl (cI, 256, .inl (nf M))), (tp, .inl (cI, 200, .inl (nf (up (mix i (rdD M n a) zf) i (hfE M n a (i + 1))))))]) 2 i (hfE M n a (i + 1)) rfl (by omega) (by decide) rfl dM_read_126 ?_
                      refine xg_iincN hX (lv' := [(7, .int (nI (i + 1))), (6, .int (nI 1)), (9, .int (nI (hfE M n a (i + 1)))), (8, .int (nI (M ((a + (n / 2)) - ((i + 1) / 2))))), (0, .ref mq), (1, .int (nI n)), (2, .int (nI a)), (3, .ref tp), (4, .int (nI (a + (n / 2)))), (5, .int (nI (hfE M n a 0)))]) (i + 1) 9 dM_read_127 rfl (xn_inc _) (by decide) rfl ?_
                      refine xg_goto hX 58 dM_read_130 (by decide) ?_
                      refine xg_ext hX (g := mix (i + 1) (rdD M n a) zf) (ws' := [(mq, .inr (3, [.ref mm, .ref m1, .ref m2, .ref mo, .ref mr, .int (bI o1), .int (bI o2), .int (bI oo), .ref mw, .int (bI men)])), (mm, .inl (cI, 256, .inl (nf M))), (tp, .inl (cI, 200, .inl (nf (mix (i + 1) (rdD M n a) zf))))]) 2 rfl (fun j hj => mix_up (rdD_at h61) j) rfl ?_
                      refine xg_lv hX (lv' := [(0, .ref mq), (1, .int (nI n)), (2, .int (nI a)), (3, .ref tp), (4, .int (nI (a + (n / 2)))), (5, .int (nI (hfE M n a 0))), (6, .int (nI 1)), (7, .int (nI (i + 1)))]) [4, 5, 6, 7, 8, 9, 1, 0] rfl ?_
                      refine xg_lvE (lv' := [(0, .ref mq), (1, .int (nI n)), (2, .int (nI a)), (3, .ref tp), (4, .int (nI (a + (n / 2)))), (5, .int (nI (hfE M n a 0))), (6, .int (bI (rdP M n a (i + 1)))), (7, .int (nI (i + 1)))]) (by rw [← (show (nI 1 : Int32) = bI (rdP M n a (i + 1)) from (by show _ = bI (rdP M n a i && decide (hfE M n a (i + 1) < 10)); rw [h104]; first | rfl | (rw [decide_eq_true h111] <;> rfl) | (rw [decide_eq_false (by omega)] <;> rfl)))]) ?_
                      exact ih7 (i + 1) (by omega) (by omega)
          refine xg_ext hX (g := mix 0 (rdD M n a) zf) (ws' := [(mq, .inr (3, [.ref mm, .ref m1, .ref m2, .ref mo, .ref mr, .int (bI o1), .int (bI o2), .int (bI oo), .ref mw, .int (bI men)])), (mm, .inl (cI, 256, .inl (nf M))), (tp, .inl (cI, 200, .inl (nf (mix 0 (rdD M n a) zf))))]) 2 rfl (fun j hj => by rw [mix_lo (show j < i from by omega)]; exact mix_0 j) rfl ?_
          refine xg_lv hX (lv' := [(0, .ref mq), (1, .int (nI n)), (2, .int (nI a)), (3, .ref tp), (4, .int (nI (a + (n / 2)))), (5, .int (nI (hfE M n a 0))), (6, .int (nI 0)), (7, .int (nI 0))]) [4, 5, 6, 7, 3, 2, 1, 0] rfl ?_
          refine xg_lvE (lv' := [(0, .ref mq), (1, .int (nI n)), (2, .int (nI a)), (3, .ref tp), (4, .int (nI (a + (n / 2)))), (5, .int (nI (hfE M n a 0))), (6, .int (bI (rdP M n a 0))), (7, .int (nI 0))]) (by rw [← (show (nI 0 : Int32) = bI (rdP M n a 0) from (by first | (rw [show rdP M n a 0 = true from decide_eq_true h45] <;> rfl) | (rw [show rdP M n a 0 = false from decide_eq_false (by omega)] <;> rfl)))]) ?_
          exact lp5 (n - 0 + 1) 0 (by omega) (Nat.lt_succ_self _)
        ·
          refine xg_iconst hX (nI 1) dM_read_48 (by decide) ?_
          refine xg_goto hX 53 dM_read_49 (by decide) ?_
          refine xg_istore hX (lv' := [(6, .int (nI 1)), (5, .int (nI (hfE M n a 0))), (4, .int (nI (a + (n / 2)))), (0, .ref mq), (1, .int (nI n)), (2, .int (nI a)), (3, .ref tp)]) dM_read_53 (by decide) rfl ?_
          refine xg_iconst hX (nI 0) dM_read_55 (by decide) ?_
          refine xg_istore hX (lv' := [(7, .int (nI 0)), (6, .int (nI 1)), (5, .int (nI (hfE M n a 0))), (4, .int (nI (a + (n / 2)))), (0, .ref mq), (1, .int (nI n)), (2, .int (nI a)), (3, .ref tp)]) dM_read_56 (by decide) rfl ?_
          have lp9 : ∀ (fu10 : Nat) (i : Nat), (i ≤ n) → n - i < fu10 → GG D X 0 0 58 [(mq, .inr (3, [.ref mm, .ref m1, .ref m2, .ref mo, .ref mr, .int (bI o1), .int (bI o2), .int (bI oo), .ref mw, .int (bI men)])), (mm, .inl (cI, 256, .inl (nf M))), (tp, .inl (cI, 200, .inl (nf (mix i (rdD M n a) zf))))] [(0, .ref mq), (1, .int (nI n)), (2, .int (nI a)), (3, .ref tp), (4, .int (nI (a + (n / 2)))), (5, .int (nI (hfE M n a 0))), (6, .int (bI (rdP M n a i))), (7, .int (nI i))] [] := by
            intro fu10
            induction fu10 with
            | zero => intro i hi hm12; exact absurd hm12 (Nat.not_lt_zero _)
            | succ fu10 ih11 =>
              intro i hi hm12
              have e1 := hfE_lt M n a (i + 1)
              have e2 := hM (a + n / 2 - (i + 1) / 2)
              refine xg_iload hX 7 dM_read_58 rfl ?_
              refine xg_iload_n hX 1 dM_read_60 rfl rfl ?_
              refine xg_icmp_geN hX 133 (by omega) (by omega) dM_read_61 (by decide) (fun h61 => ?_) (fun h61 => ?_)
              ·
                have hie : i = n := by omega
                have hgn : rdP M n a i = rdb M n a := by rw [hie]; exact rdP_n
                refine xg_ext hX (g := rdD M n a) (ws' := [(mq, .inr (3, [.ref mm, .ref m1, .ref m2, .ref mo, .ref mr, .int (bI o1), .int (bI o2), .int (bI oo), .ref mw, .int (bI men)])), (mm, .inl (cI, 256, .inl (nf M))), (tp, .inl (cI, 200, .inl (nf (rdD M n a))))]) 2 rfl (fun j hj => by rw [hie]; exact rdD_fin j) rfl ?_
                refine xg_iload hX 6 dM_read_133 rfl ?_
                refine xg_if_neB hX 142 dM_read_135 (by decide) (fun h135 => ?_) (fun h135 => ?_)
                ·
                  refine xg_iload hX 5 dM_read_142 rfl ?_
                  refine xg_bipush hX (nI 11) dM_read_144 (by decide) ?_
                  refine xg_icmp_eqN hX 156 (by omega) (by omega) dM_read_146 (by decide) (fun h146 => ?_) (fun h146 => ?_)
                  ·
                    refine xg_iconst hX (nI 2) dM_read_156 (by decide) ?_
                    refine xg_goto hX 161 dM_read_157 (by decide) ?_
                    refine xg_top (nI (rdV M n a)) (by unfold rdV; rw [← hgn, h135]; first | rfl | (rw [if_pos rfl, show rdG M n a = true from decide_eq_true (by omega)] <;> rfl) | (rw [if_pos rfl, show rdG M n a = false from decide_eq_false (by omega)] <;> rfl)) ?_
                    exact hret () _ _ _ rfl trivial dM_read_161
                  ·
                    refine xg_iload hX 5 dM_read_149 rfl ?_
                    refine xg_bipush hX (nI 13) dM_read_151 (by decide) ?_
                    refine xg_icmp_neN hX 160 (by omega) (by omega) dM_read_153 (by decide) (fun h153 => ?_) (fun h153 => ?_)
                    ·
                      refine xg_iconst hX (nI 1) dM_read_160 (by decide) ?_
                      refine xg_top (nI (rdV M n a)) (by unfold rdV; rw [← hgn, h135]; first | rfl | (rw [if_pos rfl, show rdG M n a = true from decide_eq_true (by omega)] <;> rfl) | (rw [if_pos rfl, show rdG M n a = false from decide_eq_false (by omega)] <;> rfl)) ?_
                      exact hret () _ _ _ rfl trivial dM_read_161
                    ·
                      refine xg_iconst hX (nI 2) dM_read_156 (by decide) ?_
                      refine xg_goto hX 161 dM_read_157 (by decide) ?_
                      refine xg_top (nI (rdV M n a)) (by unfold rdV; rw [← hgn, h135]; first | rfl | (rw [if_pos rfl, show rdG M n a = true from decide_eq_true (by omega)] <;> rfl) | (rw [if_pos rfl, show rdG M n a = false from decide_eq_false (by omega)] <;> rfl)) ?_
                      exact hret () _ _ _ rfl trivial dM_read_161
                ·
                  refine xg_iconst hX (nI 0) dM_read_138 (by decide) ?_
                  refine xg_goto hX 161 dM_read_139 (by decide) ?_
                  refine xg_top (nI (rdV M n a)) (by unfold rdV; rw [← hgn, h135]; first | rfl | (rw [if_pos rfl, show rdG M n a = true from decide_eq_true (by omega)] <;> rfl) | (rw [if_pos rfl, show rdG M n a = false from decide_eq_false (by omega)] <;> rfl)) ?_
                  exact hret () _ _ _ rfl trivial dM_read_161
              ·
                refine xg_aload_n hX 0 dM_read_64 rfl rfl ?_
                refine xg_get hX (ci := 3) rfl hinM 0 rfl 0 (by decide) mt_324 rfl dM_read_65 ?_
                refine xg_iload hX 4 dM_read_68 rfl ?_
                refine xg_iload hX 7 dM_read_70 rfl ?_
                refine xg_iconst hX (nI 1) dM_read_72 (by decide) ?_
                refine xg_iaddN hX dM_read_73 ?_
                refine xg_iconst hX (nI 2) dM_read_74 (by decide) ?_
                refine xg_idivN hX (by omega) (by omega) (by omega) dM_read_75 ?_
                refine xg_isubN hX (by omega) dM_read_76 ?_
                refine xg_iald hX 1 ((a + (n / 2)) - ((i + 1) / 2)) rfl (by omega) (by decide) dM_read_77 ?_
                refine xg_istore hX (lv' := [(8, .int (nI (M ((a + (n / 2)) - ((i + 1) / 2))))), (0, .ref mq), (1, .int (nI n)), (2, .int (nI a)), (3, .ref tp), (4, .int (nI (a + (n / 2)))), (5, .int (nI (hfE M n a 0))), (6, .int (bI (rdP M n a i))), (7, .int (nI i))]) dM_read_78 (by decide) rfl ?_
                refine xg_iload hX 8 dM_read_80 rfl ?_
                refine xg_iconst hX (nI 2) dM_read_82 (by decide) ?_
                refine xg_iremN hX (by omega) (by omega) (by omega) dM_read_83 ?_
                refine xg_if_neN hX 95 (by omega) dM_read_84 (by decide) (fun h84 => ?_) (fun h84 => ?_)
                ·
                  refine xg_iload hX 0 dM_read_95 rfl ?_
                  refine xg_bipush hX (nI 16) dM_read_97 (by decide) ?_
                  refine xg_iremN hX (by omega) (by omega) (by omega) dM_read_99 ?_
                  refine xg_top (nI (hfE M n a (i + 1))) (by rw [hf_o h84]) ?_
                  refine xg_istore hX (lv' := [(9, .int (nI (hfE M n a (i + 1)))), (8, .int (nI (M ((a + (n / 2)) - ((i + 1) / 2))))), (0, .ref mq), (1, .int (nI n)), (2, .int (nI a)), (3, .ref tp), (4, .int (nI (a + (n / 2)))), (5, .int (nI (hfE M n a 0))), (6, .int (bI (rdP M n a i))), (7, .int (nI i))]) dM_read_100 (by decide) rfl ?_
                  refine xg_iload hX 8 dM_read_102 rfl ?_
                  refine xg_if_eqB hX 118 dM_read_104 (by decide) (fun h104 => ?_) (fun h104 => ?_)
                  ·
                    refine xg_iconst hX (nI 0) dM_read_118 (by decide) ?_
                    refine xg_istore hX (lv' := [(6, .int (nI 0)), (9, .int (nI (hfE M n a (i + 1)))), (8, .int (nI (M ((a + (n / 2)) - ((i + 1) / 2))))), (0, .ref mq), (1, .int (nI n)), (2, .int (nI a)), (3, .ref tp), (4, .int (nI (a + (n / 2)))), (5, .int (nI (hfE M n a 0))), (7, .int (nI i))]) dM_read_119 (by decide) rfl ?_
                    refine xg_aload_n hX 6 dM_read_121 rfl rfl ?_
                    refine xg_iload hX 9 dM_read_122 rfl ?_
                    refine xg_iload hX 1 dM_read_124 rfl ?_
                    refine xg_iast hX (ws' := [(mq, .inr (3, [.ref mm, .ref m1, .ref m2, .ref mo, .ref mr, .int (bI o1), .int (bI o2), .int (bI oo), .ref mw, .int (bI men)])), (mm, .inl (cI, 256, .inl (nf M))), (tp, .inl (cI, 200, .inl (nf (up (mix i (rdD M n a) zf) i (hfE M n a (i + 1))))))]) 2 i (hfE M n a (i + 1)) rfl (by omega) (by decide) rfl dM_read_126 ?_
                    refine xg_iincN hX (lv' := [(7, .int (nI (i + 1))), (6, .int (nI 0)), (9, .int (nI (hfE M n a (i + 1)))), (8, .int (nI (M ((a + (n / 2)) - ((i + 1) / 2))))), (0, .ref mq), (1, .int (nI n)), (2, .int (nI a)), (3, .ref tp), (4, .int (nI (a + (n / 2)))), (5, .int (nI (hfE M n a 0)))]) (i + 1) 9 dM_read_127 rfl (xn_inc _) (by decide) rfl ?_
                    refine xg_goto hX 58 dM_read_130 (by decide) ?_
                    refine xg_ext hX (g := mix (i + 1) (rdD M n a) zf) (ws' := [(mq, .inr (3, [.ref mm, .ref m1, .ref m2, .ref mo, .ref mr, .int (bI o1), .int (bI o2), .int (bI oo), .ref mw, .int (bI men)])), (mm, .inl (cI, 256, .inl (nf M))), (tp, .inl (cI, 200, .inl (nf (mix (i + 1) (rdD M n a) zf))))]) 2 rfl (fun j hj => mix_up (rdD_at h61) j) rfl ?_
                    refine xg_lv hX (lv' := [(0, .ref mq), (1, .int (nI n)), (2, .int (nI a)), (3, .ref tp), (4, .int (nI (a + (n / 2)))), (5, .int (nI (hfE M n a 0))), (6, .int (nI 0)), (7, .int (nI (i + 1)))]) [4, 5, 6, 7, 8, 9, 1, 0] rfl ?_
                    refine xg_lvE (lv' := [(0, .ref mq), (1, .int (nI n)), (2, .int (nI a)), (3, .ref tp), (4, .int (nI (a + (n / 2)))), (5, .int (nI (hfE M n a 0))), (6, .int (bI (rdP M n a (i + 1)))), (7, .int (nI (i + 1)))]) (by rw [← (show (nI 0 : Int32) = bI (rdP M n a (i + 1)) from (by show _ = bI (rdP M n a i && decide (hfE M n a (i + 1) < 10)); rw [h104]; first | rfl | (rw [decide_eq_true h111] <;> rfl) | (rw [decide_eq_false (by omega)] <;> rfl)))]) ?_
                    exact ih11 (i + 1) (by omega) (by omega)
                  ·
                    refine xg_iload hX 0 dM_read_107 rfl ?_
                    refine xg_bipush hX (nI 10) dM_read_109 (by decide) ?_
                    refine xg_icmp_geN hX 118 (by omega) (by omega) dM_read_111 (by decide) (fun h111 => ?_) (fun h111 => ?_)
                    ·
                      refine xg_iconst hX (nI 0) dM_read_118 (by decide) ?_
                      refine xg_istore hX (lv' := [(6, .int (nI 0)), (9, .int (nI (hfE M n a (i + 1)))), (8, .int (nI (M ((a + (n / 2)) - ((i + 1) / 2))))), (0, .ref mq), (1, .int (nI n)), (2, .int (nI a)), (3, .ref tp), (4, .int (nI (a + (n / 2)))), (5, .int (nI (hfE M n a 0))), (7, .int (nI i))]) dM_read_119 (by decide) rfl ?_
                      refine xg_aload_n hX 6 dM_read_121 rfl rfl ?_
                      refine xg_iload hX 9 dM_read_122 rfl ?_
                      refine xg_iload hX 1 dM_read_124 rfl ?_
                      refine xg_iast hX (ws' := [(mq, .inr (3, [.ref mm, .ref m1, .ref m2, .ref mo, .ref mr, .int (bI o1), .int (bI o2), .int (bI oo), .ref mw, .int (bI men)])), (mm, .inl (cI, 256, .inl (nf M))), (tp, .inl (cI, 200, .inl (nf (up (mix i (rdD M n a) zf) i (hfE M n a (i + 1))))))]) 2 i (hfE M n a (i + 1)) rfl (by omega) (by decide) rfl dM_read_126 ?_
                      refine xg_iincN hX (lv' := [(7, .int (nI (i + 1))), (6, .int (nI 0)), (9, .int (nI (hfE M n a (i + 1)))), (8, .int (nI (M ((a + (n / 2)) - ((i + 1) / 2))))), (0, .ref mq), (1, .int (nI n)), (2, .int (nI a)), (3, .ref tp), (4, .int (nI (a + (n / 2)))), (5, .int (nI (hfE M n a 0)))]) (i + 1) 9 dM_read_127 rfl (xn_inc _) (by decide) rfl ?_
                      refine xg_goto hX 58 dM_read_130 (by decide) ?_
                      refine xg_ext hX (g := mix (i + 1) (rdD M n a) zf) (ws' := [(mq, .inr (3, [.ref mm, .ref m1, .ref m2, .ref mo, .ref mr, .int (bI o1), .int (bI o2), .int (bI oo), .ref mw, .int (bI men)])), (mm, .inl (cI, 256, .inl (nf M))), (tp, .inl (cI, 200, .inl (nf (mix (i + 1) (rdD M n a) zf))))]) 2 rfl (fun j hj => mix_up (rdD_at h61) j) rfl ?_
                      refine xg_lv hX (lv' := [(0, .ref mq), (1, .int (nI n)), (2, .int (nI a)), (3, .ref tp), (4, .int (nI (a + (n / 2)))), (5, .int (nI (hfE M n a 0))), (6, .int (nI 0)), (7, .int (nI (i + 1)))]) [4, 5, 6, 7, 8, 9, 1, 0] rfl ?_
                      refine xg_lvE (lv' := [(0, .ref mq), (1, .int (nI n)), (2, .int (nI a)), (3, .ref tp), (4, .int (nI (a + (n / 2)))), (5, .int (nI (hfE M n a 0))), (6, .int (bI (rdP M n a (i + 1)))), (7, .int (nI (i + 1)))]) (by rw [← (show (nI 0 : Int32) = bI (rdP M n a (i + 1)) from (by show _ = bI (rdP M n a i && decide (hfE M n a (i + 1) < 10)); rw [h104]; first | rfl | (rw [decide_eq_true h111] <;> rfl) | (rw [decide_eq_false (by omega)] <;> rfl)))]) ?_
                      exact ih11 (i + 1) (by omega) (by omega)
                    ·
                      refine xg_iconst hX (nI 1) dM_read_114 (by decide) ?_
                      refine xg_goto hX 119 dM_read_115 (by decide) ?_
                      refine xg_istore hX (lv' := [(6, .int (nI 1)), (9, .int (nI (hfE M n a (i + 1)))), (8, .int (nI (M ((a + (n / 2)) - ((i + 1) / 2))))), (0, .ref mq), (1, .int (nI n)), (2, .int (nI a)), (3, .ref tp), (4, .int (nI (a + (n / 2)))), (5, .int (nI (hfE M n a 0))), (7, .int (nI i))]) dM_read_119 (by decide) rfl ?_
                      refine xg_aload_n hX 6 dM_read_121 rfl rfl ?_
                      refine xg_iload hX 9 dM_read_122 rfl ?_
                      refine xg_iload hX 1 dM_read_124 rfl ?_
                      refine xg_iast hX (ws' := [(mq, .inr (3, [.ref mm, .ref m1, .ref m2, .ref mo, .ref mr, .int (bI o1), .int (bI o2), .int (bI oo), .ref mw, .int (bI men)])), (mm, .inl (cI, 256, .inl (nf M))), (tp, .inl (cI, 200, .inl (nf (up (mix i (rdD M n a) zf) i (hfE M n a (i + 1))))))]) 2 i (hfE M n a (i + 1)) rfl (by omega) (by decide) rfl dM_read_126 ?_
                      refine xg_iincN hX (lv' := [(7, .int (nI (i + 1))), (6, .int (nI 1)), (9, .int (nI (hfE M n a (i + 1)))), (8, .int (nI (M ((a + (n / 2)) - ((i + 1) / 2))))), (0, .ref mq), (1, .int (nI n)), (2, .int (nI a)), (3, .ref tp), (4, .int (nI (a + (n / 2)))), (5, .int (nI (hfE M n a 0)))]) (i + 1) 9 dM_read_127 rfl (xn_inc _) (by decide) rfl ?_
                      refine xg_goto hX 58 dM_read_130 (by decide) ?_
                      refine xg_ext hX (g := mix (i + 1) (rdD M n a) zf) (ws' := [(mq, .inr (3, [.ref mm, .ref m1, .ref m2, .ref mo, .ref mr, .int (bI o1), .int (bI o2), .int (bI oo), .ref mw, .int (bI men)])), (mm, .inl (cI, 256, .inl (nf M))), (tp, .inl (cI, 200, .inl (nf (mix (i + 1) (rdD M n a) zf))))]) 2 rfl (fun j hj => mix_up (rdD_at h61) j) rfl ?_
                      refine xg_lv hX (lv' := [(0, .ref mq), (1, .int (nI n)), (2, .int (nI a)), (3, .ref tp), (4, .int (nI (a + (n / 2)))), (5, .int (nI (hfE M n a 0))), (6, .int (nI 1)), (7, .int (nI (i + 1)))]) [4, 5, 6, 7, 8, 9, 1, 0] rfl ?_
                      refine xg_lvE (lv' := [(0, .ref mq), (1, .int (nI n)), (2, .int (nI a)), (3, .ref tp), (4, .int (nI (a + (n / 2)))), (5, .int (nI (hfE M n a 0))), (6, .int (bI (rdP M n a (i + 1)))), (7, .int (nI (i + 1)))]) (by rw [← (show (nI 1 : Int32) = bI (rdP M n a (i + 1)) from (by show _ = bI (rdP M n a i && decide (hfE M n a (i + 1) < 10)); rw [h104]; first | rfl | (rw [decide_eq_true h111] <;> rfl) | (rw [decide_eq_false (by omega)] <;> rfl)))]) ?_
                      exact ih11 (i + 1) (by omega) (by omega)
                ·
                  refine xg_iload hX 0 dM_read_87 rfl ?_
                  refine xg_bipush hX (nI 16) dM_read_89 (by decide) ?_
                  refine xg_idivN hX (by omega) (by omega) (by omega) dM_read_91 ?_
                  refine xg_top (nI (hfE M n a (i + 1))) (by rw [hf_e hM h84]) ?_
                  refine xg_goto hX 100 dM_read_92 (by decide) ?_
                  refine xg_istore hX (lv' := [(9, .int (nI (hfE M n a (i + 1)))), (8, .int (nI (M ((a + (n / 2)) - ((i + 1) / 2))))), (0, .ref mq), (1, .int (nI n)), (2, .int (nI a)), (3, .ref tp), (4, .int (nI (a + (n / 2)))), (5, .int (nI (hfE M n a 0))), (6, .int (bI (rdP M n a i))), (7, .int (nI i))]) dM_read_100 (by decide) rfl ?_
                  refine xg_iload hX 8 dM_read_102 rfl ?_
                  refine xg_if_eqB hX 118 dM_read_104 (by decide) (fun h104 => ?_) (fun h104 => ?_)
                  ·
                    refine xg_iconst hX (nI 0) dM_read_118 (by decide) ?_
                    refine xg_istore hX (lv' := [(6, .int (nI 0)), (9, .int (nI (hfE M n a (i + 1)))), (8, .int (nI (M ((a + (n / 2)) - ((i + 1) / 2))))), (0, .ref mq), (1, .int (nI n)), (2, .int (nI a)), (3, .ref tp), (4, .int (nI (a + (n / 2)))), (5, .int (nI (hfE M n a 0))), (7, .int (nI i))]) dM_read_119 (by decide) rfl ?_
                    refine xg_aload_n hX 6 dM_read_121 rfl rfl ?_
                    refine xg_iload hX 9 dM_read_122 rfl ?_
                    refine xg_iload hX 1 dM_read_124 rfl ?_
                    refine xg_iast hX (ws' := [(mq, .inr (3, [.ref mm, .ref m1, .ref m2, .ref mo, .ref mr, .int (bI o1), .int (bI o2), .int (bI oo), .ref mw, .int (bI men)])), (mm, .inl (cI, 256, .inl (nf M))), (tp, .inl (cI, 200, .inl (nf (up (mix i (rdD M n a) zf) i (hfE M n a (i + 1))))))]) 2 i (hfE M n a (i + 1)) rfl (by omega) (by decide) rfl dM_read_126 ?_
                    refine xg_iincN hX (lv' := [(7, .int (nI (i + 1))), (6, .int (nI 0)), (9, .int (nI (hfE M n a (i + 1)))), (8, .int (nI (M ((a + (n / 2)) - ((i + 1) / 2))))), (0, .ref mq), (1, .int (nI n)), (2, .int (nI a)), (3, .ref tp), (4, .int (nI (a + (n / 2)))), (5, .int (nI (hfE M n a 0)))]) (i + 1) 9 dM_read_127 rfl (xn_inc _) (by decide) rfl ?_
                    refine xg_goto hX 58 dM_read_130 (by decide) ?_
                    refine xg_ext hX (g := mix (i + 1) (rdD M n a) zf) (ws' := [(mq, .inr (3, [.ref mm, .ref m1, .ref m2, .ref mo, .ref mr, .int (bI o1), .int (bI o2), .int (bI oo), .ref mw, .int (bI men)])), (mm, .inl (cI, 256, .inl (nf M))), (tp, .inl (cI, 200, .inl (nf (mix (i + 1) (rdD M n a) zf))))]) 2 rfl (fun j hj => mix_up (rdD_at h61) j) rfl ?_
                    refine xg_lv hX (lv' := [(0, .ref mq), (1, .int (nI n)), (2, .int (nI a)), (3, .ref tp), (4, .int (nI (a + (n / 2)))), (5, .int (nI (hfE M n a 0))), (6, .int (nI 0)), (7, .int (nI (i + 1)))]) [4, 5, 6, 7, 8, 9, 1, 0] rfl ?_
                    refine xg_lvE (lv' := [(0, .ref mq), (1, .int (nI n)), (2, .int (nI a)), (3, .ref tp), (4, .int (nI (a + (n / 2)))), (5, .int (nI (hfE M n a 0))), (6, .int (bI (rdP M n a (i + 1)))), (7, .int (nI (i + 1)))]) (by rw [← (show (nI 0 : Int32) = bI (rdP M n a (i + 1)) from (by show _ = bI (rdP M n a i && decide (hfE M n a (i + 1) < 10)); rw [h104]; first | rfl | (rw [decide_eq_true h111] <;> rfl) | (rw [decide_eq_false (by omega)] <;> rfl)))]) ?_
                    exact ih11 (i + 1) (by omega) (by omega)
                  ·
                    refine xg_iload hX 0 dM_read_107 rfl ?_
                    refine xg_bipush hX (nI 10) dM_read_109 (by decide) ?_
                    refine xg_icmp_geN hX 118 (by omega) (by omega) dM_read_111 (by decide) (fun h111 => ?_) (fun h111 => ?_)
                    ·
                      refine xg_iconst hX (nI 0) dM_read_118 (by decide) ?_
                      refine xg_istore hX (lv' := [(6, .int (nI 0)), (9, .int (nI (hfE M n a (i + 1)))), (8, .int (nI (M ((a + (n / 2)) - ((i + 1) / 2))))), (0, .ref mq), (1, .int (nI n)), (2, .int (nI a)), (3, .ref tp), (4, .int (nI (a + (n / 2)))), (5, .int (nI (hfE M n a 0))), (7, .int (nI i))]) dM_read_119 (by decide) rfl ?_
                      refine xg_aload_n hX 6 dM_read_121 rfl rfl ?_
                      refine xg_iload hX 9 dM_read_122 rfl ?_
                      refine xg_iload hX 1 dM_read_124 rfl ?_
                      refine xg_iast hX (ws' := [(mq, .inr (3, [.ref mm, .ref m1, .ref m2, .ref mo, .ref mr, .int (bI o1), .int (bI o2), .int (bI oo), .ref mw, .int (bI men)])), (mm, .inl (cI, 256, .inl (nf M))), (tp, .inl (cI, 200, .inl (nf (up (mix i (rdD M n a) zf) i (hfE M n a (i + 1))))))]) 2 i (hfE M n a (i + 1)) rfl (by omega) (by decide) rfl dM_read_126 ?_
                      refine xg_iincN hX (lv' := [(7, .int (nI (i + 1))), (6, .int (nI 0)), (9, .int (nI (hfE M n a (i + 1)))), (8, .int (nI (M ((a + (n / 2)) - ((i + 1) / 2))))), (0, .ref mq), (1, .int (nI n)), (2, .int (nI a)), (3, .ref tp), (4, .int (nI (a + (n / 2)))), (5, .int (nI (hfE M n a 0)))]) (i + 1) 9 dM_read_127 rfl (xn_inc _) (by decide) rfl ?_
                      refine xg_goto hX 58 dM_read_130 (by decide) ?_
                      refine xg_ext hX (g := mix (i + 1) (rdD M n a) zf) (ws' := [(mq, .inr (3, [.ref mm, .ref m1, .ref m2, .ref mo, .ref mr, .int (bI o1), .int (bI o2), .int (bI oo), .ref mw, .int (bI men)])), (mm, .inl (cI, 256, .inl (nf M))), (tp, .inl (cI, 200, .inl (nf (mix (i + 1) (rdD M n a) zf))))]) 2 rfl (fun j hj => mix_up (rdD_at h61) j) rfl ?_
                      refine xg_lv hX (lv' := [(0, .ref mq), (1, .int (nI n)), (2, .int (nI a)), (3, .ref tp), (4, .int (nI (a + (n / 2)))), (5, .int (nI (hfE M n a 0))), (6, .int (nI 0)), (7, .int (nI (i + 1)))]) [4, 5, 6, 7, 8, 9, 1, 0] rfl ?_
                      refine xg_lvE (lv' := [(0, .ref mq), (1, .int (nI n)), (2, .int (nI a)), (3, .ref tp), (4, .int (nI (a + (n / 2)))), (5, .int (nI (hfE M n a 0))), (6, .int (bI (rdP M n a (i + 1)))), (7, .int (nI (i + 1)))]) (by rw [← (show (nI 0 : Int32) = bI (rdP M n a (i + 1)) from (by show _ = bI (rdP M n a i && decide (hfE M n a (i + 1) < 10)); rw [h104]; first | rfl | (rw [decide_eq_true h111] <;> rfl) | (rw [decide_eq_false (by omega)] <;> rfl)))]) ?_
                      exact ih11 (i + 1) (by omega) (by omega)
                    ·
                      refine xg_iconst hX (nI 1) dM_read_114 (by decide) ?_
                      refine xg_goto hX 119 dM_read_115 (by decide) ?_
                      refine xg_istore hX (lv' := [(6, .int (nI 1)), (9, .int (nI (hfE M n a (i + 1)))), (8, .int (nI (M ((a + (n / 2)) - ((i + 1) / 2))))), (0, .ref mq), (1, .int (nI n)), (2, .int (nI a)), (3, .ref tp), (4, .int (nI (a + (n / 2)))), (5, .int (nI (hfE M n a 0))), (7, .int (nI i))]) dM_read_119 (by decide) rfl ?_
                      refine xg_aload_n hX 6 dM_read_121 rfl rfl ?_
                      refine xg_iload hX 9 dM_read_122 rfl ?_
                      refine xg_iload hX 1 dM_read_124 rfl ?_
                      refine xg_iast hX (ws' := [(mq, .inr (3, [.ref mm, .ref m1, .ref m2, .ref mo, .ref mr, .int (bI o1), .int (bI o2), .int (bI oo), .ref mw, .int (bI men)])), (mm, .inl (cI, 256, .inl (nf M))), (tp, .inl (cI, 200, .inl (nf (up (mix i (rdD M n a) zf) i (hfE M n a (i + 1))))))]) 2 i (hfE M n a (i + 1)) rfl (by omega) (by decide) rfl dM_read_126 ?_
                      refine xg_iincN hX (lv' := [(7, .int (nI (i + 1))), (6, .int (nI 1)), (9, .int (nI (hfE M n a (i + 1)))), (8, .int (nI (M ((a + (n / 2)) - ((i + 1) / 2))))), (0, .ref mq), (1, .int (nI n)), (2, .int (nI a)), (3, .ref tp), (4, .int (nI (a + (n / 2)))), (5, .int (nI (hfE M n a 0)))]) (i + 1) 9 dM_read_127 rfl (xn_inc _) (by decide) rfl ?_
                      refine xg_goto hX 58 dM_read_130 (by decide) ?_
                      refine xg_ext hX (g := mix (i + 1) (rdD M n a) zf) (ws' := [(mq, .inr (3, [.ref mm, .ref m1, .ref m2, .ref mo, .ref mr, .int (bI o1), .int (bI o2), .int (bI oo), .ref mw, .int (bI men)])), (mm, .inl (cI, 256, .inl (nf M))), (tp, .inl (cI, 200, .inl (nf (mix (i + 1) (rdD M n a) zf))))]) 2 rfl (fun j hj => mix_up (rdD_at h61) j) rfl ?_
                      refine xg_lv hX (lv' := [(0, .ref mq), (1, .int (nI n)), (2, .int (nI a)), (3, .ref tp), (4, .int (nI (a + (n / 2)))), (5, .int (nI (hfE M n a 0))), (6, .int (nI 1)), (7, .int (nI (i + 1)))]) [4, 5, 6, 7, 8, 9, 1, 0] rfl ?_
                      refine xg_lvE (lv' := [(0, .ref mq), (1, .int (nI n)), (2, .int (nI a)), (3, .ref tp), (4, .int (nI (a + (n / 2)))), (5, .int (nI (hfE M n a 0))), (6, .int (bI (rdP M n a (i + 1)))), (7, .int (nI (i + 1)))]) (by rw [← (show (nI 1 : Int32) = bI (rdP M n a (i + 1)) from (by show _ = bI (rdP M n a i && decide (hfE M n a (i + 1) < 10)); rw [h104]; first | rfl | (rw [decide_eq_true h111] <;> rfl) | (rw [decide_eq_false (by omega)] <;> rfl)))]) ?_
                      exact ih11 (i + 1) (by omega) (by omega)
          refine xg_ext hX (g := mix 0 (rdD M n a) zf) (ws' := [(mq, .inr (3, [.ref mm, .ref m1, .ref m2, .ref mo, .ref mr, .int (bI o1), .int (bI o2), .int (bI oo), .ref mw, .int (bI men)])), (mm, .inl (cI, 256, .inl (nf M))), (tp, .inl (cI, 200, .inl (nf (mix 0 (rdD M n a) zf))))]) 2 rfl (fun j hj => by rw [mix_lo (show j < i from by omega)]; exact mix_0 j) rfl ?_
          refine xg_lv hX (lv' := [(0, .ref mq), (1, .int (nI n)), (2, .int (nI a)), (3, .ref tp), (4, .int (nI (a + (n / 2)))), (5, .int (nI (hfE M n a 0))), (6, .int (nI 1)), (7, .int (nI 0))]) [4, 5, 6, 7, 3, 2, 1, 0] rfl ?_
          refine xg_lvE (lv' := [(0, .ref mq), (1, .int (nI n)), (2, .int (nI a)), (3, .ref tp), (4, .int (nI (a + (n / 2)))), (5, .int (nI (hfE M n a 0))), (6, .int (bI (rdP M n a 0))), (7, .int (nI 0))]) (by rw [← (show (nI 1 : Int32) = bI (rdP M n a 0) from (by first | (rw [show rdP M n a 0 = true from decide_eq_true h45] <;> rfl) | (rw [show rdP M n a 0 = false from decide_eq_false (by omega)] <;> rfl)))]) ?_
          exact lp9 (n - 0 + 1) 0 (by omega) (Nat.lt_succ_self _)
      ·
        refine xg_aload_n hX 3 dM_read_11 rfl rfl ?_
        refine xg_iload hX 4 dM_read_12 rfl ?_
        refine xg_iconst hX (nI 0) dM_read_14 (by decide) ?_
        refine xg_iast hX (ws' := [(mq, .inr (3, [.ref mm, .ref m1, .ref m2, .ref mo, .ref mr, .int (bI o1), .int (bI o2), .int (bI oo), .ref mw, .int (bI men)])), (mm, .inl (cI, 256, .inl (nf M))), (tp, .inl (cI, 200, .inl (nf (up (mix i zf td) i 0))))]) 2 i 0 rfl (by omega) (by decide) rfl dM_read_15 ?_
        refine xg_iincN hX (lv' := [(4, .int (nI (i + 1))), (0, .ref mq), (1, .int (nI n)), (2, .int (nI a)), (3, .ref tp)]) (i + 1) 4 dM_read_16 rfl (xn_inc _) (by decide) rfl ?_
        refine xg_goto hX 3 dM_read_19 (by decide) ?_
        refine xg_ext hX (g := mix (i + 1) zf td) (ws' := [(mq, .inr (3, [.ref mm, .ref m1, .ref m2, .ref mo, .ref mr, .int (bI o1), .int (bI o2), .int (bI oo), .ref mw, .int (bI men)])), (mm, .inl (cI, 256, .inl (nf M))), (tp, .inl (cI, 200, .inl (nf (mix (i + 1) zf td))))]) 2 rfl (fun j hj => mix_up rfl j) rfl ?_
        refine xg_lv hX (lv' := [(0, .ref mq), (1, .int (nI n)), (2, .int (nI a)), (3, .ref tp), (4, .int (nI (i + 1)))]) [1, 2, 3, 4, 0] rfl ?_
        exact ih3 (i + 1) (by omega) (by omega)
  refine xg_ext hX (g := mix 0 zf td) (ws' := [(mq, .inr (3, [.ref mm, .ref m1, .ref m2, .ref mo, .ref mr, .int (bI o1), .int (bI o2), .int (bI oo), .ref mw, .int (bI men)])), (mm, .inl (cI, 256, .inl (nf M))), (tp, .inl (cI, 200, .inl (nf (mix 0 zf td))))]) 2 rfl (fun j hj => mix_0 j) rfl ?_
  refine xg_lv hX (lv' := [(0, .ref mq), (1, .int (nI n)), (2, .int (nI a)), (3, .ref tp), (4, .int (nI 0))]) [1, 2, 3, 4, 0] rfl ?_
  exact lp1 (200 - 0 + 1) 0 (by omega) (Nat.lt_succ_self _)
set_option maxHeartbeats 4000000 in
set_option maxRecDepth 100000 in
theorem yc_isZero (l : Launch) (D : va_G) (cI : ClassId) (tp : Nat) (td : Nat → Nat) (htd : ∀ j, td j < 1000) : Ctr l D cI yM_isZero cM_isZero 3 (some .boolean) { frames := 0, cells := 0, slots := 0, locals := 0 } [.ref tp] [(tp, .inl (cI, 200, .inl (nf td)))] (fun _ : Unit => some (.int (bI (!hasD td 0 200)))) (fun _ : Unit => True) (fun _ : Unit => [(tp, .inl (cI, 200, .inl (nf td)))]) 0 0 := by
  refine xc_mkZ (by decide +kernel) (Nat.le_of_ble_eq_true rfl) (fun X hX hret => ?_)
  show GG D X 0 0 0 [(tp, .inl (cI, 200, .inl (nf td)))] [(0, .ref tp)] []
  refine xg_iconst hX (nI 1) dM_isZero_0 (by decide) ?_
  refine xg_istore_n hX (lv' := [(1, .int (nI 1)), (0, .ref tp)]) dM_isZero_1 rfl (by decide) rfl ?_
  refine xg_iconst hX (nI 0) dM_isZero_2 (by decide) ?_
  refine xg_istore_n hX (lv' := [(2, .int (nI 0)), (1, .int (nI 1)), (0, .ref tp)]) dM_isZero_3 rfl (by decide) rfl ?_
  have lp1 : ∀ (fu2 : Nat) (i : Nat), (i ≤ 200) → 200 - i < fu2 → GG D X 0 0 4 [(tp, .inl (cI, 200, .inl (nf td)))] [(0, .ref tp), (1, .int (bI (!hasD td 0 i))), (2, .int (nI i))] [] := by
    intro fu2
    induction fu2 with
    | zero => intro i hi hm4; exact absurd hm4 (Nat.not_lt_zero _)
    | succ fu2 ih3 =>
      intro i hi hm4
      have e1 := htd i
      refine xg_iload_n hX 2 dM_isZero_4 rfl rfl ?_
      refine xg_sipush hX (nI 200) dM_isZero_5 (by decide) ?_
      refine xg_icmp_geN hX 33 (by omega) (by omega) dM_isZero_8 (by decide) (fun h8 => ?_) (fun h8 => ?_)
      ·
        refine xg_iload_n hX 1 dM_isZero_33 rfl rfl ?_
        refine xg_top (bI (!hasD td 0 200)) (by rw [show i = 200 by omega]) ?_
        exact hret () _ _ _ rfl (xn_narB _) trivial dM_isZero_34
      ·
        refine xg_iload_n hX 1 dM_isZero_11 rfl rfl ?_
        refine xg_if_eqB hX 25 dM_isZero_12 (by decide) (fun h12 => ?_) (fun h12 => ?_)
        ·
          refine xg_iconst hX (nI 0) dM_isZero_25 (by decide) ?_
          refine xg_istore_n hX (lv' := [(1, .int (nI 0)), (0, .ref tp), (2, .int (nI i))]) dM_isZero_26 rfl (by decide) rfl ?_
          refine xg_iincN hX (lv' := [(2, .int (nI (i + 1))), (1, .int (nI 0)), (0, .ref tp)]) (i + 1) 2 dM_isZero_27 rfl (xn_inc _) (by decide) rfl ?_
          refine xg_goto hX 4 dM_isZero_30 (by decide) ?_
          refine xg_lv hX (lv' := [(0, .ref tp), (1, .int (nI 0)), (2, .int (nI (i + 1)))]) [2, 1, 0] rfl ?_
          refine xg_lvE (lv' := [(0, .ref tp), (1, .int (bI (!hasD td 0 (i + 1)))), (2, .int (nI (i + 1)))]) (by rw [← (show (nI 0 : Int32) = bI (!hasD td 0 (i + 1)) from (by first | (rw [hz_keep (nb_f h12)] <;> rfl) | (rw [hz_none (nb_t h12) h18] <;> rfl) | (rw [hz_new (Nat.zero_le _) (show td i ≠ 0 by omega)] <;> rfl)))]) ?_
          exact ih3 (i + 1) (by omega) (by omega)
        ·
          refine xg_aload_n hX 0 dM_isZero_15 rfl rfl ?_
          refine xg_iload_n hX 2 dM_isZero_16 rfl rfl ?_
          refine xg_iald hX 0 i rfl (by omega) (by decide) dM_isZero_17 ?_
          refine xg_if_neN hX 25 (by omega) dM_isZero_18 (by decide) (fun h18 => ?_) (fun h18 => ?_)
          ·
            refine xg_iconst hX (nI 0) dM_isZero_25 (by decide) ?_
            refine xg_istore_n hX (lv' := [(1, .int (nI 0)), (0, .ref tp), (2, .int (nI i))]) dM_isZero_26 rfl (by decide) rfl ?_
            refine xg_iincN hX (lv' := [(2, .int (nI (i + 1))), (1, .int (nI 0)), (0, .ref tp)]) (i + 1) 2 dM_isZero_27 rfl (xn_inc _) (by decide) rfl ?_
            refine xg_goto hX 4 dM_isZero_30 (by decide) ?_
            refine xg_lv hX (lv' := [(0, .ref tp), (1, .int (nI 0)), (2, .int (nI (i + 1)))]) [2, 1, 0] rfl ?_
            refine xg_lvE (lv' := [(0, .ref tp), (1, .int (bI (!hasD td 0 (i + 1)))), (2, .int (nI (i + 1)))]) (by rw [← (show (nI 0 : Int32) = bI (!hasD td 0 (i + 1)) from (by first | (rw [hz_keep (nb_f h12)] <;> rfl) | (rw [hz_none (nb_t h12) h18] <;> rfl) | (rw [hz_new (Nat.zero_le _) (show td i ≠ 0 by omega)] <;> rfl)))]) ?_
            exact ih3 (i + 1) (by omega) (by omega)
          ·
            refine xg_iconst hX (nI 1) dM_isZero_21 (by decide) ?_
            refine xg_goto hX 26 dM_isZero_22 (by decide) ?_
            refine xg_istore_n hX (lv' := [(1, .int (nI 1)), (0, .ref tp), (2, .int (nI i))]) dM_isZero_26 rfl (by decide) rfl ?_
            refine xg_iincN hX (lv' := [(2, .int (nI (i + 1))), (1, .int (nI 1)), (0, .ref tp)]) (i + 1) 2 dM_isZero_27 rfl (xn_inc _) (by decide) rfl ?_
            refine xg_goto hX 4 dM_isZero_30 (by decide) ?_
            refine xg_lv hX (lv' := [(0, .ref tp), (1, .int (nI 1)), (2, .int (nI (i + 1)))]) [2, 1, 0] rfl ?_
            refine xg_lvE (lv' := [(0, .ref tp), (1, .int (bI (!hasD td 0 (i + 1)))), (2, .int (nI (i + 1)))]) (by rw [← (show (nI 1 : Int32) = bI (!hasD td 0 (i + 1)) from (by first | (rw [hz_keep (nb_f h12)] <;> rfl) | (rw [hz_none (nb_t h12) h18] <;> rfl) | (rw [hz_new (Nat.zero_le _) (show td i ≠ 0 by omega)] <;> rfl)))]) ?_
            exact ih3 (i + 1) (by omega) (by omega)
  refine xg_lv hX (lv' := [(0, .ref tp), (1, .int (nI 1)), (2, .int (nI 0))]) [2, 1, 0] rfl ?_
  refine xg_lvE (lv' := [(0, .ref tp), (1, .int (bI (!hasD td 0 0))), (2, .int (nI 0))]) (by rw [← (show (nI 1 : Int32) = bI (!hasD td 0 0) from rfl)]) ?_
  exact lp1 (200 - 0 + 1) 0 (by omega) (Nat.lt_succ_self _)
set_option maxHeartbeats 4000000 in
set_option maxRecDepth 100000 in
theorem yc_cuts (l : Launch) (D : va_G) (cI : ClassId) (mq : Nat) (mm : Nat) (m1 : Nat) (m2 : Nat) (mo : Nat) (mr : Nat) (mw : Nat) (o1 : Bool) (o2 : Bool) (oo : Bool) (men : Bool) (xo : Nat → Nat) (n : Nat) (hn : n ≤ 200) (hxo : ∀ j, xo j < 1000) : Ctr l D cI yM_cuts cM_cuts 4 (some .boolean) { frames := 0, cells := 0, slots := 0, locals := 0 } [.ref mq, .int (nI n)] [(mq, .inr (3, [.ref mm, .ref m1, .ref m2, .ref mo, .ref mr, .int (bI o1), .int (bI o2), .int (bI oo), .ref mw, .int (bI men)])), (mo, .inl (cI, 200, .inl (nf xo)))] (fun _ : Unit => some (.int (bI (hasD xo n 200)))) (fun _ : Unit => True) (fun _ : Unit => [(mq, .inr (3, [.ref mm, .ref m1, .ref m2, .ref mo, .ref mr, .int (bI o1), .int (bI o2), .int (bI oo), .ref mw, .int (bI men)])), (mo, .inl (cI, 200, .inl (nf (mix n xo zf))))]) 0 0 := by
  refine xc_mkZ (by decide +kernel) (Nat.le_of_ble_eq_true rfl) (fun X hX hret => ?_)
  show GG D X 0 0 0 [(mq, .inr (3, [.ref mm, .ref m1, .ref m2, .ref mo, .ref mr, .int (bI o1), .int (bI o2), .int (bI oo), .ref mw, .int (bI men)])), (mo, .inl (cI, 200, .inl (nf xo)))] [(0, .ref mq), (1, .int (nI n))] []
  refine xg_iconst hX (nI 0) dM_cuts_0 (by decide) ?_
  refine xg_istore_n hX (lv' := [(2, .int (nI 0)), (0, .ref mq), (1, .int (nI n))]) dM_cuts_1 rfl (by decide) rfl ?_
  refine xg_iload_n hX 2 dM_cuts_2 rfl rfl ?_
  refine xg_istore_n hX (lv' := [(3, .int (nI n)), (2, .int (nI 0)), (0, .ref mq), (1, .int (nI n))]) dM_cuts_3 rfl (by decide) rfl ?_
  have lp1 : ∀ (fu2 : Nat) (i : Nat), (i ≤ 200) → (n ≤ i) → 200 - i < fu2 → GG D X 0 0 4 [(mq, .inr (3, [.ref mm, .ref m1, .ref m2, .ref mo, .ref mr, .int (bI o1), .int (bI o2), .int (bI oo), .ref mw, .int (bI men)])), (mo, .inl (cI, 200, .inl (nf (ctP xo n i))))] [(0, .ref mq), (1, .int (nI n)), (2, .int (bI (hasD xo n i))), (3, .int (nI i))] [] := by
    intro fu2
    induction fu2 with
    | zero => intro i hi hni hm4; exact absurd hm4 (Nat.not_lt_zero _)
    | succ fu2 ih3 =>
      intro i hi hni hm4
      have e1 := hxo i
      refine xg_iload_n hX 3 dM_cuts_4 rfl rfl ?_
      refine xg_sipush hX (nI 200) dM_cuts_5 (by decide) ?_
      refine xg_icmp_geN hX 43 (by omega) (by omega) dM_cuts_8 (by decide) (fun h8 => ?_) (fun h8 => ?_)
      ·
        refine xg_iload_n hX 2 dM_cuts_43 rfl rfl ?_
        have hie : i = 200 := by omega
        refine xg_ext hX (g := mix n xo zf) (ws' := [(mq, .inr (3, [.ref mm, .ref m1, .ref m2, .ref mo, .ref mr, .int (bI o1), .int (bI o2), .int (bI oo), .ref mw, .int (bI men)])), (mo, .inl (cI, 200, .inl (nf (mix n xo zf))))]) 1 rfl (fun j hj => by rw [hie]; exact ctP_e j hj) rfl ?_
        refine xg_top (bI (hasD xo n 200)) (by rw [hie]) ?_
        exact hret () _ _ _ rfl (xn_narB _) trivial dM_cuts_44
      ·
        refine xg_iload_n hX 2 dM_cuts_11 rfl rfl ?_
        refine xg_if_neB hX 24 dM_cuts_12 (by decide) (fun h12 => ?_) (fun h12 => ?_)
        ·
          refine xg_iconst hX (nI 1) dM_cuts_24 (by decide) ?_
          refine xg_goto hX 29 dM_cuts_25 (by decide) ?_
          refine xg_istore_n hX (lv' := [(2, .int (nI 1)), (0, .ref mq), (1, .int (nI n)), (3, .int (nI i))]) dM_cuts_29 rfl (by decide) rfl ?_
          refine xg_aload_n hX 1 dM_cuts_30 rfl rfl ?_
          refine xg_get hX (ci := 3) rfl hinM 0 rfl 3 (by decide) mt_327 rfl dM_cuts_31 ?_
          refine xg_iload_n hX 3 dM_cuts_34 rfl rfl ?_
          refine xg_iconst hX (nI 0) dM_cuts_35 (by decide) ?_
          refine xg_iast hX (ws' := [(mq, .inr (3, [.ref mm, .ref m1, .ref m2, .ref mo, .ref mr, .int (bI o1), .int (bI o2), .int (bI oo), .ref mw, .int (bI men)])), (mo, .inl (cI, 200, .inl (nf (up (ctP xo n i) i 0))))]) 1 i 0 rfl (by omega) (by decide) rfl dM_cuts_36 ?_
          refine xg_iincN hX (lv' := [(3, .int (nI (i + 1))), (2, .int (nI 1)), (0, .ref mq), (1, .int (nI n))]) (i + 1) 3 dM_cuts_37 rfl (xn_inc _) (by decide) rfl ?_
          refine xg_goto hX 4 dM_cuts_40 (by decide) ?_
          refine xg_ext hX (g := ctP xo n (i + 1)) (ws' := [(mq, .inr (3, [.ref mm, .ref m1, .ref m2, .ref mo, .ref mr, .int (bI o1), .int (bI o2), .int (bI oo), .ref mw, .int (bI men)])), (mo, .inl (cI, 200, .inl (nf (ctP xo n (i + 1)))))]) 1 rfl (fun j hj => ctP_s hni j) rfl ?_
          refine xg_lv hX (lv' := [(0, .ref mq), (1, .int (nI n)), (2, .int (nI 1)), (3, .int (nI (i + 1)))]) [2, 3, 1, 0] rfl ?_
          refine xg_lvE (lv' := [(0, .ref mq), (1, .int (nI n)), (2, .int (bI (hasD xo n (i + 1)))), (3, .int (nI (i + 1)))]) (by rw [← (show (nI 1 : Int32) = bI (hasD xo n (i + 1)) from (by first | (rw [hz_keep h12] <;> rfl) | (rw [hz_none h12 h21] <;> rfl) | (rw [hz_new hni (show xo i ≠ 0 by omega)] <;> rfl)))]) ?_
          exact ih3 (i + 1) (by omega) (by omega) (by omega)
        ·
          refine xg_aload_n hX 0 dM_cuts_15 rfl rfl ?_
          refine xg_get hX (ci := 3) rfl hinM 0 rfl 3 (by decide) mt_327 rfl dM_cuts_16 ?_
          refine xg_iload_n hX 3 dM_cuts_19 rfl rfl ?_
          refine xg_iald hX 1 i rfl (by omega) (by decide) dM_cuts_20 ?_
          refine xg_top (nI (xo i)) (by rw [ctP_at]) ?_
          refine xg_if_eqN hX 28 (by omega) dM_cuts_21 (by decide) (fun h21 => ?_) (fun h21 => ?_)
          ·
            refine xg_iconst hX (nI 0) dM_cuts_28 (by decide) ?_
            refine xg_istore_n hX (lv' := [(2, .int (nI 0)), (0, .ref mq), (1, .int (nI n)), (3, .int (nI i))]) dM_cuts_29 rfl (by decide) rfl ?_
            refine xg_aload_n hX 1 dM_cuts_30 rfl rfl ?_
            refine xg_get hX (ci := 3) rfl hinM 0 rfl 3 (by decide) mt_327 rfl dM_cuts_31 ?_
            refine xg_iload_n hX 3 dM_cuts_34 rfl rfl ?_
            refine xg_iconst hX (nI 0) dM_cuts_35 (by decide) ?_
            refine xg_iast hX (ws' := [(mq, .inr (3, [.ref mm, .ref m1, .ref m2, .ref mo, .ref mr, .int (bI o1), .int (bI o2), .int (bI oo), .ref mw, .int (bI men)])), (mo, .inl (cI, 200, .inl (nf (up (ctP xo n i) i 0))))]) 1 i 0 rfl (by omega) (by decide) rfl dM_cuts_36 ?_
            refine xg_iincN hX (lv' := [(3, .int (nI (i + 1))), (2, .int (nI 0)), (0, .ref mq), (1, .int (nI n))]) (i + 1) 3 dM_cuts_37 rfl (xn_inc _) (by decide) rfl ?_
            refine xg_goto hX 4 dM_cuts_40 (by decide) ?_
            refine xg_ext hX (g := ctP xo n (i + 1)) (ws' := [(mq, .inr (3, [.ref mm, .ref m1, .ref m2, .ref mo, .ref mr, .int (bI o1), .int (bI o2), .int (bI oo), .ref mw, .int (bI men)])), (mo, .inl (cI, 200, .inl (nf (ctP xo n (i + 1)))))]) 1 rfl (fun j hj => ctP_s hni j) rfl ?_
            refine xg_lv hX (lv' := [(0, .ref mq), (1, .int (nI n)), (2, .int (nI 0)), (3, .int (nI (i + 1)))]) [2, 3, 1, 0] rfl ?_
            refine xg_lvE (lv' := [(0, .ref mq), (1, .int (nI n)), (2, .int (bI (hasD xo n (i + 1)))), (3, .int (nI (i + 1)))]) (by rw [← (show (nI 0 : Int32) = bI (hasD xo n (i + 1)) from (by first | (rw [hz_keep h12] <;> rfl) | (rw [hz_none h12 h21] <;> rfl) | (rw [hz_new hni (show xo i ≠ 0 by omega)] <;> rfl)))]) ?_
            exact ih3 (i + 1) (by omega) (by omega) (by omega)
          ·
            refine xg_iconst hX (nI 1) dM_cuts_24 (by decide) ?_
            refine xg_goto hX 29 dM_cuts_25 (by decide) ?_
            refine xg_istore_n hX (lv' := [(2, .int (nI 1)), (0, .ref mq), (1, .int (nI n)), (3, .int (nI i))]) dM_cuts_29 rfl (by decide) rfl ?_
            refine xg_aload_n hX 1 dM_cuts_30 rfl rfl ?_
            refine xg_get hX (ci := 3) rfl hinM 0 rfl 3 (by decide) mt_327 rfl dM_cuts_31 ?_
            refine xg_iload_n hX 3 dM_cuts_34 rfl rfl ?_
            refine xg_iconst hX (nI 0) dM_cuts_35 (by decide) ?_
            refine xg_iast hX (ws' := [(mq, .inr (3, [.ref mm, .ref m1, .ref m2, .ref mo, .ref mr, .int (bI o1), .int (bI o2), .int (bI oo), .ref mw, .int (bI men)])), (mo, .inl (cI, 200, .inl (nf (up (ctP xo n i) i 0))))]) 1 i 0 rfl (by omega) (by decide) rfl dM_cuts_36 ?_
            refine xg_iincN hX (lv' := [(3, .int (nI (i + 1))), (2, .int (nI 1)), (0, .ref mq), (1, .int (nI n))]) (i + 1) 3 dM_cuts_37 rfl (xn_inc _) (by decide) rfl ?_
            refine xg_goto hX 4 dM_cuts_40 (by decide) ?_
            refine xg_ext hX (g := ctP xo n (i + 1)) (ws' := [(mq, .inr (3, [.ref mm, .ref m1, .ref m2, .ref mo, .ref mr, .int (bI o1), .int (bI o2), .int (bI oo), .ref mw, .int (bI men)])), (mo, .inl (cI, 200, .inl (nf (ctP xo n (i + 1)))))]) 1 rfl (fun j hj => ctP_s hni j) rfl ?_
            refine xg_lv hX (lv' := [(0, .ref mq), (1, .int (nI n)), (2, .int (nI 1)), (3, .int (nI (i + 1)))]) [2, 3, 1, 0] rfl ?_
            refine xg_lvE (lv' := [(0, .ref mq), (1, .int (nI n)), (2, .int (bI (hasD xo n (i + 1)))), (3, .int (nI (i + 1)))]) (by rw [← (show (nI 1 : Int32) = bI (hasD xo n (i + 1)) from (by first | (rw [hz_keep h12] <;> rfl) | (rw [hz_none h12 h21] <;> rfl) | (rw [hz_new hni (show xo i ≠ 0 by omega)] <;> rfl)))]) ?_
            exact ih3 (i + 1) (by omega) (by omega) (by omega)
  refine xg_ext hX (g := ctP xo n n) (ws' := [(mq, .inr (3, [.ref mm, .ref m1, .ref m2, .ref mo, .ref mr, .int (bI o1), .int (bI o2), .int (bI oo), .ref mw, .int (bI men)])), (mo, .inl (cI, 200, .inl (nf (ctP xo n n))))]) 1 rfl (fun j hj => ctP_0 j) rfl ?_
  refine xg_lv hX (lv' := [(0, .ref mq), (1, .int (nI n)), (2, .int (nI 0)), (3, .int (nI n))]) [2, 3, 1, 0] rfl ?_
  refine xg_lvE (lv' := [(0, .ref mq), (1, .int (nI n)), (2, .int (bI (hasD xo n n))), (3, .int (nI n))]) (by rw [← (show (nI 0 : Int32) = bI (hasD xo n n) from (by rw [hz_e] <;> rfl))]) ?_
  exact lp1 (200 - n + 1) n (by omega) (Nat.le_refl _) (Nat.lt_succ_self _)
set_option maxHeartbeats 4000000 in
set_option maxRecDepth 100000 in
theorem yc_flags (l : Launch) (D : va_G) (cI : ClassId) (mq : Nat) (mm : Nat) (m1 : Nat) (m2 : Nat) (mo : Nat) (mr : Nat) (mw : Nat) (o1 : Bool) (o2 : Bool) (oo : Bool) (men : Bool) (xo : Nat → Nat) (lo : Bool) (hxo : ∀ j, xo j < 1000) : Ctr l D cI yM_flags cM_flags 3 (some .int) { frames := 1, cells := 0, slots := 0, locals := 22 } [.ref mq, .int (bI lo)] [(mq, .inr (3, [.ref mm, .ref m1, .ref m2, .ref mo, .ref mr, .int (bI o1), .int (bI o2), .int (bI oo), .ref mw, .int (bI men)])), (mo, .inl (cI, 200, .inl (nf xo)))] (fun _ : Unit => some (.int (nI (flgM oo (!hasD xo 0 200) lo)))) (fun _ : Unit => True) (fun _ : Unit => [(mq, .inr (3, [.ref mm, .ref m1, .ref m2, .ref mo, .ref mr, .int (bI o1), .int (bI o2), .int (bI oo), .ref mw, .int (bI men)])), (mo, .inl (cI, 200, .inl (nf xo)))]) 0 0 := by
  refine xc_mkI (by decide +kernel) (Nat.le_of_ble_eq_true rfl) (fun X hX hret => ?_)
  show GG D X 0 0 0 [(mq, .inr (3, [.ref mm, .ref m1, .ref m2, .ref mo, .ref mr, .int (bI o1), .int (bI o2), .int (bI oo), .ref mw, .int (bI men)])), (mo, .inl (cI, 200, .inl (nf xo)))] [(0, .ref mq), (1, .int (bI lo))] []
  refine xg_aload_n hX 0 dM_flags_0 rfl rfl ?_
  refine xg_get hX (ci := 3) rfl hinM 0 rfl 3 (by decide) mt_327 rfl dM_flags_1 ?_
  refine xg_cS hX [.ref mo] (hM := yc_isZero l D cI mo xo hxo) (wr := [(mq, .inr (3, [.ref mm, .ref m1, .ref m2, .ref mo, .ref mr, .int (bI o1), .int (bI o2), .int (bI oo), .ref mw, .int (bI men)]))]) (ws' := fun _ => [(mq, .inr (3, [.ref mm, .ref m1, .ref m2, .ref mo, .ref mr, .int (bI o1), .int (bI o2), .int (bI oo), .ref mw, .int (bI men)])), (mo, .inl (cI, 200, .inl (nf xo)))]) (st' := fun _ => [.int (bI (!hasD xo 0 200))]) [1] [0] [0, 1] [] rfl mt_409 mt_407 mt_4 mt_408 hdM_isZero (by decide) ⟨rfl, rfl⟩ (by decide) rfl rfl (by decide) rfl (by decide) (by decide) (by decide) (fun u => rfl) (fun u => rfl) (fun u => rfl) rfl rfl (by simp [Value.category]) dM_flags_4 (fun _ _ => ?_)
  refine xg_istore_n hX (lv' := [(2, .int (bI (!hasD xo 0 200))), (0, .ref mq), (1, .int (bI lo))]) dM_flags_7 rfl (by decide) rfl ?_
  refine xg_aload_n hX 1 dM_flags_8 rfl rfl ?_
  refine xg_get hX (ci := 3) rfl hinM 0 rfl 7 (by decide) mt_331 rfl dM_flags_9 ?_
  refine xg_if_eqB hX 24 dM_flags_12 (by decide) (fun h12 => ?_) (fun h12 => ?_)
  ·
    refine xg_iconst hX (nI 0) dM_flags_24 (by decide) ?_
    refine xg_iload_n hX 0 dM_flags_25 rfl rfl ?_
    refine xg_if_eqB hX 33 dM_flags_26 (by decide) (fun h26 => ?_) (fun h26 => ?_)
    ·
      refine xg_iconst hX (nI 0) dM_flags_33 (by decide) ?_
      refine xg_ior hX dM_flags_34 ?_
      refine xg_top (nI 0) (by decide) ?_
      refine xg_iload_n hX 2 dM_flags_35 rfl rfl ?_
      refine xg_if_eqB hX 43 dM_flags_36 (by decide) (fun h36 => ?_) (fun h36 => ?_)
      ·
        refine xg_iconst hX (nI 0) dM_flags_43 (by decide) ?_
        refine xg_ior hX dM_flags_44 ?_
        refine xg_top (nI 0) (by decide) ?_
        refine xg_top (nI (flgM oo (!hasD xo 0 200) lo)) (by unfold flgM; simp only [h36, h26, h12]; first | rfl | (simp only [h16]; rfl) | exact absurd (h16.symm.trans h26) (by decide)) ?_
        exact hret () _ _ _ rfl trivial dM_flags_45
      ·
        refine xg_iconst hX (nI 2) dM_flags_39 (by decide) ?_
        refine xg_goto hX 44 dM_flags_40 (by decide) ?_
        refine xg_ior hX dM_flags_44 ?_
        refine xg_top (nI 2) (by decide) ?_
        refine xg_top (nI (flgM oo (!hasD xo 0 200) lo)) (by unfold flgM; simp only [h36, h26, h12]; first | rfl | (simp only [h16]; rfl) | exact absurd (h16.symm.trans h26) (by decide)) ?_
        exact hret () _ _ _ rfl trivial dM_flags_45
    ·
      refine xg_iconst hX (nI 4) dM_flags_29 (by decide) ?_
      refine xg_goto hX 34 dM_flags_30 (by decide) ?_
      refine xg_ior hX dM_flags_34 ?_
      refine xg_top (nI 4) (by decide) ?_
      refine xg_iload_n hX 2 dM_flags_35 rfl rfl ?_
      refine xg_if_eqB hX 43 dM_flags_36 (by decide) (fun h36 => ?_) (fun h36 => ?_)
      ·
        refine xg_iconst hX (nI 0) dM_flags_43 (by decide) ?_
        refine xg_ior hX dM_flags_44 ?_
        refine xg_top (nI 4) (by decide) ?_
        refine xg_top (nI (flgM oo (!hasD xo 0 200) lo)) (by unfold flgM; simp only [h36, h26, h12]; first | rfl | (simp only [h16]; rfl) | exact absurd (h16.symm.trans h26) (by decide)) ?_
        exact hret () _ _ _ rfl trivial dM_flags_45
      ·
        refine xg_iconst hX (nI 2) dM_flags_39 (by decide) ?_
        refine xg_goto hX 44 dM_flags_40 (by decide) ?_
        refine xg_ior hX dM_flags_44 ?_
        refine xg_top (nI 6) (by decide) ?_
        refine xg_top (nI (flgM oo (!hasD xo 0 200) lo)) (by unfold flgM; simp only [h36, h26, h12]; first | rfl | (simp only [h16]; rfl) | exact absurd (h16.symm.trans h26) (by decide)) ?_
        exact hret () _ _ _ rfl trivial dM_flags_45
  ·
    refine xg_iload_n hX 0 dM_flags_15 rfl rfl ?_
    refine xg_if_neB hX 24 dM_flags_16 (by decide) (fun h16 => ?_) (fun h16 => ?_)
    ·
      refine xg_iconst hX (nI 0) dM_flags_24 (by decide) ?_
      refine xg_iload_n hX 0 dM_flags_25 rfl rfl ?_
      refine xg_if_eqB hX 33 dM_flags_26 (by decide) (fun h26 => ?_) (fun h26 => ?_)
      ·
        refine xg_iconst hX (nI 0) dM_flags_33 (by decide) ?_
        refine xg_ior hX dM_flags_34 ?_
        refine xg_top (nI 0) (by decide) ?_
        refine xg_iload_n hX 2 dM_flags_35 rfl rfl ?_
        refine xg_if_eqB hX 43 dM_flags_36 (by decide) (fun h36 => ?_) (fun h36 => ?_)
        ·
          refine xg_iconst hX (nI 0) dM_flags_43 (by decide) ?_
          refine xg_ior hX dM_flags_44 ?_
          refine xg_top (nI 0) (by decide) ?_
          refine xg_top (nI (flgM oo (!hasD xo 0 200) lo)) (by unfold flgM; simp only [h36, h26, h12]; first | rfl | (simp only [h16]; rfl) | exact absurd (h16.symm.trans h26) (by decide)) ?_
          exact hret () _ _ _ rfl trivial dM_flags_45
        ·
          refine xg_iconst hX (nI 2) dM_flags_39 (by decide) ?_
          refine xg_goto hX 44 dM_flags_40 (by decide) ?_
          refine xg_ior hX dM_flags_44 ?_
          refine xg_top (nI 2) (by decide) ?_
          refine xg_top (nI (flgM oo (!hasD xo 0 200) lo)) (by unfold flgM; simp only [h36, h26, h12]; first | rfl | (simp only [h16]; rfl) | exact absurd (h16.symm.trans h26) (by decide)) ?_
          exact hret () _ _ _ rfl trivial dM_flags_45
      ·
        refine xg_iconst hX (nI 4) dM_flags_29 (by decide) ?_
        refine xg_goto hX 34 dM_flags_30 (by decide) ?_
        refine xg_ior hX dM_flags_34 ?_
        refine xg_top (nI 4) (by decide) ?_
        refine xg_iload_n hX 2 dM_flags_35 rfl rfl ?_
        refine xg_if_eqB hX 43 dM_flags_36 (by decide) (fun h36 => ?_) (fun h36 => ?_)
        ·
          refine xg_iconst hX (nI 0) dM_flags_43 (by decide) ?_
          refine xg_ior hX dM_flags_44 ?_
          refine xg_top (nI 4) (by decide) ?_
          refine xg_top (nI (flgM oo (!hasD xo 0 200) lo)) (by unfold flgM; simp only [h36, h26, h12]; first | rfl | (simp only [h16]; rfl) | exact absurd (h16.symm.trans h26) (by decide)) ?_
          exact hret () _ _ _ rfl trivial dM_flags_45
        ·
          refine xg_iconst hX (nI 2) dM_flags_39 (by decide) ?_
          refine xg_goto hX 44 dM_flags_40 (by decide) ?_
          refine xg_ior hX dM_flags_44 ?_
          refine xg_top (nI 6) (by decide) ?_
          refine xg_top (nI (flgM oo (!hasD xo 0 200) lo)) (by unfold flgM; simp only [h36, h26, h12]; first | rfl | (simp only [h16]; rfl) | exact absurd (h16.symm.trans h26) (by decide)) ?_
          exact hret () _ _ _ rfl trivial dM_flags_45
    ·
      refine xg_bipush hX (nI 8) dM_flags_19 (by decide) ?_
      refine xg_goto hX 25 dM_flags_21 (by decide) ?_
      refine xg_iload_n hX 0 dM_flags_25 rfl rfl ?_
      refine xg_if_eqB hX 33 dM_flags_26 (by decide) (fun h26 => ?_) (fun h26 => ?_)
      ·
        refine xg_iconst hX (nI 0) dM_flags_33 (by decide) ?_
        refine xg_ior hX dM_flags_34 ?_
        refine xg_top (nI 8) (by decide) ?_
        refine xg_iload_n hX 2 dM_flags_35 rfl rfl ?_
        refine xg_if_eqB hX 43 dM_flags_36 (by decide) (fun h36 => ?_) (fun h36 => ?_)
        ·
          refine xg_iconst hX (nI 0) dM_flags_43 (by decide) ?_
          refine xg_ior hX dM_flags_44 ?_
          refine xg_top (nI 8) (by decide) ?_
          refine xg_top (nI (flgM oo (!hasD xo 0 200) lo)) (by unfold flgM; simp only [h36, h26, h12]; first | rfl | (simp only [h16]; rfl) | exact absurd (h16.symm.trans h26) (by decide)) ?_
          exact hret () _ _ _ rfl trivial dM_flags_45
        ·
          refine xg_iconst hX (nI 2) dM_flags_39 (by decide) ?_
          refine xg_goto hX 44 dM_flags_40 (by decide) ?_
          refine xg_ior hX dM_flags_44 ?_
          refine xg_top (nI 10) (by decide) ?_
          refine xg_top (nI (flgM oo (!hasD xo 0 200) lo)) (by unfold flgM; simp only [h36, h26, h12]; first | rfl | (simp only [h16]; rfl) | exact absurd (h16.symm.trans h26) (by decide)) ?_
          exact hret () _ _ _ rfl trivial dM_flags_45
      ·
        refine xg_iconst hX (nI 4) dM_flags_29 (by decide) ?_
        refine xg_goto hX 34 dM_flags_30 (by decide) ?_
        refine xg_ior hX dM_flags_34 ?_
        refine xg_top (nI 12) (by decide) ?_
        refine xg_iload_n hX 2 dM_flags_35 rfl rfl ?_
        refine xg_if_eqB hX 43 dM_flags_36 (by decide) (fun h36 => ?_) (fun h36 => ?_)
        ·
          refine xg_iconst hX (nI 0) dM_flags_43 (by decide) ?_
          refine xg_ior hX dM_flags_44 ?_
          refine xg_top (nI 12) (by decide) ?_
          refine xg_top (nI (flgM oo (!hasD xo 0 200) lo)) (by unfold flgM; simp only [h36, h26, h12]; first | rfl | (simp only [h16]; rfl) | exact absurd (h16.symm.trans h26) (by decide)) ?_
          exact hret () _ _ _ rfl trivial dM_flags_45
        ·
          refine xg_iconst hX (nI 2) dM_flags_39 (by decide) ?_
          refine xg_goto hX 44 dM_flags_40 (by decide) ?_
          refine xg_ior hX dM_flags_44 ?_
          refine xg_top (nI 14) (by decide) ?_
          refine xg_top (nI (flgM oo (!hasD xo 0 200) lo)) (by unfold flgM; simp only [h36, h26, h12]; first | rfl | (simp only [h16]; rfl) | exact absurd (h16.symm.trans h26) (by decide)) ?_
          exact hret () _ _ _ rfl trivial dM_flags_45
set_option maxHeartbeats 4000000 in
set_option maxRecDepth 100000 in
theorem yc_write (l : Launch) (D : va_G) (cI : ClassId) (mq : Nat) (mm : Nat) (m1 : Nat) (m2 : Nat) (mo : Nat) (mr : Nat) (mw : Nat) (o1 : Bool) (o2 : Bool) (oo : Bool) (men : Bool) (M : Nat → Nat) (xo : Nat → Nat) (n : Nat) (a : Nat) (hn : n ≤ 31) (ha : a + n / 2 < 256) (hM : ∀ j, M j < 256) (hxd : ∀ j, xo j < 10) (hz : ∀ j, 130 ≤ j → xo j = 0) : Ctr l D cI yM_write cM_write 7 (some .int) { frames := 2, cells := 0, slots := 0, locals := 44 } [.ref mq, .int (nI n), .int (nI a)] [(mq, .inr (3, [.ref mm, .ref m1, .ref m2, .ref mo, .ref mr, .int (bI o1), .int (bI o2), .int (bI oo), .ref mw, .int (bI men)])), (mm, .inl (cI, 256, .inl (nf M))), (mo, .inl (cI, 200, .inl (nf xo)))] (fun _ : Unit => some (.int (nI (flg xo oo n)))) (fun _ : Unit => True) (fun _ : Unit => [(mq, .inr (3, [.ref mm, .ref m1, .ref m2, .ref mo, .ref mr, .int (bI o1), .int (bI o2), .int (bI oo), .ref mw, .int (bI men)])), (mm, .inl (cI, 256, .inl (nf (wrM M xo oo n a)))), (mo, .inl (cI, 200, .inl (nf (mix n xo zf))))]) 0 0 := by
  refine xc_mkI (by decide +kernel) (Nat.le_of_ble_eq_true rfl) (fun X hX hret => ?_)
  show GG D X 0 0 0 [(mq, .inr (3, [.ref mm, .ref m1, .ref m2, .ref mo, .ref mr, .int (bI o1), .int (bI o2), .int (bI oo), .ref mw, .int (bI men)])), (mm, .inl (cI, 256, .inl (nf M))), (mo, .inl (cI, 200, .inl (nf xo)))] [(0, .ref mq), (1, .int (nI n)), (2, .int (nI a))] []
  refine xg_aload_n hX 0 dM_write_0 rfl rfl ?_
  refine xg_iload_n hX 1 dM_write_1 rfl rfl ?_
  refine xg_cV hX mq [.int (nI n)] (hM := yc_cuts l D cI mq mm m1 m2 mo mr mw o1 o2 oo men xo n (by omega) (fun j => by have := hxd j; omega)) (wr := [(mm, .inl (cI, 256, .inl (nf M)))]) (ws' := fun _ => [(mq, .inr (3, [.ref mm, .ref m1, .ref m2, .ref mo, .ref mr, .int (bI o1), .int (bI o2), .int (bI oo), .ref mw, .int (bI men)])), (mm, .inl (cI, 256, .inl (nf M))), (mo, .inl (cI, 200, .inl (nf (mix n xo zf))))]) (st' := fun _ => [.int (bI (hasD xo n 200))]) [0, 2] [1] [1, 0, 2] [] rfl mt_402 mt_399 mt_4 mt_401 mp_22 0 rfl rfl hdM_cuts (by decide) ⟨rfl, rfl⟩ (by decide) rfl rfl (by decide) rfl (by decide) (by decide) (by decide) (fun u => rfl) (fun u => rfl) (fun u => rfl) rfl rfl (by simp [Value.category]) dM_write_2 (fun _ _ => ?_)
  refine xg_istore_n hX (lv' := [(3, .int (bI (hasD xo n 200))), (0, .ref mq), (1, .int (nI n)), (2, .int (nI a))]) dM_write_5 rfl (by decide) rfl ?_
  have mx_lt : ∀ j, mix n xo zf j < 1000 := fun j => by unfold mix; by_cases q : j < n; (rw [if_pos q]; have := hxd j; omega); (rw [if_neg q]; show 0 < 1000; decide)
  refine xg_aload_n hX 1 dM_write_6 rfl rfl ?_
  refine xg_iload_n hX 0 dM_write_7 rfl rfl ?_
  refine xg_cV hX mq [.int (bI (hasD xo n 200))] (hM := yc_flags l D cI mq mm m1 m2 mo mr mw o1 o2 oo men (mix n xo zf) (hasD xo n 200) mx_lt) (wr := [(mm, .inl (cI, 256, .inl (nf M)))]) (ws' := fun _ => [(mq, .inr (3, [.ref mm, .ref m1, .ref m2, .ref mo, .ref mr, .int (bI o1), .int (bI o2), .int (bI oo), .ref mw, .int (bI men)])), (mm, .inl (cI, 256, .inl (nf M))), (mo, .inl (cI, 200, .inl (nf (mix n xo zf))))]) (st' := fun _ => [.int (nI (flgM oo (!hasD (mix n xo zf) 0 200) (hasD xo n 200)))]) [0, 2] [1] [1, 0, 2] [] rfl mt_406 mt_403 mt_4 mt_405 mp_23 0 rfl rfl hdM_flags (by decide) ⟨rfl, rfl⟩ (by decide) rfl rfl (by decide) rfl (by decide) (by decide) (by decide) (fun u => rfl) (fun u => rfl) (fun u => rfl) rfl rfl (by simp [Value.category]) dM_write_8 (fun _ _ => ?_)
  refine xg_top (nI (flg xo oo n)) (by rw [flgM_eq (by omega) hz]) ?_
  refine xg_istore hX (lv' := [(4, .int (nI (flg xo oo n))), (3, .int (bI (hasD xo n 200))), (0, .ref mq), (1, .int (nI n)), (2, .int (nI a))]) dM_write_11 (by decide) rfl ?_
  refine xg_iload_n hX 4 dM_write_13 rfl rfl ?_
  refine xg_iload_n hX 3 dM_write_14 rfl rfl ?_
  refine xg_iconst hX (nI 2) dM_write_15 (by decide) ?_
  refine xg_idivN hX (by omega) (by omega) (by omega) dM_write_16 ?_
  refine xg_iaddN hX dM_write_17 ?_
  refine xg_istore hX (lv' := [(5, .int (nI (a + (n / 2)))), (4, .int (nI (flg xo oo n))), (3, .int (bI (hasD xo n 200))), (0, .ref mq), (1, .int (nI n)), (2, .int (nI a))]) dM_write_18 (by decide) rfl ?_
  refine xg_iload_n hX 5 dM_write_20 rfl rfl ?_
  refine xg_istore hX (lv' := [(6, .int (nI a)), (5, .int (nI (a + (n / 2)))), (4, .int (nI (flg xo oo n))), (3, .int (bI (hasD xo n 200))), (0, .ref mq), (1, .int (nI n)), (2, .int (nI a))]) dM_write_21 (by decide) rfl ?_
  have lp1 : ∀ (fu2 : Nat) (i : Nat), (i ≤ a + n / 2 + 1) → (a ≤ i) → a + n / 2 + 1 - i < fu2 → GG D X 0 0 23 [(mq, .inr (3, [.ref mm, .ref m1, .ref m2, .ref mo, .ref mr, .int (bI o1), .int (bI o2), .int (bI oo), .ref mw, .int (bI men)])), (mm, .inl (cI, 256, .inl (nf (z0P M a i)))), (mo, .inl (cI, 200, .inl (nf (mix n xo zf))))] [(0, .ref mq), (1, .int (nI n)), (2, .int (nI a)), (4, .int (nI (flg xo oo n))), (5, .int (nI (a + (n / 2)))), (6, .int (nI i))] [] := by
    intro fu2
    induction fu2 with
    | zero => intro i hi hai hm4; exact absurd hm4 (Nat.not_lt_zero _)
    | succ fu2 ih3 =>
      intro i hi hai hm4
      refine xg_iload hX 5 dM_write_23 rfl ?_
      refine xg_iload hX 4 dM_write_25 rfl ?_
      refine xg_icmp_gtN hX 44 (by omega) (by omega) dM_write_27 (by decide) (fun h27 => ?_) (fun h27 => ?_)
      ·
        refine xg_aload_n hX 0 dM_write_44 rfl rfl ?_
        refine xg_get hX (ci := 3) rfl hinM 0 rfl 0 (by decide) mt_324 rfl dM_write_45 ?_
        refine xg_iload hX 4 dM_write_48 rfl ?_
        refine xg_iload hX 3 dM_write_50 rfl ?_
        refine xg_bipush hX (nI 8) dM_write_52 (by decide) ?_
        refine xg_iand hX dM_write_54 ?_
        refine xg_top (nI (if ng xo oo n = true then 8 else 0)) (xn_f8 xo oo n) ?_
        refine xg_if_eqN hX 63 (by split <;> decide) dM_write_55 (by decide) (fun h55 => ?_) (fun h55 => ?_)
        ·
          have hsg : (12 : Nat) = (if ng xo oo n = true then 13 else 12) := by cases hq : ng xo oo n with | false => rfl | true => rw [hq] at h55; cases h55
          refine xg_bipush hX (nI 12) dM_write_63 (by decide) ?_
          refine xg_iast hX (ws' := [(mq, .inr (3, [.ref mm, .ref m1, .ref m2, .ref mo, .ref mr, .int (bI o1), .int (bI o2), .int (bI oo), .ref mw, .int (bI men)])), (mm, .inl (cI, 256, .inl (nf (up (z0P M a i) (a + (n / 2)) 12)))), (mo, .inl (cI, 200, .inl (nf (mix n xo zf))))]) 1 (a + (n / 2)) 12 rfl (by omega) (by decide) rfl dM_write_65 ?_
          refine xg_ext hX (g := wkP M xo (if ng xo oo n = true then 13 else 12) n a 0) (ws' := [(mq, .inr (3, [.ref mm, .ref m1, .ref m2, .ref mo, .ref mr, .int (bI o1), .int (bI o2), .int (bI oo), .ref mw, .int (bI men)])), (mm, .inl (cI, 256, .inl (nf (wkP M xo (if ng xo oo n = true then 13 else 12) n a 0)))), (mo, .inl (cI, 200, .inl (nf (mix n xo zf))))]) 1 rfl (fun j hj => by rw [← hsg]; exact wkP_0 (show i = a + n / 2 + 1 by omega) j) rfl ?_
          refine xg_iconst hX (nI 0) dM_write_66 (by decide) ?_
          refine xg_istore hX (lv' := [(6, .int (nI 0)), (0, .ref mq), (1, .int (nI n)), (2, .int (nI a)), (4, .int (nI (flg xo oo n))), (5, .int (nI (a + (n / 2))))]) dM_write_67 (by decide) rfl ?_
          have lp5 : ∀ (fu6 : Nat) (k : Nat), (k ≤ n) → n - k < fu6 → GG D X 0 0 69 [(mq, .inr (3, [.ref mm, .ref m1, .ref m2, .ref mo, .ref mr, .int (bI o1), .int (bI o2), .int (bI oo), .ref mw, .int (bI men)])), (mm, .inl (cI, 256, .inl (nf (wkP M xo (if ng xo oo n = true then 13 else 12) n a k)))), (mo, .inl (cI, 200, .inl (nf (mix n xo zf))))] [(0, .ref mq), (1, .int (nI n)), (2, .int (nI a)), (4, .int (nI (flg xo oo n))), (5, .int (nI (a + (n / 2)))), (6, .int (nI k))] [] := by
            intro fu6
            induction fu6 with
            | zero => intro k hk hm8; exact absurd hm8 (Nat.not_lt_zero _)
            | succ fu6 ih7 =>
              intro k hk hm8
              refine xg_iload hX 5 dM_write_69 rfl ?_
              refine xg_iload_n hX 1 dM_write_71 rfl rfl ?_
              refine xg_icmp_geN hX 119 (by omega) (by omega) dM_write_72 (by decide) (fun h72 => ?_) (fun h72 => ?_)
              ·
                refine xg_iload hX 3 dM_write_119 rfl ?_
                have hie : k = n := by omega
                refine xg_ext hX (g := wrM M xo oo n a) (ws' := [(mq, .inr (3, [.ref mm, .ref m1, .ref m2, .ref mo, .ref mr, .int (bI o1), .int (bI o2), .int (bI oo), .ref mw, .int (bI men)])), (mm, .inl (cI, 256, .inl (nf (wrM M xo oo n a)))), (mo, .inl (cI, 200, .inl (nf (mix n xo zf))))]) 1 rfl (fun j hj => by rw [hie]; exact wkP_n j) rfl ?_
                exact hret () _ _ _ rfl trivial dM_write_121
              ·
                refine xg_aload_n hX 0 dM_write_75 rfl rfl ?_
                refine xg_get hX (ci := 3) rfl hinM 0 rfl 0 (by decide) mt_324 rfl dM_write_76 ?_
                refine xg_iload hX 4 dM_write_79 rfl ?_
                refine xg_iload hX 5 dM_write_81 rfl ?_
                refine xg_iconst hX (nI 1) dM_write_83 (by decide) ?_
                refine xg_iaddN hX dM_write_84 ?_
                refine xg_iconst hX (nI 2) dM_write_85 (by decide) ?_
                refine xg_idivN hX (by omega) (by omega) (by omega) dM_write_86 ?_
                refine xg_isubN hX (by omega) dM_write_87 ?_
                refine xg_dup2 hX dM_write_88 rfl rfl ?_
                refine xg_iald hX 1 ((a + (n / 2)) - ((k + 1) / 2)) rfl (by omega) (by decide) dM_write_89 ?_
                refine xg_aload_n hX 0 dM_write_90 rfl rfl ?_
                refine xg_get hX (ci := 3) rfl hinM 0 rfl 3 (by decide) mt_327 rfl dM_write_91 ?_
                refine xg_iload hX 5 dM_write_94 rfl ?_
                refine xg_iald hX 2 k rfl (by omega) (by decide) dM_write_96 ?_
                refine xg_top (nI (xo k)) (by rw [mix_lo h72]) ?_
                refine xg_iload hX 5 dM_write_97 rfl ?_
                refine xg_iconst hX (nI 2) dM_write_99 (by decide) ?_
                refine xg_iremN hX (by omega) (by omega) (by omega) dM_write_100 ?_
                refine xg_if_neN hX 109 (by omega) dM_write_101 (by decide) (fun h101 => ?_) (fun h101 => ?_)
                ·
                  refine xg_iconst hX (nI 1) dM_write_109 (by decide) ?_
                  refine xg_imulN hX dM_write_110 ?_
                  refine xg_iaddN hX dM_write_111 ?_
                  refine xg_iast hX (ws' := [(mq, .inr (3, [.ref mm, .ref m1, .ref m2, .ref mo, .ref mr, .int (bI o1), .int (bI o2), .int (bI oo), .ref mw, .int (bI men)])), (mm, .inl (cI, 256, .inl (nf (up (wkP M xo (if ng xo oo n = true then 13 else 12) n a k) ((a + (n / 2)) - ((k + 1) / 2)) (((wkP M xo (if ng xo oo n = true then 13 else 12) n a k) ((a + (n / 2)) - ((k + 1) / 2))) + ((xo k) * 1)))))), (mo, .inl (cI, 200, .inl (nf (mix n xo zf))))]) 1 ((a + (n / 2)) - ((k + 1) / 2)) (((wkP M xo (if ng xo oo n = true then 13 else 12) n a k) ((a + (n / 2)) - ((k + 1) / 2))) + ((xo k) * 1)) rfl (by omega) (by decide) rfl dM_write_112 ?_
                  refine xg_iincN hX (lv' := [(6, .int (nI (k + 1))), (0, .ref mq), (1, .int (nI n)), (2, .int (nI a)), (4, .int (nI (flg xo oo n))), (5, .int (nI (a + (n / 2))))]) (k + 1) 5 dM_write_113 rfl (xn_inc _) (by decide) rfl ?_
                  refine xg_goto hX 69 dM_write_116 (by decide) ?_
                  refine xg_ext hX (g := wkP M xo (if ng xo oo n = true then 13 else 12) n a (k + 1)) (ws' := [(mq, .inr (3, [.ref mm, .ref m1, .ref m2, .ref mo, .ref mr, .int (bI o1), .int (bI o2), .int (bI oo), .ref mw, .int (bI men)])), (mm, .inl (cI, 256, .inl (nf (wkP M xo (if ng xo oo n = true then 13 else 12) n a (k + 1))))), (mo, .inl (cI, 200, .inl (nf (mix n xo zf))))]) 1 rfl (fun j hj => wkP_s h72 (by first | (rw [if_pos (show k % 2 = 0 from h101)]; done) | (rw [if_neg (show ¬ k % 2 = 0 by omega)]; done)) j) rfl ?_
                  refine xg_lv hX (lv' := [(0, .ref mq), (1, .int (nI n)), (2, .int (nI a)), (4, .int (nI (flg xo oo n))), (5, .int (nI (a + (n / 2)))), (6, .int (nI (k + 1)))]) [1, 2, 3, 4, 5, 0] rfl ?_
                  exact ih7 (k + 1) (by omega) (by omega)
                ·
                  refine xg_bipush hX (nI 16) dM_write_104 (by decide) ?_
                  refine xg_goto hX 110 dM_write_106 (by decide) ?_
                  refine xg_imulN hX dM_write_110 ?_
                  refine xg_iaddN hX dM_write_111 ?_
                  refine xg_iast hX (ws' := [(mq, .inr (3, [.ref mm, .ref m1, .ref m2, .ref mo, .ref mr, .int (bI o1), .int (bI o2), .int (bI oo), .ref mw, .int (bI men)])), (mm, .inl (cI, 256, .inl (nf (up (wkP M xo (if ng xo oo n = true then 13 else 12) n a k) ((a + (n / 2)) - ((k + 1) / 2)) (((wkP M xo (if ng xo oo n = true then 13 else 12) n a k) ((a + (n / 2)) - ((k + 1) / 2))) + ((xo k) * 16)))))), (mo, .inl (cI, 200, .inl (nf (mix n xo zf))))]) 1 ((a + (n / 2)) - ((k + 1) / 2)) (((wkP M xo (if ng xo oo n = true then 13 else 12) n a k) ((a + (n / 2)) - ((k + 1) / 2))) + ((xo k) * 16)) rfl (by omega) (by decide) rfl dM_write_112 ?_
                  refine xg_iincN hX (lv' := [(6, .int (nI (k + 1))), (0, .ref mq), (1, .int (nI n)), (2, .int (nI a)), (4, .int (nI (flg xo oo n))), (5, .int (nI (a + (n / 2))))]) (k + 1) 5 dM_write_113 rfl (xn_inc _) (by decide) rfl ?_
                  refine xg_goto hX 69 dM_write_116 (by decide) ?_
                  refine xg_ext hX (g := wkP M xo (if ng xo oo n = true then 13 else 12) n a (k + 1)) (ws' := [(mq, .inr (3, [.ref mm, .ref m1, .ref m2, .ref mo, .ref mr, .int (bI o1), .int (bI o2), .int (bI oo), .ref mw, .int (bI men)])), (mm, .inl (cI, 256, .inl (nf (wkP M xo (if ng xo oo n = true then 13 else 12) n a (k + 1))))), (mo, .inl (cI, 200, .inl (nf (mix n xo zf))))]) 1 rfl (fun j hj => wkP_s h72 (by first | (rw [if_pos (show k % 2 = 0 from h101)]; done) | (rw [if_neg (show ¬ k % 2 = 0 by omega)]; done)) j) rfl ?_
                  refine xg_lv hX (lv' := [(0, .ref mq), (1, .int (nI n)), (2, .int (nI a)), (4, .int (nI (flg xo oo n))), (5, .int (nI (a + (n / 2)))), (6, .int (nI (k + 1)))]) [1, 2, 3, 4, 5, 0] rfl ?_
                  exact ih7 (k + 1) (by omega) (by omega)
          refine xg_lv hX (lv' := [(0, .ref mq), (1, .int (nI n)), (2, .int (nI a)), (4, .int (nI (flg xo oo n))), (5, .int (nI (a + (n / 2)))), (6, .int (nI 0))]) [1, 2, 3, 4, 5, 0] rfl ?_
          exact lp5 (n - 0 + 1) 0 (by omega) (Nat.lt_succ_self _)
        ·
          have hsg : (13 : Nat) = (if ng xo oo n = true then 13 else 12) := by cases hq : ng xo oo n with | true => rfl | false => rw [hq] at h55; cases h55
          refine xg_bipush hX (nI 13) dM_write_58 (by decide) ?_
          refine xg_goto hX 65 dM_write_60 (by decide) ?_
          refine xg_iast hX (ws' := [(mq, .inr (3, [.ref mm, .ref m1, .ref m2, .ref mo, .ref mr, .int (bI o1), .int (bI o2), .int (bI oo), .ref mw, .int (bI men)])), (mm, .inl (cI, 256, .inl (nf (up (z0P M a i) (a + (n / 2)) 13)))), (mo, .inl (cI, 200, .inl (nf (mix n xo zf))))]) 1 (a + (n / 2)) 13 rfl (by omega) (by decide) rfl dM_write_65 ?_
          refine xg_ext hX (g := wkP M xo (if ng xo oo n = true then 13 else 12) n a 0) (ws' := [(mq, .inr (3, [.ref mm, .ref m1, .ref m2, .ref mo, .ref mr, .int (bI o1), .int (bI o2), .int (bI oo), .ref mw, .int (bI men)])), (mm, .inl (cI, 256, .inl (nf (wkP M xo (if ng xo oo n = true then 13 else 12) n a 0)))), (mo, .inl (cI, 200, .inl (nf (mix n xo zf))))]) 1 rfl (fun j hj => by rw [← hsg]; exact wkP_0 (show i = a + n / 2 + 1 by omega) j) rfl ?_
          refine xg_iconst hX (nI 0) dM_write_66 (by decide) ?_
          refine xg_istore hX (lv' := [(6, .int (nI 0)), (0, .ref mq), (1, .int (nI n)), (2, .int (nI a)), (4, .int (nI (flg xo oo n))), (5, .int (nI (a + (n / 2))))]) dM_write_67 (by decide) rfl ?_
          have lp9 : ∀ (fu10 : Nat) (k : Nat), (k ≤ n) → n - k < fu10 → GG D X 0 0 69 [(mq, .inr (3, [.ref mm, .ref m1, .ref m2, .ref mo, .ref mr, .int (bI o1), .int (bI o2), .int (bI oo), .ref mw, .int (bI men)])), (mm, .inl (cI, 256, .inl (nf (wkP M xo (if ng xo oo n = true then 13 else 12) n a k)))), (mo, .inl (cI, 200, .inl (nf (mix n xo zf))))] [(0, .ref mq), (1, .int (nI n)), (2, .int (nI a)), (4, .int (nI (flg xo oo n))), (5, .int (nI (a + (n / 2)))), (6, .int (nI k))] [] := by
            intro fu10
            induction fu10 with
            | zero => intro k hk hm12; exact absurd hm12 (Nat.not_lt_zero _)
            | succ fu10 ih11 =>
              intro k hk hm12
              refine xg_iload hX 5 dM_write_69 rfl ?_
              refine xg_iload_n hX 1 dM_write_71 rfl rfl ?_
              refine xg_icmp_geN hX 119 (by omega) (by omega) dM_write_72 (by decide) (fun h72 => ?_) (fun h72 => ?_)
              ·
                refine xg_iload hX 3 dM_write_119 rfl ?_
                have hie : k = n := by omega
                refine xg_ext hX (g := wrM M xo oo n a) (ws' := [(mq, .inr (3, [.ref mm, .ref m1, .ref m2, .ref mo, .ref mr, .int (bI o1), .int (bI o2), .int (bI oo), .ref mw, .int (bI men)])), (mm, .inl (cI, 256, .inl (nf (wrM M xo oo n a)))), (mo, .inl (cI, 200, .inl (nf (mix n xo zf))))]) 1 rfl (fun j hj => by rw [hie]; exact wkP_n j) rfl ?_
                exact hret () _ _ _ rfl trivial dM_write_121
              ·
                refine xg_aload_n hX 0 dM_write_75 rfl rfl ?_
                refine xg_get hX (ci := 3) rfl hinM 0 rfl 0 (by decide) mt_324 rfl dM_write_76 ?_
                refine xg_iload hX 4 dM_write_79 rfl ?_
                refine xg_iload hX 5 dM_write_81 rfl ?_
                refine xg_iconst hX (nI 1) dM_write_83 (by decide) ?_
                refine xg_iaddN hX dM_write_84 ?_
                refine xg_iconst hX (nI 2) dM_write_85 (by decide) ?_
                refine xg_idivN hX (by omega) (by omega) (by omega) dM_write_86 ?_
                refine xg_isubN hX (by omega) dM_write_87 ?_
                refine xg_dup2 hX dM_write_88 rfl rfl ?_
                refine xg_iald hX 1 ((a + (n / 2)) - ((k + 1) / 2)) rfl (by omega) (by decide) dM_write_89 ?_
                refine xg_aload_n hX 0 dM_write_90 rfl rfl ?_
                refine xg_get hX (ci := 3) rfl hinM 0 rfl 3 (by decide) mt_327 rfl dM_write_91 ?_
                refine xg_iload hX 5 dM_write_94 rfl ?_
                refine xg_iald hX 2 k rfl (by omega) (by decide) dM_write_96 ?_
                refine xg_top (nI (xo k)) (by rw [mix_lo h72]) ?_
                refine xg_iload hX 5 dM_write_97 rfl ?_
                refine xg_iconst hX (nI 2) dM_write_99 (by decide) ?_
                refine xg_iremN hX (by omega) (by omega) (by omega) dM_write_100 ?_
                refine xg_if_neN hX 109 (by omega) dM_write_101 (by decide) (fun h101 => ?_) (fun h101 => ?_)
                ·
                  refine xg_iconst hX (nI 1) dM_write_109 (by decide) ?_
                  refine xg_imulN hX dM_write_110 ?_
                  refine xg_iaddN hX dM_write_111 ?_
                  refine xg_iast hX (ws' := [(mq, .inr (3, [.ref mm, .ref m1, .ref m2, .ref mo, .ref mr, .int (bI o1), .int (bI o2), .int (bI oo), .ref mw, .int (bI men)])), (mm, .inl (cI, 256, .inl (nf (up (wkP M xo (if ng xo oo n = true then 13 else 12) n a k) ((a + (n / 2)) - ((k + 1) / 2)) (((wkP M xo (if ng xo oo n = true then 13 else 12) n a k) ((a + (n / 2)) - ((k + 1) / 2))) + ((xo k) * 1)))))), (mo, .inl (cI, 200, .inl (nf (mix n xo zf))))]) 1 ((a + (n / 2)) - ((k + 1) / 2)) (((wkP M xo (if ng xo oo n = true then 13 else 12) n a k) ((a + (n / 2)) - ((k + 1) / 2))) + ((xo k) * 1)) rfl (by omega) (by decide) rfl dM_write_112 ?_
                  refine xg_iincN hX (lv' := [(6, .int (nI (k + 1))), (0, .ref mq), (1, .int (nI n)), (2, .int (nI a)), (4, .int (nI (flg xo oo n))), (5, .int (nI (a + (n / 2))))]) (k + 1) 5 dM_write_113 rfl (xn_inc _) (by decide) rfl ?_
                  refine xg_goto hX 69 dM_write_116 (by decide) ?_
                  refine xg_ext hX (g := wkP M xo (if ng xo oo n = true then 13 else 12) n a (k + 1)) (ws' := [(mq, .inr (3, [.ref mm, .ref m1, .ref m2, .ref mo, .ref mr, .int (bI o1), .int (bI o2), .int (bI oo), .ref mw, .int (bI men)])), (mm, .inl (cI, 256, .inl (nf (wkP M xo (if ng xo oo n = true then 13 else 12) n a (k + 1))))), (mo, .inl (cI, 200, .inl (nf (mix n xo zf))))]) 1 rfl (fun j hj => wkP_s h72 (by first | (rw [if_pos (show k % 2 = 0 from h101)]; done) | (rw [if_neg (show ¬ k % 2 = 0 by omega)]; done)) j) rfl ?_
                  refine xg_lv hX (lv' := [(0, .ref mq), (1, .int (nI n)), (2, .int (nI a)), (4, .int (nI (flg xo oo n))), (5, .int (nI (a + (n / 2)))), (6, .int (nI (k + 1)))]) [1, 2, 3, 4, 5, 0] rfl ?_
                  exact ih11 (k + 1) (by omega) (by omega)
                ·
                  refine xg_bipush hX (nI 16) dM_write_104 (by decide) ?_
                  refine xg_goto hX 110 dM_write_106 (by decide) ?_
                  refine xg_imulN hX dM_write_110 ?_
                  refine xg_iaddN hX dM_write_111 ?_
                  refine xg_iast hX (ws' := [(mq, .inr (3, [.ref mm, .ref m1, .ref m2, .ref mo, .ref mr, .int (bI o1), .int (bI o2), .int (bI oo), .ref mw, .int (bI men)])), (mm, .inl (cI, 256, .inl (nf (up (wkP M xo (if ng xo oo n = true then 13 else 12) n a k) ((a + (n / 2)) - ((k + 1) / 2)) (((wkP M xo (if ng xo oo n = true then 13 else 12) n a k) ((a + (n / 2)) - ((k + 1) / 2))) + ((xo k) * 16)))))), (mo, .inl (cI, 200, .inl (nf (mix n xo zf))))]) 1 ((a + (n / 2)) - ((k + 1) / 2)) (((wkP M xo (if ng xo oo n = true then 13 else 12) n a k) ((a + (n / 2)) - ((k + 1) / 2))) + ((xo k) * 16)) rfl (by omega) (by decide) rfl dM_write_112 ?_
                  refine xg_iincN hX (lv' := [(6, .int (nI (k + 1))), (0, .ref mq), (1, .int (nI n)), (2, .int (nI a)), (4, .int (nI (flg xo oo n))), (5, .int (nI (a + (n / 2))))]) (k + 1) 5 dM_write_113 rfl (xn_inc _) (by decide) rfl ?_
                  refine xg_goto hX 69 dM_write_116 (by decide) ?_
                  refine xg_ext hX (g := wkP M xo (if ng xo oo n = true then 13 else 12) n a (k + 1)) (ws' := [(mq, .inr (3, [.ref mm, .ref m1, .ref m2, .ref mo, .ref mr, .int (bI o1), .int (bI o2), .int (bI oo), .ref mw, .int (bI men)])), (mm, .inl (cI, 256, .inl (nf (wkP M xo (if ng xo oo n = true then 13 else 12) n a (k + 1))))), (mo, .inl (cI, 200, .inl (nf (mix n xo zf))))]) 1 rfl (fun j hj => wkP_s h72 (by first | (rw [if_pos (show k % 2 = 0 from h101)]; done) | (rw [if_neg (show ¬ k % 2 = 0 by omega)]; done)) j) rfl ?_
                  refine xg_lv hX (lv' := [(0, .ref mq), (1, .int (nI n)), (2, .int (nI a)), (4, .int (nI (flg xo oo n))), (5, .int (nI (a + (n / 2)))), (6, .int (nI (k + 1)))]) [1, 2, 3, 4, 5, 0] rfl ?_
                  exact ih11 (k + 1) (by omega) (by omega)
          refine xg_lv hX (lv' := [(0, .ref mq), (1, .int (nI n)), (2, .int (nI a)), (4, .int (nI (flg xo oo n))), (5, .int (nI (a + (n / 2)))), (6, .int (nI 0))]) [1, 2, 3, 4, 5, 0] rfl ?_
          exact lp9 (n - 0 + 1) 0 (by omega) (Nat.lt_succ_self _)
      ·
        refine xg_aload_n hX 0 dM_write_30 rfl rfl ?_
        refine xg_get hX (ci := 3) rfl hinM 0 rfl 0 (by decide) mt_324 rfl dM_write_31 ?_
        refine xg_iload hX 5 dM_write_34 rfl ?_
        refine xg_iconst hX (nI 0) dM_write_36 (by decide) ?_
        refine xg_iast hX (ws' := [(mq, .inr (3, [.ref mm, .ref m1, .ref m2, .ref mo, .ref mr, .int (bI o1), .int (bI o2), .int (bI oo), .ref mw, .int (bI men)])), (mm, .inl (cI, 256, .inl (nf (up (z0P M a i) i 0)))), (mo, .inl (cI, 200, .inl (nf (mix n xo zf))))]) 1 i 0 rfl (by omega) (by decide) rfl dM_write_37 ?_
        refine xg_iincN hX (lv' := [(6, .int (nI (i + 1))), (0, .ref mq), (1, .int (nI n)), (2, .int (nI a)), (4, .int (nI (flg xo oo n))), (5, .int (nI (a + (n / 2))))]) (i + 1) 5 dM_write_38 rfl (xn_inc _) (by decide) rfl ?_
        refine xg_goto hX 23 dM_write_41 (by decide) ?_
        refine xg_ext hX (g := z0P M a (i + 1)) (ws' := [(mq, .inr (3, [.ref mm, .ref m1, .ref m2, .ref mo, .ref mr, .int (bI o1), .int (bI o2), .int (bI oo), .ref mw, .int (bI men)])), (mm, .inl (cI, 256, .inl (nf (z0P M a (i + 1))))), (mo, .inl (cI, 200, .inl (nf (mix n xo zf))))]) 1 rfl (fun j hj => z0P_s hai j) rfl ?_
        refine xg_lv hX (lv' := [(0, .ref mq), (1, .int (nI n)), (2, .int (nI a)), (4, .int (nI (flg xo oo n))), (5, .int (nI (a + (n / 2)))), (6, .int (nI (i + 1)))]) [1, 2, 3, 4, 5, 0] rfl ?_
        exact ih3 (i + 1) (by omega) (by omega) (by omega)
  refine xg_ext hX (g := z0P M a a) (ws' := [(mq, .inr (3, [.ref mm, .ref m1, .ref m2, .ref mo, .ref mr, .int (bI o1), .int (bI o2), .int (bI oo), .ref mw, .int (bI men)])), (mm, .inl (cI, 256, .inl (nf (z0P M a a)))), (mo, .inl (cI, 200, .inl (nf (mix n xo zf))))]) 1 rfl (fun j hj => z0P_0 j) rfl ?_
  refine xg_lv hX (lv' := [(0, .ref mq), (1, .int (nI n)), (2, .int (nI a)), (4, .int (nI (flg xo oo n))), (5, .int (nI (a + (n / 2)))), (6, .int (nI a))]) [4, 5, 6, 2, 1, 0] rfl ?_
  exact lp1 (a + n / 2 + 1 - a + 1) a (by omega) (Nat.le_refl _) (Nat.lt_succ_self _)
set_option maxHeartbeats 4000000 in
set_option maxRecDepth 100000 in
theorem yc_reads (l : Launch) (D : va_G) (cI : ClassId) (mq : Nat) (mm : Nat) (m1 : Nat) (m2 : Nat) (mo : Nat) (mr : Nat) (mw : Nat) (o1 : Bool) (o2 : Bool) (oo : Bool) (men : Bool) (M : Nat → Nat) (x1 : Nat → Nat) (x2 : Nat → Nat) (n : Nat) (a : Nat) (m : Nat) (b : Nat) (hn : n ≤ 31) (ha : a + n / 2 < 256) (hm : m ≤ 31) (hb : b + m / 2 < 256) (hM : ∀ j, M j < 256) : Ctr l D cI yM_reads cM_reads 7 (some .int) { frames := 1, cells := 0, slots := 0, locals := 29 } [.ref mq, .int (nI n), .int (nI a), .int (nI m), .int (nI b)] [(mq, .inr (3, [.ref mm, .ref m1, .ref m2, .ref mo, .ref mr, .int (bI o1), .int (bI o2), .int (bI oo), .ref mw, .int (bI men)])), (mm, .inl (cI, 256, .inl (nf M))), (m1, .inl (cI, 200, .inl (nf x1))), (m2, .inl (cI, 200, .inl (nf x2)))] (fun _ : Unit => some (.int (if (rdb M n a && rdb M m b) = true then (0 : Int32) else -2))) (fun _ : Unit => True) (fun _ : Unit => [(mq, .inr (3, [.ref mm, .ref m1, .ref m2, .ref mo, .ref mr, .int (bI (decide (rdV M n a = 2))), .int (bI (decide (rdV M m b = 2))), .int (bI oo), .ref mw, .int (bI men)])), (mm, .inl (cI, 256, .inl (nf M))), (m1, .inl (cI, 200, .inl (nf (rdD M n a)))), (m2, .inl (cI, 200, .inl (nf (rdD M m b))))]) 0 0 := by
  refine xc_mkI (by decide +kernel) (Nat.le_of_ble_eq_true rfl) (fun X hX hret => ?_)
  show GG D X 0 0 0 [(mq, .inr (3, [.ref mm, .ref m1, .ref m2, .ref mo, .ref mr, .int (bI o1), .int (bI o2), .int (bI oo), .ref mw, .int (bI men)])), (mm, .inl (cI, 256, .inl (nf M))), (m1, .inl (cI, 200, .inl (nf x1))), (m2, .inl (cI, 200, .inl (nf x2)))] [(0, .ref mq), (1, .int (nI n)), (2, .int (nI a)), (3, .int (nI m)), (4, .int (nI b))] []
  refine xg_aload_n hX 0 dM_reads_0 rfl rfl ?_
  refine xg_iload_n hX 1 dM_reads_1 rfl rfl ?_
  refine xg_iload_n hX 2 dM_reads_2 rfl rfl ?_
  refine xg_aload_n hX 0 dM_reads_3 rfl rfl ?_
  refine xg_get hX (ci := 3) rfl hinM 0 rfl 1 (by decide) mt_325 rfl dM_reads_4 ?_
  refine xg_cV hX mq [.int (nI n), .int (nI a), .ref m1] (hM := yc_read l D cI mq mm m1 m2 mo mr mw o1 o2 oo men M m1 x1 n a hn ha hM) (wr := [(m2, .inl (cI, 200, .inl (nf x2)))]) (ws' := fun _ => [(mq, .inr (3, [.ref mm, .ref m1, .ref m2, .ref mo, .ref mr, .int (bI o1), .int (bI o2), .int (bI oo), .ref mw, .int (bI men)])), (mm, .inl (cI, 256, .inl (nf M))), (m1, .inl (cI, 200, .inl (nf (rdD M n a)))), (m2, .inl (cI, 200, .inl (nf x2)))]) (st' := fun _ => [.int (nI (rdV M n a))]) [0, 1, 2] [3] [1, 2, 3, 0] [] rfl mt_387 mt_384 mt_4 mt_386 mp_19 0 rfl rfl hdM_read (by decide) ⟨rfl, rfl⟩ (by decide) rfl rfl (by decide) rfl (by decide) (by decide) (by decide) (fun u => rfl) (fun u => rfl) (fun u => rfl) rfl rfl (by simp [Value.category]) dM_reads_7 (fun _ _ => ?_)
  have e1 := rdV_lt M n a
  refine xg_istore hX (lv' := [(5, .int (nI (rdV M n a))), (0, .ref mq), (1, .int (nI n)), (2, .int (nI a)), (3, .int (nI m)), (4, .int (nI b))]) dM_reads_10 (by decide) rfl ?_
  refine xg_aload_n hX 1 dM_reads_12 rfl rfl ?_
  refine xg_iload_n hX 4 dM_reads_13 rfl rfl ?_
  refine xg_iload hX 5 dM_reads_14 rfl ?_
  refine xg_aload_n hX 1 dM_reads_16 rfl rfl ?_
  refine xg_get hX (ci := 3) rfl hinM 0 rfl 2 (by decide) mt_326 rfl dM_reads_17 ?_
  refine xg_cV hX mq [.int (nI m), .int (nI b), .ref m2] (hM := yc_read l D cI mq mm m1 m2 mo mr mw o1 o2 oo men M m2 x2 m b hm hb hM) (wr := [(m1, .inl (cI, 200, .inl (nf (rdD M n a))))]) (ws' := fun _ => [(mq, .inr (3, [.ref mm, .ref m1, .ref m2, .ref mo, .ref mr, .int (bI o1), .int (bI o2), .int (bI oo), .ref mw, .int (bI men)])), (mm, .inl (cI, 256, .inl (nf M))), (m1, .inl (cI, 200, .inl (nf (rdD M n a)))), (m2, .inl (cI, 200, .inl (nf (rdD M m b))))]) (st' := fun _ => [.int (nI (rdV M m b))]) [0, 1, 3] [2] [1, 2, 0, 3] [] rfl mt_387 mt_384 mt_4 mt_386 mp_19 0 rfl rfl hdM_read (by decide) ⟨rfl, rfl⟩ (by decide) rfl rfl (by decide) rfl (by decide) (by decide) (by decide) (fun u => rfl) (fun u => rfl) (fun u => rfl) rfl rfl (by simp [Value.category]) dM_reads_20 (fun _ _ => ?_)
  have e2 := rdV_lt M m b
  refine xg_istore hX (lv' := [(6, .int (nI (rdV M m b))), (5, .int (nI (rdV M n a))), (0, .ref mq), (1, .int (nI n)), (2, .int (nI a)), (3, .int (nI m)), (4, .int (nI b))]) dM_reads_23 (by decide) rfl ?_
  refine xg_aload_n hX 2 dM_reads_25 rfl rfl ?_
  refine xg_iload hX 1 dM_reads_26 rfl ?_
  refine xg_iconst hX (nI 2) dM_reads_28 (by decide) ?_
  refine xg_icmp_neN hX 36 (by omega) (by omega) dM_reads_29 (by decide) (fun h29 => ?_) (fun h29 => ?_)
  ·
    refine xg_iconst hX (nI 0) dM_reads_36 (by decide) ?_
    refine xg_top (bI false) rfl ?_
    refine xg_put hX tyM tyM_ok nmM (ci := 3) rfl hinM (ws' := [(mq, .inr (3, [.ref mm, .ref m1, .ref m2, .ref mo, .ref mr, .int (bI false), .int (bI o2), .int (bI oo), .ref mw, .int (bI men)])), (mm, .inl (cI, 256, .inl (nf M))), (m1, .inl (cI, 200, .inl (nf (rdD M n a)))), (m2, .inl (cI, 200, .inl (nf (rdD M m b))))]) 0 rfl 5 (by decide) mt_329 rfl (xn_narB _) (xn_fitB _) (Nat.le_of_ble_eq_true rfl) rfl dM_reads_37 ?_
    refine xg_aload_n hX 2 dM_reads_40 rfl rfl ?_
    refine xg_iload hX 0 dM_reads_41 rfl ?_
    refine xg_iconst hX (nI 2) dM_reads_43 (by decide) ?_
    refine xg_icmp_neN hX 51 (by omega) (by omega) dM_reads_44 (by decide) (fun h44 => ?_) (fun h44 => ?_)
    ·
      refine xg_iconst hX (nI 0) dM_reads_51 (by decide) ?_
      refine xg_top (bI false) rfl ?_
      refine xg_put hX tyM tyM_ok nmM (ci := 3) rfl hinM (ws' := [(mq, .inr (3, [.ref mm, .ref m1, .ref m2, .ref mo, .ref mr, .int (bI false), .int (bI false), .int (bI oo), .ref mw, .int (bI men)])), (mm, .inl (cI, 256, .inl (nf M))), (m1, .inl (cI, 200, .inl (nf (rdD M n a)))), (m2, .inl (cI, 200, .inl (nf (rdD M m b))))]) 0 rfl 6 (by decide) mt_330 rfl (xn_narB _) (xn_fitB _) (Nat.le_of_ble_eq_true rfl) rfl dM_reads_52 ?_
      refine xg_iload hX 1 dM_reads_55 rfl ?_
      refine xg_if_eqN hX 65 (by omega) dM_reads_57 (by decide) (fun h57 => ?_) (fun h57 => ?_)
      ·
        refine xg_bipush hX ((-2)) dM_reads_65 (by decide) ?_
        refine xg_goto hX 71 dM_reads_67 (by decide) ?_
        refine xg_wsE (ws' := [(mq, .inr (3, [.ref mm, .ref m1, .ref m2, .ref mo, .ref mr, .int (bI (decide (rdV M n a = 2))), .int (bI false), .int (bI oo), .ref mw, .int (bI men)])), (mm, .inl (cI, 256, .inl (nf M))), (m1, .inl (cI, 200, .inl (nf (rdD M n a)))), (m2, .inl (cI, 200, .inl (nf (rdD M m b))))]) (by rw [← (show (bI false : Int32) = bI (decide (rdV M n a = 2)) from (by first | (rw [decide_eq_true h29]; done) | (rw [decide_eq_false h29]; done)))]) ?_
        refine xg_wsE (ws' := [(mq, .inr (3, [.ref mm, .ref m1, .ref m2, .ref mo, .ref mr, .int (bI (decide (rdV M n a = 2))), .int (bI (decide (rdV M m b = 2))), .int (bI oo), .ref mw, .int (bI men)])), (mm, .inl (cI, 256, .inl (nf M))), (m1, .inl (cI, 200, .inl (nf (rdD M n a)))), (m2, .inl (cI, 200, .inl (nf (rdD M m b))))]) (by rw [← (show (bI false : Int32) = bI (decide (rdV M m b = 2)) from (by first | (rw [decide_eq_true h44]; done) | (rw [decide_eq_false h44]; done)))]) ?_
        refine xg_top (if (rdb M n a && rdb M m b) = true then (0 : Int32) else -2) (by first | (rw [rdV_p h57, rdV_p h62] <;> rfl) | (rw [rdV_0 h57] <;> rfl) | (rw [rdV_0 h62, Bool.and_false] <;> rfl)) ?_
        exact hret () _ _ _ rfl trivial dM_reads_71
      ·
        refine xg_iload hX 0 dM_reads_60 rfl ?_
        refine xg_if_neN hX 70 (by omega) dM_reads_62 (by decide) (fun h62 => ?_) (fun h62 => ?_)
        ·
          refine xg_iconst hX (nI 0) dM_reads_70 (by decide) ?_
          refine xg_wsE (ws' := [(mq, .inr (3, [.ref mm, .ref m1, .ref m2, .ref mo, .ref mr, .int (bI (decide (rdV M n a = 2))), .int (bI false), .int (bI oo), .ref mw, .int (bI men)])), (mm, .inl (cI, 256, .inl (nf M))), (m1, .inl (cI, 200, .inl (nf (rdD M n a)))), (m2, .inl (cI, 200, .inl (nf (rdD M m b))))]) (by rw [← (show (bI false : Int32) = bI (decide (rdV M n a = 2)) from (by first | (rw [decide_eq_true h29]; done) | (rw [decide_eq_false h29]; done)))]) ?_
          refine xg_wsE (ws' := [(mq, .inr (3, [.ref mm, .ref m1, .ref m2, .ref mo, .ref mr, .int (bI (decide (rdV M n a = 2))), .int (bI (decide (rdV M m b = 2))), .int (bI oo), .ref mw, .int (bI men)])), (mm, .inl (cI, 256, .inl (nf M))), (m1, .inl (cI, 200, .inl (nf (rdD M n a)))), (m2, .inl (cI, 200, .inl (nf (rdD M m b))))]) (by rw [← (show (bI false : Int32) = bI (decide (rdV M m b = 2)) from (by first | (rw [decide_eq_true h44]; done) | (rw [decide_eq_false h44]; done)))]) ?_
          refine xg_top (if (rdb M n a && rdb M m b) = true then (0 : Int32) else -2) (by first | (rw [rdV_p h57, rdV_p h62] <;> rfl) | (rw [rdV_0 h57] <;> rfl) | (rw [rdV_0 h62, Bool.and_false] <;> rfl)) ?_
          exact hret () _ _ _ rfl trivial dM_reads_71
        ·
          refine xg_bipush hX ((-2)) dM_reads_65 (by decide) ?_
          refine xg_goto hX 71 dM_reads_67 (by decide) ?_
          refine xg_wsE (ws' := [(mq, .inr (3, [.ref mm, .ref m1, .ref m2, .ref mo, .ref mr, .int (bI (decide (rdV M n a = 2))), .int (bI false), .int (bI oo), .ref mw, .int (bI men)])), (mm, .inl (cI, 256, .inl (nf M))), (m1, .inl (cI, 200, .inl (nf (rdD M n a)))), (m2, .inl (cI, 200, .inl (nf (rdD M m b))))]) (by rw [← (show (bI false : Int32) = bI (decide (rdV M n a = 2)) from (by first | (rw [decide_eq_true h29]; done) | (rw [decide_eq_false h29]; done)))]) ?_
          refine xg_wsE (ws' := [(mq, .inr (3, [.ref mm, .ref m1, .ref m2, .ref mo, .ref mr, .int (bI (decide (rdV M n a = 2))), .int (bI (decide (rdV M m b = 2))), .int (bI oo), .ref mw, .int (bI men)])), (mm, .inl (cI, 256, .inl (nf M))), (m1, .inl (cI, 200, .inl (nf (rdD M n a)))), (m2, .inl (cI, 200, .inl (nf (rdD M m b))))]) (by rw [← (show (bI false : Int32) = bI (decide (rdV M m b = 2)) from (by first | (rw [decide_eq_true h44]; done) | (rw [decide_eq_false h44]; done)))]) ?_
          refine xg_top (if (rdb M n a && rdb M m b) = true then (0 : Int32) else -2) (by first | (rw [rdV_p h57, rdV_p h62] <;> rfl) | (rw [rdV_0 h57] <;> rfl) | (rw [rdV_0 h62, Bool.and_false] <;> rfl)) ?_
          exact hret () _ _ _ rfl trivial dM_reads_71
    ·
      refine xg_iconst hX (nI 1) dM_reads_47 (by decide) ?_
      refine xg_goto hX 52 dM_reads_48 (by decide) ?_
      refine xg_top (bI true) rfl ?_
      refine xg_put hX tyM tyM_ok nmM (ci := 3) rfl hinM (ws' := [(mq, .inr (3, [.ref mm, .ref m1, .ref m2, .ref mo, .ref mr, .int (bI false), .int (bI true), .int (bI oo), .ref mw, .int (bI men)])), (mm, .inl (cI, 256, .inl (nf M))), (m1, .inl (cI, 200, .inl (nf (rdD M n a)))), (m2, .inl (cI, 200, .inl (nf (rdD M m b))))]) 0 rfl 6 (by decide) mt_330 rfl (xn_narB _) (xn_fitB _) (Nat.le_of_ble_eq_true rfl) rfl dM_reads_52 ?_
      refine xg_iload hX 1 dM_reads_55 rfl ?_
      refine xg_if_eqN hX 65 (by omega) dM_reads_57 (by decide) (fun h57 => ?_) (fun h57 => ?_)
      ·
        refine xg_bipush hX ((-2)) dM_reads_65 (by decide) ?_
        refine xg_goto hX 71 dM_reads_67 (by decide) ?_
        refine xg_wsE (ws' := [(mq, .inr (3, [.ref mm, .ref m1, .ref m2, .ref mo, .ref mr, .int (bI (decide (rdV M n a = 2))), .int (bI true), .int (bI oo), .ref mw, .int (bI men)])), (mm, .inl (cI, 256, .inl (nf M))), (m1, .inl (cI, 200, .inl (nf (rdD M n a)))), (m2, .inl (cI, 200, .inl (nf (rdD M m b))))]) (by rw [← (show (bI false : Int32) = bI (decide (rdV M n a = 2)) from (by first | (rw [decide_eq_true h29]; done) | (rw [decide_eq_false h29]; done)))]) ?_
        refine xg_wsE (ws' := [(mq, .inr (3, [.ref mm, .ref m1, .ref m2, .ref mo, .ref mr, .int (bI (decide (rdV M n a = 2))), .int (bI (decide (rdV M m b = 2))), .int (bI oo), .ref mw, .int (bI men)])), (mm, .inl (cI, 256, .inl (nf M))), (m1, .inl (cI, 200, .inl (nf (rdD M n a)))), (m2, .inl (cI, 200, .inl (nf (rdD M m b))))]) (by rw [← (show (bI true : Int32) = bI (decide (rdV M m b = 2)) from (by first | (rw [decide_eq_true h44]; done) | (rw [decide_eq_false h44]; done)))]) ?_
        refine xg_top (if (rdb M n a && rdb M m b) = true then (0 : Int32) else -2) (by first | (rw [rdV_p h57, rdV_p h62] <;> rfl) | (rw [rdV_0 h57] <;> rfl) | (rw [rdV_0 h62, Bool.and_false] <;> rfl)) ?_
        exact hret () _ _ _ rfl trivial dM_reads_71
      ·
        refine xg_iload hX 0 dM_reads_60 rfl ?_
        refine xg_if_neN hX 70 (by omega) dM_reads_62 (by decide) (fun h62 => ?_) (fun h62 => ?_)
        ·
          refine xg_iconst hX (nI 0) dM_reads_70 (by decide) ?_
          refine xg_wsE (ws' := [(mq, .inr (3, [.ref mm, .ref m1, .ref m2, .ref mo, .ref mr, .int (bI (decide (rdV M n a = 2))), .int (bI true), .int (bI oo), .ref mw, .int (bI men)])), (mm, .inl (cI, 256, .inl (nf M))), (m1, .inl (cI, 200, .inl (nf (rdD M n a)))), (m2, .inl (cI, 200, .inl (nf (rdD M m b))))]) (by rw [← (show (bI false : Int32) = bI (decide (rdV M n a = 2)) from (by first | (rw [decide_eq_true h29]; done) | (rw [decide_eq_false h29]; done)))]) ?_
          refine xg_wsE (ws' := [(mq, .inr (3, [.ref mm, .ref m1, .ref m2, .ref mo, .ref mr, .int (bI (decide (rdV M n a = 2))), .int (bI (decide (rdV M m b = 2))), .int (bI oo), .ref mw, .int (bI men)])), (mm, .inl (cI, 256, .inl (nf M))), (m1, .inl (cI, 200, .inl (nf (rdD M n a)))), (m2, .inl (cI, 200, .inl (nf (rdD M m b))))]) (by rw [← (show (bI true : Int32) = bI (decide (rdV M m b = 2)) from (by first | (rw [decide_eq_true h44]; done) | (rw [decide_eq_false h44]; done)))]) ?_
          refine xg_top (if (rdb M n a && rdb M m b) = true then (0 : Int32) else -2) (by first | (rw [rdV_p h57, rdV_p h62] <;> rfl) | (rw [rdV_0 h57] <;> rfl) | (rw [rdV_0 h62, Bool.and_false] <;> rfl)) ?_
          exact hret () _ _ _ rfl trivial dM_reads_71
        ·
          refine xg_bipush hX ((-2)) dM_reads_65 (by decide) ?_
          refine xg_goto hX 71 dM_reads_67 (by decide) ?_
          refine xg_wsE (ws' := [(mq, .inr (3, [.ref mm, .ref m1, .ref m2, .ref mo, .ref mr, .int (bI (decide (rdV M n a = 2))), .int (bI true), .int (bI oo), .ref mw, .int (bI men)])), (mm, .inl (cI, 256, .inl (nf M))), (m1, .inl (cI, 200, .inl (nf (rdD M n a)))), (m2, .inl (cI, 200, .inl (nf (rdD M m b))))]) (by rw [← (show (bI false : Int32) = bI (decide (rdV M n a = 2)) from (by first | (rw [decide_eq_true h29]; done) | (rw [decide_eq_false h29]; done)))]) ?_
          refine xg_wsE (ws' := [(mq, .inr (3, [.ref mm, .ref m1, .ref m2, .ref mo, .ref mr, .int (bI (decide (rdV M n a = 2))), .int (bI (decide (rdV M m b = 2))), .int (bI oo), .ref mw, .int (bI men)])), (mm, .inl (cI, 256, .inl (nf M))), (m1, .inl (cI, 200, .inl (nf (rdD M n a)))), (m2, .inl (cI, 200, .inl (nf (rdD M m b))))]) (by rw [← (show (bI true : Int32) = bI (decide (rdV M m b = 2)) from (by first | (rw [decide_eq_true h44]; done) | (rw [decide_eq_false h44]; done)))]) ?_
          refine xg_top (if (rdb M n a && rdb M m b) = true then (0 : Int32) else -2) (by first | (rw [rdV_p h57, rdV_p h62] <;> rfl) | (rw [rdV_0 h57] <;> rfl) | (rw [rdV_0 h62, Bool.and_false] <;> rfl)) ?_
          exact hret () _ _ _ rfl trivial dM_reads_71
  ·
    refine xg_iconst hX (nI 1) dM_reads_32 (by decide) ?_
    refine xg_goto hX 37 dM_reads_33 (by decide) ?_
    refine xg_top (bI true) rfl ?_
    refine xg_put hX tyM tyM_ok nmM (ci := 3) rfl hinM (ws' := [(mq, .inr (3, [.ref mm, .ref m1, .ref m2, .ref mo, .ref mr, .int (bI true), .int (bI o2), .int (bI oo), .ref mw, .int (bI men)])), (mm, .inl (cI, 256, .inl (nf M))), (m1, .inl (cI, 200, .inl (nf (rdD M n a)))), (m2, .inl (cI, 200, .inl (nf (rdD M m b))))]) 0 rfl 5 (by decide) mt_329 rfl (xn_narB _) (xn_fitB _) (Nat.le_of_ble_eq_true rfl) rfl dM_reads_37 ?_
    refine xg_aload_n hX 2 dM_reads_40 rfl rfl ?_
    refine xg_iload hX 0 dM_reads_41 rfl ?_
    refine xg_iconst hX (nI 2) dM_reads_43 (by decide) ?_
    refine xg_icmp_neN hX 51 (by omega) (by omega) dM_reads_44 (by decide) (fun h44 => ?_) (fun h44 => ?_)
    ·
      refine xg_iconst hX (nI 0) dM_reads_51 (by decide) ?_
      refine xg_top (bI false) rfl ?_
      refine xg_put hX tyM tyM_ok nmM (ci := 3) rfl hinM (ws' := [(mq, .inr (3, [.ref mm, .ref m1, .ref m2, .ref mo, .ref mr, .int (bI true), .int (bI false), .int (bI oo), .ref mw, .int (bI men)])), (mm, .inl (cI, 256, .inl (nf M))), (m1, .inl (cI, 200, .inl (nf (rdD M n a)))), (m2, .inl (cI, 200, .inl (nf (rdD M m b))))]) 0 rfl 6 (by decide) mt_330 rfl (xn_narB _) (xn_fitB _) (Nat.le_of_ble_eq_true rfl) rfl dM_reads_52 ?_
      refine xg_iload hX 1 dM_reads_55 rfl ?_
      refine xg_if_eqN hX 65 (by omega) dM_reads_57 (by decide) (fun h57 => ?_) (fun h57 => ?_)
      ·
        refine xg_bipush hX ((-2)) dM_reads_65 (by decide) ?_
        refine xg_goto hX 71 dM_reads_67 (by decide) ?_
        refine xg_wsE (ws' := [(mq, .inr (3, [.ref mm, .ref m1, .ref m2, .ref mo, .ref mr, .int (bI (decide (rdV M n a = 2))), .int (bI false), .int (bI oo), .ref mw, .int (bI men)])), (mm, .inl (cI, 256, .inl (nf M))), (m1, .inl (cI, 200, .inl (nf (rdD M n a)))), (m2, .inl (cI, 200, .inl (nf (rdD M m b))))]) (by rw [← (show (bI true : Int32) = bI (decide (rdV M n a = 2)) from (by first | (rw [decide_eq_true h29]; done) | (rw [decide_eq_false h29]; done)))]) ?_
        refine xg_wsE (ws' := [(mq, .inr (3, [.ref mm, .ref m1, .ref m2, .ref mo, .ref mr, .int (bI (decide (rdV M n a = 2))), .int (bI (decide (rdV M m b = 2))), .int (bI oo), .ref mw, .int (bI men)])), (mm, .inl (cI, 256, .inl (nf M))), (m1, .inl (cI, 200, .inl (nf (rdD M n a)))), (m2, .inl (cI, 200, .inl (nf (rdD M m b))))]) (by rw [← (show (bI false : Int32) = bI (decide (rdV M m b = 2)) from (by first | (rw [decide_eq_true h44]; done) | (rw [decide_eq_false h44]; done)))]) ?_
        refine xg_top (if (rdb M n a && rdb M m b) = true then (0 : Int32) else -2) (by first | (rw [rdV_p h57, rdV_p h62] <;> rfl) | (rw [rdV_0 h57] <;> rfl) | (rw [rdV_0 h62, Bool.and_false] <;> rfl)) ?_
        exact hret () _ _ _ rfl trivial dM_reads_71
      ·
        refine xg_iload hX 0 dM_reads_60 rfl ?_
        refine xg_if_neN hX 70 (by omega) dM_reads_62 (by decide) (fun h62 => ?_) (fun h62 => ?_)
        ·
          refine xg_iconst hX (nI 0) dM_reads_70 (by decide) ?_
          refine xg_wsE (ws' := [(mq, .inr (3, [.ref mm, .ref m1, .ref m2, .ref mo, .ref mr, .int (bI (decide (rdV M n a = 2))), .int (bI false), .int (bI oo), .ref mw, .int (bI men)])), (mm, .inl (cI, 256, .inl (nf M))), (m1, .inl (cI, 200, .inl (nf (rdD M n a)))), (m2, .inl (cI, 200, .inl (nf (rdD M m b))))]) (by rw [← (show (bI true : Int32) = bI (decide (rdV M n a = 2)) from (by first | (rw [decide_eq_true h29]; done) | (rw [decide_eq_false h29]; done)))]) ?_
          refine xg_wsE (ws' := [(mq, .inr (3, [.ref mm, .ref m1, .ref m2, .ref mo, .ref mr, .int (bI (decide (rdV M n a = 2))), .int (bI (decide (rdV M m b = 2))), .int (bI oo), .ref mw, .int (bI men)])), (mm, .inl (cI, 256, .inl (nf M))), (m1, .inl (cI, 200, .inl (nf (rdD M n a)))), (m2, .inl (cI, 200, .inl (nf (rdD M m b))))]) (by rw [← (show (bI false : Int32) = bI (decide (rdV M m b = 2)) from (by first | (rw [decide_eq_true h44]; done) | (rw [decide_eq_false h44]; done)))]) ?_
          refine xg_top (if (rdb M n a && rdb M m b) = true then (0 : Int32) else -2) (by first | (rw [rdV_p h57, rdV_p h62] <;> rfl) | (rw [rdV_0 h57] <;> rfl) | (rw [rdV_0 h62, Bool.and_false] <;> rfl)) ?_
          exact hret () _ _ _ rfl trivial dM_reads_71
        ·
          refine xg_bipush hX ((-2)) dM_reads_65 (by decide) ?_
          refine xg_goto hX 71 dM_reads_67 (by decide) ?_
          refine xg_wsE (ws' := [(mq, .inr (3, [.ref mm, .ref m1, .ref m2, .ref mo, .ref mr, .int (bI (decide (rdV M n a = 2))), .int (bI false), .int (bI oo), .ref mw, .int (bI men)])), (mm, .inl (cI, 256, .inl (nf M))), (m1, .inl (cI, 200, .inl (nf (rdD M n a)))), (m2, .inl (cI, 200, .inl (nf (rdD M m b))))]) (by rw [← (show (bI true : Int32) = bI (decide (rdV M n a = 2)) from (by first | (rw [decide_eq_true h29]; done) | (rw [decide_eq_false h29]; done)))]) ?_
          refine xg_wsE (ws' := [(mq, .inr (3, [.ref mm, .ref m1, .ref m2, .ref mo, .ref mr, .int (bI (decide (rdV M n a = 2))), .int (bI (decide (rdV M m b = 2))), .int (bI oo), .ref mw, .int (bI men)])), (mm, .inl (cI, 256, .inl (nf M))), (m1, .inl (cI, 200, .inl (nf (rdD M n a)))), (m2, .inl (cI, 200, .inl (nf (rdD M m b))))]) (by rw [← (show (bI false : Int32) = bI (decide (rdV M m b = 2)) from (by first | (rw [decide_eq_true h44]; done) | (rw [decide_eq_false h44]; done)))]) ?_
          refine xg_top (if (rdb M n a && rdb M m b) = true then (0 : Int32) else -2) (by first | (rw [rdV_p h57, rdV_p h62] <;> rfl) | (rw [rdV_0 h57] <;> rfl) | (rw [rdV_0 h62, Bool.and_false] <;> rfl)) ?_
          exact hret () _ _ _ rfl trivial dM_reads_71
    ·
      refine xg_iconst hX (nI 1) dM_reads_47 (by decide) ?_
      refine xg_goto hX 52 dM_reads_48 (by decide) ?_
      refine xg_top (bI true) rfl ?_
      refine xg_put hX tyM tyM_ok nmM (ci := 3) rfl hinM (ws' := [(mq, .inr (3, [.ref mm, .ref m1, .ref m2, .ref mo, .ref mr, .int (bI true), .int (bI true), .int (bI oo), .ref mw, .int (bI men)])), (mm, .inl (cI, 256, .inl (nf M))), (m1, .inl (cI, 200, .inl (nf (rdD M n a)))), (m2, .inl (cI, 200, .inl (nf (rdD M m b))))]) 0 rfl 6 (by decide) mt_330 rfl (xn_narB _) (xn_fitB _) (Nat.le_of_ble_eq_true rfl) rfl dM_reads_52 ?_
      refine xg_iload hX 1 dM_reads_55 rfl ?_
      refine xg_if_eqN hX 65 (by omega) dM_reads_57 (by decide) (fun h57 => ?_) (fun h57 => ?_)
      ·
        refine xg_bipush hX ((-2)) dM_reads_65 (by decide) ?_
        refine xg_goto hX 71 dM_reads_67 (by decide) ?_
        refine xg_wsE (ws' := [(mq, .inr (3, [.ref mm, .ref m1, .ref m2, .ref mo, .ref mr, .int (bI (decide (rdV M n a = 2))), .int (bI true), .int (bI oo), .ref mw, .int (bI men)])), (mm, .inl (cI, 256, .inl (nf M))), (m1, .inl (cI, 200, .inl (nf (rdD M n a)))), (m2, .inl (cI, 200, .inl (nf (rdD M m b))))]) (by rw [← (show (bI true : Int32) = bI (decide (rdV M n a = 2)) from (by first | (rw [decide_eq_true h29]; done) | (rw [decide_eq_false h29]; done)))]) ?_
        refine xg_wsE (ws' := [(mq, .inr (3, [.ref mm, .ref m1, .ref m2, .ref mo, .ref mr, .int (bI (decide (rdV M n a = 2))), .int (bI (decide (rdV M m b = 2))), .int (bI oo), .ref mw, .int (bI men)])), (mm, .inl (cI, 256, .inl (nf M))), (m1, .inl (cI, 200, .inl (nf (rdD M n a)))), (m2, .inl (cI, 200, .inl (nf (rdD M m b))))]) (by rw [← (show (bI true : Int32) = bI (decide (rdV M m b = 2)) from (by first | (rw [decide_eq_true h44]; done) | (rw [decide_eq_false h44]; done)))]) ?_
        refine xg_top (if (rdb M n a && rdb M m b) = true then (0 : Int32) else -2) (by first | (rw [rdV_p h57, rdV_p h62] <;> rfl) | (rw [rdV_0 h57] <;> rfl) | (rw [rdV_0 h62, Bool.and_false] <;> rfl)) ?_
        exact hret () _ _ _ rfl trivial dM_reads_71
      ·
        refine xg_iload hX 0 dM_reads_60 rfl ?_
        refine xg_if_neN hX 70 (by omega) dM_reads_62 (by decide) (fun h62 => ?_) (fun h62 => ?_)
        ·
          refine xg_iconst hX (nI 0) dM_reads_70 (by decide) ?_
          refine xg_wsE (ws' := [(mq, .inr (3, [.ref mm, .ref m1, .ref m2, .ref mo, .ref mr, .int (bI (decide (rdV M n a = 2))), .int (bI true), .int (bI oo), .ref mw, .int (bI men)])), (mm, .inl (cI, 256, .inl (nf M))), (m1, .inl (cI, 200, .inl (nf (rdD M n a)))), (m2, .inl (cI, 200, .inl (nf (rdD M m b))))]) (by rw [← (show (bI true : Int32) = bI (decide (rdV M n a = 2)) from (by first | (rw [decide_eq_true h29]; done) | (rw [decide_eq_false h29]; done)))]) ?_
          refine xg_wsE (ws' := [(mq, .inr (3, [.ref mm, .ref m1, .ref m2, .ref mo, .ref mr, .int (bI (decide (rdV M n a = 2))), .int (bI (decide (rdV M m b = 2))), .int (bI oo), .ref mw, .int (bI men)])), (mm, .inl (cI, 256, .inl (nf M))), (m1, .inl (cI, 200, .inl (nf (rdD M n a)))), (m2, .inl (cI, 200, .inl (nf (rdD M m b))))]) (by rw [← (show (bI true : Int32) = bI (decide (rdV M m b = 2)) from (by first | (rw [decide_eq_true h44]; done) | (rw [decide_eq_false h44]; done)))]) ?_
          refine xg_top (if (rdb M n a && rdb M m b) = true then (0 : Int32) else -2) (by first | (rw [rdV_p h57, rdV_p h62] <;> rfl) | (rw [rdV_0 h57] <;> rfl) | (rw [rdV_0 h62, Bool.and_false] <;> rfl)) ?_
          exact hret () _ _ _ rfl trivial dM_reads_71
        ·
          refine xg_bipush hX ((-2)) dM_reads_65 (by decide) ?_
          refine xg_goto hX 71 dM_reads_67 (by decide) ?_
          refine xg_wsE (ws' := [(mq, .inr (3, [.ref mm, .ref m1, .ref m2, .ref mo, .ref mr, .int (bI (decide (rdV M n a = 2))), .int (bI true), .int (bI oo), .ref mw, .int (bI men)])), (mm, .inl (cI, 256, .inl (nf M))), (m1, .inl (cI, 200, .inl (nf (rdD M n a)))), (m2, .inl (cI, 200, .inl (nf (rdD M m b))))]) (by rw [← (show (bI true : Int32) = bI (decide (rdV M n a = 2)) from (by first | (rw [decide_eq_true h29]; done) | (rw [decide_eq_false h29]; done)))]) ?_
          refine xg_wsE (ws' := [(mq, .inr (3, [.ref mm, .ref m1, .ref m2, .ref mo, .ref mr, .int (bI (decide (rdV M n a = 2))), .int (bI (decide (rdV M m b = 2))), .int (bI oo), .ref mw, .int (bI men)])), (mm, .inl (cI, 256, .inl (nf M))), (m1, .inl (cI, 200, .inl (nf (rdD M n a)))), (m2, .inl (cI, 200, .inl (nf (rdD M m b))))]) (by rw [← (show (bI true : Int32) = bI (decide (rdV M m b = 2)) from (by first | (rw [decide_eq_true h44]; done) | (rw [decide_eq_false h44]; done)))]) ?_
          refine xg_top (if (rdb M n a && rdb M m b) = true then (0 : Int32) else -2) (by first | (rw [rdV_p h57, rdV_p h62] <;> rfl) | (rw [rdV_0 h57] <;> rfl) | (rw [rdV_0 h62, Bool.and_false] <;> rfl)) ?_
          exact hret () _ _ _ rfl trivial dM_reads_71
set_option maxHeartbeats 4000000 in
set_option maxRecDepth 100000 in
theorem yc_three (l : Launch) (D : va_G) (cI : ClassId) (mq : Nat) (mm : Nat) (m1 : Nat) (m2 : Nat) (mo : Nat) (mr : Nat) (mw : Nat) (o1 : Bool) (o2 : Bool) (oo : Bool) (men : Bool) (M : Nat → Nat) (x1 : Nat → Nat) (x2 : Nat → Nat) (n : Int32) (a : Int32) (m : Int32) (b : Int32) (k : Int32) (c : Int32) (hM : ∀ j, M j < 256) : Ctr l D cI yM_three cM_three 7 (some .int) { frames := 2, cells := 0, slots := 0, locals := 55 } [.ref mq, .int n, .int a, .int m, .int b, .int k, .int c] [(mq, .inr (3, [.ref mm, .ref m1, .ref m2, .ref mo, .ref mr, .int (bI o1), .int (bI o2), .int (bI oo), .ref mw, .int (bI men)])), (mm, .inl (cI, 256, .inl (nf M))), (m1, .inl (cI, 200, .inl (nf x1))), (m2, .inl (cI, 200, .inl (nf x2)))] (fun u : Int32 × (Nat → Nat) × Bool × (Nat → Nat) × Bool => match u with | (r, y1, q1, y2, q2) => some (.int r)) (fun u : Int32 × (Nat → Nat) × Bool × (Nat → Nat) × Bool => match u with | (r, y1, q1, y2, q2) => r = opR M n a m b k c ∧ (r = 0 → y1 = rdD M (tn n) (tn a) ∧ q1 = rdG M (tn n) (tn a) ∧ y2 = rdD M (tn m) (tn b) ∧ q2 = rdG M (tn m) (tn b))) (fun u : Int32 × (Nat → Nat) × Bool × (Nat → Nat) × Bool => match u with | (r, y1, q1, y2, q2) => [(mq, .inr (3, [.ref mm, .ref m1, .ref m2, .ref mo, .ref mr, .int (bI q1), .int (bI q2), .int (bI oo), .ref mw, .int (bI men)])), (mm, .inl (cI, 256, .inl (nf M))), (m1, .inl (cI, 200, .inl (nf y1))), (m2, .inl (cI, 200, .inl (nf y2)))]) 0 0 := by
  refine xc_mkI (by decide +kernel) (Nat.le_of_ble_eq_true rfl) (fun X hX hret => ?_)
  show GG D X 0 0 0 [(mq, .inr (3, [.ref mm, .ref m1, .ref m2, .ref mo, .ref mr, .int (bI o1), .int (bI o2), .int (bI oo), .ref mw, .int (bI men)])), (mm, .inl (cI, 256, .inl (nf M))), (m1, .inl (cI, 200, .inl (nf x1))), (m2, .inl (cI, 200, .inl (nf x2)))] [(0, .ref mq), (1, .int n), (2, .int a), (3, .int m), (4, .int b), (5, .int k), (6, .int c)] []
  refine xg_iload_n hX 1 dM_three_0 rfl rfl ?_
  refine xg_iload_n hX 2 dM_three_1 rfl rfl ?_
  refine xg_cS hX [.int n, .int a] (hM := yc_isThere l D cI n a) (wr := [(mq, .inr (3, [.ref mm, .ref m1, .ref m2, .ref mo, .ref mr, .int (bI o1), .int (bI o2), .int (bI oo), .ref mw, .int (bI men)])), (mm, .inl (cI, 256, .inl (nf M))), (m1, .inl (cI, 200, .inl (nf x1))), (m2, .inl (cI, 200, .inl (nf x2)))]) (ws' := fun _ => [(mq, .inr (3, [.ref mm, .ref m1, .ref m2, .ref mo, .ref mr, .int (bI o1), .int (bI o2), .int (bI oo), .ref mw, .int (bI men)])), (mm, .inl (cI, 256, .inl (nf M))), (m1, .inl (cI, 200, .inl (nf x1))), (m2, .inl (cI, 200, .inl (nf x2)))]) (st' := fun _ => [.int (bI (dfits n a))]) [] [0, 1, 2, 3] [0, 1, 2, 3] [] rfl mt_373 mt_371 mt_4 mt_372 hdM_isThere (by decide) ⟨rfl, rfl⟩ (by decide) rfl rfl (by decide) rfl (by decide) (by decide) (by decide) (fun u => rfl) (fun u => rfl) (fun u => rfl) rfl rfl (by simp [Value.category]) dM_three_2 (fun _ _ => ?_)
  refine xg_if_eqB hX 39 dM_three_5 (by decide) (fun h5 => ?_) (fun h5 => ?_)
  ·
    refine xg_iconst hX ((-1)) dM_three_39 (by decide) ?_
    exact hret ((-1), x1, o1, x2, o2) _ _ _ rfl (show (-1) = opR M n a m b k c ∧ ((-1) = 0 → x1 = rdD M (tn n) (tn a) ∧ o1 = rdG M (tn n) (tn a) ∧ x2 = rdD M (tn m) (tn b) ∧ o2 = rdG M (tn m) (tn b)) from ⟨by unfold opR; rw [if_neg (fun q => by simp only [Bool.and_eq_true] at q; first | exact absurd (h5.symm.trans q.1.1) (by decide) | exact absurd (h14.symm.trans q.1.2) (by decide) | exact absurd (h24.symm.trans q.2) (by decide))], fun q => absurd q (by decide)⟩) dM_three_40
  ·
    refine xg_iload_n hX 3 dM_three_8 rfl rfl ?_
    refine xg_iload hX 4 dM_three_9 rfl ?_
    refine xg_cS hX [.int m, .int b] (hM := yc_isThere l D cI m b) (wr := [(mq, .inr (3, [.ref mm, .ref m1, .ref m2, .ref mo, .ref mr, .int (bI o1), .int (bI o2), .int (bI oo), .ref mw, .int (bI men)])), (mm, .inl (cI, 256, .inl (nf M))), (m1, .inl (cI, 200, .inl (nf x1))), (m2, .inl (cI, 200, .inl (nf x2)))]) (ws' := fun _ => [(mq, .inr (3, [.ref mm, .ref m1, .ref m2, .ref mo, .ref mr, .int (bI o1), .int (bI o2), .int (bI oo), .ref mw, .int (bI men)])), (mm, .inl (cI, 256, .inl (nf M))), (m1, .inl (cI, 200, .inl (nf x1))), (m2, .inl (cI, 200, .inl (nf x2)))]) (st' := fun _ => [.int (bI (dfits m b))]) [] [0, 1, 2, 3] [0, 1, 2, 3] [] rfl mt_373 mt_371 mt_4 mt_372 hdM_isThere (by decide) ⟨rfl, rfl⟩ (by decide) rfl rfl (by decide) rfl (by decide) (by decide) (by decide) (fun u => rfl) (fun u => rfl) (fun u => rfl) rfl rfl (by simp [Value.category]) dM_three_11 (fun _ _ => ?_)
    refine xg_if_eqB hX 39 dM_three_14 (by decide) (fun h14 => ?_) (fun h14 => ?_)
    ·
      refine xg_iconst hX ((-1)) dM_three_39 (by decide) ?_
      exact hret ((-1), x1, o1, x2, o2) _ _ _ rfl (show (-1) = opR M n a m b k c ∧ ((-1) = 0 → x1 = rdD M (tn n) (tn a) ∧ o1 = rdG M (tn n) (tn a) ∧ x2 = rdD M (tn m) (tn b) ∧ o2 = rdG M (tn m) (tn b)) from ⟨by unfold opR; rw [if_neg (fun q => by simp only [Bool.and_eq_true] at q; first | exact absurd (h5.symm.trans q.1.1) (by decide) | exact absurd (h14.symm.trans q.1.2) (by decide) | exact absurd (h24.symm.trans q.2) (by decide))], fun q => absurd q (by decide)⟩) dM_three_40
    ·
      refine xg_iload hX 5 dM_three_17 rfl ?_
      refine xg_iload hX 6 dM_three_19 rfl ?_
      refine xg_cS hX [.int k, .int c] (hM := yc_isThere l D cI k c) (wr := [(mq, .inr (3, [.ref mm, .ref m1, .ref m2, .ref mo, .ref mr, .int (bI o1), .int (bI o2), .int (bI oo), .ref mw, .int (bI men)])), (mm, .inl (cI, 256, .inl (nf M))), (m1, .inl (cI, 200, .inl (nf x1))), (m2, .inl (cI, 200, .inl (nf x2)))]) (ws' := fun _ => [(mq, .inr (3, [.ref mm, .ref m1, .ref m2, .ref mo, .ref mr, .int (bI o1), .int (bI o2), .int (bI oo), .ref mw, .int (bI men)])), (mm, .inl (cI, 256, .inl (nf M))), (m1, .inl (cI, 200, .inl (nf x1))), (m2, .inl (cI, 200, .inl (nf x2)))]) (st' := fun _ => [.int (bI (dfits k c))]) [] [0, 1, 2, 3] [0, 1, 2, 3] [] rfl mt_373 mt_371 mt_4 mt_372 hdM_isThere (by decide) ⟨rfl, rfl⟩ (by decide) rfl rfl (by decide) rfl (by decide) (by decide) (by decide) (fun u => rfl) (fun u => rfl) (fun u => rfl) rfl rfl (by simp [Value.category]) dM_three_21 (fun _ _ => ?_)
      refine xg_if_eqB hX 39 dM_three_24 (by decide) (fun h24 => ?_) (fun h24 => ?_)
      ·
        refine xg_iconst hX ((-1)) dM_three_39 (by decide) ?_
        exact hret ((-1), x1, o1, x2, o2) _ _ _ rfl (show (-1) = opR M n a m b k c ∧ ((-1) = 0 → x1 = rdD M (tn n) (tn a) ∧ o1 = rdG M (tn n) (tn a) ∧ x2 = rdD M (tn m) (tn b) ∧ o2 = rdG M (tn m) (tn b)) from ⟨by unfold opR; rw [if_neg (fun q => by simp only [Bool.and_eq_true] at q; first | exact absurd (h5.symm.trans q.1.1) (by decide) | exact absurd (h14.symm.trans q.1.2) (by decide) | exact absurd (h24.symm.trans q.2) (by decide))], fun q => absurd q (by decide)⟩) dM_three_40
      ·
        refine xg_aload_n hX 0 dM_three_27 rfl rfl ?_
        refine xg_iload_n hX 1 dM_three_28 rfl rfl ?_
        refine xg_top (nI (tn n)) (df3 h5) ?_
        refine xg_iload_n hX 2 dM_three_29 rfl rfl ?_
        refine xg_top (nI (tn a)) (df4 h5) ?_
        refine xg_iload_n hX 3 dM_three_30 rfl rfl ?_
        refine xg_top (nI (tn m)) (df3 h14) ?_
        refine xg_iload hX 4 dM_three_31 rfl ?_
        refine xg_top (nI (tn b)) (df4 h14) ?_
        refine xg_cV hX mq [.int (nI (tn n)), .int (nI (tn a)), .int (nI (tn m)), .int (nI (tn b))] (hM := yc_reads l D cI mq mm m1 m2 mo mr mw o1 o2 oo men M x1 x2 (tn n) (tn a) (tn m) (tn b) (df1 h5) (df2 h5) (df1 h14) (df2 h14) hM) (wr := []) (ws' := fun _ => [(mq, .inr (3, [.ref mm, .ref m1, .ref m2, .ref mo, .ref mr, .int (bI (decide (rdV M (tn n) (tn a) = 2))), .int (bI (decide (rdV M (tn m) (tn b) = 2))), .int (bI oo), .ref mw, .int (bI men)])), (mm, .inl (cI, 256, .inl (nf M))), (m1, .inl (cI, 200, .inl (nf (rdD M (tn n) (tn a))))), (m2, .inl (cI, 200, .inl (nf (rdD M (tn m) (tn b)))))]) (st' := fun _ => [.int (if (rdb M (tn n) (tn a) && rdb M (tn m) (tn b)) = true then (0 : Int32) else -2)]) [0, 1, 2, 3] [] [0, 1, 2, 3] [] rfl mt_383 mt_380 mt_4 mt_382 mp_18 0 rfl rfl hdM_reads (by decide) ⟨rfl, rfl⟩ (by decide) rfl rfl (by decide) rfl (by decide) (by decide) (by decide) (fun u => rfl) (fun u => rfl) (fun u => rfl) rfl rfl (by simp [Value.category]) dM_three_33 (fun _ _ => ?_)
        refine xg_goto hX 40 dM_three_36 (by decide) ?_
        exact hret (if (rdb M (tn n) (tn a) && rdb M (tn m) (tn b)) = true then (0 : Int32) else -2, rdD M (tn n) (tn a), decide (rdV M (tn n) (tn a) = 2), rdD M (tn m) (tn b), decide (rdV M (tn m) (tn b) = 2)) _ _ _ rfl (show (if (rdb M (tn n) (tn a) && rdb M (tn m) (tn b)) = true then (0 : Int32) else -2) = opR M n a m b k c ∧ ((if (rdb M (tn n) (tn a) && rdb M (tn m) (tn b)) = true then (0 : Int32) else -2) = 0 → (rdD M (tn n) (tn a)) = rdD M (tn n) (tn a) ∧ (decide (rdV M (tn n) (tn a) = 2)) = rdG M (tn n) (tn a) ∧ (rdD M (tn m) (tn b)) = rdD M (tn m) (tn b) ∧ (decide (rdV M (tn m) (tn b) = 2)) = rdG M (tn m) (tn b)) from ⟨by unfold opR; exact (if_pos (by rw [h5, h14, h24] <;> rfl)).symm, fun q => by by_cases hb2 : (rdb M (tn n) (tn a) && rdb M (tn m) (tn b)) = true; (simp only [Bool.and_eq_true] at hb2; exact ⟨rfl, rdV_2 hb2.1, rfl, rdV_2 hb2.2⟩); (rw [if_neg hb2] at q; exact absurd q (by decide))⟩) dM_three_40
set_option maxHeartbeats 4000000 in
set_option maxRecDepth 100000 in
theorem yc_than (l : Launch) (D : va_G) (cI : ClassId) (tp : Nat) (td : Nat → Nat) (up_ : Nat) (ud : Nat → Nat) (htd : ∀ j, td j < 1000) (hud : ∀ j, ud j < 1000) : Ctr l D cI yM_than cM_than 4 (some .int) { frames := 0, cells := 0, slots := 0, locals := 0 } [.ref tp, .ref up_] [(tp, .inl (cI, 200, .inl (nf td))), (up_, .inl (cI, 200, .inl (nf ud)))] (fun _ : Unit => some (.int (cmpZ td ud 200))) (fun _ : Unit => True) (fun _ : Unit => [(tp, .inl (cI, 200, .inl (nf td))), (up_, .inl (cI, 200, .inl (nf ud)))]) 0 0 := by
  refine xc_mkI (by decide +kernel) (Nat.le_of_ble_eq_true rfl) (fun X hX hret => ?_)
  show GG D X 0 0 0 [(tp, .inl (cI, 200, .inl (nf td))), (up_, .inl (cI, 200, .inl (nf ud)))] [(0, .ref tp), (1, .ref up_)] []
  refine xg_iconst hX (nI 0) dM_than_0 (by decide) ?_
  refine xg_istore_n hX (lv' := [(2, .int (nI 0)), (0, .ref tp), (1, .ref up_)]) dM_than_1 rfl (by decide) rfl ?_
  refine xg_iconst hX (nI 0) dM_than_2 (by decide) ?_
  refine xg_istore_n hX (lv' := [(3, .int (nI 0)), (2, .int (nI 0)), (0, .ref tp), (1, .ref up_)]) dM_than_3 rfl (by decide) rfl ?_
  have lp1 : ∀ (fu2 : Nat) (i : Nat), (i ≤ 200) → 200 - i < fu2 → GG D X 0 0 4 [(tp, .inl (cI, 200, .inl (nf td))), (up_, .inl (cI, 200, .inl (nf ud)))] [(0, .ref tp), (1, .ref up_), (2, .int (cmpZ td ud i)), (3, .int (nI i))] [] := by
    intro fu2
    induction fu2 with
    | zero => intro i hi hm4; exact absurd hm4 (Nat.not_lt_zero _)
    | succ fu2 ih3 =>
      intro i hi hm4
      have e1 := htd i
      have e2 := hud i
      refine xg_iload_n hX 3 dM_than_4 rfl rfl ?_
      refine xg_sipush hX (nI 200) dM_than_5 (by decide) ?_
      refine xg_icmp_geN hX 45 (by omega) (by omega) dM_than_8 (by decide) (fun h8 => ?_) (fun h8 => ?_)
      ·
        refine xg_iload_n hX 2 dM_than_45 rfl rfl ?_
        refine xg_top (cmpZ td ud 200) (by rw [show i = 200 by omega]) ?_
        exact hret () _ _ _ rfl trivial dM_than_46
      ·
        refine xg_aload_n hX 0 dM_than_11 rfl rfl ?_
        refine xg_iload_n hX 3 dM_than_12 rfl rfl ?_
        refine xg_iald hX 0 i rfl (by omega) (by decide) dM_than_13 ?_
        refine xg_aload_n hX 1 dM_than_14 rfl rfl ?_
        refine xg_iload_n hX 3 dM_than_15 rfl rfl ?_
        refine xg_iald hX 1 i rfl (by omega) (by decide) dM_than_16 ?_
        refine xg_icmp_eqN hX 37 (by omega) (by omega) dM_than_17 (by decide) (fun h17 => ?_) (fun h17 => ?_)
        ·
          refine xg_iload_n hX 2 dM_than_37 rfl rfl ?_
          refine xg_istore_n hX (lv' := [(2, .int (cmpZ td ud i)), (0, .ref tp), (1, .ref up_), (3, .int (nI i))]) dM_than_38 rfl (by decide) rfl ?_
          refine xg_iincN hX (lv' := [(3, .int (nI (i + 1))), (2, .int (cmpZ td ud i)), (0, .ref tp), (1, .ref up_)]) (i + 1) 3 dM_than_39 rfl (xn_inc _) (by decide) rfl ?_
          refine xg_goto hX 4 dM_than_42 (by decide) ?_
          refine xg_lv hX (lv' := [(0, .ref tp), (1, .ref up_), (2, .int (cmpZ td ud i)), (3, .int (nI (i + 1)))]) [2, 3, 1, 0] rfl ?_
          refine xg_lvE (lv' := [(0, .ref tp), (1, .ref up_), (2, .int (cmpZ td ud (i + 1))), (3, .int (nI (i + 1)))]) (by rw [← (show (cmpZ td ud i : Int32) = cmpZ td ud (i + 1) from (by show _ = (if td i = ud i then cmpZ td ud i else if td i < ud i then -1 else 1); first | (rw [if_pos h17]; done) | (rw [if_neg h17, if_pos h26]; done) | (rw [if_neg h17, if_neg (by omega)] <;> rfl)))]) ?_
          exact ih3 (i + 1) (by omega) (by omega)
        ·
          refine xg_aload_n hX 0 dM_than_20 rfl rfl ?_
          refine xg_iload_n hX 3 dM_than_21 rfl rfl ?_
          refine xg_iald hX 0 i rfl (by omega) (by decide) dM_than_22 ?_
          refine xg_aload_n hX 1 dM_than_23 rfl rfl ?_
          refine xg_iload_n hX 3 dM_than_24 rfl rfl ?_
          refine xg_iald hX 1 i rfl (by omega) (by decide) dM_than_25 ?_
          refine xg_icmp_geN hX 33 (by omega) (by omega) dM_than_26 (by decide) (fun h26 => ?_) (fun h26 => ?_)
          ·
            refine xg_iconst hX (nI 1) dM_than_33 (by decide) ?_
            refine xg_goto hX 38 dM_than_34 (by decide) ?_
            refine xg_istore_n hX (lv' := [(2, .int (nI 1)), (0, .ref tp), (1, .ref up_), (3, .int (nI i))]) dM_than_38 rfl (by decide) rfl ?_
            refine xg_iincN hX (lv' := [(3, .int (nI (i + 1))), (2, .int (nI 1)), (0, .ref tp), (1, .ref up_)]) (i + 1) 3 dM_than_39 rfl (xn_inc _) (by decide) rfl ?_
            refine xg_goto hX 4 dM_than_42 (by decide) ?_
            refine xg_lv hX (lv' := [(0, .ref tp), (1, .ref up_), (2, .int (nI 1)), (3, .int (nI (i + 1)))]) [2, 3, 1, 0] rfl ?_
            refine xg_lvE (lv' := [(0, .ref tp), (1, .ref up_), (2, .int (cmpZ td ud (i + 1))), (3, .int (nI (i + 1)))]) (by rw [← (show (nI 1 : Int32) = cmpZ td ud (i + 1) from (by show _ = (if td i = ud i then cmpZ td ud i else if td i < ud i then -1 else 1); first | (rw [if_pos h17]; done) | (rw [if_neg h17, if_pos h26]; done) | (rw [if_neg h17, if_neg (by omega)] <;> rfl)))]) ?_
            exact ih3 (i + 1) (by omega) (by omega)
          ·
            refine xg_iconst hX ((-1)) dM_than_29 (by decide) ?_
            refine xg_goto hX 38 dM_than_30 (by decide) ?_
            refine xg_istore_n hX (lv' := [(2, .int (-1)), (0, .ref tp), (1, .ref up_), (3, .int (nI i))]) dM_than_38 rfl (by decide) rfl ?_
            refine xg_iincN hX (lv' := [(3, .int (nI (i + 1))), (2, .int (-1)), (0, .ref tp), (1, .ref up_)]) (i + 1) 3 dM_than_39 rfl (xn_inc _) (by decide) rfl ?_
            refine xg_goto hX 4 dM_than_42 (by decide) ?_
            refine xg_lv hX (lv' := [(0, .ref tp), (1, .ref up_), (2, .int (-1)), (3, .int (nI (i + 1)))]) [2, 3, 1, 0] rfl ?_
            refine xg_lvE (lv' := [(0, .ref tp), (1, .ref up_), (2, .int (cmpZ td ud (i + 1))), (3, .int (nI (i + 1)))]) (by rw [← (show ((-1) : Int32) = cmpZ td ud (i + 1) from (by show _ = (if td i = ud i then cmpZ td ud i else if td i < ud i then -1 else 1); first | (rw [if_pos h17]; done) | (rw [if_neg h17, if_pos h26]; done) | (rw [if_neg h17, if_neg (by omega)] <;> rfl)))]) ?_
            exact ih3 (i + 1) (by omega) (by omega)
  refine xg_lv hX (lv' := [(0, .ref tp), (1, .ref up_), (2, .int (nI 0)), (3, .int (nI 0))]) [2, 3, 1, 0] rfl ?_
  refine xg_lvE (lv' := [(0, .ref tp), (1, .ref up_), (2, .int (cmpZ td ud 0)), (3, .int (nI 0))]) (by rw [← (show (nI 0 : Int32) = cmpZ td ud 0 from rfl)]) ?_
  exact lp1 (200 - 0 + 1) 0 (by omega) (Nat.lt_succ_self _)
set_option maxHeartbeats 4000000 in
set_option maxRecDepth 100000 in
theorem yc_adds (l : Launch) (D : va_G) (cI : ClassId) (mq : Nat) (mm : Nat) (m1 : Nat) (m2 : Nat) (mo : Nat) (mr : Nat) (mw : Nat) (o1 : Bool) (o2 : Bool) (oo : Bool) (men : Bool) (x1 : Nat → Nat) (x2 : Nat → Nat) (xo : Nat → Nat) (hx1 : ∀ j, x1 j < 10) (hx2 : ∀ j, x2 j < 10) : Ctr l D cI yM_adds cM_adds 5 none { frames := 1, cells := 0, slots := 0, locals := 23 } [.ref mq] [(mq, .inr (3, [.ref mm, .ref m1, .ref m2, .ref mo, .ref mr, .int (bI o1), .int (bI o2), .int (bI oo), .ref mw, .int (bI men)])), (m1, .inl (cI, 200, .inl (nf x1))), (m2, .inl (cI, 200, .inl (nf x2))), (mo, .inl (cI, 200, .inl (nf xo)))] (fun _ : Unit => none) (fun _ : Unit => True) (fun _ : Unit => [(mq, .inr (3, [.ref mm, .ref m1, .ref m2, .ref mo, .ref mr, .int (bI o1), .int (bI o2), .int (bI (adS x1 o1 x2 o2)), .ref mw, .int (bI men)])), (m1, .inl (cI, 200, .inl (nf x1))), (m2, .inl (cI, 200, .inl (nf x2))), (mo, .inl (cI, 200, .inl (nf (adM x1 o1 x2 o2 xo))))]) 0 0 := by
  refine xc_mkV (by decide +kernel) (Nat.le_of_ble_eq_true rfl) (fun X hX hin hret => ?_)
  show GG D X 0 0 0 [(mq, .inr (3, [.ref mm, .ref m1, .ref m2, .ref mo, .ref mr, .int (bI o1), .int (bI o2), .int (bI oo), .ref mw, .int (bI men)])), (m1, .inl (cI, 200, .inl (nf x1))), (m2, .inl (cI, 200, .inl (nf x2))), (mo, .inl (cI, 200, .inl (nf xo)))] [(0, .ref mq)] []
  refine xg_aload_n hX 0 dM_adds_0 rfl rfl ?_
  refine xg_get hX (ci := 3) rfl hinM 0 rfl 5 (by decide) mt_329 rfl dM_adds_1 ?_
  refine xg_aload_n hX 0 dM_adds_4 rfl rfl ?_
  refine xg_get hX (ci := 3) rfl hinM 0 rfl 6 (by decide) mt_330 rfl dM_adds_5 ?_
  refine xg_icmp_neB hX 68 dM_adds_8 (by decide) (fun h8 => ?_) (fun h8 => ?_)
  ·
    refine xg_aload_n hX 0 dM_adds_68 rfl rfl ?_
    refine xg_get hX (ci := 3) rfl hinM 0 rfl 1 (by decide) mt_325 rfl dM_adds_69 ?_
    refine xg_aload_n hX 0 dM_adds_72 rfl rfl ?_
    refine xg_get hX (ci := 3) rfl hinM 0 rfl 2 (by decide) mt_326 rfl dM_adds_73 ?_
    refine xg_cS hX [.ref m1, .ref m2] (hM := yc_than l D cI m1 x1 m2 x2 (fun j => by have := hx1 j; omega) (fun j => by have := hx2 j; omega)) (wr := [(mq, .inr (3, [.ref mm, .ref m1, .ref m2, .ref mo, .ref mr, .int (bI o1), .int (bI o2), .int (bI oo), .ref mw, .int (bI men)])), (mo, .inl (cI, 200, .inl (nf xo)))]) (ws' := fun _ => [(mq, .inr (3, [.ref mm, .ref m1, .ref m2, .ref mo, .ref mr, .int (bI o1), .int (bI o2), .int (bI oo), .ref mw, .int (bI men)])), (m1, .inl (cI, 200, .inl (nf x1))), (m2, .inl (cI, 200, .inl (nf x2))), (mo, .inl (cI, 200, .inl (nf xo)))]) (st' := fun _ => [.int (cmpZ x1 x2 200)]) [1, 2] [0, 3] [0, 2, 3, 1] [] rfl mt_394 mt_392 mt_4 mt_393 hdM_than (by decide) ⟨rfl, rfl⟩ (by decide) rfl rfl (by decide) rfl (by decide) (by decide) (by decide) (fun u => rfl) (fun u => rfl) (fun u => rfl) rfl rfl (by simp [Value.category]) dM_adds_76 (fun _ _ => ?_)
    refine xg_if_lt hX 86 dM_adds_79 (by decide) (fun h79 => ?_) (fun h79 => ?_)
    ·
      refine xg_iconst hX (nI 0) dM_adds_86 (by decide) ?_
      refine xg_istore_n hX (lv' := [(1, .int (nI 0)), (0, .ref mq)]) dM_adds_87 rfl (by decide) rfl ?_
      refine xg_iconst hX (nI 0) dM_adds_88 (by decide) ?_
      refine xg_istore_n hX (lv' := [(2, .int (nI 0)), (1, .int (nI 0)), (0, .ref mq)]) dM_adds_89 rfl (by decide) rfl ?_
      refine xg_iconst hX (nI 0) dM_adds_90 (by decide) ?_
      refine xg_istore_n hX (lv' := [(3, .int (nI 0)), (2, .int (nI 0)), (1, .int (nI 0)), (0, .ref mq)]) dM_adds_91 rfl (by decide) rfl ?_
      have lp1 : ∀ (fu2 : Nat) (i : Nat), (i ≤ 200) → 200 - i < fu2 → GG D X 0 0 92 [(mq, .inr (3, [.ref mm, .ref m1, .ref m2, .ref mo, .ref mr, .int (bI o1), .int (bI o2), .int (bI oo), .ref mw, .int (bI men)])), (m1, .inl (cI, 200, .inl (nf x1))), (m2, .inl (cI, 200, .inl (nf x2))), (mo, .inl (cI, 200, .inl (nf (mix i (suD x2 x1) xo))))] [(0, .ref mq), (1, .int (nI 0)), (2, .int (nI (suB x2 x1 i))), (3, .int (nI i))] [] := by
        intro fu2
        induction fu2 with
        | zero => intro i hi hm4; exact absurd hm4 (Nat.not_lt_zero _)
        | succ fu2 ih3 =>
          intro i hi hm4
          have e1 := hx1 i
          have e2 := hx2 i
          have e3 := suB_le x2 x1 i
          have e4 : (nI (x2 i) - nI (x1 i) - nI (suB x2 x1 i)).toInt = (x2 i : Int) - (x1 i : Int) - (suB x2 x1 i : Int) := xn_s3 (by omega) (by omega) (by omega)
          refine xg_iload_n hX 3 dM_adds_92 rfl rfl ?_
          refine xg_sipush hX (nI 200) dM_adds_93 (by decide) ?_
          refine xg_icmp_geN hX 166 (by omega) (by omega) dM_adds_96 (by decide) (fun hh_5 => ?_) (fun hh_5 => ?_)
          ·
            refine xg_aload_n hX 0 dM_adds_166 rfl rfl ?_
            refine xg_iload_n hX 1 dM_adds_167 rfl rfl ?_
            refine xg_if_eqN hX 178 (by omega) dM_adds_168 (by decide) (fun _ => ?_) (fun h => absurd h (by decide))
            refine xg_aload_n hX 0 dM_adds_178 rfl rfl ?_
            refine xg_get hX (ci := 3) rfl hinM 0 rfl 6 (by decide) mt_330 rfl dM_adds_179 ?_
            refine xg_put hX tyM tyM_ok nmM (ci := 3) rfl hinM (ws' := [(mq, .inr (3, [.ref mm, .ref m1, .ref m2, .ref mo, .ref mr, .int (bI o1), .int (bI o2), .int (bI o2), .ref mw, .int (bI men)])), (m1, .inl (cI, 200, .inl (nf x1))), (m2, .inl (cI, 200, .inl (nf x2))), (mo, .inl (cI, 200, .inl (nf (mix i (suD x2 x1) xo))))]) 0 rfl 7 (by decide) mt_331 rfl (xn_narB _) (xn_fitB _) (Nat.le_of_ble_eq_true rfl) rfl dM_adds_182 ?_
            have hie : i = 200 := by omega
            refine xg_wsE (ws' := [(mq, .inr (3, [.ref mm, .ref m1, .ref m2, .ref mo, .ref mr, .int (bI o1), .int (bI o2), .int (bI (adS x1 o1 x2 o2)), .ref mw, .int (bI men)])), (m1, .inl (cI, 200, .inl (nf x1))), (m2, .inl (cI, 200, .inl (nf x2))), (mo, .inl (cI, 200, .inl (nf (mix i (suD x2 x1) xo))))]) (by rw [← (show (bI o2 : Int32) = bI (adS x1 o1 x2 o2) from (by unfold adS; first | (rw [if_pos h8]; done) | (rw [if_neg h8, if_pos h79]; done) | (rw [if_neg h8, if_neg h79]; done)))]) ?_
            refine xg_ext hX (g := adM x1 o1 x2 o2 xo) (ws' := [(mq, .inr (3, [.ref mm, .ref m1, .ref m2, .ref mo, .ref mr, .int (bI o1), .int (bI o2), .int (bI (adS x1 o1 x2 o2)), .ref mw, .int (bI men)])), (m1, .inl (cI, 200, .inl (nf x1))), (m2, .inl (cI, 200, .inl (nf x2))), (mo, .inl (cI, 200, .inl (nf (adM x1 o1 x2 o2 xo))))]) 3 rfl (fun j hj => by unfold adM; rw [hie]; first | (rw [if_pos h8]; done) | (rw [if_neg h8, if_pos h79]; done) | (rw [if_neg h8, if_neg h79]; done)) rfl ?_
            exact hret () _ _ rfl trivial dM_adds_185
          ·
            refine xg_iload_n hX 1 dM_adds_99 rfl rfl ?_
            refine xg_if_eqN hX 119 (by omega) dM_adds_100 (by decide) (fun _ => ?_) (fun h => absurd h (by decide))
            refine xg_aload_n hX 0 dM_adds_119 rfl rfl ?_
            refine xg_get hX (ci := 3) rfl hinM 0 rfl 2 (by decide) mt_326 rfl dM_adds_120 ?_
            refine xg_iload_n hX 3 dM_adds_123 rfl rfl ?_
            refine xg_iald hX 2 i rfl (by omega) (by decide) dM_adds_124 ?_
            refine xg_aload_n hX 0 dM_adds_125 rfl rfl ?_
            refine xg_get hX (ci := 3) rfl hinM 0 rfl 1 (by decide) mt_325 rfl dM_adds_126 ?_
            refine xg_iload_n hX 3 dM_adds_129 rfl rfl ?_
            refine xg_iald hX 1 i rfl (by omega) (by decide) dM_adds_130 ?_
            refine xg_isub hX dM_adds_131 ?_
            refine xg_iload_n hX 2 dM_adds_132 rfl rfl ?_
            refine xg_isub hX dM_adds_133 ?_
            refine xg_istore hX (lv' := [(4, .int (((nI (x2 i)) - (nI (x1 i))) - (nI (suB x2 x1 i)))), (0, .ref mq), (1, .int (nI 0)), (2, .int (nI (suB x2 x1 i))), (3, .int (nI i))]) dM_adds_134 (by decide) rfl ?_
            refine xg_iload hX 0 dM_adds_136 rfl ?_
            refine xg_if_geZ hX ((((nI (x2 i)) - (nI (x1 i))) - (nI (suB x2 x1 i))).toInt) rfl 145 dM_adds_138 (by decide) (fun h138 => ?_) (fun h138 => ?_)
            ·
              rw [e4] at h138
              have e5 : suB x2 x1 (i + 1) = 0 := if_neg (by omega)
              refine xg_iconst hX (nI 0) dM_adds_145 (by decide) ?_
              refine xg_istore_n hX (lv' := [(2, .int (nI 0)), (4, .int (((nI (x2 i)) - (nI (x1 i))) - (nI (suB x2 x1 i)))), (0, .ref mq), (1, .int (nI 0)), (3, .int (nI i))]) dM_adds_146 rfl (by decide) rfl ?_
              refine xg_aload_n hX 2 dM_adds_147 rfl rfl ?_
              refine xg_get hX (ci := 3) rfl hinM 0 rfl 3 (by decide) mt_327 rfl dM_adds_148 ?_
              refine xg_iload_n hX 4 dM_adds_151 rfl rfl ?_
              refine xg_iload hX 1 dM_adds_152 rfl ?_
              refine xg_bipush hX (nI 10) dM_adds_154 (by decide) ?_
              refine xg_iload_n hX 0 dM_adds_156 rfl rfl ?_
              refine xg_imulN hX dM_adds_157 ?_
              refine xg_iadd hX dM_adds_158 ?_
              refine xg_top (nI (suD x2 x1 i)) (by unfold suD; rw [e5]; exact xn_s4 (by omega)) ?_
              refine xg_iast hX (ws' := [(mq, .inr (3, [.ref mm, .ref m1, .ref m2, .ref mo, .ref mr, .int (bI o1), .int (bI o2), .int (bI oo), .ref mw, .int (bI men)])), (m1, .inl (cI, 200, .inl (nf x1))), (m2, .inl (cI, 200, .inl (nf x2))), (mo, .inl (cI, 200, .inl (nf (up (mix i (suD x2 x1) xo) i (suD x2 x1 i)))))]) 3 i (suD x2 x1 i) rfl (by omega) (by decide) rfl dM_adds_159 ?_
              refine xg_iincN hX (lv' := [(3, .int (nI (i + 1))), (2, .int (nI 0)), (4, .int (((nI (x2 i)) - (nI (x1 i))) - (nI (suB x2 x1 i)))), (0, .ref mq), (1, .int (nI 0))]) (i + 1) 4 dM_adds_160 rfl (xn_inc _) (by decide) rfl ?_
              refine xg_goto hX 92 dM_adds_163 (by decide) ?_
              refine xg_ext hX (g := mix (i + 1) (suD x2 x1) xo) (ws' := [(mq, .inr (3, [.ref mm, .ref m1, .ref m2, .ref mo, .ref mr, .int (bI o1), .int (bI o2), .int (bI oo), .ref mw, .int (bI men)])), (m1, .inl (cI, 200, .inl (nf x1))), (m2, .inl (cI, 200, .inl (nf x2))), (mo, .inl (cI, 200, .inl (nf (mix (i + 1) (suD x2 x1) xo))))]) 3 rfl (fun j hj => mix_up rfl j) rfl ?_
              refine xg_lv hX (lv' := [(0, .ref mq), (1, .int (nI 0)), (2, .int (nI 0)), (3, .int (nI (i + 1)))]) [3, 4, 1, 0] rfl ?_
              refine xg_lvE (lv' := [(0, .ref mq), (1, .int (nI 0)), (2, .int (nI (suB x2 x1 (i + 1)))), (3, .int (nI (i + 1)))]) (by rw [← (show (nI 0 : Int32) = nI (suB x2 x1 (i + 1)) from (by rw [e5]))]) ?_
              exact ih3 (i + 1) (by omega) (by omega)
            ·
              rw [e4] at h138
              have e5 : suB x2 x1 (i + 1) = 1 := if_pos (by omega)
              refine xg_iconst hX (nI 1) dM_adds_141 (by decide) ?_
              refine xg_goto hX 146 dM_adds_142 (by decide) ?_
              refine xg_istore_n hX (lv' := [(2, .int (nI 1)), (4, .int (((nI (x2 i)) - (nI (x1 i))) - (nI (suB x2 x1 i)))), (0, .ref mq), (1, .int (nI 0)), (3, .int (nI i))]) dM_adds_146 rfl (by decide) rfl ?_
              refine xg_aload_n hX 2 dM_adds_147 rfl rfl ?_
              refine xg_get hX (ci := 3) rfl hinM 0 rfl 3 (by decide) mt_327 rfl dM_adds_148 ?_
              refine xg_iload_n hX 4 dM_adds_151 rfl rfl ?_
              refine xg_iload hX 1 dM_adds_152 rfl ?_
              refine xg_bipush hX (nI 10) dM_adds_154 (by decide) ?_
              refine xg_iload_n hX 0 dM_adds_156 rfl rfl ?_
              refine xg_imulN hX dM_adds_157 ?_
              refine xg_iadd hX dM_adds_158 ?_
              refine xg_top (nI (suD x2 x1 i)) (by unfold suD; rw [e5]; exact xn_s4 (by omega)) ?_
              refine xg_iast hX (ws' := [(mq, .inr (3, [.ref mm, .ref m1, .ref m2, .ref mo, .ref mr, .int (bI o1), .int (bI o2), .int (bI oo), .ref mw, .int (bI men)])), (m1, .inl (cI, 200, .inl (nf x1))), (m2, .inl (cI, 200, .inl (nf x2))), (mo, .inl (cI, 200, .inl (nf (up (mix i (suD x2 x1) xo) i (suD x2 x1 i)))))]) 3 i (suD x2 x1 i) rfl (by omega) (by decide) rfl dM_adds_159 ?_
              refine xg_iincN hX (lv' := [(3, .int (nI (i + 1))), (2, .int (nI 1)), (4, .int (((nI (x2 i)) - (nI (x1 i))) - (nI (suB x2 x1 i)))), (0, .ref mq), (1, .int (nI 0))]) (i + 1) 4 dM_adds_160 rfl (xn_inc _) (by decide) rfl ?_
              refine xg_goto hX 92 dM_adds_163 (by decide) ?_
              refine xg_ext hX (g := mix (i + 1) (suD x2 x1) xo) (ws' := [(mq, .inr (3, [.ref mm, .ref m1, .ref m2, .ref mo, .ref mr, .int (bI o1), .int (bI o2), .int (bI oo), .ref mw, .int (bI men)])), (m1, .inl (cI, 200, .inl (nf x1))), (m2, .inl (cI, 200, .inl (nf x2))), (mo, .inl (cI, 200, .inl (nf (mix (i + 1) (suD x2 x1) xo))))]) 3 rfl (fun j hj => mix_up rfl j) rfl ?_
              refine xg_lv hX (lv' := [(0, .ref mq), (1, .int (nI 0)), (2, .int (nI 1)), (3, .int (nI (i + 1)))]) [3, 4, 1, 0] rfl ?_
              refine xg_lvE (lv' := [(0, .ref mq), (1, .int (nI 0)), (2, .int (nI (suB x2 x1 (i + 1)))), (3, .int (nI (i + 1)))]) (by rw [← (show (nI 1 : Int32) = nI (suB x2 x1 (i + 1)) from (by rw [e5]))]) ?_
              exact ih3 (i + 1) (by omega) (by omega)
      refine xg_ext hX (g := mix 0 (suD x2 x1) xo) (ws' := [(mq, .inr (3, [.ref mm, .ref m1, .ref m2, .ref mo, .ref mr, .int (bI o1), .int (bI o2), .int (bI oo), .ref mw, .int (bI men)])), (m1, .inl (cI, 200, .inl (nf x1))), (m2, .inl (cI, 200, .inl (nf x2))), (mo, .inl (cI, 200, .inl (nf (mix 0 (suD x2 x1) xo))))]) 3 rfl (fun j hj => mix_0 j) rfl ?_
      refine xg_lv hX (lv' := [(0, .ref mq), (1, .int (nI 0)), (2, .int (nI 0)), (3, .int (nI 0))]) [3, 2, 1, 0] rfl ?_
      refine xg_lvE (lv' := [(0, .ref mq), (1, .int (nI 0)), (2, .int (nI (suB x2 x1 0))), (3, .int (nI 0))]) (by rw [← (show (nI 0 : Int32) = nI (suB x2 x1 0) from (by first | rfl | decide))]) ?_
      exact lp1 (200 - 0 + 1) 0 (by omega) (Nat.lt_succ_self _)
    ·
      refine xg_iconst hX (nI 1) dM_adds_82 (by decide) ?_
      refine xg_goto hX 87 dM_adds_83 (by decide) ?_
      refine xg_istore_n hX (lv' := [(1, .int (nI 1)), (0, .ref mq)]) dM_adds_87 rfl (by decide) rfl ?_
      refine xg_iconst hX (nI 0) dM_adds_88 (by decide) ?_
      refine xg_istore_n hX (lv' := [(2, .int (nI 0)), (1, .int (nI 1)), (0, .ref mq)]) dM_adds_89 rfl (by decide) rfl ?_
      refine xg_iconst hX (nI 0) dM_adds_90 (by decide) ?_
      refine xg_istore_n hX (lv' := [(3, .int (nI 0)), (2, .int (nI 0)), (1, .int (nI 1)), (0, .ref mq)]) dM_adds_91 rfl (by decide) rfl ?_
      have lp8 : ∀ (fu9 : Nat) (i : Nat), (i ≤ 200) → 200 - i < fu9 → GG D X 0 0 92 [(mq, .inr (3, [.ref mm, .ref m1, .ref m2, .ref mo, .ref mr, .int (bI o1), .int (bI o2), .int (bI oo), .ref mw, .int (bI men)])), (m1, .inl (cI, 200, .inl (nf x1))), (m2, .inl (cI, 200, .inl (nf x2))), (mo, .inl (cI, 200, .inl (nf (mix i (suD x1 x2) xo))))] [(0, .ref mq), (1, .int (nI 1)), (2, .int (nI (suB x1 x2 i))), (3, .int (nI i))] [] := by
        intro fu9
        induction fu9 with
        | zero => intro i hi hm11; exact absurd hm11 (Nat.not_lt_zero _)
        | succ fu9 ih10 =>
          intro i hi hm11
          have e1 := hx1 i
          have e2 := hx2 i
          have e3 := suB_le x1 x2 i
          have e4 : (nI (x1 i) - nI (x2 i) - nI (suB x1 x2 i)).toInt = (x1 i : Int) - (x2 i : Int) - (suB x1 x2 i : Int) := xn_s3 (by omega) (by omega) (by omega)
          refine xg_iload_n hX 3 dM_adds_92 rfl rfl ?_
          refine xg_sipush hX (nI 200) dM_adds_93 (by decide) ?_
          refine xg_icmp_geN hX 166 (by omega) (by omega) dM_adds_96 (by decide) (fun hh_12 => ?_) (fun hh_12 => ?_)
          ·
            refine xg_aload_n hX 0 dM_adds_166 rfl rfl ?_
            refine xg_iload_n hX 1 dM_adds_167 rfl rfl ?_
            refine xg_if_eqN hX 178 (by omega) dM_adds_168 (by decide) (fun h => absurd h (by decide)) (fun _ => ?_)
            refine xg_aload_n hX 0 dM_adds_171 rfl rfl ?_
            refine xg_get hX (ci := 3) rfl hinM 0 rfl 5 (by decide) mt_329 rfl dM_adds_172 ?_
            refine xg_goto hX 182 dM_adds_175 (by decide) ?_
            refine xg_put hX tyM tyM_ok nmM (ci := 3) rfl hinM (ws' := [(mq, .inr (3, [.ref mm, .ref m1, .ref m2, .ref mo, .ref mr, .int (bI o1), .int (bI o2), .int (bI o1), .ref mw, .int (bI men)])), (m1, .inl (cI, 200, .inl (nf x1))), (m2, .inl (cI, 200, .inl (nf x2))), (mo, .inl (cI, 200, .inl (nf (mix i (suD x1 x2) xo))))]) 0 rfl 7 (by decide) mt_331 rfl (xn_narB _) (xn_fitB _) (Nat.le_of_ble_eq_true rfl) rfl dM_adds_182 ?_
            have hie : i = 200 := by omega
            refine xg_wsE (ws' := [(mq, .inr (3, [.ref mm, .ref m1, .ref m2, .ref mo, .ref mr, .int (bI o1), .int (bI o2), .int (bI (adS x1 o1 x2 o2)), .ref mw, .int (bI men)])), (m1, .inl (cI, 200, .inl (nf x1))), (m2, .inl (cI, 200, .inl (nf x2))), (mo, .inl (cI, 200, .inl (nf (mix i (suD x1 x2) xo))))]) (by rw [← (show (bI o1 : Int32) = bI (adS x1 o1 x2 o2) from (by unfold adS; first | (rw [if_pos h8]; done) | (rw [if_neg h8, if_pos h79]; done) | (rw [if_neg h8, if_neg h79]; done)))]) ?_
            refine xg_ext hX (g := adM x1 o1 x2 o2 xo) (ws' := [(mq, .inr (3, [.ref mm, .ref m1, .ref m2, .ref mo, .ref mr, .int (bI o1), .int (bI o2), .int (bI (adS x1 o1 x2 o2)), .ref mw, .int (bI men)])), (m1, .inl (cI, 200, .inl (nf x1))), (m2, .inl (cI, 200, .inl (nf x2))), (mo, .inl (cI, 200, .inl (nf (adM x1 o1 x2 o2 xo))))]) 3 rfl (fun j hj => by unfold adM; rw [hie]; first | (rw [if_pos h8]; done) | (rw [if_neg h8, if_pos h79]; done) | (rw [if_neg h8, if_neg h79]; done)) rfl ?_
            exact hret () _ _ rfl trivial dM_adds_185
          ·
            refine xg_iload_n hX 1 dM_adds_99 rfl rfl ?_
            refine xg_if_eqN hX 119 (by omega) dM_adds_100 (by decide) (fun h => absurd h (by decide)) (fun _ => ?_)
            refine xg_aload_n hX 0 dM_adds_103 rfl rfl ?_
            refine xg_get hX (ci := 3) rfl hinM 0 rfl 1 (by decide) mt_325 rfl dM_adds_104 ?_
            refine xg_iload_n hX 3 dM_adds_107 rfl rfl ?_
            refine xg_iald hX 1 i rfl (by omega) (by decide) dM_adds_108 ?_
            refine xg_aload_n hX 0 dM_adds_109 rfl rfl ?_
            refine xg_get hX (ci := 3) rfl hinM 0 rfl 2 (by decide) mt_326 rfl dM_adds_110 ?_
            refine xg_iload_n hX 3 dM_adds_113 rfl rfl ?_
            refine xg_iald hX 2 i rfl (by omega) (by decide) dM_adds_114 ?_
            refine xg_isub hX dM_adds_115 ?_
            refine xg_goto hX 132 dM_adds_116 (by decide) ?_
            refine xg_iload_n hX 2 dM_adds_132 rfl rfl ?_
            refine xg_isub hX dM_adds_133 ?_
            refine xg_istore hX (lv' := [(4, .int (((nI (x1 i)) - (nI (x2 i))) - (nI (suB x1 x2 i)))), (0, .ref mq), (1, .int (nI 1)), (2, .int (nI (suB x1 x2 i))), (3, .int (nI i))]) dM_adds_134 (by decide) rfl ?_
            refine xg_iload hX 0 dM_adds_136 rfl ?_
            refine xg_if_geZ hX ((((nI (x1 i)) - (nI (x2 i))) - (nI (suB x1 x2 i))).toInt) rfl 145 dM_adds_138 (by decide) (fun h138 => ?_) (fun h138 => ?_)
            ·
              rw [e4] at h138
              have e5 : suB x1 x2 (i + 1) = 0 := if_neg (by omega)
              refine xg_iconst hX (nI 0) dM_adds_145 (by decide) ?_
              refine xg_istore_n hX (lv' := [(2, .int (nI 0)), (4, .int (((nI (x1 i)) - (nI (x2 i))) - (nI (suB x1 x2 i)))), (0, .ref mq), (1, .int (nI 1)), (3, .int (nI i))]) dM_adds_146 rfl (by decide) rfl ?_
              refine xg_aload_n hX 2 dM_adds_147 rfl rfl ?_
              refine xg_get hX (ci := 3) rfl hinM 0 rfl 3 (by decide) mt_327 rfl dM_adds_148 ?_
              refine xg_iload_n hX 4 dM_adds_151 rfl rfl ?_
              refine xg_iload hX 1 dM_adds_152 rfl ?_
              refine xg_bipush hX (nI 10) dM_adds_154 (by decide) ?_
              refine xg_iload_n hX 0 dM_adds_156 rfl rfl ?_
              refine xg_imulN hX dM_adds_157 ?_
              refine xg_iadd hX dM_adds_158 ?_
              refine xg_top (nI (suD x1 x2 i)) (by unfold suD; rw [e5]; exact xn_s4 (by omega)) ?_
              refine xg_iast hX (ws' := [(mq, .inr (3, [.ref mm, .ref m1, .ref m2, .ref mo, .ref mr, .int (bI o1), .int (bI o2), .int (bI oo), .ref mw, .int (bI men)])), (m1, .inl (cI, 200, .inl (nf x1))), (m2, .inl (cI, 200, .inl (nf x2))), (mo, .inl (cI, 200, .inl (nf (up (mix i (suD x1 x2) xo) i (suD x1 x2 i)))))]) 3 i (suD x1 x2 i) rfl (by omega) (by decide) rfl dM_adds_159 ?_
              refine xg_iincN hX (lv' := [(3, .int (nI (i + 1))), (2, .int (nI 0)), (4, .int (((nI (x1 i)) - (nI (x2 i))) - (nI (suB x1 x2 i)))), (0, .ref mq), (1, .int (nI 1))]) (i + 1) 4 dM_adds_160 rfl (xn_inc _) (by decide) rfl ?_
              refine xg_goto hX 92 dM_adds_163 (by decide) ?_
              refine xg_ext hX (g := mix (i + 1) (suD x1 x2) xo) (ws' := [(mq, .inr (3, [.ref mm, .ref m1, .ref m2, .ref mo, .ref mr, .int (bI o1), .int (bI o2), .int (bI oo), .ref mw, .int (bI men)])), (m1, .inl (cI, 200, .inl (nf x1))), (m2, .inl (cI, 200, .inl (nf x2))), (mo, .inl (cI, 200, .inl (nf (mix (i + 1) (suD x1 x2) xo))))]) 3 rfl (fun j hj => mix_up rfl j) rfl ?_
              refine xg_lv hX (lv' := [(0, .ref mq), (1, .int (nI 1)), (2, .int (nI 0)), (3, .int (nI (i + 1)))]) [3, 4, 1, 0] rfl ?_
              refine xg_lvE (lv' := [(0, .ref mq), (1, .int (nI 1)), (2, .int (nI (suB x1 x2 (i + 1)))), (3, .int (nI (i + 1)))]) (by rw [← (show (nI 0 : Int32) = nI (suB x1 x2 (i + 1)) from (by rw [e5]))]) ?_
              exact ih10 (i + 1) (by omega) (by omega)
            ·
              rw [e4] at h138
              have e5 : suB x1 x2 (i + 1) = 1 := if_pos (by omega)
              refine xg_iconst hX (nI 1) dM_adds_141 (by decide) ?_
              refine xg_goto hX 146 dM_adds_142 (by decide) ?_
              refine xg_istore_n hX (lv' := [(2, .int (nI 1)), (4, .int (((nI (x1 i)) - (nI (x2 i))) - (nI (suB x1 x2 i)))), (0, .ref mq), (1, .int (nI 1)), (3, .int (nI i))]) dM_adds_146 rfl (by decide) rfl ?_
              refine xg_aload_n hX 2 dM_adds_147 rfl rfl ?_
              refine xg_get hX (ci := 3) rfl hinM 0 rfl 3 (by decide) mt_327 rfl dM_adds_148 ?_
              refine xg_iload_n hX 4 dM_adds_151 rfl rfl ?_
              refine xg_iload hX 1 dM_adds_152 rfl ?_
              refine xg_bipush hX (nI 10) dM_adds_154 (by decide) ?_
              refine xg_iload_n hX 0 dM_adds_156 rfl rfl ?_
              refine xg_imulN hX dM_adds_157 ?_
              refine xg_iadd hX dM_adds_158 ?_
              refine xg_top (nI (suD x1 x2 i)) (by unfold suD; rw [e5]; exact xn_s4 (by omega)) ?_
              refine xg_iast hX (ws' := [(mq, .inr (3, [.ref mm, .ref m1, .ref m2, .ref mo, .ref mr, .int (bI o1), .int (bI o2), .int (bI oo), .ref mw, .int (bI men)])), (m1, .inl (cI, 200, .inl (nf x1))), (m2, .inl (cI, 200, .inl (nf x2))), (mo, .inl (cI, 200, .inl (nf (up (mix i (suD x1 x2) xo) i (suD x1 x2 i)))))]) 3 i (suD x1 x2 i) rfl (by omega) (by decide) rfl dM_adds_159 ?_
              refine xg_iincN hX (lv' := [(3, .int (nI (i + 1))), (2, .int (nI 1)), (4, .int (((nI (x1 i)) - (nI (x2 i))) - (nI (suB x1 x2 i)))), (0, .ref mq), (1, .int (nI 1))]) (i + 1) 4 dM_adds_160 rfl (xn_inc _) (by decide) rfl ?_
              refine xg_goto hX 92 dM_adds_163 (by decide) ?_
              refine xg_ext hX (g := mix (i + 1) (suD x1 x2) xo) (ws' := [(mq, .inr (3, [.ref mm, .ref m1, .ref m2, .ref mo, .ref mr, .int (bI o1), .int (bI o2), .int (bI oo), .ref mw, .int (bI men)])), (m1, .inl (cI, 200, .inl (nf x1))), (m2, .inl (cI, 200, .inl (nf x2))), (mo, .inl (cI, 200, .inl (nf (mix (i + 1) (suD x1 x2) xo))))]) 3 rfl (fun j hj => mix_up rfl j) rfl ?_
              refine xg_lv hX (lv' := [(0, .ref mq), (1, .int (nI 1)), (2, .int (nI 1)), (3, .int (nI (i + 1)))]) [3, 4, 1, 0] rfl ?_
              refine xg_lvE (lv' := [(0, .ref mq), (1, .int (nI 1)), (2, .int (nI (suB x1 x2 (i + 1)))), (3, .int (nI (i + 1)))]) (by rw [← (show (nI 1 : Int32) = nI (suB x1 x2 (i + 1)) from (by rw [e5]))]) ?_
              exact ih10 (i + 1) (by omega) (by omega)
      refine xg_ext hX (g := mix 0 (suD x1 x2) xo) (ws' := [(mq, .inr (3, [.ref mm, .ref m1, .ref m2, .ref mo, .ref mr, .int (bI o1), .int (bI o2), .int (bI oo), .ref mw, .int (bI men)])), (m1, .inl (cI, 200, .inl (nf x1))), (m2, .inl (cI, 200, .inl (nf x2))), (mo, .inl (cI, 200, .inl (nf (mix 0 (suD x1 x2) xo))))]) 3 rfl (fun j hj => mix_0 j) rfl ?_
      refine xg_lv hX (lv' := [(0, .ref mq), (1, .int (nI 1)), (2, .int (nI 0)), (3, .int (nI 0))]) [3, 2, 1, 0] rfl ?_
      refine xg_lvE (lv' := [(0, .ref mq), (1, .int (nI 1)), (2, .int (nI (suB x1 x2 0))), (3, .int (nI 0))]) (by rw [← (show (nI 0 : Int32) = nI (suB x1 x2 0) from (by first | rfl | decide))]) ?_
      exact lp8 (200 - 0 + 1) 0 (by omega) (Nat.lt_succ_self _)
  ·
    refine xg_iconst hX (nI 0) dM_adds_11 (by decide) ?_
    refine xg_istore_n hX (lv' := [(1, .int (nI 0)), (0, .ref mq)]) dM_adds_12 rfl (by decide) rfl ?_
    refine xg_iconst hX (nI 0) dM_adds_13 (by decide) ?_
    refine xg_istore_n hX (lv' := [(2, .int (nI 0)), (1, .int (nI 0)), (0, .ref mq)]) dM_adds_14 rfl (by decide) rfl ?_
    have lp15 : ∀ (fu16 : Nat) (i : Nat), (i ≤ 200) → 200 - i < fu16 → GG D X 0 0 15 [(mq, .inr (3, [.ref mm, .ref m1, .ref m2, .ref mo, .ref mr, .int (bI o1), .int (bI o2), .int (bI oo), .ref mw, .int (bI men)])), (m1, .inl (cI, 200, .inl (nf x1))), (m2, .inl (cI, 200, .inl (nf x2))), (mo, .inl (cI, 200, .inl (nf (mix i (adD x1 x2) xo))))] [(0, .ref mq), (1, .int (nI (adC x1 x2 i))), (2, .int (nI i))] [] := by
      intro fu16
      induction fu16 with
      | zero => intro i hi hm18; exact absurd hm18 (Nat.not_lt_zero _)
      | succ fu16 ih17 =>
        intro i hi hm18
        have e1 := hx1 i
        have e2 := hx2 i
        have e3 := adC_le hx1 hx2 i
        refine xg_iload_n hX 2 dM_adds_15 rfl rfl ?_
        refine xg_sipush hX (nI 200) dM_adds_16 (by decide) ?_
        refine xg_icmp_geN hX 59 (by omega) (by omega) dM_adds_19 (by decide) (fun hh_19 => ?_) (fun hh_19 => ?_)
        ·
          refine xg_aload_n hX 0 dM_adds_59 rfl rfl ?_
          refine xg_aload_n hX 0 dM_adds_60 rfl rfl ?_
          refine xg_get hX (ci := 3) rfl hinM 0 rfl 5 (by decide) mt_329 rfl dM_adds_61 ?_
          refine xg_put hX tyM tyM_ok nmM (ci := 3) rfl hinM (ws' := [(mq, .inr (3, [.ref mm, .ref m1, .ref m2, .ref mo, .ref mr, .int (bI o1), .int (bI o2), .int (bI o1), .ref mw, .int (bI men)])), (m1, .inl (cI, 200, .inl (nf x1))), (m2, .inl (cI, 200, .inl (nf x2))), (mo, .inl (cI, 200, .inl (nf (mix i (adD x1 x2) xo))))]) 0 rfl 7 (by decide) mt_331 rfl (xn_narB _) (xn_fitB _) (Nat.le_of_ble_eq_true rfl) rfl dM_adds_64 ?_
          have hie : i = 200 := by omega
          refine xg_wsE (ws' := [(mq, .inr (3, [.ref mm, .ref m1, .ref m2, .ref mo, .ref mr, .int (bI o1), .int (bI o2), .int (bI (adS x1 o1 x2 o2)), .ref mw, .int (bI men)])), (m1, .inl (cI, 200, .inl (nf x1))), (m2, .inl (cI, 200, .inl (nf x2))), (mo, .inl (cI, 200, .inl (nf (mix i (adD x1 x2) xo))))]) (by rw [← (show (bI o1 : Int32) = bI (adS x1 o1 x2 o2) from (by unfold adS; first | (rw [if_pos h8]; done) | (rw [if_neg h8, if_pos h79]; done) | (rw [if_neg h8, if_neg h79]; done)))]) ?_
          refine xg_ext hX (g := adM x1 o1 x2 o2 xo) (ws' := [(mq, .inr (3, [.ref mm, .ref m1, .ref m2, .ref mo, .ref mr, .int (bI o1), .int (bI o2), .int (bI (adS x1 o1 x2 o2)), .ref mw, .int (bI men)])), (m1, .inl (cI, 200, .inl (nf x1))), (m2, .inl (cI, 200, .inl (nf x2))), (mo, .inl (cI, 200, .inl (nf (adM x1 o1 x2 o2 xo))))]) 3 rfl (fun j hj => by unfold adM; rw [hie]; first | (rw [if_pos h8]; done) | (rw [if_neg h8, if_pos h79]; done) | (rw [if_neg h8, if_neg h79]; done)) rfl ?_
          exact hret () _ _ rfl trivial dM_adds_67
        ·
          refine xg_aload_n hX 0 dM_adds_22 rfl rfl ?_
          refine xg_get hX (ci := 3) rfl hinM 0 rfl 1 (by decide) mt_325 rfl dM_adds_23 ?_
          refine xg_iload_n hX 2 dM_adds_26 rfl rfl ?_
          refine xg_iald hX 1 i rfl (by omega) (by decide) dM_adds_27 ?_
          refine xg_aload_n hX 0 dM_adds_28 rfl rfl ?_
          refine xg_get hX (ci := 3) rfl hinM 0 rfl 2 (by decide) mt_326 rfl dM_adds_29 ?_
          refine xg_iload_n hX 2 dM_adds_32 rfl rfl ?_
          refine xg_iald hX 2 i rfl (by omega) (by decide) dM_adds_33 ?_
          refine xg_iaddN hX dM_adds_34 ?_
          refine xg_iload_n hX 1 dM_adds_35 rfl rfl ?_
          refine xg_iaddN hX dM_adds_36 ?_
          refine xg_istore_n hX (lv' := [(3, .int (nI (((x1 i) + (x2 i)) + (adC x1 x2 i)))), (0, .ref mq), (1, .int (nI (adC x1 x2 i))), (2, .int (nI i))]) dM_adds_37 rfl (by decide) rfl ?_
          refine xg_aload_n hX 1 dM_adds_38 rfl rfl ?_
          refine xg_get hX (ci := 3) rfl hinM 0 rfl 3 (by decide) mt_327 rfl dM_adds_39 ?_
          refine xg_iload_n hX 3 dM_adds_42 rfl rfl ?_
          refine xg_iload_n hX 0 dM_adds_43 rfl rfl ?_
          refine xg_bipush hX (nI 10) dM_adds_44 (by decide) ?_
          refine xg_iremN hX (by omega) (by omega) (by omega) dM_adds_46 ?_
          refine xg_iast hX (ws' := [(mq, .inr (3, [.ref mm, .ref m1, .ref m2, .ref mo, .ref mr, .int (bI o1), .int (bI o2), .int (bI oo), .ref mw, .int (bI men)])), (m1, .inl (cI, 200, .inl (nf x1))), (m2, .inl (cI, 200, .inl (nf x2))), (mo, .inl (cI, 200, .inl (nf (up (mix i (adD x1 x2) xo) i ((((x1 i) + (x2 i)) + (adC x1 x2 i)) % 10)))))]) 3 i ((((x1 i) + (x2 i)) + (adC x1 x2 i)) % 10) rfl (by omega) (by decide) rfl dM_adds_47 ?_
          refine xg_iload_n hX 0 dM_adds_48 rfl rfl ?_
          refine xg_bipush hX (nI 10) dM_adds_49 (by decide) ?_
          refine xg_idivN hX (by omega) (by omega) (by omega) dM_adds_51 ?_
          refine xg_istore_n hX (lv' := [(1, .int (nI ((((x1 i) + (x2 i)) + (adC x1 x2 i)) / 10))), (3, .int (nI (((x1 i) + (x2 i)) + (adC x1 x2 i)))), (0, .ref mq), (2, .int (nI i))]) dM_adds_52 rfl (by decide) rfl ?_
          refine xg_iincN hX (lv' := [(2, .int (nI (i + 1))), (1, .int (nI ((((x1 i) + (x2 i)) + (adC x1 x2 i)) / 10))), (3, .int (nI (((x1 i) + (x2 i)) + (adC x1 x2 i)))), (0, .ref mq)]) (i + 1) 3 dM_adds_53 rfl (xn_inc _) (by decide) rfl ?_
          refine xg_goto hX 15 dM_adds_56 (by decide) ?_
          refine xg_ext hX (g := mix (i + 1) (adD x1 x2) xo) (ws' := [(mq, .inr (3, [.ref mm, .ref m1, .ref m2, .ref mo, .ref mr, .int (bI o1), .int (bI o2), .int (bI oo), .ref mw, .int (bI men)])), (m1, .inl (cI, 200, .inl (nf x1))), (m2, .inl (cI, 200, .inl (nf x2))), (mo, .inl (cI, 200, .inl (nf (mix (i + 1) (adD x1 x2) xo))))]) 3 rfl (fun j hj => mix_up rfl j) rfl ?_
          refine xg_lv hX (lv' := [(0, .ref mq), (1, .int (nI ((((x1 i) + (x2 i)) + (adC x1 x2 i)) / 10))), (2, .int (nI (i + 1)))]) [3, 1, 0] rfl ?_
          refine xg_lvE (lv' := [(0, .ref mq), (1, .int (nI (adC x1 x2 (i + 1)))), (2, .int (nI (i + 1)))]) (by rw [← (show (nI ((((x1 i) + (x2 i)) + (adC x1 x2 i)) / 10) : Int32) = nI (adC x1 x2 (i + 1)) from (by first | rfl | decide))]) ?_
          exact ih17 (i + 1) (by omega) (by omega)
    refine xg_ext hX (g := mix 0 (adD x1 x2) xo) (ws' := [(mq, .inr (3, [.ref mm, .ref m1, .ref m2, .ref mo, .ref mr, .int (bI o1), .int (bI o2), .int (bI oo), .ref mw, .int (bI men)])), (m1, .inl (cI, 200, .inl (nf x1))), (m2, .inl (cI, 200, .inl (nf x2))), (mo, .inl (cI, 200, .inl (nf (mix 0 (adD x1 x2) xo))))]) 3 rfl (fun j hj => mix_0 j) rfl ?_
    refine xg_lv hX (lv' := [(0, .ref mq), (1, .int (nI 0)), (2, .int (nI 0))]) [2, 1, 0] rfl ?_
    refine xg_lvE (lv' := [(0, .ref mq), (1, .int (nI (adC x1 x2 0))), (2, .int (nI 0))]) (by rw [← (show (nI 0 : Int32) = nI (adC x1 x2 0) from (by first | rfl | decide))]) ?_
    exact lp15 (200 - 0 + 1) 0 (by omega) (Nat.lt_succ_self _)
