set_option maxHeartbeats 4000000 in
set_option maxRecDepth 100000 in
theorem xc_byteOf (l : Launch) (D : va_G) (cI : ClassId) (dq : Nat) (dm : Nat) (d1 : Nat) (d2 : Nat) (d3 : Nat) (d4 : Nat) (dw : Nat) (den : Bool) (M : Nat → Nat) (x : Int32) : Ctr l D cI yD_byteOf cD_byteOf 2 (some .int) { frames := 0, cells := 0, slots := 0, locals := 0 } [.ref dq, .int x] [(dq, .inr (2, [.ref dm, .ref d1, .ref d2, .ref d3, .ref d4, .ref dw, .int (bI den)])), (dm, .inl (cI, 256, .inl (nf M)))] (fun _ : Unit => some (.int (byt M x))) (fun _ : Unit => True) (fun _ : Unit => [(dq, .inr (2, [.ref dm, .ref d1, .ref d2, .ref d3, .ref d4, .ref dw, .int (bI den)])), (dm, .inl (cI, 256, .inl (nf M)))]) 0 0 := by
  refine xc_mkI (by decide +kernel) (Nat.le_of_ble_eq_true rfl) (fun X hX hret => ?_)
  show GG D X 0 0 0 [(dq, .inr (2, [.ref dm, .ref d1, .ref d2, .ref d3, .ref d4, .ref dw, .int (bI den)])), (dm, .inl (cI, 256, .inl (nf M)))] [(0, .ref dq), (1, .int x)] []
  refine xg_iload_n hX 1 dD_byteOf_0 rfl rfl ?_
  refine xg_if_ltZ hX x.toInt rfl 11 dD_byteOf_1 (by decide) (fun h1 => ?_) (fun h1 => ?_)
  ·
    refine xg_iconst hX ((-1)) dD_byteOf_11 (by decide) ?_
    refine xg_top (byt M x) (by unfold byt; rw [if_neg (by omega)]) ?_
    exact hret () _ _ _ rfl trivial dD_byteOf_12
  ·
    refine xg_iload_n hX 1 dD_byteOf_4 rfl rfl ?_
    refine xg_sipush hX (nI 256) dD_byteOf_5 (by decide) ?_
    refine xg_icmp_ltZ hX x.toInt (256 : Nat) rfl (xn_ti (by omega)) 13 dD_byteOf_8 (by decide) (fun h8 => ?_) (fun h8 => ?_)
    ·
      refine xg_aload_n hX 0 dD_byteOf_13 rfl rfl ?_
      refine xg_get hX (ci := 2) rfl hinD 0 rfl 0 (by decide) mt_68 rfl dD_byteOf_14 ?_
      refine xg_iload_n hX 1 dD_byteOf_17 rfl rfl ?_
      refine xg_top (nI x.toInt.toNat) (xn_self h1) ?_
      refine xg_iald hX 1 x.toInt.toNat rfl (by omega) (by decide) dD_byteOf_18 ?_
      refine xg_top (byt M x) (by unfold byt; rw [if_pos ⟨h1, h8⟩]) ?_
      exact hret () _ _ _ rfl trivial dD_byteOf_19
    ·
      refine xg_iconst hX ((-1)) dD_byteOf_11 (by decide) ?_
      refine xg_top (byt M x) (by unfold byt; rw [if_neg (by omega)]) ?_
      exact hret () _ _ _ rfl trivial dD_byteOf_12
set_option maxHeartbeats 4000000 in
set_option maxRecDepth 100000 in
theorem xc_byteOfN (l : Launch) (D : va_G) (cI : ClassId) (dq : Nat) (dm : Nat) (d1 : Nat) (d2 : Nat) (d3 : Nat) (d4 : Nat) (dw : Nat) (den : Bool) (M : Nat → Nat) (k : Nat) (hk : k < 256) : Ctr l D cI yD_byteOf cD_byteOf 2 (some .int) { frames := 0, cells := 0, slots := 0, locals := 0 } [.ref dq, .int (nI k)] [(dq, .inr (2, [.ref dm, .ref d1, .ref d2, .ref d3, .ref d4, .ref dw, .int (bI den)])), (dm, .inl (cI, 256, .inl (nf M)))] (fun _ : Unit => some (.int (nI (M k)))) (fun _ : Unit => True) (fun _ : Unit => [(dq, .inr (2, [.ref dm, .ref d1, .ref d2, .ref d3, .ref d4, .ref dw, .int (bI den)])), (dm, .inl (cI, 256, .inl (nf M)))]) 0 0 := by
  refine xc_mkI (by decide +kernel) (Nat.le_of_ble_eq_true rfl) (fun X hX hret => ?_)
  show GG D X 0 0 0 [(dq, .inr (2, [.ref dm, .ref d1, .ref d2, .ref d3, .ref d4, .ref dw, .int (bI den)])), (dm, .inl (cI, 256, .inl (nf M)))] [(0, .ref dq), (1, .int (nI k))] []
  refine xg_iload_n hX 1 dD_byteOf_0 rfl rfl ?_
  refine xg_if_ltN hX 11 (by omega) dD_byteOf_1 (by decide) ?_
  refine xg_iload_n hX 1 dD_byteOf_4 rfl rfl ?_
  refine xg_sipush hX (nI 256) dD_byteOf_5 (by decide) ?_
  refine xg_icmp_ltN hX 13 (by omega) (by omega) dD_byteOf_8 (by decide) (fun hh_2 => ?_) (fun hh_2 => absurd hh_2 (by omega))
  refine xg_aload_n hX 0 dD_byteOf_13 rfl rfl ?_
  refine xg_get hX (ci := 2) rfl hinD 0 rfl 0 (by decide) mt_68 rfl dD_byteOf_14 ?_
  refine xg_iload_n hX 1 dD_byteOf_17 rfl rfl ?_
  refine xg_iald hX 1 k rfl (by omega) (by decide) dD_byteOf_18 ?_
  exact hret () _ _ _ rfl trivial dD_byteOf_19
set_option maxHeartbeats 4000000 in
set_option maxRecDepth 100000 in
theorem xc_put (l : Launch) (D : va_G) (cI : ClassId) (dq : Nat) (dm : Nat) (d1 : Nat) (d2 : Nat) (d3 : Nat) (d4 : Nat) (dw : Nat) (den : Bool) (M : Nat → Nat) (x : Int32) (b : Int32) : Ctr l D cI yD_put cD_put 3 (some .boolean) { frames := 0, cells := 0, slots := 0, locals := 0 } [.ref dq, .int x, .int b] [(dq, .inr (2, [.ref dm, .ref d1, .ref d2, .ref d3, .ref d4, .ref dw, .int (bI den)])), (dm, .inl (cI, 256, .inl (nf M)))] (fun _ : Unit => some (.int (bI (inM x)))) (fun _ : Unit => True) (fun _ : Unit => [(dq, .inr (2, [.ref dm, .ref d1, .ref d2, .ref d3, .ref d4, .ref dw, .int (bI den)])), (dm, .inl (cI, 256, .inl (nf (putM M x b))))]) 0 0 := by
  refine xc_mkZ (by decide +kernel) (Nat.le_of_ble_eq_true rfl) (fun X hX hret => ?_)
  show GG D X 0 0 0 [(dq, .inr (2, [.ref dm, .ref d1, .ref d2, .ref d3, .ref d4, .ref dw, .int (bI den)])), (dm, .inl (cI, 256, .inl (nf M)))] [(0, .ref dq), (1, .int x), (2, .int b)] []
  refine xg_iload_n hX 1 dD_put_0 rfl rfl ?_
  refine xg_if_ltZ hX x.toInt rfl 11 dD_put_1 (by decide) (fun h1 => ?_) (fun h1 => ?_)
  ·
    refine xg_iconst hX (nI 0) dD_put_11 (by decide) ?_
    refine xg_ext hX (g := putM M x b) (ws' := [(dq, .inr (2, [.ref dm, .ref d1, .ref d2, .ref d3, .ref d4, .ref dw, .int (bI den)])), (dm, .inl (cI, 256, .inl (nf (putM M x b))))]) 1 rfl (fun j hj => by unfold putM; rw [if_neg (by omega)]) rfl ?_
    refine xg_top (bI (inM x)) (by unfold inM; rw [decide_eq_false (by omega)] <;> rfl) ?_
    exact hret () _ _ _ rfl (xn_narB _) trivial dD_put_12
  ·
    refine xg_iload_n hX 1 dD_put_4 rfl rfl ?_
    refine xg_sipush hX (nI 256) dD_put_5 (by decide) ?_
    refine xg_icmp_ltZ hX x.toInt (256 : Nat) rfl (xn_ti (by omega)) 13 dD_put_8 (by decide) (fun h8 => ?_) (fun h8 => ?_)
    ·
      refine xg_aload_n hX 0 dD_put_13 rfl rfl ?_
      refine xg_get hX (ci := 2) rfl hinD 0 rfl 0 (by decide) mt_68 rfl dD_put_14 ?_
      refine xg_iload_n hX 1 dD_put_17 rfl rfl ?_
      refine xg_top (nI x.toInt.toNat) (xn_self h1) ?_
      refine xg_iload_n hX 2 dD_put_18 rfl rfl ?_
      refine xg_sipush hX (nI 255) dD_put_19 (by decide) ?_
      refine xg_iand hX dD_put_22 ?_
      refine xg_top (nI (lo8 b)) (xn_lo8 b) ?_
      refine xg_iast hX (ws' := [(dq, .inr (2, [.ref dm, .ref d1, .ref d2, .ref d3, .ref d4, .ref dw, .int (bI den)])), (dm, .inl (cI, 256, .inl (nf (up M x.toInt.toNat (lo8 b)))))]) 1 x.toInt.toNat (lo8 b) rfl (by omega) (by decide) rfl dD_put_23 ?_
      refine xg_iconst hX (nI 1) dD_put_24 (by decide) ?_
      refine xg_ext hX (g := putM M x b) (ws' := [(dq, .inr (2, [.ref dm, .ref d1, .ref d2, .ref d3, .ref d4, .ref dw, .int (bI den)])), (dm, .inl (cI, 256, .inl (nf (putM M x b))))]) 1 rfl (fun j hj => by unfold putM; rw [if_pos ⟨h1, h8⟩]) rfl ?_
      refine xg_top (bI (inM x)) (by unfold inM; rw [decide_eq_true (by omega)] <;> rfl) ?_
      exact hret () _ _ _ rfl (xn_narB _) trivial dD_put_25
    ·
      refine xg_iconst hX (nI 0) dD_put_11 (by decide) ?_
      refine xg_ext hX (g := putM M x b) (ws' := [(dq, .inr (2, [.ref dm, .ref d1, .ref d2, .ref d3, .ref d4, .ref dw, .int (bI den)])), (dm, .inl (cI, 256, .inl (nf (putM M x b))))]) 1 rfl (fun j hj => by unfold putM; rw [if_neg (by omega)]) rfl ?_
      refine xg_top (bI (inM x)) (by unfold inM; rw [decide_eq_false (by omega)] <;> rfl) ?_
      exact hret () _ _ _ rfl (xn_narB _) trivial dD_put_12
set_option maxHeartbeats 4000000 in
set_option maxRecDepth 100000 in
theorem xc_putN (l : Launch) (D : va_G) (cI : ClassId) (dq : Nat) (dm : Nat) (d1 : Nat) (d2 : Nat) (d3 : Nat) (d4 : Nat) (dw : Nat) (den : Bool) (M : Nat → Nat) (k : Nat) (v : Nat) (hk : k < 256) (hv : v < 256) : Ctr l D cI yD_put cD_put 3 (some .boolean) { frames := 0, cells := 0, slots := 0, locals := 0 } [.ref dq, .int (nI k), .int (nI v)] [(dq, .inr (2, [.ref dm, .ref d1, .ref d2, .ref d3, .ref d4, .ref dw, .int (bI den)])), (dm, .inl (cI, 256, .inl (nf M)))] (fun _ : Unit => some (.int (bI true))) (fun _ : Unit => True) (fun _ : Unit => [(dq, .inr (2, [.ref dm, .ref d1, .ref d2, .ref d3, .ref d4, .ref dw, .int (bI den)])), (dm, .inl (cI, 256, .inl (nf (up M k v))))]) 0 0 := by
  refine xc_mkZ (by decide +kernel) (Nat.le_of_ble_eq_true rfl) (fun X hX hret => ?_)
  show GG D X 0 0 0 [(dq, .inr (2, [.ref dm, .ref d1, .ref d2, .ref d3, .ref d4, .ref dw, .int (bI den)])), (dm, .inl (cI, 256, .inl (nf M)))] [(0, .ref dq), (1, .int (nI k)), (2, .int (nI v))] []
  refine xg_iload_n hX 1 dD_put_0 rfl rfl ?_
  refine xg_if_ltN hX 11 (by omega) dD_put_1 (by decide) ?_
  refine xg_iload_n hX 1 dD_put_4 rfl rfl ?_
  refine xg_sipush hX (nI 256) dD_put_5 (by decide) ?_
  refine xg_icmp_ltN hX 13 (by omega) (by omega) dD_put_8 (by decide) (fun hh_2 => ?_) (fun hh_2 => absurd hh_2 (by omega))
  refine xg_aload_n hX 0 dD_put_13 rfl rfl ?_
  refine xg_get hX (ci := 2) rfl hinD 0 rfl 0 (by decide) mt_68 rfl dD_put_14 ?_
  refine xg_iload_n hX 1 dD_put_17 rfl rfl ?_
  refine xg_iload_n hX 2 dD_put_18 rfl rfl ?_
  refine xg_sipush hX (nI 255) dD_put_19 (by decide) ?_
  refine xg_iand hX dD_put_22 ?_
  refine xg_top (nI v) (xn_and255 hv) ?_
  refine xg_iast hX (ws' := [(dq, .inr (2, [.ref dm, .ref d1, .ref d2, .ref d3, .ref d4, .ref dw, .int (bI den)])), (dm, .inl (cI, 256, .inl (nf (up M k v))))]) 1 k v rfl (by omega) (by decide) rfl dD_put_23 ?_
  refine xg_iconst hX (nI 1) dD_put_24 (by decide) ?_
  refine xg_top (bI true) rfl ?_
  exact hret () _ _ _ rfl (xn_narB _) trivial dD_put_25
set_option maxHeartbeats 4000000 in
set_option maxRecDepth 100000 in
theorem xc_dfits (l : Launch) (D : va_G) (cI : ClassId) (n : Int32) (a : Int32) : Ctr l D cI yD_decimalFits cD_decimalFits 2 (some .boolean) { frames := 0, cells := 0, slots := 0, locals := 0 } [.int n, .int a] [] (fun _ : Unit => some (.int (bI (dfits n a)))) (fun _ : Unit => True) (fun _ : Unit => []) 0 0 := by
  refine xc_mkZ (by decide +kernel) (Nat.le_of_ble_eq_true rfl) (fun X hX hret => ?_)
  show GG D X 0 0 0 [] [(0, .int n), (1, .int a)] []
  refine xg_iload_n hX 0 dD_decimalFits_0 rfl rfl ?_
  refine xg_if_ltZ hX n.toInt rfl 29 dD_decimalFits_1 (by decide) (fun h1 => ?_) (fun h1 => ?_)
  ·
    refine xg_iconst hX (nI 0) dD_decimalFits_29 (by decide) ?_
    refine xg_top (bI (dfits n a)) (by unfold dfits; first | (rw [decide_eq_true (by omega)] <;> rfl) | (rw [decide_eq_false (by omega)] <;> rfl)) ?_
    exact hret () _ _ _ rfl (xn_narB _) trivial dD_decimalFits_30
  ·
    refine xg_iload_n hX 0 dD_decimalFits_4 rfl rfl ?_
    refine xg_bipush hX (nI 31) dD_decimalFits_5 (by decide) ?_
    refine xg_icmp_gtZ hX n.toInt (31 : Nat) rfl (xn_ti (by omega)) 29 dD_decimalFits_7 (by decide) (fun h7 => ?_) (fun h7 => ?_)
    ·
      refine xg_iconst hX (nI 0) dD_decimalFits_29 (by decide) ?_
      refine xg_top (bI (dfits n a)) (by unfold dfits; first | (rw [decide_eq_true (by omega)] <;> rfl) | (rw [decide_eq_false (by omega)] <;> rfl)) ?_
      exact hret () _ _ _ rfl (xn_narB _) trivial dD_decimalFits_30
    ·
      refine xg_iload_n hX 1 dD_decimalFits_10 rfl rfl ?_
      refine xg_if_ltZ hX a.toInt rfl 29 dD_decimalFits_11 (by decide) (fun h11 => ?_) (fun h11 => ?_)
      ·
        refine xg_iconst hX (nI 0) dD_decimalFits_29 (by decide) ?_
        refine xg_top (bI (dfits n a)) (by unfold dfits; first | (rw [decide_eq_true (by omega)] <;> rfl) | (rw [decide_eq_false (by omega)] <;> rfl)) ?_
        exact hret () _ _ _ rfl (xn_narB _) trivial dD_decimalFits_30
      ·
        refine xg_iload_n hX 1 dD_decimalFits_14 rfl rfl ?_
        refine xg_sipush hX (nI 256) dD_decimalFits_15 (by decide) ?_
        refine xg_iload_n hX 0 dD_decimalFits_18 rfl rfl ?_
        refine xg_top (nI n.toInt.toNat) (xn_self h1) ?_
        refine xg_iconst hX (nI 2) dD_decimalFits_19 (by decide) ?_
        refine xg_idivN hX (by omega) (by omega) (by omega) dD_decimalFits_20 ?_
        refine xg_isubN hX (by omega) dD_decimalFits_21 ?_
        refine xg_icmp_geZ hX a.toInt (256 - (n.toInt.toNat / 2) : Nat) rfl (xn_ti (by omega)) 29 dD_decimalFits_22 (by decide) (fun h22 => ?_) (fun h22 => ?_)
        ·
          refine xg_iconst hX (nI 0) dD_decimalFits_29 (by decide) ?_
          refine xg_top (bI (dfits n a)) (by unfold dfits; first | (rw [decide_eq_true (by omega)] <;> rfl) | (rw [decide_eq_false (by omega)] <;> rfl)) ?_
          exact hret () _ _ _ rfl (xn_narB _) trivial dD_decimalFits_30
        ·
          refine xg_iconst hX (nI 1) dD_decimalFits_25 (by decide) ?_
          refine xg_goto hX 30 dD_decimalFits_26 (by decide) ?_
          refine xg_top (bI (dfits n a)) (by unfold dfits; first | (rw [decide_eq_true (by omega)] <;> rfl) | (rw [decide_eq_false (by omega)] <;> rfl)) ?_
          exact hret () _ _ _ rfl (xn_narB _) trivial dD_decimalFits_30
set_option maxHeartbeats 4000000 in
set_option maxRecDepth 100000 in
theorem xc_cfits (l : Launch) (D : va_G) (cI : ClassId) (n : Int32) (a : Int32) : Ctr l D cI yD_charactersFit cD_charactersFit 2 (some .boolean) { frames := 0, cells := 0, slots := 0, locals := 0 } [.int n, .int a] [] (fun _ : Unit => some (.int (bI (cfits n a)))) (fun _ : Unit => True) (fun _ : Unit => []) 0 0 := by
  refine xc_mkZ (by decide +kernel) (Nat.le_of_ble_eq_true rfl) (fun X hX hret => ?_)
  show GG D X 0 0 0 [] [(0, .int n), (1, .int a)] []
  refine xg_iload_n hX 0 dD_charactersFit_0 rfl rfl ?_
  refine xg_if_ltZ hX n.toInt rfl 27 dD_charactersFit_1 (by decide) (fun h1 => ?_) (fun h1 => ?_)
  ·
    refine xg_iconst hX (nI 0) dD_charactersFit_27 (by decide) ?_
    refine xg_top (bI (cfits n a)) (by unfold cfits; first | (rw [decide_eq_true (by omega)] <;> rfl) | (rw [decide_eq_false (by omega)] <;> rfl)) ?_
    exact hret () _ _ _ rfl (xn_narB _) trivial dD_charactersFit_28
  ·
    refine xg_iload_n hX 0 dD_charactersFit_4 rfl rfl ?_
    refine xg_bipush hX (nI 31) dD_charactersFit_5 (by decide) ?_
    refine xg_icmp_gtZ hX n.toInt (31 : Nat) rfl (xn_ti (by omega)) 27 dD_charactersFit_7 (by decide) (fun h7 => ?_) (fun h7 => ?_)
    ·
      refine xg_iconst hX (nI 0) dD_charactersFit_27 (by decide) ?_
      refine xg_top (bI (cfits n a)) (by unfold cfits; first | (rw [decide_eq_true (by omega)] <;> rfl) | (rw [decide_eq_false (by omega)] <;> rfl)) ?_
      exact hret () _ _ _ rfl (xn_narB _) trivial dD_charactersFit_28
    ·
      refine xg_iload_n hX 1 dD_charactersFit_10 rfl rfl ?_
      refine xg_if_ltZ hX a.toInt rfl 27 dD_charactersFit_11 (by decide) (fun h11 => ?_) (fun h11 => ?_)
      ·
        refine xg_iconst hX (nI 0) dD_charactersFit_27 (by decide) ?_
        refine xg_top (bI (cfits n a)) (by unfold cfits; first | (rw [decide_eq_true (by omega)] <;> rfl) | (rw [decide_eq_false (by omega)] <;> rfl)) ?_
        exact hret () _ _ _ rfl (xn_narB _) trivial dD_charactersFit_28
      ·
        refine xg_iload_n hX 1 dD_charactersFit_14 rfl rfl ?_
        refine xg_sipush hX (nI 256) dD_charactersFit_15 (by decide) ?_
        refine xg_iload_n hX 0 dD_charactersFit_18 rfl rfl ?_
        refine xg_top (nI n.toInt.toNat) (xn_self h1) ?_
        refine xg_isubN hX (by omega) dD_charactersFit_19 ?_
        refine xg_icmp_geZ hX a.toInt (256 - n.toInt.toNat : Nat) rfl (xn_ti (by omega)) 27 dD_charactersFit_20 (by decide) (fun h20 => ?_) (fun h20 => ?_)
        ·
          refine xg_iconst hX (nI 0) dD_charactersFit_27 (by decide) ?_
          refine xg_top (bI (cfits n a)) (by unfold cfits; first | (rw [decide_eq_true (by omega)] <;> rfl) | (rw [decide_eq_false (by omega)] <;> rfl)) ?_
          exact hret () _ _ _ rfl (xn_narB _) trivial dD_charactersFit_28
        ·
          refine xg_iconst hX (nI 1) dD_charactersFit_23 (by decide) ?_
          refine xg_goto hX 28 dD_charactersFit_24 (by decide) ?_
          refine xg_top (bI (cfits n a)) (by unfold cfits; first | (rw [decide_eq_true (by omega)] <;> rfl) | (rw [decide_eq_false (by omega)] <;> rfl)) ?_
          exact hret () _ _ _ rfl (xn_narB _) trivial dD_charactersFit_28
set_option maxHeartbeats 4000000 in
set_option maxRecDepth 100000 in
theorem xc_half (l : Launch) (D : va_G) (cI : ClassId) (dq : Nat) (dm : Nat) (d1 : Nat) (d2 : Nat) (d3 : Nat) (d4 : Nat) (dw : Nat) (den : Bool) (M : Nat → Nat) (n : Nat) (a : Nat) (h : Nat) (hn : n ≤ 31) (ha : a + n / 2 < 256) (hh : h ≤ n) (hM : ∀ j, M j < 256) : Ctr l D cI yD_halfFromEnd cD_halfFromEnd 5 (some .int) { frames := 1, cells := 0, slots := 0, locals := 21 } [.ref dq, .int (nI n), .int (nI a), .int (nI h)] [(dq, .inr (2, [.ref dm, .ref d1, .ref d2, .ref d3, .ref d4, .ref dw, .int (bI den)])), (dm, .inl (cI, 256, .inl (nf M)))] (fun _ : Unit => some (.int (nI (hfE M n a h)))) (fun _ : Unit => True) (fun _ : Unit => [(dq, .inr (2, [.ref dm, .ref d1, .ref d2, .ref d3, .ref d4, .ref dw, .int (bI den)])), (dm, .inl (cI, 256, .inl (nf M)))]) 0 0 := by
  refine xc_mkI (by decide +kernel) (Nat.le_of_ble_eq_true rfl) (fun X hX hret => ?_)
  show GG D X 0 0 0 [(dq, .inr (2, [.ref dm, .ref d1, .ref d2, .ref d3, .ref d4, .ref dw, .int (bI den)])), (dm, .inl (cI, 256, .inl (nf M)))] [(0, .ref dq), (1, .int (nI n)), (2, .int (nI a)), (3, .int (nI h))] []
  refine xg_aload_n hX 0 dD_halfFromEnd_0 rfl rfl ?_
  refine xg_iload_n hX 2 dD_halfFromEnd_1 rfl rfl ?_
  refine xg_iload_n hX 1 dD_halfFromEnd_2 rfl rfl ?_
  refine xg_iconst hX (nI 2) dD_halfFromEnd_3 (by decide) ?_
  refine xg_idivN hX (by omega) (by omega) (by omega) dD_halfFromEnd_4 ?_
  refine xg_iaddN hX dD_halfFromEnd_5 ?_
  refine xg_iload_n hX 3 dD_halfFromEnd_6 rfl rfl ?_
  refine xg_iconst hX (nI 2) dD_halfFromEnd_7 (by decide) ?_
  refine xg_idivN hX (by omega) (by omega) (by omega) dD_halfFromEnd_8 ?_
  refine xg_isubN hX (by omega) dD_halfFromEnd_9 ?_
  refine xg_cV hX dq [.int (nI ((a + (n / 2)) - (h / 2)))] (hM := xc_byteOfN l D cI dq dm d1 d2 d3 d4 dw den M ((a + (n / 2)) - (h / 2)) (by omega)) (wr := []) (ws' := fun _ => [(dq, .inr (2, [.ref dm, .ref d1, .ref d2, .ref d3, .ref d4, .ref dw, .int (bI den)])), (dm, .inl (cI, 256, .inl (nf M)))]) (st' := fun _ => [.int (nI (M ((a + (n / 2)) - (h / 2))))]) [0, 1] [] [0, 1] [] rfl mt_97 mt_117 mt_1 mt_95 mt_96 0 rfl rfl hdD_byteOf (by decide) ⟨rfl, rfl⟩ (by decide) rfl rfl (by decide) rfl (by decide) (by decide) (by decide) (fun u => rfl) (fun u => rfl) (fun u => rfl) rfl rfl (by simp [Value.category]) dD_halfFromEnd_10 (fun _ _ => ?_)
  have e1 := hM ((a + (n / 2)) - (h / 2))
  refine xg_istore hX (lv' := [(4, .int (nI (M ((a + (n / 2)) - (h / 2))))), (0, .ref dq), (1, .int (nI n)), (2, .int (nI a)), (3, .int (nI h))]) dD_halfFromEnd_13 (by decide) rfl ?_
  refine xg_iload_n hX 4 dD_halfFromEnd_15 rfl rfl ?_
  refine xg_iconst hX (nI 2) dD_halfFromEnd_16 (by decide) ?_
  refine xg_iremN hX (by omega) (by omega) (by omega) dD_halfFromEnd_17 ?_
  refine xg_if_neN hX 29 (by omega) dD_halfFromEnd_18 (by decide) (fun h18 => ?_) (fun h18 => ?_)
  ·
    refine xg_iload hX 0 dD_halfFromEnd_29 rfl ?_
    refine xg_iconst hX (nI 4) dD_halfFromEnd_31 (by decide) ?_
    refine xg_ishr hX dD_halfFromEnd_32 ?_
    refine xg_top (nI (M ((a + (n / 2)) - (h / 2)) / 16)) (xn_shr4 e1) ?_
    refine xg_bipush hX (nI 15) dD_halfFromEnd_33 (by decide) ?_
    refine xg_iand hX dD_halfFromEnd_35 ?_
    refine xg_top (nI (M ((a + (n / 2)) - (h / 2)) / 16 % 16)) (xn_and15 (by omega)) ?_
    refine xg_top (nI (hfE M n a h)) (by unfold hfE; first | (rw [if_pos h18]; done) | (rw [if_neg (by omega)]; done)) ?_
    exact hret () _ _ _ rfl trivial dD_halfFromEnd_36
  ·
    refine xg_iload hX 0 dD_halfFromEnd_21 rfl ?_
    refine xg_bipush hX (nI 15) dD_halfFromEnd_23 (by decide) ?_
    refine xg_iand hX dD_halfFromEnd_25 ?_
    refine xg_top (nI (M ((a + (n / 2)) - (h / 2)) % 16)) (xn_and15 e1) ?_
    refine xg_goto hX 36 dD_halfFromEnd_26 (by decide) ?_
    refine xg_top (nI (hfE M n a h)) (by unfold hfE; first | (rw [if_pos h18]; done) | (rw [if_neg (by omega)]; done)) ?_
    exact hret () _ _ _ rfl trivial dD_halfFromEnd_36
set_option maxHeartbeats 4000000 in
set_option maxRecDepth 100000 in
theorem xc_readDecimal (l : Launch) (D : va_G) (cI : ClassId) (dq : Nat) (dm : Nat) (d1 : Nat) (d2 : Nat) (d3 : Nat) (d4 : Nat) (dw : Nat) (den : Bool) (M : Nat → Nat) (tq : Nat) (tp : Nat) (td : Nat → Nat) (ts : Bool) (n : Nat) (a : Nat) (hn : n ≤ 31) (ha : a + n / 2 < 256) (hM : ∀ j, M j < 256) : Ctr l D cI yD_readDecimal cD_readDecimal 7 (some .boolean) { frames := 4, cells := 0, slots := 0, locals := 85 } [.ref dq, .ref tq, .int (nI n), .int (nI a)] [(dq, .inr (2, [.ref dm, .ref d1, .ref d2, .ref d3, .ref d4, .ref dw, .int (bI den)])), (dm, .inl (cI, 256, .inl (nf M))), (tq, .inr (0, [.ref tp, .int (bI ts)])), (tp, .inl (cI, 130, .inl (nf td)))] (fun u : Bool × (Nat → Nat) × Bool => match u with | (ok, td2, ts2) => some (.int (bI ok))) (fun u : Bool × (Nat → Nat) × Bool => match u with | (ok, td2, ts2) => ok = rdb M n a ∧ (ok = true → td2 = rdD M n a ∧ ts2 = rdS M n a)) (fun u : Bool × (Nat → Nat) × Bool => match u with | (ok, td2, ts2) => [(dq, .inr (2, [.ref dm, .ref d1, .ref d2, .ref d3, .ref d4, .ref dw, .int (bI den)])), (dm, .inl (cI, 256, .inl (nf M))), (tq, .inr (0, [.ref tp, .int (bI ts2)])), (tp, .inl (cI, 130, .inl (nf td2)))]) 0 0 := by
  refine xc_mkZ (by decide +kernel) (Nat.le_of_ble_eq_true rfl) (fun X hX hret => ?_)
  show GG D X 0 0 0 [(dq, .inr (2, [.ref dm, .ref d1, .ref d2, .ref d3, .ref d4, .ref dw, .int (bI den)])), (dm, .inl (cI, 256, .inl (nf M))), (tq, .inr (0, [.ref tp, .int (bI ts)])), (tp, .inl (cI, 130, .inl (nf td)))] [(0, .ref dq), (1, .ref tq), (2, .int (nI n)), (3, .int (nI a))] []
  refine xg_aload_n hX 0 dD_readDecimal_0 rfl rfl ?_
  refine xg_iload_n hX 2 dD_readDecimal_1 rfl rfl ?_
  refine xg_iload_n hX 3 dD_readDecimal_2 rfl rfl ?_
  refine xg_iconst hX (nI 0) dD_readDecimal_3 (by decide) ?_
  refine xg_cV hX dq [.int (nI n), .int (nI a), .int (nI 0)] (hM := xc_half l D cI dq dm d1 d2 d3 d4 dw den M n a 0 (by omega) (by omega) (by omega) hM) (wr := [(tq, .inr (0, [.ref tp, .int (bI ts)])), (tp, .inl (cI, 130, .inl (nf td)))]) (ws' := fun _ => [(dq, .inr (2, [.ref dm, .ref d1, .ref d2, .ref d3, .ref d4, .ref dw, .int (bI den)])), (dm, .inl (cI, 256, .inl (nf M))), (tq, .inr (0, [.ref tp, .int (bI ts)])), (tp, .inl (cI, 130, .inl (nf td)))]) (st' := fun _ => [.int (nI (hfE M n a 0))]) [0, 1] [2, 3] [2, 3, 0, 1] [] rfl mt_116 mt_113 mt_1 mt_115 mp_2 0 rfl rfl hdD_halfFromEnd (by decide) ⟨rfl, rfl⟩ (by decide) rfl rfl (by decide) rfl (by decide) (by decide) (by decide) (fun u => rfl) (fun u => rfl) (fun u => rfl) rfl rfl (by simp [Value.category]) dD_readDecimal_4 (fun _ _ => ?_)
  have e0 := hfE_lt M n a 0
  refine xg_istore hX (lv' := [(4, .int (nI (hfE M n a 0))), (0, .ref dq), (1, .ref tq), (2, .int (nI n)), (3, .int (nI a))]) dD_readDecimal_7 (by decide) rfl ?_
  refine xg_iload hX 0 dD_readDecimal_9 rfl ?_
  refine xg_bipush hX (nI 10) dD_readDecimal_11 (by decide) ?_
  refine xg_icmp_geN hX 18 (by omega) (by omega) dD_readDecimal_13 (by decide) (fun h13 => ?_) (fun h13 => ?_)
  ·
    refine xg_aload_n hX 2 dD_readDecimal_18 rfl rfl ?_
    refine xg_cV hX tq [] (hM := xc_clear l D cI tq tp td ts) (wr := [(dq, .inr (2, [.ref dm, .ref d1, .ref d2, .ref d3, .ref d4, .ref dw, .int (bI den)])), (dm, .inl (cI, 256, .inl (nf M)))]) (ws' := fun _ => [(dq, .inr (2, [.ref dm, .ref d1, .ref d2, .ref d3, .ref d4, .ref dw, .int (bI den)])), (dm, .inl (cI, 256, .inl (nf M))), (tq, .inr (0, [.ref tp, .int (bI false)])), (tp, .inl (cI, 130, .inl (nf zf)))]) (st' := fun _ => []) [2, 3] [0, 1] [0, 1, 2, 3] [] rfl mt_121 mt_118 mt_2 mt_119 mt_120 0 rfl rfl hdR_clear (by decide) ⟨rfl, rfl⟩ (by decide) rfl rfl (by decide) rfl (by decide) (by decide) (by decide) (fun u => rfl) (fun u => rfl) (fun u => rfl) rfl rfl (by simp [Value.category]) dD_readDecimal_19 (fun _ _ => ?_)
    refine xg_iconst hX (nI 0) dD_readDecimal_22 (by decide) ?_
    refine xg_istore hX (lv' := [(5, .int (nI 0)), (4, .int (nI (hfE M n a 0))), (0, .ref dq), (1, .ref tq), (2, .int (nI n)), (3, .int (nI a))]) dD_readDecimal_23 (by decide) rfl ?_
    have lp1 : ∀ (fu2 : Nat) (i : Nat), (i ≤ n) → (∀ k, k < i → hfE M n a (k + 1) ≤ 9) → n - i < fu2 → GG D X 0 0 25 [(dq, .inr (2, [.ref dm, .ref d1, .ref d2, .ref d3, .ref d4, .ref dw, .int (bI den)])), (dm, .inl (cI, 256, .inl (nf M))), (tq, .inr (0, [.ref tp, .int (bI false)])), (tp, .inl (cI, 130, .inl (nf (mix i (rdD M n a) zf))))] [(0, .ref dq), (1, .ref tq), (2, .int (nI n)), (3, .int (nI a)), (4, .int (nI (hfE M n a 0))), (5, .int (nI i))] [] := by
      intro fu2
      induction fu2 with
      | zero => intro i hi hz hm4; exact absurd hm4 (Nat.not_lt_zero _)
      | succ fu2 ih3 =>
        intro i hi hz hm4
        refine xg_iload hX 5 dD_readDecimal_25 rfl ?_
        refine xg_iload_n hX 2 dD_readDecimal_27 rfl rfl ?_
        refine xg_icmp_geN hX 66 (by omega) (by omega) dD_readDecimal_28 (by decide) (fun h28 => ?_) (fun h28 => ?_)
        ·
          have hie : i = n := by omega
          rw [hie] at hz
          refine xg_ext hX (g := rdD M n a) (ws' := [(dq, .inr (2, [.ref dm, .ref d1, .ref d2, .ref d3, .ref d4, .ref dw, .int (bI den)])), (dm, .inl (cI, 256, .inl (nf M))), (tq, .inr (0, [.ref tp, .int (bI false)])), (tp, .inl (cI, 130, .inl (nf (rdD M n a))))]) 3 rfl (fun j hj => by rw [hie]; exact rdD_fin j) rfl ?_
          refine xg_aload_n hX 1 dD_readDecimal_66 rfl rfl ?_
          refine xg_iload hX 4 dD_readDecimal_67 rfl ?_
          refine xg_bipush hX (nI 13) dD_readDecimal_69 (by decide) ?_
          refine xg_icmp_eqN hX 81 (by omega) (by omega) dD_readDecimal_71 (by decide) (fun h71 => ?_) (fun h71 => ?_)
          ·
            refine xg_iconst hX (nI 1) dD_readDecimal_81 (by decide) ?_
            refine xg_goto hX 86 dD_readDecimal_82 (by decide) ?_
            refine xg_cV hX tq [.int (bI true)] (hM := xc_setSign l D cI tq tp (rdD M n a) false true (rdD_lt hz)) (wr := [(dq, .inr (2, [.ref dm, .ref d1, .ref d2, .ref d3, .ref d4, .ref dw, .int (bI den)])), (dm, .inl (cI, 256, .inl (nf M)))]) (ws' := fun _ => [(dq, .inr (2, [.ref dm, .ref d1, .ref d2, .ref d3, .ref d4, .ref dw, .int (bI den)])), (dm, .inl (cI, 256, .inl (nf M))), (tq, .inr (0, [.ref tp, .int (bI (true && hasD (rdD M n a) 0 130))])), (tp, .inl (cI, 130, .inl (nf (rdD M n a))))]) (st' := fun _ => []) [2, 3] [0, 1] [0, 1, 2, 3] [] (by simp [bI_nI]) mt_132 mt_129 mt_2 mt_130 mt_131 0 rfl rfl hdR_setSign (by decide) ⟨rfl, rfl⟩ (by decide) rfl rfl (by decide) rfl (by decide) (by decide) (by decide) (fun u => rfl) (fun u => rfl) (fun u => rfl) rfl rfl (by simp [Value.category]) dD_readDecimal_86 (fun _ _ => ?_)
            refine xg_iconst hX (nI 1) dD_readDecimal_89 (by decide) ?_
            refine xg_top (bI true) rfl ?_
            exact hret (true, rdD M n a, true && hasD (rdD M n a) 0 130) _ _ _ rfl (xn_narB _) (show true = rdb M n a ∧ (true = true → (rdD M n a) = rdD M n a ∧ (true && hasD (rdD M n a) 0 130) = rdS M n a) from ⟨(rdb_iff.mpr ⟨h13, hz⟩).symm, fun _ => ⟨rfl, by unfold rdS; first | (rw [decide_eq_true (by omega)]; done) | (rw [decide_eq_false (by omega)]; done)⟩⟩) dD_readDecimal_90
          ·
            refine xg_iload hX 4 dD_readDecimal_74 rfl ?_
            refine xg_bipush hX (nI 11) dD_readDecimal_76 (by decide) ?_
            refine xg_icmp_neN hX 85 (by omega) (by omega) dD_readDecimal_78 (by decide) (fun h78 => ?_) (fun h78 => ?_)
            ·
              refine xg_iconst hX (nI 0) dD_readDecimal_85 (by decide) ?_
              refine xg_cV hX tq [.int (bI false)] (hM := xc_setSign l D cI tq tp (rdD M n a) false false (rdD_lt hz)) (wr := [(dq, .inr (2, [.ref dm, .ref d1, .ref d2, .ref d3, .ref d4, .ref dw, .int (bI den)])), (dm, .inl (cI, 256, .inl (nf M)))]) (ws' := fun _ => [(dq, .inr (2, [.ref dm, .ref d1, .ref d2, .ref d3, .ref d4, .ref dw, .int (bI den)])), (dm, .inl (cI, 256, .inl (nf M))), (tq, .inr (0, [.ref tp, .int (bI (false && hasD (rdD M n a) 0 130))])), (tp, .inl (cI, 130, .inl (nf (rdD M n a))))]) (st' := fun _ => []) [2, 3] [0, 1] [0, 1, 2, 3] [] (by simp [bI_nI]) mt_132 mt_129 mt_2 mt_130 mt_131 0 rfl rfl hdR_setSign (by decide) ⟨rfl, rfl⟩ (by decide) rfl rfl (by decide) rfl (by decide) (by decide) (by decide) (fun u => rfl) (fun u => rfl) (fun u => rfl) rfl rfl (by simp [Value.category]) dD_readDecimal_86 (fun _ _ => ?_)
              refine xg_iconst hX (nI 1) dD_readDecimal_89 (by decide) ?_
              refine xg_top (bI true) rfl ?_
              exact hret (true, rdD M n a, false && hasD (rdD M n a) 0 130) _ _ _ rfl (xn_narB _) (show true = rdb M n a ∧ (true = true → (rdD M n a) = rdD M n a ∧ (false && hasD (rdD M n a) 0 130) = rdS M n a) from ⟨(rdb_iff.mpr ⟨h13, hz⟩).symm, fun _ => ⟨rfl, by unfold rdS; first | (rw [decide_eq_true (by omega)]; done) | (rw [decide_eq_false (by omega)]; done)⟩⟩) dD_readDecimal_90
            ·
              refine xg_iconst hX (nI 1) dD_readDecimal_81 (by decide) ?_
              refine xg_goto hX 86 dD_readDecimal_82 (by decide) ?_
              refine xg_cV hX tq [.int (bI true)] (hM := xc_setSign l D cI tq tp (rdD M n a) false true (rdD_lt hz)) (wr := [(dq, .inr (2, [.ref dm, .ref d1, .ref d2, .ref d3, .ref d4, .ref dw, .int (bI den)])), (dm, .inl (cI, 256, .inl (nf M)))]) (ws' := fun _ => [(dq, .inr (2, [.ref dm, .ref d1, .ref d2, .ref d3, .ref d4, .ref dw, .int (bI den)])), (dm, .inl (cI, 256, .inl (nf M))), (tq, .inr (0, [.ref tp, .int (bI (true && hasD (rdD M n a) 0 130))])), (tp, .inl (cI, 130, .inl (nf (rdD M n a))))]) (st' := fun _ => []) [2, 3] [0, 1] [0, 1, 2, 3] [] (by simp [bI_nI]) mt_132 mt_129 mt_2 mt_130 mt_131 0 rfl rfl hdR_setSign (by decide) ⟨rfl, rfl⟩ (by decide) rfl rfl (by decide) rfl (by decide) (by decide) (by decide) (fun u => rfl) (fun u => rfl) (fun u => rfl) rfl rfl (by simp [Value.category]) dD_readDecimal_86 (fun _ _ => ?_)
              refine xg_iconst hX (nI 1) dD_readDecimal_89 (by decide) ?_
              refine xg_top (bI true) rfl ?_
              exact hret (true, rdD M n a, true && hasD (rdD M n a) 0 130) _ _ _ rfl (xn_narB _) (show true = rdb M n a ∧ (true = true → (rdD M n a) = rdD M n a ∧ (true && hasD (rdD M n a) 0 130) = rdS M n a) from ⟨(rdb_iff.mpr ⟨h13, hz⟩).symm, fun _ => ⟨rfl, by unfold rdS; first | (rw [decide_eq_true (by omega)]; done) | (rw [decide_eq_false (by omega)]; done)⟩⟩) dD_readDecimal_90
        ·
          refine xg_aload_n hX 0 dD_readDecimal_31 rfl rfl ?_
          refine xg_iload_n hX 2 dD_readDecimal_32 rfl rfl ?_
          refine xg_iload_n hX 3 dD_readDecimal_33 rfl rfl ?_
          refine xg_iload hX 5 dD_readDecimal_34 rfl ?_
          refine xg_iconst hX (nI 1) dD_readDecimal_36 (by decide) ?_
          refine xg_iaddN hX dD_readDecimal_37 ?_
          refine xg_cV hX dq [.int (nI n), .int (nI a), .int (nI (i + 1))] (hM := xc_half l D cI dq dm d1 d2 d3 d4 dw den M n a (i + 1) (by omega) (by omega) (by omega) hM) (wr := [(tq, .inr (0, [.ref tp, .int (bI false)])), (tp, .inl (cI, 130, .inl (nf (mix i (rdD M n a) zf))))]) (ws' := fun _ => [(dq, .inr (2, [.ref dm, .ref d1, .ref d2, .ref d3, .ref d4, .ref dw, .int (bI den)])), (dm, .inl (cI, 256, .inl (nf M))), (tq, .inr (0, [.ref tp, .int (bI false)])), (tp, .inl (cI, 130, .inl (nf (mix i (rdD M n a) zf))))]) (st' := fun _ => [.int (nI (hfE M n a (i + 1)))]) [0, 1] [2, 3] [2, 3, 0, 1] [] rfl mt_116 mt_113 mt_1 mt_115 mp_2 0 rfl rfl hdD_halfFromEnd (by decide) ⟨rfl, rfl⟩ (by decide) rfl rfl (by decide) rfl (by decide) (by decide) (by decide) (fun u => rfl) (fun u => rfl) (fun u => rfl) rfl rfl (by simp [Value.category]) dD_readDecimal_38 (fun _ _ => ?_)
          have e1 := hfE_lt M n a (i + 1)
          refine xg_istore hX (lv' := [(6, .int (nI (hfE M n a (i + 1)))), (0, .ref dq), (1, .ref tq), (2, .int (nI n)), (3, .int (nI a)), (4, .int (nI (hfE M n a 0))), (5, .int (nI i))]) dD_readDecimal_41 (by decide) rfl ?_
          refine xg_iload hX 0 dD_readDecimal_43 rfl ?_
          refine xg_bipush hX (nI 9) dD_readDecimal_45 (by decide) ?_
          refine xg_icmp_leN hX 52 (by omega) (by omega) dD_readDecimal_47 (by decide) (fun h47 => ?_) (fun h47 => ?_)
          ·
            refine xg_aload_n hX 2 dD_readDecimal_52 rfl rfl ?_
            refine xg_iload hX 6 dD_readDecimal_53 rfl ?_
            refine xg_iload hX 0 dD_readDecimal_55 rfl ?_
            refine xg_cV hX tq [.int (nI i), .int (nI (hfE M n a (i + 1)))] (hM := xc_setDigit l D cI tq tp (mix i (rdD M n a) zf) false i (hfE M n a (i + 1)) (by omega)) (wr := [(dq, .inr (2, [.ref dm, .ref d1, .ref d2, .ref d3, .ref d4, .ref dw, .int (bI den)])), (dm, .inl (cI, 256, .inl (nf M)))]) (ws' := fun _ => [(dq, .inr (2, [.ref dm, .ref d1, .ref d2, .ref d3, .ref d4, .ref dw, .int (bI den)])), (dm, .inl (cI, 256, .inl (nf M))), (tq, .inr (0, [.ref tp, .int (bI false)])), (tp, .inl (cI, 130, .inl (nf (up (mix i (rdD M n a) zf) i (hfE M n a (i + 1))))))]) (st' := fun _ => []) [2, 3] [0, 1] [0, 1, 2, 3] [] rfl mt_128 mt_125 mt_2 mt_126 mt_127 0 rfl rfl hdR_setDigit (by decide) ⟨rfl, rfl⟩ (by decide) rfl rfl (by decide) rfl (by decide) (by decide) (by decide) (fun u => rfl) (fun u => rfl) (fun u => rfl) rfl rfl (by simp [Value.category]) dD_readDecimal_57 (fun _ _ => ?_)
            refine xg_iincN hX (lv' := [(5, .int (nI (i + 1))), (6, .int (nI (hfE M n a (i + 1)))), (0, .ref dq), (1, .ref tq), (2, .int (nI n)), (3, .int (nI a)), (4, .int (nI (hfE M n a 0)))]) (i + 1) 6 dD_readDecimal_60 rfl (xn_inc _) (by decide) rfl ?_
            refine xg_goto hX 25 dD_readDecimal_63 (by decide) ?_
            refine xg_ext hX (g := mix (i + 1) (rdD M n a) zf) (ws' := [(dq, .inr (2, [.ref dm, .ref d1, .ref d2, .ref d3, .ref d4, .ref dw, .int (bI den)])), (dm, .inl (cI, 256, .inl (nf M))), (tq, .inr (0, [.ref tp, .int (bI false)])), (tp, .inl (cI, 130, .inl (nf (mix (i + 1) (rdD M n a) zf))))]) 3 rfl (fun j hj => mix_up (rdD_at h28) j) rfl ?_
            refine xg_lv hX (lv' := [(0, .ref dq), (1, .ref tq), (2, .int (nI n)), (3, .int (nI a)), (4, .int (nI (hfE M n a 0))), (5, .int (nI (i + 1)))]) [2, 3, 4, 5, 6, 0] rfl ?_
            exact ih3 (i + 1) (by omega) (fun k hk => by rcases Nat.lt_or_ge k i with q | q; exact hz k q; obtain rfl : k = i := (by omega); exact h47) (by omega)
          ·
            refine xg_iconst hX (nI 0) dD_readDecimal_50 (by decide) ?_
            refine xg_top (bI false) rfl ?_
            exact hret (false, mix i (rdD M n a) zf, false) _ _ _ rfl (xn_narB _) (show false = rdb M n a ∧ (false = true → (mix i (rdD M n a) zf) = rdD M n a ∧ false = rdS M n a) from ⟨(rdb_f (fun q => by have := q.2 i h28; omega)).symm, fun q => by cases q⟩) dD_readDecimal_51
    refine xg_ext hX (g := mix 0 (rdD M n a) zf) (ws' := [(dq, .inr (2, [.ref dm, .ref d1, .ref d2, .ref d3, .ref d4, .ref dw, .int (bI den)])), (dm, .inl (cI, 256, .inl (nf M))), (tq, .inr (0, [.ref tp, .int (bI false)])), (tp, .inl (cI, 130, .inl (nf (mix 0 (rdD M n a) zf))))]) 3 rfl (fun j hj => mix_0 j) rfl ?_
    refine xg_lv hX (lv' := [(0, .ref dq), (1, .ref tq), (2, .int (nI n)), (3, .int (nI a)), (4, .int (nI (hfE M n a 0))), (5, .int (nI 0))]) [2, 3, 4, 5, 1, 0] rfl ?_
    exact lp1 (n - 0 + 1) 0 (by omega) (fun k hk => absurd hk (Nat.not_lt_zero _)) (Nat.lt_succ_self _)
  ·
    refine xg_iconst hX (nI 0) dD_readDecimal_16 (by decide) ?_
    refine xg_top (bI false) rfl ?_
    exact hret (false, td, ts) _ _ _ rfl (xn_narB _) (show false = rdb M n a ∧ (false = true → td = rdD M n a ∧ ts = rdS M n a) from ⟨(rdb_f (fun q => by omega)).symm, fun q => by cases q⟩) dD_readDecimal_17
set_option maxHeartbeats 4000000 in
set_option maxRecDepth 100000 in
theorem xc_readChars (l : Launch) (D : va_G) (cI : ClassId) (dq : Nat) (dm : Nat) (d1 : Nat) (d2 : Nat) (d3 : Nat) (d4 : Nat) (dw : Nat) (den : Bool) (M : Nat → Nat) (tq : Nat) (tp : Nat) (td : Nat → Nat) (ts : Bool) (n : Nat) (a : Nat) (hn : n ≤ 31) (ha : a + n < 256) (hM : ∀ j, M j < 256) : Ctr l D cI yD_readCharacters cD_readCharacters 7 (some .boolean) { frames := 4, cells := 0, slots := 0, locals := 85 } [.ref dq, .ref tq, .int (nI n), .int (nI a)] [(dq, .inr (2, [.ref dm, .ref d1, .ref d2, .ref d3, .ref d4, .ref dw, .int (bI den)])), (dm, .inl (cI, 256, .inl (nf M))), (tq, .inr (0, [.ref tp, .int (bI ts)])), (tp, .inl (cI, 130, .inl (nf td)))] (fun u : Bool × (Nat → Nat) × Bool => match u with | (ok, td2, ts2) => some (.int (bI ok))) (fun u : Bool × (Nat → Nat) × Bool => match u with | (ok, td2, ts2) => ok = chb M n a ∧ (ok = true → td2 = chD M n a ∧ ts2 = chS M n a)) (fun u : Bool × (Nat → Nat) × Bool => match u with | (ok, td2, ts2) => [(dq, .inr (2, [.ref dm, .ref d1, .ref d2, .ref d3, .ref d4, .ref dw, .int (bI den)])), (dm, .inl (cI, 256, .inl (nf M))), (tq, .inr (0, [.ref tp, .int (bI ts2)])), (tp, .inl (cI, 130, .inl (nf td2)))]) 0 0 := by
  refine xc_mkZ (by decide +kernel) (Nat.le_of_ble_eq_true rfl) (fun X hX hret => ?_)
  show GG D X 0 0 0 [(dq, .inr (2, [.ref dm, .ref d1, .ref d2, .ref d3, .ref d4, .ref dw, .int (bI den)])), (dm, .inl (cI, 256, .inl (nf M))), (tq, .inr (0, [.ref tp, .int (bI ts)])), (tp, .inl (cI, 130, .inl (nf td)))] [(0, .ref dq), (1, .ref tq), (2, .int (nI n)), (3, .int (nI a))] []
  refine xg_aload_n hX 0 dD_readCharacters_0 rfl rfl ?_
  refine xg_iload_n hX 3 dD_readCharacters_1 rfl rfl ?_
  refine xg_cV hX dq [.int (nI a)] (hM := xc_byteOfN l D cI dq dm d1 d2 d3 d4 dw den M a (by omega)) (wr := [(tq, .inr (0, [.ref tp, .int (bI ts)])), (tp, .inl (cI, 130, .inl (nf td)))]) (ws' := fun _ => [(dq, .inr (2, [.ref dm, .ref d1, .ref d2, .ref d3, .ref d4, .ref dw, .int (bI den)])), (dm, .inl (cI, 256, .inl (nf M))), (tq, .inr (0, [.ref tp, .int (bI ts)])), (tp, .inl (cI, 130, .inl (nf td)))]) (st' := fun _ => [.int (nI (M a))]) [0, 1] [2, 3] [2, 3, 0, 1] [] rfl mt_97 mt_117 mt_1 mt_95 mt_96 0 rfl rfl hdD_byteOf (by decide) ⟨rfl, rfl⟩ (by decide) rfl rfl (by decide) rfl (by decide) (by decide) (by decide) (fun u => rfl) (fun u => rfl) (fun u => rfl) rfl rfl (by simp [Value.category]) dD_readCharacters_2 (fun _ _ => ?_)
  have e0 := hM a
  refine xg_istore hX (lv' := [(4, .int (nI (M a))), (0, .ref dq), (1, .ref tq), (2, .int (nI n)), (3, .int (nI a))]) dD_readCharacters_5 (by decide) rfl ?_
  have jn1 : (M a = 43 ∨ M a = 45 ∨ M a = 32) → GG D X 0 0 30 [(dq, .inr (2, [.ref dm, .ref d1, .ref d2, .ref d3, .ref d4, .ref dw, .int (bI den)])), (dm, .inl (cI, 256, .inl (nf M))), (tq, .inr (0, [.ref tp, .int (bI ts)])), (tp, .inl (cI, 130, .inl (nf td)))] [(0, .ref dq), (1, .ref tq), (2, .int (nI n)), (3, .int (nI a)), (4, .int (nI (M a)))] [] := by
    intro h4
    refine xg_aload_n hX 1 dD_readCharacters_30 rfl rfl ?_
    refine xg_cV hX tq [] (hM := xc_clear l D cI tq tp td ts) (wr := [(dq, .inr (2, [.ref dm, .ref d1, .ref d2, .ref d3, .ref d4, .ref dw, .int (bI den)])), (dm, .inl (cI, 256, .inl (nf M)))]) (ws' := fun _ => [(dq, .inr (2, [.ref dm, .ref d1, .ref d2, .ref d3, .ref d4, .ref dw, .int (bI den)])), (dm, .inl (cI, 256, .inl (nf M))), (tq, .inr (0, [.ref tp, .int (bI false)])), (tp, .inl (cI, 130, .inl (nf zf)))]) (st' := fun _ => []) [2, 3] [0, 1] [0, 1, 2, 3] [] rfl mt_121 mt_118 mt_2 mt_119 mt_120 0 rfl rfl hdR_clear (by decide) ⟨rfl, rfl⟩ (by decide) rfl rfl (by decide) rfl (by decide) (by decide) (by decide) (fun u => rfl) (fun u => rfl) (fun u => rfl) rfl rfl (by simp [Value.category]) dD_readCharacters_31 (fun _ _ => ?_)
    refine xg_iconst hX (nI 0) dD_readCharacters_34 (by decide) ?_
    refine xg_istore hX (lv' := [(5, .int (nI 0)), (0, .ref dq), (1, .ref tq), (2, .int (nI n)), (3, .int (nI a)), (4, .int (nI (M a)))]) dD_readCharacters_35 (by decide) rfl ?_
    have lp2 : ∀ (fu3 : Nat) (i : Nat), (i ≤ n) → (∀ k, k < i → 48 ≤ M (a + n - k) ∧ M (a + n - k) ≤ 57) → n - i < fu3 → GG D X 0 0 37 [(dq, .inr (2, [.ref dm, .ref d1, .ref d2, .ref d3, .ref d4, .ref dw, .int (bI den)])), (dm, .inl (cI, 256, .inl (nf M))), (tq, .inr (0, [.ref tp, .int (bI false)])), (tp, .inl (cI, 130, .inl (nf (mix i (chD M n a) zf))))] [(0, .ref dq), (1, .ref tq), (2, .int (nI n)), (3, .int (nI a)), (4, .int (nI (M a))), (5, .int (nI i))] [] := by
      intro fu3
      induction fu3 with
      | zero => intro i hi hz hm5; exact absurd hm5 (Nat.not_lt_zero _)
      | succ fu3 ih4 =>
        intro i hi hz hm5
        refine xg_iload hX 5 dD_readCharacters_37 rfl ?_
        refine xg_iload_n hX 2 dD_readCharacters_39 rfl rfl ?_
        refine xg_icmp_geN hX 86 (by omega) (by omega) dD_readCharacters_40 (by decide) (fun h40 => ?_) (fun h40 => ?_)
        ·
          have hie : i = n := by omega
          rw [hie] at hz
          refine xg_ext hX (g := chD M n a) (ws' := [(dq, .inr (2, [.ref dm, .ref d1, .ref d2, .ref d3, .ref d4, .ref dw, .int (bI den)])), (dm, .inl (cI, 256, .inl (nf M))), (tq, .inr (0, [.ref tp, .int (bI false)])), (tp, .inl (cI, 130, .inl (nf (chD M n a))))]) 3 rfl (fun j hj => by rw [hie]; exact chD_fin j) rfl ?_
          refine xg_aload_n hX 1 dD_readCharacters_86 rfl rfl ?_
          refine xg_iload hX 4 dD_readCharacters_87 rfl ?_
          refine xg_bipush hX (nI 45) dD_readCharacters_89 (by decide) ?_
          refine xg_icmp_neN hX 98 (by omega) (by omega) dD_readCharacters_91 (by decide) (fun h91 => ?_) (fun h91 => ?_)
          ·
            refine xg_iconst hX (nI 0) dD_readCharacters_98 (by decide) ?_
            refine xg_cV hX tq [.int (bI false)] (hM := xc_setSign l D cI tq tp (chD M n a) false false (chD_lt hz)) (wr := [(dq, .inr (2, [.ref dm, .ref d1, .ref d2, .ref d3, .ref d4, .ref dw, .int (bI den)])), (dm, .inl (cI, 256, .inl (nf M)))]) (ws' := fun _ => [(dq, .inr (2, [.ref dm, .ref d1, .ref d2, .ref d3, .ref d4, .ref dw, .int (bI den)])), (dm, .inl (cI, 256, .inl (nf M))), (tq, .inr (0, [.ref tp, .int (bI (false && hasD (chD M n a) 0 130))])), (tp, .inl (cI, 130, .inl (nf (chD M n a))))]) (st' := fun _ => []) [2, 3] [0, 1] [0, 1, 2, 3] [] (by simp [bI_nI]) mt_132 mt_129 mt_2 mt_130 mt_131 0 rfl rfl hdR_setSign (by decide) ⟨rfl, rfl⟩ (by decide) rfl rfl (by decide) rfl (by decide) (by decide) (by decide) (fun u => rfl) (fun u => rfl) (fun u => rfl) rfl rfl (by simp [Value.category]) dD_readCharacters_99 (fun _ _ => ?_)
            refine xg_iconst hX (nI 1) dD_readCharacters_102 (by decide) ?_
            refine xg_top (bI true) rfl ?_
            exact hret (true, chD M n a, false && hasD (chD M n a) 0 130) _ _ _ rfl (xn_narB _) (show true = chb M n a ∧ (true = true → (chD M n a) = chD M n a ∧ (false && hasD (chD M n a) 0 130) = chS M n a) from ⟨(chb_iff.mpr ⟨h4, hz⟩).symm, fun _ => ⟨rfl, by unfold chS; first | (rw [decide_eq_true (by omega)]; done) | (rw [decide_eq_false (by omega)]; done)⟩⟩) dD_readCharacters_103
          ·
            refine xg_iconst hX (nI 1) dD_readCharacters_94 (by decide) ?_
            refine xg_goto hX 99 dD_readCharacters_95 (by decide) ?_
            refine xg_cV hX tq [.int (bI true)] (hM := xc_setSign l D cI tq tp (chD M n a) false true (chD_lt hz)) (wr := [(dq, .inr (2, [.ref dm, .ref d1, .ref d2, .ref d3, .ref d4, .ref dw, .int (bI den)])), (dm, .inl (cI, 256, .inl (nf M)))]) (ws' := fun _ => [(dq, .inr (2, [.ref dm, .ref d1, .ref d2, .ref d3, .ref d4, .ref dw, .int (bI den)])), (dm, .inl (cI, 256, .inl (nf M))), (tq, .inr (0, [.ref tp, .int (bI (true && hasD (chD M n a) 0 130))])), (tp, .inl (cI, 130, .inl (nf (chD M n a))))]) (st' := fun _ => []) [2, 3] [0, 1] [0, 1, 2, 3] [] (by simp [bI_nI]) mt_132 mt_129 mt_2 mt_130 mt_131 0 rfl rfl hdR_setSign (by decide) ⟨rfl, rfl⟩ (by decide) rfl rfl (by decide) rfl (by decide) (by decide) (by decide) (fun u => rfl) (fun u => rfl) (fun u => rfl) rfl rfl (by simp [Value.category]) dD_readCharacters_99 (fun _ _ => ?_)
            refine xg_iconst hX (nI 1) dD_readCharacters_102 (by decide) ?_
            refine xg_top (bI true) rfl ?_
            exact hret (true, chD M n a, true && hasD (chD M n a) 0 130) _ _ _ rfl (xn_narB _) (show true = chb M n a ∧ (true = true → (chD M n a) = chD M n a ∧ (true && hasD (chD M n a) 0 130) = chS M n a) from ⟨(chb_iff.mpr ⟨h4, hz⟩).symm, fun _ => ⟨rfl, by unfold chS; first | (rw [decide_eq_true (by omega)]; done) | (rw [decide_eq_false (by omega)]; done)⟩⟩) dD_readCharacters_103
        ·
          refine xg_aload_n hX 0 dD_readCharacters_43 rfl rfl ?_
          refine xg_iload_n hX 3 dD_readCharacters_44 rfl rfl ?_
          refine xg_iload_n hX 2 dD_readCharacters_45 rfl rfl ?_
          refine xg_iaddN hX dD_readCharacters_46 ?_
          refine xg_iload hX 5 dD_readCharacters_47 rfl ?_
          refine xg_isubN hX (by omega) dD_readCharacters_49 ?_
          refine xg_cV hX dq [.int (nI ((a + n) - i))] (hM := xc_byteOfN l D cI dq dm d1 d2 d3 d4 dw den M ((a + n) - i) (by omega)) (wr := [(tq, .inr (0, [.ref tp, .int (bI false)])), (tp, .inl (cI, 130, .inl (nf (mix i (chD M n a) zf))))]) (ws' := fun _ => [(dq, .inr (2, [.ref dm, .ref d1, .ref d2, .ref d3, .ref d4, .ref dw, .int (bI den)])), (dm, .inl (cI, 256, .inl (nf M))), (tq, .inr (0, [.ref tp, .int (bI false)])), (tp, .inl (cI, 130, .inl (nf (mix i (chD M n a) zf))))]) (st' := fun _ => [.int (nI (M ((a + n) - i)))]) [0, 1] [2, 3] [2, 3, 0, 1] [] rfl mt_97 mt_117 mt_1 mt_95 mt_96 0 rfl rfl hdD_byteOf (by decide) ⟨rfl, rfl⟩ (by decide) rfl rfl (by decide) rfl (by decide) (by decide) (by decide) (fun u => rfl) (fun u => rfl) (fun u => rfl) rfl rfl (by simp [Value.category]) dD_readCharacters_50 (fun _ _ => ?_)
          have e1 := hM ((a + n) - i)
          refine xg_bipush hX (nI 48) dD_readCharacters_53 (by decide) ?_
          refine xg_isub hX dD_readCharacters_55 ?_
          rcases Nat.lt_or_ge (M ((a + n) - i)) 48 with hs | hs
          ·
            have hs2 : (nI (M ((a + n) - i)) - nI 48).toInt < 0 := by rw [xn_s2 (by omega) (by omega)]; omega
            refine xg_istore hX (lv' := [(6, .int ((nI (M ((a + n) - i))) - (nI 48))), (0, .ref dq), (1, .ref tq), (2, .int (nI n)), (3, .int (nI a)), (4, .int (nI (M a))), (5, .int (nI i))]) dD_readCharacters_56 (by decide) rfl ?_
            refine xg_iload hX 0 dD_readCharacters_58 rfl ?_
            refine xg_if_ltZ hX (((nI (M ((a + n) - i))) - (nI 48)).toInt) rfl 70 dD_readCharacters_60 (by decide) (fun h60 => ?_) (fun h60 => absurd h60 (by omega))
            refine xg_iconst hX (nI 0) dD_readCharacters_70 (by decide) ?_
            refine xg_top (bI false) rfl ?_
            exact hret (false, mix i (chD M n a) zf, false) _ _ _ rfl (xn_narB _) (show false = chb M n a ∧ (false = true → (mix i (chD M n a) zf) = chD M n a ∧ false = chS M n a) from ⟨(chb_f (fun q => by have := q.2 i h40; omega)).symm, fun q => by cases q⟩) dD_readCharacters_71
          ·
            refine xg_top (nI (M ((a + n) - i) - 48)) (pk_sub hs) ?_
            refine xg_istore hX (lv' := [(6, .int (nI (M ((a + n) - i) - 48))), (0, .ref dq), (1, .ref tq), (2, .int (nI n)), (3, .int (nI a)), (4, .int (nI (M a))), (5, .int (nI i))]) dD_readCharacters_56 (by decide) rfl ?_
            refine xg_iload hX 0 dD_readCharacters_58 rfl ?_
            refine xg_if_ltN hX 70 (by omega) dD_readCharacters_60 (by decide) ?_
            refine xg_iload hX 0 dD_readCharacters_63 rfl ?_
            refine xg_bipush hX (nI 9) dD_readCharacters_65 (by decide) ?_
            refine xg_icmp_leN hX 72 (by omega) (by omega) dD_readCharacters_67 (by decide) (fun h67 => ?_) (fun h67 => ?_)
            ·
              refine xg_aload_n hX 2 dD_readCharacters_72 rfl rfl ?_
              refine xg_iload hX 6 dD_readCharacters_73 rfl ?_
              refine xg_iload hX 0 dD_readCharacters_75 rfl ?_
              refine xg_cV hX tq [.int (nI i), .int (nI (M ((a + n) - i) - 48))] (hM := xc_setDigit l D cI tq tp (mix i (chD M n a) zf) false i (M ((a + n) - i) - 48) (by omega)) (wr := [(dq, .inr (2, [.ref dm, .ref d1, .ref d2, .ref d3, .ref d4, .ref dw, .int (bI den)])), (dm, .inl (cI, 256, .inl (nf M)))]) (ws' := fun _ => [(dq, .inr (2, [.ref dm, .ref d1, .ref d2, .ref d3, .ref d4, .ref dw, .int (bI den)])), (dm, .inl (cI, 256, .inl (nf M))), (tq, .inr (0, [.ref tp, .int (bI false)])), (tp, .inl (cI, 130, .inl (nf (up (mix i (chD M n a) zf) i (M ((a + n) - i) - 48)))))]) (st' := fun _ => []) [2, 3] [0, 1] [0, 1, 2, 3] [] rfl mt_128 mt_125 mt_2 mt_126 mt_127 0 rfl rfl hdR_setDigit (by decide) ⟨rfl, rfl⟩ (by decide) rfl rfl (by decide) rfl (by decide) (by decide) (by decide) (fun u => rfl) (fun u => rfl) (fun u => rfl) rfl rfl (by simp [Value.category]) dD_readCharacters_77 (fun _ _ => ?_)
              refine xg_iincN hX (lv' := [(5, .int (nI (i + 1))), (6, .int (nI (M ((a + n) - i) - 48))), (0, .ref dq), (1, .ref tq), (2, .int (nI n)), (3, .int (nI a)), (4, .int (nI (M a)))]) (i + 1) 6 dD_readCharacters_80 rfl (xn_inc _) (by decide) rfl ?_
              refine xg_goto hX 37 dD_readCharacters_83 (by decide) ?_
              refine xg_ext hX (g := mix (i + 1) (chD M n a) zf) (ws' := [(dq, .inr (2, [.ref dm, .ref d1, .ref d2, .ref d3, .ref d4, .ref dw, .int (bI den)])), (dm, .inl (cI, 256, .inl (nf M))), (tq, .inr (0, [.ref tp, .int (bI false)])), (tp, .inl (cI, 130, .inl (nf (mix (i + 1) (chD M n a) zf))))]) 3 rfl (fun j hj => mix_up (chD_at h40) j) rfl ?_
              refine xg_lv hX (lv' := [(0, .ref dq), (1, .ref tq), (2, .int (nI n)), (3, .int (nI a)), (4, .int (nI (M a))), (5, .int (nI (i + 1)))]) [2, 3, 4, 5, 6, 0] rfl ?_
              exact ih4 (i + 1) (by omega) (fun k hk => by rcases Nat.lt_or_ge k i with q | q; exact hz k q; obtain rfl : k = i := (by omega); exact ⟨by omega, by omega⟩) (by omega)
            ·
              refine xg_iconst hX (nI 0) dD_readCharacters_70 (by decide) ?_
              refine xg_top (bI false) rfl ?_
              exact hret (false, mix i (chD M n a) zf, false) _ _ _ rfl (xn_narB _) (show false = chb M n a ∧ (false = true → (mix i (chD M n a) zf) = chD M n a ∧ false = chS M n a) from ⟨(chb_f (fun q => by have := q.2 i h40; omega)).symm, fun q => by cases q⟩) dD_readCharacters_71
    refine xg_ext hX (g := mix 0 (chD M n a) zf) (ws' := [(dq, .inr (2, [.ref dm, .ref d1, .ref d2, .ref d3, .ref d4, .ref dw, .int (bI den)])), (dm, .inl (cI, 256, .inl (nf M))), (tq, .inr (0, [.ref tp, .int (bI false)])), (tp, .inl (cI, 130, .inl (nf (mix 0 (chD M n a) zf))))]) 3 rfl (fun j hj => mix_0 j) rfl ?_
    refine xg_lv hX (lv' := [(0, .ref dq), (1, .ref tq), (2, .int (nI n)), (3, .int (nI a)), (4, .int (nI (M a))), (5, .int (nI 0))]) [1, 2, 3, 4, 5, 0] rfl ?_
    exact lp2 (n - 0 + 1) 0 (by omega) (fun k hk => absurd hk (Nat.not_lt_zero _)) (Nat.lt_succ_self _)
  refine xg_iload hX 0 dD_readCharacters_7 rfl ?_
  refine xg_bipush hX (nI 43) dD_readCharacters_9 (by decide) ?_
  refine xg_icmp_eqN hX 30 (by omega) (by omega) dD_readCharacters_11 (by decide) (fun h11 => ?_) (fun h11 => ?_)
  ·
    refine xg_lv hX (lv' := [(0, .ref dq), (1, .ref tq), (2, .int (nI n)), (3, .int (nI a)), (4, .int (nI (M a)))]) [1, 2, 3, 4, 0] rfl ?_
    exact jn1  (by omega)
  ·
    refine xg_iload hX 0 dD_readCharacters_14 rfl ?_
    refine xg_bipush hX (nI 45) dD_readCharacters_16 (by decide) ?_
    refine xg_icmp_eqN hX 30 (by omega) (by omega) dD_readCharacters_18 (by decide) (fun h18 => ?_) (fun h18 => ?_)
    ·
      refine xg_lv hX (lv' := [(0, .ref dq), (1, .ref tq), (2, .int (nI n)), (3, .int (nI a)), (4, .int (nI (M a)))]) [1, 2, 3, 4, 0] rfl ?_
      exact jn1  (by omega)
    ·
      refine xg_iload hX 0 dD_readCharacters_21 rfl ?_
      refine xg_bipush hX (nI 32) dD_readCharacters_23 (by decide) ?_
      refine xg_icmp_eqN hX 30 (by omega) (by omega) dD_readCharacters_25 (by decide) (fun h25 => ?_) (fun h25 => ?_)
      ·
        refine xg_lv hX (lv' := [(0, .ref dq), (1, .ref tq), (2, .int (nI n)), (3, .int (nI a)), (4, .int (nI (M a)))]) [1, 2, 3, 4, 0] rfl ?_
        exact jn1  (by omega)
      ·
        refine xg_iconst hX (nI 0) dD_readCharacters_28 (by decide) ?_
        refine xg_top (bI false) rfl ?_
        exact hret (false, td, ts) _ _ _ rfl (xn_narB _) (show false = chb M n a ∧ (false = true → td = chD M n a ∧ ts = chS M n a) from ⟨(chb_f (fun q => by omega)).symm, fun q => by cases q⟩) dD_readCharacters_29
set_option maxHeartbeats 4000000 in
set_option maxRecDepth 100000 in
theorem xc_writeDecimal (l : Launch) (D : va_G) (cI : ClassId) (dq : Nat) (dm : Nat) (d1 : Nat) (d2 : Nat) (d3 : Nat) (d4 : Nat) (dw : Nat) (den : Bool) (M : Nat → Nat) (tq : Nat) (tp : Nat) (td : Nat → Nat) (ts : Bool) (n : Nat) (a : Nat) (hn : n ≤ 31) (ha : a + n / 2 < 256) (htd : ∀ j, td j < 10) : Ctr l D cI yD_writeDecimal cD_writeDecimal 9 (some .int) { frames := 3, cells := 0, slots := 0, locals := 66 } [.ref dq, .ref tq, .int (nI n), .int (nI a)] [(dq, .inr (2, [.ref dm, .ref d1, .ref d2, .ref d3, .ref d4, .ref dw, .int (bI den)])), (dm, .inl (cI, 256, .inl (nf M))), (tq, .inr (0, [.ref tp, .int (bI ts)])), (tp, .inl (cI, 130, .inl (nf td)))] (fun _ : Unit => some (.int (nI (flg td ts n)))) (fun _ : Unit => True) (fun _ : Unit => [(dq, .inr (2, [.ref dm, .ref d1, .ref d2, .ref d3, .ref d4, .ref dw, .int (bI den)])), (dm, .inl (cI, 256, .inl (nf (wrM M td ts n a)))), (tq, .inr (0, [.ref tp, .int (bI ts)])), (tp, .inl (cI, 130, .inl (nf td)))]) 0 0 := by
  refine xc_mkI (by decide +kernel) (Nat.le_of_ble_eq_true rfl) (fun X hX hret => ?_)
  show GG D X 0 0 0 [(dq, .inr (2, [.ref dm, .ref d1, .ref d2, .ref d3, .ref d4, .ref dw, .int (bI den)])), (dm, .inl (cI, 256, .inl (nf M))), (tq, .inr (0, [.ref tp, .int (bI ts)])), (tp, .inl (cI, 130, .inl (nf td)))] [(0, .ref dq), (1, .ref tq), (2, .int (nI n)), (3, .int (nI a))] []
  refine xg_aload_n hX 1 dD_writeDecimal_0 rfl rfl ?_
  refine xg_iload_n hX 2 dD_writeDecimal_1 rfl rfl ?_
  refine xg_cV hX tq [.int (nI n)] (hM := xc_flags l D cI tq tp td ts n (by omega) htd) (wr := [(dq, .inr (2, [.ref dm, .ref d1, .ref d2, .ref d3, .ref d4, .ref dw, .int (bI den)])), (dm, .inl (cI, 256, .inl (nf M)))]) (ws' := fun _ => [(dq, .inr (2, [.ref dm, .ref d1, .ref d2, .ref d3, .ref d4, .ref dw, .int (bI den)])), (dm, .inl (cI, 256, .inl (nf M))), (tq, .inr (0, [.ref tp, .int (bI ts)])), (tp, .inl (cI, 130, .inl (nf td)))]) (st' := fun _ => [.int (nI (flg td ts n))]) [2, 3] [0, 1] [0, 1, 2, 3] [] rfl mt_170 mt_167 mt_2 mt_168 mt_169 0 rfl rfl hdR_flagsOfLowest (by decide) ⟨rfl, rfl⟩ (by decide) rfl rfl (by decide) rfl (by decide) (by decide) (by decide) (fun u => rfl) (fun u => rfl) (fun u => rfl) rfl rfl (by simp [Value.category]) dD_writeDecimal_2 (fun _ _ => ?_)
  refine xg_istore hX (lv' := [(4, .int (nI (flg td ts n))), (0, .ref dq), (1, .ref tq), (2, .int (nI n)), (3, .int (nI a))]) dD_writeDecimal_5 (by decide) rfl ?_
  refine xg_iload hX 0 dD_writeDecimal_7 rfl ?_
  refine xg_bipush hX (nI 8) dD_writeDecimal_9 (by decide) ?_
  refine xg_iand hX dD_writeDecimal_11 ?_
  refine xg_top (nI (if ng td ts n = true then 8 else 0)) (xn_f8 td ts n) ?_
  have jn1 : GG D X 0 0 24 [(dq, .inr (2, [.ref dm, .ref d1, .ref d2, .ref d3, .ref d4, .ref dw, .int (bI den)])), (dm, .inl (cI, 256, .inl (nf M))), (tq, .inr (0, [.ref tp, .int (bI ts)])), (tp, .inl (cI, 130, .inl (nf td)))] [(0, .ref dq), (1, .ref tq), (2, .int (nI n)), (3, .int (nI a)), (4, .int (nI (flg td ts n))), (5, .int (nI (if ng td ts n = true then 13 else 12)))] [] := by
    refine xg_iload_n hX 2 dD_writeDecimal_24 rfl rfl ?_
    refine xg_iconst hX (nI 2) dD_writeDecimal_25 (by decide) ?_
    refine xg_idivN hX (by omega) (by omega) (by omega) dD_writeDecimal_26 ?_
    refine xg_iconst hX (nI 1) dD_writeDecimal_27 (by decide) ?_
    refine xg_iaddN hX dD_writeDecimal_28 ?_
    refine xg_istore hX (lv' := [(6, .int (nI ((n / 2) + 1))), (0, .ref dq), (1, .ref tq), (2, .int (nI n)), (3, .int (nI a)), (4, .int (nI (flg td ts n))), (5, .int (nI (if ng td ts n = true then 13 else 12)))]) dD_writeDecimal_29 (by decide) rfl ?_
    refine xg_iconst hX (nI 0) dD_writeDecimal_31 (by decide) ?_
    refine xg_istore hX (lv' := [(7, .int (nI 0)), (6, .int (nI ((n / 2) + 1))), (0, .ref dq), (1, .ref tq), (2, .int (nI n)), (3, .int (nI a)), (4, .int (nI (flg td ts n))), (5, .int (nI (if ng td ts n = true then 13 else 12)))]) dD_writeDecimal_32 (by decide) rfl ?_
    have lp2 : ∀ (fu3 : Nat) (i : Nat), (i ≤ n / 2 + 1) → n / 2 + 1 - i < fu3 → GG D X 0 0 34 [(dq, .inr (2, [.ref dm, .ref d1, .ref d2, .ref d3, .ref d4, .ref dw, .int (bI den)])), (dm, .inl (cI, 256, .inl (nf (wrP M td (if ng td ts n = true then 13 else 12) n a i)))), (tq, .inr (0, [.ref tp, .int (bI ts)])), (tp, .inl (cI, 130, .inl (nf td)))] [(0, .ref dq), (1, .ref tq), (2, .int (nI n)), (3, .int (nI a)), (4, .int (nI (flg td ts n))), (5, .int (nI (wrL td (if ng td ts n = true then 13 else 12) i))), (6, .int (nI ((n / 2) + 1))), (7, .int (nI i))] [] := by
      intro fu3
      induction fu3 with
      | zero => intro i hi hm5; exact absurd hm5 (Nat.not_lt_zero _)
      | succ fu3 ih4 =>
        intro i hi hm5
        have e1 := htd (2 * i)
        have e2 : wrL td (if ng td ts n = true then 13 else 12) i < 16 := wrL_lt htd (by split <;> decide) i
        refine xg_iload hX 7 dD_writeDecimal_34 rfl ?_
        refine xg_iload hX 6 dD_writeDecimal_36 rfl ?_
        refine xg_icmp_geN hX 102 (by omega) (by omega) dD_writeDecimal_38 (by decide) (fun h38 => ?_) (fun h38 => ?_)
        ·
          refine xg_iload hX 4 dD_writeDecimal_102 rfl ?_
          have hie : i = n / 2 + 1 := by omega
          refine xg_ext hX (g := wrM M td ts n a) (ws' := [(dq, .inr (2, [.ref dm, .ref d1, .ref d2, .ref d3, .ref d4, .ref dw, .int (bI den)])), (dm, .inl (cI, 256, .inl (nf (wrM M td ts n a)))), (tq, .inr (0, [.ref tp, .int (bI ts)])), (tp, .inl (cI, 130, .inl (nf td)))]) 1 rfl (fun j hj => by first | rfl | (rw [hie]; done) | (rw [hie]; rfl)) rfl ?_
          exact hret () _ _ _ rfl trivial dD_writeDecimal_104
        ·
          refine xg_iconst hX (nI 2) dD_writeDecimal_41 (by decide) ?_
          refine xg_iload hX 7 dD_writeDecimal_42 rfl ?_
          refine xg_imulN hX dD_writeDecimal_44 ?_
          refine xg_iload_n hX 2 dD_writeDecimal_45 rfl rfl ?_
          refine xg_icmp_geN hX 60 (by omega) (by omega) dD_writeDecimal_46 (by decide) (fun h46 => ?_) (fun h46 => ?_)
          ·
            refine xg_iconst hX (nI 0) dD_writeDecimal_60 (by decide) ?_
            refine xg_istore hX (lv' := [(8, .int (nI 0)), (0, .ref dq), (1, .ref tq), (2, .int (nI n)), (3, .int (nI a)), (4, .int (nI (flg td ts n))), (5, .int (nI (wrL td (if ng td ts n = true then 13 else 12) i))), (6, .int (nI ((n / 2) + 1))), (7, .int (nI i))]) dD_writeDecimal_61 (by decide) rfl ?_
            refine xg_aload_n hX 1 dD_writeDecimal_63 rfl rfl ?_
            refine xg_iload_n hX 4 dD_writeDecimal_64 rfl rfl ?_
            refine xg_iload_n hX 3 dD_writeDecimal_65 rfl rfl ?_
            refine xg_iconst hX (nI 2) dD_writeDecimal_66 (by decide) ?_
            refine xg_idivN hX (by omega) (by omega) (by omega) dD_writeDecimal_67 ?_
            refine xg_iaddN hX dD_writeDecimal_68 ?_
            refine xg_iload hX 8 dD_writeDecimal_69 rfl ?_
            refine xg_isubN hX (by omega) dD_writeDecimal_71 ?_
            refine xg_iload hX 0 dD_writeDecimal_72 rfl ?_
            refine xg_bipush hX (nI 16) dD_writeDecimal_74 (by decide) ?_
            refine xg_imulN hX dD_writeDecimal_76 ?_
            refine xg_iload hX 6 dD_writeDecimal_77 rfl ?_
            refine xg_iaddN hX dD_writeDecimal_79 ?_
            refine xg_cV hX dq [.int (nI ((a + (n / 2)) - i)), .int (nI ((0 * 16) + (wrL td (if ng td ts n = true then 13 else 12) i)))] (hM := xc_putN l D cI dq dm d1 d2 d3 d4 dw den (wrP M td (if ng td ts n = true then 13 else 12) n a i) ((a + (n / 2)) - i) ((0 * 16) + (wrL td (if ng td ts n = true then 13 else 12) i)) (by omega) (by omega)) (wr := [(tq, .inr (0, [.ref tp, .int (bI ts)])), (tp, .inl (cI, 130, .inl (nf td)))]) (ws' := fun _ => [(dq, .inr (2, [.ref dm, .ref d1, .ref d2, .ref d3, .ref d4, .ref dw, .int (bI den)])), (dm, .inl (cI, 256, .inl (nf (up (wrP M td (if ng td ts n = true then 13 else 12) n a i) ((a + (n / 2)) - i) ((0 * 16) + (wrL td (if ng td ts n = true then 13 else 12) i)))))), (tq, .inr (0, [.ref tp, .int (bI ts)])), (tp, .inl (cI, 130, .inl (nf td)))]) (st' := fun _ => [.int (bI true)]) [0, 1] [2, 3] [2, 3, 0, 1] [] rfl mt_93 mt_172 mt_1 mt_91 mt_92 0 rfl rfl hdD_put (by decide) ⟨rfl, rfl⟩ (by decide) rfl rfl (by decide) rfl (by decide) (by decide) (by decide) (fun u => rfl) (fun u => rfl) (fun u => rfl) rfl rfl (by simp [Value.category]) dD_writeDecimal_80 (fun _ _ => ?_)
            refine xg_pop hX dD_writeDecimal_83 rfl ?_
            refine xg_aload_n hX 2 dD_writeDecimal_84 rfl rfl ?_
            refine xg_iconst hX (nI 2) dD_writeDecimal_85 (by decide) ?_
            refine xg_iload hX 8 dD_writeDecimal_86 rfl ?_
            refine xg_imulN hX dD_writeDecimal_88 ?_
            refine xg_iconst hX (nI 1) dD_writeDecimal_89 (by decide) ?_
            refine xg_iaddN hX dD_writeDecimal_90 ?_
            refine xg_cV hX tq [.int (nI ((2 * i) + 1))] (hM := xc_digitAt l D cI tq tp td ts ((2 * i) + 1) (by omega)) (wr := [(dq, .inr (2, [.ref dm, .ref d1, .ref d2, .ref d3, .ref d4, .ref dw, .int (bI den)])), (dm, .inl (cI, 256, .inl (nf (up (wrP M td (if ng td ts n = true then 13 else 12) n a i) ((a + (n / 2)) - i) ((0 * 16) + (wrL td (if ng td ts n = true then 13 else 12) i))))))]) (ws' := fun _ => [(dq, .inr (2, [.ref dm, .ref d1, .ref d2, .ref d3, .ref d4, .ref dw, .int (bI den)])), (dm, .inl (cI, 256, .inl (nf (up (wrP M td (if ng td ts n = true then 13 else 12) n a i) ((a + (n / 2)) - i) ((0 * 16) + (wrL td (if ng td ts n = true then 13 else 12) i)))))), (tq, .inr (0, [.ref tp, .int (bI ts)])), (tp, .inl (cI, 130, .inl (nf td)))]) (st' := fun _ => [.int (nI (td ((2 * i) + 1)))]) [2, 3] [0, 1] [0, 1, 2, 3] [] rfl mt_144 mt_171 mt_2 mt_142 mt_143 0 rfl rfl hdR_digitAt (by decide) ⟨rfl, rfl⟩ (by decide) rfl rfl (by decide) rfl (by decide) (by decide) (by decide) (fun u => rfl) (fun u => rfl) (fun u => rfl) rfl rfl (by simp [Value.category]) dD_writeDecimal_91 (fun _ _ => ?_)
            refine xg_istore hX (lv' := [(5, .int (nI (td ((2 * i) + 1)))), (8, .int (nI 0)), (0, .ref dq), (1, .ref tq), (2, .int (nI n)), (3, .int (nI a)), (4, .int (nI (flg td ts n))), (6, .int (nI ((n / 2) + 1))), (7, .int (nI i))]) dD_writeDecimal_94 (by decide) rfl ?_
            refine xg_iincN hX (lv' := [(7, .int (nI (i + 1))), (5, .int (nI (td ((2 * i) + 1)))), (8, .int (nI 0)), (0, .ref dq), (1, .ref tq), (2, .int (nI n)), (3, .int (nI a)), (4, .int (nI (flg td ts n))), (6, .int (nI ((n / 2) + 1)))]) (i + 1) 8 dD_writeDecimal_96 rfl (xn_inc _) (by decide) rfl ?_
            refine xg_goto hX 34 dD_writeDecimal_99 (by decide) ?_
            refine xg_ext hX (g := wrP M td (if ng td ts n = true then 13 else 12) n a (i + 1)) (ws' := [(dq, .inr (2, [.ref dm, .ref d1, .ref d2, .ref d3, .ref d4, .ref dw, .int (bI den)])), (dm, .inl (cI, 256, .inl (nf (wrP M td (if ng td ts n = true then 13 else 12) n a (i + 1))))), (tq, .inr (0, [.ref tp, .int (bI ts)])), (tp, .inl (cI, 130, .inl (nf td)))]) 1 rfl (fun j hj => wrP_s (by omega) (by unfold wrB; first | (rw [if_pos (show 2 * i < n from h46)]; done) | (rw [if_neg (show ¬ 2 * i < n by omega)]; done)) j) rfl ?_
            refine xg_lv hX (lv' := [(0, .ref dq), (1, .ref tq), (2, .int (nI n)), (3, .int (nI a)), (4, .int (nI (flg td ts n))), (5, .int (nI (td ((2 * i) + 1)))), (6, .int (nI ((n / 2) + 1))), (7, .int (nI (i + 1)))]) [3, 4, 5, 6, 7, 1, 8, 0] rfl ?_
            refine xg_lvE (lv' := [(0, .ref dq), (1, .ref tq), (2, .int (nI n)), (3, .int (nI a)), (4, .int (nI (flg td ts n))), (5, .int (nI (wrL td (if ng td ts n = true then 13 else 12) (i + 1)))), (6, .int (nI ((n / 2) + 1))), (7, .int (nI (i + 1)))]) (by rw [← (show (nI (td ((2 * i) + 1)) : Int32) = nI (wrL td (if ng td ts n = true then 13 else 12) (i + 1)) from (by first | rfl | decide))]) ?_
            exact ih4 (i + 1) (by omega) (by omega)
          ·
            refine xg_aload_n hX 1 dD_writeDecimal_49 rfl rfl ?_
            refine xg_iconst hX (nI 2) dD_writeDecimal_50 (by decide) ?_
            refine xg_iload hX 7 dD_writeDecimal_51 rfl ?_
            refine xg_imulN hX dD_writeDecimal_53 ?_
            refine xg_cV hX tq [.int (nI (2 * i))] (hM := xc_digitAt l D cI tq tp td ts (2 * i) (by omega)) (wr := [(dq, .inr (2, [.ref dm, .ref d1, .ref d2, .ref d3, .ref d4, .ref dw, .int (bI den)])), (dm, .inl (cI, 256, .inl (nf (wrP M td (if ng td ts n = true then 13 else 12) n a i))))]) (ws' := fun _ => [(dq, .inr (2, [.ref dm, .ref d1, .ref d2, .ref d3, .ref d4, .ref dw, .int (bI den)])), (dm, .inl (cI, 256, .inl (nf (wrP M td (if ng td ts n = true then 13 else 12) n a i)))), (tq, .inr (0, [.ref tp, .int (bI ts)])), (tp, .inl (cI, 130, .inl (nf td)))]) (st' := fun _ => [.int (nI (td (2 * i)))]) [2, 3] [0, 1] [0, 1, 2, 3] [] rfl mt_144 mt_171 mt_2 mt_142 mt_143 0 rfl rfl hdR_digitAt (by decide) ⟨rfl, rfl⟩ (by decide) rfl rfl (by decide) rfl (by decide) (by decide) (by decide) (fun u => rfl) (fun u => rfl) (fun u => rfl) rfl rfl (by simp [Value.category]) dD_writeDecimal_54 (fun _ _ => ?_)
            refine xg_goto hX 61 dD_writeDecimal_57 (by decide) ?_
            refine xg_istore hX (lv' := [(8, .int (nI (td (2 * i)))), (0, .ref dq), (1, .ref tq), (2, .int (nI n)), (3, .int (nI a)), (4, .int (nI (flg td ts n))), (5, .int (nI (wrL td (if ng td ts n = true then 13 else 12) i))), (6, .int (nI ((n / 2) + 1))), (7, .int (nI i))]) dD_writeDecimal_61 (by decide) rfl ?_
            refine xg_aload_n hX 1 dD_writeDecimal_63 rfl rfl ?_
            refine xg_iload_n hX 4 dD_writeDecimal_64 rfl rfl ?_
            refine xg_iload_n hX 3 dD_writeDecimal_65 rfl rfl ?_
            refine xg_iconst hX (nI 2) dD_writeDecimal_66 (by decide) ?_
            refine xg_idivN hX (by omega) (by omega) (by omega) dD_writeDecimal_67 ?_
            refine xg_iaddN hX dD_writeDecimal_68 ?_
            refine xg_iload hX 8 dD_writeDecimal_69 rfl ?_
            refine xg_isubN hX (by omega) dD_writeDecimal_71 ?_
            refine xg_iload hX 0 dD_writeDecimal_72 rfl ?_
            refine xg_bipush hX (nI 16) dD_writeDecimal_74 (by decide) ?_
            refine xg_imulN hX dD_writeDecimal_76 ?_
            refine xg_iload hX 6 dD_writeDecimal_77 rfl ?_
            refine xg_iaddN hX dD_writeDecimal_79 ?_
            refine xg_cV hX dq [.int (nI ((a + (n / 2)) - i)), .int (nI (((td (2 * i)) * 16) + (wrL td (if ng td ts n = true then 13 else 12) i)))] (hM := xc_putN l D cI dq dm d1 d2 d3 d4 dw den (wrP M td (if ng td ts n = true then 13 else 12) n a i) ((a + (n / 2)) - i) (((td (2 * i)) * 16) + (wrL td (if ng td ts n = true then 13 else 12) i)) (by omega) (by omega)) (wr := [(tq, .inr (0, [.ref tp, .int (bI ts)])), (tp, .inl (cI, 130, .inl (nf td)))]) (ws' := fun _ => [(dq, .inr (2, [.ref dm, .ref d1, .ref d2, .ref d3, .ref d4, .ref dw, .int (bI den)])), (dm, .inl (cI, 256, .inl (nf (up (wrP M td (if ng td ts n = true then 13 else 12) n a i) ((a + (n / 2)) - i) (((td (2 * i)) * 16) + (wrL td (if ng td ts n = true then 13 else 12) i)))))), (tq, .inr (0, [.ref tp, .int (bI ts)])), (tp, .inl (cI, 130, .inl (nf td)))]) (st' := fun _ => [.int (bI true)]) [0, 1] [2, 3] [2, 3, 0, 1] [] rfl mt_93 mt_172 mt_1 mt_91 mt_92 0 rfl rfl hdD_put (by decide) ⟨rfl, rfl⟩ (by decide) rfl rfl (by decide) rfl (by decide) (by decide) (by decide) (fun u => rfl) (fun u => rfl) (fun u => rfl) rfl rfl (by simp [Value.category]) dD_writeDecimal_80 (fun _ _ => ?_)
            refine xg_pop hX dD_writeDecimal_83 rfl ?_
            refine xg_aload_n hX 2 dD_writeDecimal_84 rfl rfl ?_
            refine xg_iconst hX (nI 2) dD_writeDecimal_85 (by decide) ?_
            refine xg_iload hX 8 dD_writeDecimal_86 rfl ?_
            refine xg_imulN hX dD_writeDecimal_88 ?_
            refine xg_iconst hX (nI 1) dD_writeDecimal_89 (by decide) ?_
            refine xg_iaddN hX dD_writeDecimal_90 ?_
            refine xg_cV hX tq [.int (nI ((2 * i) + 1))] (hM := xc_digitAt l D cI tq tp td ts ((2 * i) + 1) (by omega)) (wr := [(dq, .inr (2, [.ref dm, .ref d1, .ref d2, .ref d3, .ref d4, .ref dw, .int (bI den)])), (dm, .inl (cI, 256, .inl (nf (up (wrP M td (if ng td ts n = true then 13 else 12) n a i) ((a + (n / 2)) - i) (((td (2 * i)) * 16) + (wrL td (if ng td ts n = true then 13 else 12) i))))))]) (ws' := fun _ => [(dq, .inr (2, [.ref dm, .ref d1, .ref d2, .ref d3, .ref d4, .ref dw, .int (bI den)])), (dm, .inl (cI, 256, .inl (nf (up (wrP M td (if ng td ts n = true then 13 else 12) n a i) ((a + (n / 2)) - i) (((td (2 * i)) * 16) + (wrL td (if ng td ts n = true then 13 else 12) i)))))), (tq, .inr (0, [.ref tp, .int (bI ts)])), (tp, .inl (cI, 130, .inl (nf td)))]) (st' := fun _ => [.int (nI (td ((2 * i) + 1)))]) [2, 3] [0, 1] [0, 1, 2, 3] [] rfl mt_144 mt_171 mt_2 mt_142 mt_143 0 rfl rfl hdR_digitAt (by decide) ⟨rfl, rfl⟩ (by decide) rfl rfl (by decide) rfl (by decide) (by decide) (by decide) (fun u => rfl) (fun u => rfl) (fun u => rfl) rfl rfl (by simp [Value.category]) dD_writeDecimal_91 (fun _ _ => ?_)
            refine xg_istore hX (lv' := [(5, .int (nI (td ((2 * i) + 1)))), (8, .int (nI (td (2 * i)))), (0, .ref dq), (1, .ref tq), (2, .int (nI n)), (3, .int (nI a)), (4, .int (nI (flg td ts n))), (6, .int (nI ((n / 2) + 1))), (7, .int (nI i))]) dD_writeDecimal_94 (by decide) rfl ?_
            refine xg_iincN hX (lv' := [(7, .int (nI (i + 1))), (5, .int (nI (td ((2 * i) + 1)))), (8, .int (nI (td (2 * i)))), (0, .ref dq), (1, .ref tq), (2, .int (nI n)), (3, .int (nI a)), (4, .int (nI (flg td ts n))), (6, .int (nI ((n / 2) + 1)))]) (i + 1) 8 dD_writeDecimal_96 rfl (xn_inc _) (by decide) rfl ?_
            refine xg_goto hX 34 dD_writeDecimal_99 (by decide) ?_
            refine xg_ext hX (g := wrP M td (if ng td ts n = true then 13 else 12) n a (i + 1)) (ws' := [(dq, .inr (2, [.ref dm, .ref d1, .ref d2, .ref d3, .ref d4, .ref dw, .int (bI den)])), (dm, .inl (cI, 256, .inl (nf (wrP M td (if ng td ts n = true then 13 else 12) n a (i + 1))))), (tq, .inr (0, [.ref tp, .int (bI ts)])), (tp, .inl (cI, 130, .inl (nf td)))]) 1 rfl (fun j hj => wrP_s (by omega) (by unfold wrB; first | (rw [if_pos (show 2 * i < n from h46)]; done) | (rw [if_neg (show ¬ 2 * i < n by omega)]; done)) j) rfl ?_
            refine xg_lv hX (lv' := [(0, .ref dq), (1, .ref tq), (2, .int (nI n)), (3, .int (nI a)), (4, .int (nI (flg td ts n))), (5, .int (nI (td ((2 * i) + 1)))), (6, .int (nI ((n / 2) + 1))), (7, .int (nI (i + 1)))]) [3, 4, 5, 6, 7, 1, 8, 0] rfl ?_
            refine xg_lvE (lv' := [(0, .ref dq), (1, .ref tq), (2, .int (nI n)), (3, .int (nI a)), (4, .int (nI (flg td ts n))), (5, .int (nI (wrL td (if ng td ts n = true then 13 else 12) (i + 1)))), (6, .int (nI ((n / 2) + 1))), (7, .int (nI (i + 1)))]) (by rw [← (show (nI (td ((2 * i) + 1)) : Int32) = nI (wrL td (if ng td ts n = true then 13 else 12) (i + 1)) from (by first | rfl | decide))]) ?_
            exact ih4 (i + 1) (by omega) (by omega)
    refine xg_ext hX (g := wrP M td (if ng td ts n = true then 13 else 12) n a 0) (ws' := [(dq, .inr (2, [.ref dm, .ref d1, .ref d2, .ref d3, .ref d4, .ref dw, .int (bI den)])), (dm, .inl (cI, 256, .inl (nf (wrP M td (if ng td ts n = true then 13 else 12) n a 0)))), (tq, .inr (0, [.ref tp, .int (bI ts)])), (tp, .inl (cI, 130, .inl (nf td)))]) 1 rfl (fun j hj => wrP_0 j) rfl ?_
    refine xg_lv hX (lv' := [(0, .ref dq), (1, .ref tq), (2, .int (nI n)), (3, .int (nI a)), (4, .int (nI (flg td ts n))), (5, .int (nI (if ng td ts n = true then 13 else 12))), (6, .int (nI ((n / 2) + 1))), (7, .int (nI 0))]) [2, 3, 4, 5, 6, 7, 1, 0] rfl ?_
    refine xg_lvE (lv' := [(0, .ref dq), (1, .ref tq), (2, .int (nI n)), (3, .int (nI a)), (4, .int (nI (flg td ts n))), (5, .int (nI (wrL td (if ng td ts n = true then 13 else 12) 0))), (6, .int (nI ((n / 2) + 1))), (7, .int (nI 0))]) (by rw [← (show (nI (if ng td ts n = true then 13 else 12) : Int32) = nI (wrL td (if ng td ts n = true then 13 else 12) 0) from (by first | rfl | decide))]) ?_
    exact lp2 (n / 2 + 1 - 0 + 1) 0 (by omega) (Nat.lt_succ_self _)
  refine xg_if_eqN hX 20 (by split <;> decide) dD_writeDecimal_12 (by decide) (fun h12 => ?_) (fun h12 => ?_)
  ·
    have hsg : (12 : Nat) = (if ng td ts n = true then 13 else 12) := by cases hq : ng td ts n with | false => rfl | true => rw [hq] at h12; cases h12
    refine xg_bipush hX (nI 12) dD_writeDecimal_20 (by decide) ?_
    refine xg_istore hX (lv' := [(5, .int (nI 12)), (4, .int (nI (flg td ts n))), (0, .ref dq), (1, .ref tq), (2, .int (nI n)), (3, .int (nI a))]) dD_writeDecimal_22 (by decide) rfl ?_
    refine xg_lv hX (lv' := [(0, .ref dq), (1, .ref tq), (2, .int (nI n)), (3, .int (nI a)), (4, .int (nI (flg td ts n))), (5, .int (nI 12))]) [2, 3, 4, 5, 1, 0] rfl ?_
    refine xg_lvE (lv' := [(0, .ref dq), (1, .ref tq), (2, .int (nI n)), (3, .int (nI a)), (4, .int (nI (flg td ts n))), (5, .int (nI (if ng td ts n = true then 13 else 12)))]) (by rw [← (show (nI 12 : Int32) = nI (if ng td ts n = true then 13 else 12) from (by rw [← hsg]))]) ?_
    exact jn1  
  ·
    have hsg : (13 : Nat) = (if ng td ts n = true then 13 else 12) := by cases hq : ng td ts n with | true => rfl | false => rw [hq] at h12; cases h12
    refine xg_bipush hX (nI 13) dD_writeDecimal_15 (by decide) ?_
    refine xg_goto hX 22 dD_writeDecimal_17 (by decide) ?_
    refine xg_istore hX (lv' := [(5, .int (nI 13)), (4, .int (nI (flg td ts n))), (0, .ref dq), (1, .ref tq), (2, .int (nI n)), (3, .int (nI a))]) dD_writeDecimal_22 (by decide) rfl ?_
    refine xg_lv hX (lv' := [(0, .ref dq), (1, .ref tq), (2, .int (nI n)), (3, .int (nI a)), (4, .int (nI (flg td ts n))), (5, .int (nI 13))]) [2, 3, 4, 5, 1, 0] rfl ?_
    refine xg_lvE (lv' := [(0, .ref dq), (1, .ref tq), (2, .int (nI n)), (3, .int (nI a)), (4, .int (nI (flg td ts n))), (5, .int (nI (if ng td ts n = true then 13 else 12)))]) (by rw [← (show (nI 13 : Int32) = nI (if ng td ts n = true then 13 else 12) from (by rw [← hsg]))]) ?_
    exact jn1  
