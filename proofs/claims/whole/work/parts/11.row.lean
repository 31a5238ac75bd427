set_option maxHeartbeats 4000000 in
set_option maxRecDepth 100000 in
theorem xc_lowestBits (l : Launch) (D : va_G) (cI : ClassId) (tq : Nat) (tp : Nat) (td : Nat → Nat) (ts : Bool) (htd : ∀ j, td j < 10) : Ctr l D cI yR_lowestBits cR_lowestBits 4 (some .long) { frames := 1, cells := 0, slots := 0, locals := 21 } [.ref tq] [(tq, .inr (0, [.ref tp, .int (bI ts)])), (tp, .inl (cI, 130, .inl (nf td)))] (fun _ : Unit => some (.long (if ts = true then -(lbF td 31) else lbF td 31))) (fun _ : Unit => True) (fun _ : Unit => [(tq, .inr (0, [.ref tp, .int (bI ts)])), (tp, .inl (cI, 130, .inl (nf td)))]) 0 0 := by
  refine xc_mkL (by decide +kernel) (Nat.le_of_ble_eq_true rfl) (fun X hX hret => ?_)
  show GG D X 0 0 0 [(tq, .inr (0, [.ref tp, .int (bI ts)])), (tp, .inl (cI, 130, .inl (nf td)))] [(0, .ref tq)] []
  refine xg_lconst hX 0 dR_lowestBits_0 (by decide) ?_
  refine xg_lstore_n hX (lv' := [(1, .long 0), (0, .ref tq)]) dR_lowestBits_1 rfl (by decide) rfl ?_
  refine xg_bipush hX (nI 30) dR_lowestBits_2 (by decide) ?_
  refine xg_istore_n hX (lv' := [(3, .int (nI 30)), (1, .long 0), (0, .ref tq)]) dR_lowestBits_4 rfl (by decide) rfl ?_
  have lp1 : ∀ (fu2 : Nat) (c : Nat), (c ≤ 31) → c < fu2 → GG D X 0 0 5 [(tq, .inr (0, [.ref tp, .int (bI ts)])), (tp, .inl (cI, 130, .inl (nf td)))] [(0, .ref tq), (1, .long (lbF td (31 - c))), (3, .int (nI c - 1))] [] := by
    intro fu2
    induction fu2 with
    | zero => intro c hc hm4; exact absurd hm4 (Nat.not_lt_zero _)
    | succ fu2 ih3 =>
      intro c hc hm4
      cases c with
      | zero =>
        rw [show nI 0 - 1 = (-1 : Int32) from by decide]
        refine xg_iload_n hX 2 dR_lowestBits_5 rfl rfl ?_
        refine xg_if_lt hX 28 dR_lowestBits_6 (by decide) (fun _ => ?_) (fun h => absurd (by decide) h)
        refine xg_aload_n hX 0 dR_lowestBits_28 rfl rfl ?_
        refine xg_get hX (ci := 0) rfl hinR 0 rfl 1 (by decide) mt_22 rfl dR_lowestBits_29 ?_
        refine xg_if_eqB hX 40 dR_lowestBits_32 (by decide) (fun h32 => ?_) (fun h32 => ?_)
        ·
          refine xg_lload_n hX 1 dR_lowestBits_40 rfl rfl ?_
          refine xg_topl (if ts = true then -(lbF td 31) else lbF td 31) (by rw [h32] <;> rfl) ?_
          exact hret () _ _ _ rfl trivial dR_lowestBits_41
        ·
          refine xg_lload_n hX 1 dR_lowestBits_35 rfl rfl ?_
          refine xg_lneg hX dR_lowestBits_36 ?_
          refine xg_goto hX 41 dR_lowestBits_37 (by decide) ?_
          refine xg_topl (if ts = true then -(lbF td 31) else lbF td 31) (by rw [h32] <;> rfl) ?_
          exact hret () _ _ _ rfl trivial dR_lowestBits_41
      | succ j =>
        rw [nI_pred]
        have e1 := htd j
        refine xg_iload_n hX 2 dR_lowestBits_5 rfl rfl ?_
        refine xg_if_ltN hX 28 (by omega) dR_lowestBits_6 (by decide) ?_
        refine xg_lload_n hX 1 dR_lowestBits_9 rfl rfl ?_
        refine xg_ldc2 hX 10 mt_237 dR_lowestBits_10 ?_
        refine xg_lmul hX dR_lowestBits_13 ?_
        refine xg_aload_n hX 0 dR_lowestBits_14 rfl rfl ?_
        refine xg_iload_n hX 2 dR_lowestBits_15 rfl rfl ?_
        refine xg_cV hX tq [.int (nI j)] (hM := xc_digitAt l D cI tq tp td ts j (by omega)) (wr := []) (ws' := fun _ => [(tq, .inr (0, [.ref tp, .int (bI ts)])), (tp, .inl (cI, 130, .inl (nf td)))]) (st' := fun _ => [.int (nI (td j)), .long ((lbF td (31 - (j + 1))) * 10)]) [0, 1] [] [0, 1] [.long ((lbF td (31 - (j + 1))) * 10)] rfl mt_144 mt_141 mt_2 mt_142 mt_143 0 rfl rfl hdR_digitAt (by decide) ⟨rfl, rfl⟩ (by decide) rfl rfl (by decide) rfl (by decide) (by decide) (by decide) (fun u => rfl) (fun u => rfl) (fun u => rfl) rfl rfl (by simp [Value.category]) dR_lowestBits_16 (fun _ _ => ?_)
        refine xg_i2l hX ((nI (td j)).toInt64) dR_lowestBits_19 rfl ?_
        refine xg_topl (lN (td j)) (nI_l (by omega)) ?_
        refine xg_ladd hX dR_lowestBits_20 ?_
        refine xg_lstore_n hX (lv' := [(1, .long (((lbF td (31 - (j + 1))) * 10) + (lN (td j)))), (0, .ref tq), (3, .int (nI j))]) dR_lowestBits_21 rfl (by decide) rfl ?_
        refine xg_iinc hX (lv' := [(3, .int (nI j - 1)), (1, .long (((lbF td (31 - (j + 1))) * 10) + (lN (td j)))), (0, .ref tq)]) (nI j - 1) 2 dR_lowestBits_22 rfl (xn_decZ _) (by decide) rfl ?_
        refine xg_goto hX 5 dR_lowestBits_25 (by decide) ?_
        refine xg_lv hX (lv' := [(0, .ref tq), (1, .long (((lbF td (31 - (j + 1))) * 10) + (lN (td j)))), (3, .int (nI j - 1))]) [2, 1, 0] rfl ?_
        refine xg_lvE (lv' := [(0, .ref tq), (1, .long (lbF td (31 - j))), (3, .int (nI j - 1))]) (by rw [← (show (((lbF td (31 - (j + 1))) * 10) + (lN (td j)) : Int64) = lbF td (31 - j) from (lb_s (by omega)))]) ?_
        exact ih3 j (by omega) (by omega)
  refine xg_lv hX (lv' := [(0, .ref tq), (1, .long 0), (3, .int (nI 30))]) [2, 1, 0] rfl ?_
  refine xg_lvE (lv' := [(0, .ref tq), (1, .long (lbF td (31 - 31))), (3, .int (nI 30))]) (by rw [← (show (0 : Int64) = lbF td (31 - 31) from (by first | rfl | decide))]) ?_
  refine xg_lvE (lv' := [(0, .ref tq), (1, .long (lbF td (31 - 31))), (3, .int (nI 31 - 1))]) (by rw [← (show (nI 30 : Int32) = nI 31 - 1 from (by first | rfl | decide))]) ?_
  exact lp1 (31 + 1) 31 (by omega) (Nat.lt_succ_self _)
set_option maxHeartbeats 4000000 in
set_option maxRecDepth 100000 in
theorem xc_order (l : Launch) (D : va_G) (cI : ClassId) (tq : Nat) (tp : Nat) (td : Nat → Nat) (ts : Bool) (xq : Nat) (xp : Nat) (xd : Nat → Nat) (xs : Bool) (htd : ∀ j, td j < 10) (hxd : ∀ j, xd j < 10) : Ctr l D cI yR_orderOfSizes cR_orderOfSizes 3 (some .int) { frames := 1, cells := 0, slots := 0, locals := 21 } [.ref tq, .ref xq] [(tq, .inr (0, [.ref tp, .int (bI ts)])), (tp, .inl (cI, 130, .inl (nf td))), (xq, .inr (0, [.ref xp, .int (bI xs)])), (xp, .inl (cI, 130, .inl (nf xd)))] (fun _ : Unit => some (.int (cmpZ td xd 32))) (fun _ : Unit => True) (fun _ : Unit => [(tq, .inr (0, [.ref tp, .int (bI ts)])), (tp, .inl (cI, 130, .inl (nf td))), (xq, .inr (0, [.ref xp, .int (bI xs)])), (xp, .inl (cI, 130, .inl (nf xd)))]) 0 0 := by
  refine xc_mkI (by decide +kernel) (Nat.le_of_ble_eq_true rfl) (fun X hX hret => ?_)
  show GG D X 0 0 0 [(tq, .inr (0, [.ref tp, .int (bI ts)])), (tp, .inl (cI, 130, .inl (nf td))), (xq, .inr (0, [.ref xp, .int (bI xs)])), (xp, .inl (cI, 130, .inl (nf xd)))] [(0, .ref tq), (1, .ref xq)] []
  refine xg_bipush hX (nI 31) dR_orderOfSizes_0 (by decide) ?_
  refine xg_istore_n hX (lv' := [(2, .int (nI 31)), (0, .ref tq), (1, .ref xq)]) dR_orderOfSizes_2 rfl (by decide) rfl ?_
  have lp1 : ∀ (fu2 : Nat) (c : Nat), (c ≤ 32) → (cmpZ td xd 32 = cmpZ td xd c) → c < fu2 → GG D X 0 0 3 [(tq, .inr (0, [.ref tp, .int (bI ts)])), (tp, .inl (cI, 130, .inl (nf td))), (xq, .inr (0, [.ref xp, .int (bI xs)])), (xp, .inl (cI, 130, .inl (nf xd)))] [(0, .ref tq), (1, .ref xq), (2, .int (nI c - 1))] [] := by
    intro fu2
    induction fu2 with
    | zero => intro c hc hq hm4; exact absurd hm4 (Nat.not_lt_zero _)
    | succ fu2 ih3 =>
      intro c hc hq hm4
      cases c with
      | zero =>
        rw [show nI 0 - 1 = (-1 : Int32) from by decide]
        refine xg_iload_n hX 2 dR_orderOfSizes_3 rfl rfl ?_
        refine xg_if_lt hX 45 dR_orderOfSizes_4 (by decide) (fun _ => ?_) (fun h => absurd (by decide) h)
        refine xg_iconst hX (nI 0) dR_orderOfSizes_45 (by decide) ?_
        refine xg_top (cmpZ td xd 32) (by rw [hq] <;> rfl) ?_
        exact hret () _ _ _ rfl trivial dR_orderOfSizes_46
      | succ j =>
        rw [nI_pred]
        have e1 := htd j
        have e2 := hxd j
        refine xg_iload_n hX 2 dR_orderOfSizes_3 rfl rfl ?_
        refine xg_if_ltN hX 45 (by omega) dR_orderOfSizes_4 (by decide) ?_
        refine xg_aload_n hX 0 dR_orderOfSizes_7 rfl rfl ?_
        refine xg_iload_n hX 2 dR_orderOfSizes_8 rfl rfl ?_
        refine xg_cV hX tq [.int (nI j)] (hM := xc_digitAt l D cI tq tp td ts j (by omega)) (wr := [(xq, .inr (0, [.ref xp, .int (bI xs)])), (xp, .inl (cI, 130, .inl (nf xd)))]) (ws' := fun _ => [(tq, .inr (0, [.ref tp, .int (bI ts)])), (tp, .inl (cI, 130, .inl (nf td))), (xq, .inr (0, [.ref xp, .int (bI xs)])), (xp, .inl (cI, 130, .inl (nf xd)))]) (st' := fun _ => [.int (nI (td j))]) [0, 1] [2, 3] [2, 3, 0, 1] [] rfl mt_144 mt_141 mt_2 mt_142 mt_143 0 rfl rfl hdR_digitAt (by decide) ⟨rfl, rfl⟩ (by decide) rfl rfl (by decide) rfl (by decide) (by decide) (by decide) (fun u => rfl) (fun u => rfl) (fun u => rfl) rfl rfl (by simp [Value.category]) dR_orderOfSizes_9 (fun _ _ => ?_)
        refine xg_aload_n hX 1 dR_orderOfSizes_12 rfl rfl ?_
        refine xg_iload_n hX 2 dR_orderOfSizes_13 rfl rfl ?_
        refine xg_cV hX xq [.int (nI j)] (hM := xc_digitAt l D cI xq xp xd xs j (by omega)) (wr := [(tq, .inr (0, [.ref tp, .int (bI ts)])), (tp, .inl (cI, 130, .inl (nf td)))]) (ws' := fun _ => [(tq, .inr (0, [.ref tp, .int (bI ts)])), (tp, .inl (cI, 130, .inl (nf td))), (xq, .inr (0, [.ref xp, .int (bI xs)])), (xp, .inl (cI, 130, .inl (nf xd)))]) (st' := fun _ => [.int (nI (xd j)), .int (nI (td j))]) [2, 3] [0, 1] [0, 1, 2, 3] [.int (nI (td j))] rfl mt_144 mt_141 mt_2 mt_142 mt_143 0 rfl rfl hdR_digitAt (by decide) ⟨rfl, rfl⟩ (by decide) rfl rfl (by decide) rfl (by decide) (by decide) (by decide) (fun u => rfl) (fun u => rfl) (fun u => rfl) rfl rfl (by simp [Value.category]) dR_orderOfSizes_14 (fun _ _ => ?_)
        refine xg_icmp_eqN hX 39 (by omega) (by omega) dR_orderOfSizes_17 (by decide) (fun h17 => ?_) (fun h17 => ?_)
        ·
          refine xg_iinc hX (lv' := [(2, .int (nI j - 1)), (0, .ref tq), (1, .ref xq)]) (nI j - 1) 2 dR_orderOfSizes_39 rfl (xn_decZ _) (by decide) rfl ?_
          refine xg_goto hX 3 dR_orderOfSizes_42 (by decide) ?_
          refine xg_lv hX (lv' := [(0, .ref tq), (1, .ref xq), (2, .int (nI j - 1))]) [1, 2, 0] rfl ?_
          exact ih3 j (by omega) (hq.trans (show cmpZ td xd (j + 1) = cmpZ td xd j from if_pos h17)) (by omega)
        ·
          refine xg_aload_n hX 0 dR_orderOfSizes_20 rfl rfl ?_
          refine xg_iload_n hX 2 dR_orderOfSizes_21 rfl rfl ?_
          refine xg_cV hX tq [.int (nI j)] (hM := xc_digitAt l D cI tq tp td ts j (by omega)) (wr := [(xq, .inr (0, [.ref xp, .int (bI xs)])), (xp, .inl (cI, 130, .inl (nf xd)))]) (ws' := fun _ => [(tq, .inr (0, [.ref tp, .int (bI ts)])), (tp, .inl (cI, 130, .inl (nf td))), (xq, .inr (0, [.ref xp, .int (bI xs)])), (xp, .inl (cI, 130, .inl (nf xd)))]) (st' := fun _ => [.int (nI (td j))]) [0, 1] [2, 3] [2, 3, 0, 1] [] rfl mt_144 mt_141 mt_2 mt_142 mt_143 0 rfl rfl hdR_digitAt (by decide) ⟨rfl, rfl⟩ (by decide) rfl rfl (by decide) rfl (by decide) (by decide) (by decide) (fun u => rfl) (fun u => rfl) (fun u => rfl) rfl rfl (by simp [Value.category]) dR_orderOfSizes_22 (fun _ _ => ?_)
          refine xg_aload_n hX 1 dR_orderOfSizes_25 rfl rfl ?_
          refine xg_iload_n hX 2 dR_orderOfSizes_26 rfl rfl ?_
          refine xg_cV hX xq [.int (nI j)] (hM := xc_digitAt l D cI xq xp xd xs j (by omega)) (wr := [(tq, .inr (0, [.ref tp, .int (bI ts)])), (tp, .inl (cI, 130, .inl (nf td)))]) (ws' := fun _ => [(tq, .inr (0, [.ref tp, .int (bI ts)])), (tp, .inl (cI, 130, .inl (nf td))), (xq, .inr (0, [.ref xp, .int (bI xs)])), (xp, .inl (cI, 130, .inl (nf xd)))]) (st' := fun _ => [.int (nI (xd j)), .int (nI (td j))]) [2, 3] [0, 1] [0, 1, 2, 3] [.int (nI (td j))] rfl mt_144 mt_141 mt_2 mt_142 mt_143 0 rfl rfl hdR_digitAt (by decide) ⟨rfl, rfl⟩ (by decide) rfl rfl (by decide) rfl (by decide) (by decide) (by decide) (fun u => rfl) (fun u => rfl) (fun u => rfl) rfl rfl (by simp [Value.category]) dR_orderOfSizes_27 (fun _ _ => ?_)
          refine xg_icmp_geN hX 37 (by omega) (by omega) dR_orderOfSizes_30 (by decide) (fun h30 => ?_) (fun h30 => ?_)
          ·
            refine xg_iconst hX (nI 1) dR_orderOfSizes_37 (by decide) ?_
            refine xg_top (cmpZ td xd 32) ((hq.trans (by show (if td j = xd j then _ else _) = _; rw [if_neg h17]; first | (rw [if_pos h30]; done) | (rw [if_neg (by omega)]; done) | (rw [if_neg (by omega)] <;> rfl))).symm) ?_
            exact hret () _ _ _ rfl trivial dR_orderOfSizes_38
          ·
            refine xg_iconst hX ((-1)) dR_orderOfSizes_33 (by decide) ?_
            refine xg_goto hX 38 dR_orderOfSizes_34 (by decide) ?_
            refine xg_top (cmpZ td xd 32) ((hq.trans (by show (if td j = xd j then _ else _) = _; rw [if_neg h17]; first | (rw [if_pos h30]; done) | (rw [if_neg (by omega)]; done) | (rw [if_neg (by omega)] <;> rfl))).symm) ?_
            exact hret () _ _ _ rfl trivial dR_orderOfSizes_38
  refine xg_lv hX (lv' := [(0, .ref tq), (1, .ref xq), (2, .int (nI 31))]) [1, 2, 0] rfl ?_
  refine xg_lvE (lv' := [(0, .ref tq), (1, .ref xq), (2, .int (nI 32 - 1))]) (by rw [← (show (nI 31 : Int32) = nI 32 - 1 from (by first | rfl | decide))]) ?_
  exact lp1 (32 + 1) 32 (by omega) rfl (Nat.lt_succ_self _)
set_option maxHeartbeats 4000000 in
set_option maxRecDepth 100000 in
theorem xc_orderS (l : Launch) (D : va_G) (cI : ClassId) (tq : Nat) (tp : Nat) (td : Nat → Nat) (ts : Bool) (xq : Nat) (xp : Nat) (xd : Nat → Nat) (xs : Bool) (htd : ∀ j, td j < 10) (hxd : ∀ j, xd j < 10) : Ctr l D cI yR_orderSigned cR_orderSigned 3 (some .int) { frames := 2, cells := 0, slots := 0, locals := 43 } [.ref tq, .ref xq] [(tq, .inr (0, [.ref tp, .int (bI ts)])), (tp, .inl (cI, 130, .inl (nf td))), (xq, .inr (0, [.ref xp, .int (bI xs)])), (xp, .inl (cI, 130, .inl (nf xd)))] (fun _ : Unit => some (.int (ordS td ts xd xs))) (fun _ : Unit => True) (fun _ : Unit => [(tq, .inr (0, [.ref tp, .int (bI ts)])), (tp, .inl (cI, 130, .inl (nf td))), (xq, .inr (0, [.ref xp, .int (bI xs)])), (xp, .inl (cI, 130, .inl (nf xd)))]) 0 0 := by
  refine xc_mkI (by decide +kernel) (Nat.le_of_ble_eq_true rfl) (fun X hX hret => ?_)
  show GG D X 0 0 0 [(tq, .inr (0, [.ref tp, .int (bI ts)])), (tp, .inl (cI, 130, .inl (nf td))), (xq, .inr (0, [.ref xp, .int (bI xs)])), (xp, .inl (cI, 130, .inl (nf xd)))] [(0, .ref tq), (1, .ref xq)] []
  refine xg_aload_n hX 0 dR_orderSigned_0 rfl rfl ?_
  refine xg_get hX (ci := 0) rfl hinR 0 rfl 1 (by decide) mt_22 rfl dR_orderSigned_1 ?_
  refine xg_aload_n hX 1 dR_orderSigned_4 rfl rfl ?_
  refine xg_get hX (ci := 0) rfl hinR 2 rfl 1 (by decide) mt_22 rfl dR_orderSigned_5 ?_
  refine xg_icmp_eqB hX 24 dR_orderSigned_8 (by decide) (fun h8 => ?_) (fun h8 => ?_)
  ·
    refine xg_aload_n hX 0 dR_orderSigned_24 rfl rfl ?_
    refine xg_aload_n hX 1 dR_orderSigned_25 rfl rfl ?_
    refine xg_cV hX tq [.ref xq] (hM := xc_order l D cI tq tp td ts xq xp xd xs htd hxd) (wr := []) (ws' := fun _ => [(tq, .inr (0, [.ref tp, .int (bI ts)])), (tp, .inl (cI, 130, .inl (nf td))), (xq, .inr (0, [.ref xp, .int (bI xs)])), (xp, .inl (cI, 130, .inl (nf xd)))]) (st' := fun _ => [.int (cmpZ td xd 32)]) [0, 1, 2, 3] [] [0, 1, 2, 3] [] rfl mt_158 mt_155 mt_2 mt_156 mt_157 0 rfl rfl hdR_orderOfSizes (by decide) ⟨rfl, rfl⟩ (by decide) rfl rfl (by decide) rfl (by decide) (by decide) (by decide) (fun u => rfl) (fun u => rfl) (fun u => rfl) rfl rfl (by simp [Value.category]) dR_orderSigned_26 (fun _ _ => ?_)
    refine xg_istore_n hX (lv' := [(2, .int (cmpZ td xd 32)), (0, .ref tq), (1, .ref xq)]) dR_orderSigned_29 rfl (by decide) rfl ?_
    refine xg_aload_n hX 1 dR_orderSigned_30 rfl rfl ?_
    refine xg_get hX (ci := 0) rfl hinR 0 rfl 1 (by decide) mt_22 rfl dR_orderSigned_31 ?_
    refine xg_if_eqB hX 42 dR_orderSigned_34 (by decide) (fun h34 => ?_) (fun h34 => ?_)
    ·
      refine xg_iload_n hX 0 dR_orderSigned_42 rfl rfl ?_
      refine xg_top (ordS td ts xd xs) (by unfold ordS; rw [if_pos h8, h34] <;> rfl) ?_
      exact hret () _ _ _ rfl trivial dR_orderSigned_43
    ·
      refine xg_iload_n hX 0 dR_orderSigned_37 rfl rfl ?_
      refine xg_ineg hX dR_orderSigned_38 ?_
      refine xg_goto hX 43 dR_orderSigned_39 (by decide) ?_
      refine xg_top (ordS td ts xd xs) (by unfold ordS; rw [if_pos h8, h34] <;> rfl) ?_
      exact hret () _ _ _ rfl trivial dR_orderSigned_43
  ·
    refine xg_aload_n hX 0 dR_orderSigned_11 rfl rfl ?_
    refine xg_get hX (ci := 0) rfl hinR 0 rfl 1 (by decide) mt_22 rfl dR_orderSigned_12 ?_
    refine xg_if_eqB hX 22 dR_orderSigned_15 (by decide) (fun h15 => ?_) (fun h15 => ?_)
    ·
      refine xg_iconst hX (nI 1) dR_orderSigned_22 (by decide) ?_
      refine xg_top (ordS td ts xd xs) (by unfold ordS; rw [if_neg h8, h15] <;> rfl) ?_
      exact hret () _ _ _ rfl trivial dR_orderSigned_23
    ·
      refine xg_iconst hX ((-1)) dR_orderSigned_18 (by decide) ?_
      refine xg_goto hX 23 dR_orderSigned_19 (by decide) ?_
      refine xg_top (ordS td ts xd xs) (by unfold ordS; rw [if_neg h8, h15] <;> rfl) ?_
      exact hret () _ _ _ rfl trivial dR_orderSigned_23
set_option maxHeartbeats 4000000 in
set_option maxRecDepth 100000 in
theorem xc_addSizes (l : Launch) (D : va_G) (cI : ClassId) (tq : Nat) (tp : Nat) (td : Nat → Nat) (ts : Bool) (xq : Nat) (xp : Nat) (xd : Nat → Nat) (xs : Bool) (yq : Nat) (yp : Nat) (yd : Nat → Nat) (ys : Bool) (hxd : ∀ j, xd j < 10) (hyd : ∀ j, yd j < 10) : Ctr l D cI yR_addSizes cR_addSizes 6 none { frames := 1, cells := 0, slots := 0, locals := 22 } [.ref tq, .ref xq, .ref yq] [(tq, .inr (0, [.ref tp, .int (bI ts)])), (tp, .inl (cI, 130, .inl (nf td))), (xq, .inr (0, [.ref xp, .int (bI xs)])), (xp, .inl (cI, 130, .inl (nf xd))), (yq, .inr (0, [.ref yp, .int (bI ys)])), (yp, .inl (cI, 130, .inl (nf yd)))] (fun _ : Unit => none) (fun _ : Unit => True) (fun _ : Unit => [(tq, .inr (0, [.ref tp, .int (bI ts)])), (tp, .inl (cI, 130, .inl (nf (mix 32 (adD xd yd) td)))), (xq, .inr (0, [.ref xp, .int (bI xs)])), (xp, .inl (cI, 130, .inl (nf xd))), (yq, .inr (0, [.ref yp, .int (bI ys)])), (yp, .inl (cI, 130, .inl (nf yd)))]) 0 0 := by
  refine xc_mkV (by decide +kernel) (Nat.le_of_ble_eq_true rfl) (fun X hX hin hret => ?_)
  show GG D X 0 0 0 [(tq, .inr (0, [.ref tp, .int (bI ts)])), (tp, .inl (cI, 130, .inl (nf td))), (xq, .inr (0, [.ref xp, .int (bI xs)])), (xp, .inl (cI, 130, .inl (nf xd))), (yq, .inr (0, [.ref yp, .int (bI ys)])), (yp, .inl (cI, 130, .inl (nf yd)))] [(0, .ref tq), (1, .ref xq), (2, .ref yq)] []
  refine xg_iconst hX (nI 0) dR_addSizes_0 (by decide) ?_
  refine xg_istore_n hX (lv' := [(3, .int (nI 0)), (0, .ref tq), (1, .ref xq), (2, .ref yq)]) dR_addSizes_1 rfl (by decide) rfl ?_
  refine xg_iconst hX (nI 0) dR_addSizes_2 (by decide) ?_
  refine xg_istore hX (lv' := [(4, .int (nI 0)), (3, .int (nI 0)), (0, .ref tq), (1, .ref xq), (2, .ref yq)]) dR_addSizes_3 (by decide) rfl ?_
  have lp1 : ∀ (fu2 : Nat) (i : Nat), (i ≤ 32) → 32 - i < fu2 → GG D X 0 0 5 [(tq, .inr (0, [.ref tp, .int (bI ts)])), (tp, .inl (cI, 130, .inl (nf (mix i (adD xd yd) td)))), (xq, .inr (0, [.ref xp, .int (bI xs)])), (xp, .inl (cI, 130, .inl (nf xd))), (yq, .inr (0, [.ref yp, .int (bI ys)])), (yp, .inl (cI, 130, .inl (nf yd)))] [(0, .ref tq), (1, .ref xq), (2, .ref yq), (3, .int (nI (adC xd yd i))), (4, .int (nI i))] [] := by
    intro fu2
    induction fu2 with
    | zero => intro i hi hm4; exact absurd hm4 (Nat.not_lt_zero _)
    | succ fu2 ih3 =>
      intro i hi hm4
      have e1 := hxd i
      have e2 := hyd i
      have e3 := adC_le hxd hyd i
      refine xg_iload hX 4 dR_addSizes_5 rfl ?_
      refine xg_bipush hX (nI 32) dR_addSizes_7 (by decide) ?_
      refine xg_icmp_geN hX 52 (by omega) (by omega) dR_addSizes_9 (by decide) (fun hh_5 => ?_) (fun hh_5 => ?_)
      ·
        have hie : i = 32 := by omega
        refine xg_ext hX (g := mix 32 (adD xd yd) td) (ws' := [(tq, .inr (0, [.ref tp, .int (bI ts)])), (tp, .inl (cI, 130, .inl (nf (mix 32 (adD xd yd) td)))), (xq, .inr (0, [.ref xp, .int (bI xs)])), (xp, .inl (cI, 130, .inl (nf xd))), (yq, .inr (0, [.ref yp, .int (bI ys)])), (yp, .inl (cI, 130, .inl (nf yd)))]) 1 rfl (fun j hj => by first | rfl | (rw [hie]; done) | (rw [hie]; rfl)) rfl ?_
        exact hret () _ _ rfl trivial dR_addSizes_52
      ·
        refine xg_aload_n hX 1 dR_addSizes_12 rfl rfl ?_
        refine xg_iload hX 4 dR_addSizes_13 rfl ?_
        refine xg_cV hX xq [.int (nI i)] (hM := xc_digitAt l D cI xq xp xd xs i (by omega)) (wr := [(tq, .inr (0, [.ref tp, .int (bI ts)])), (tp, .inl (cI, 130, .inl (nf (mix i (adD xd yd) td)))), (yq, .inr (0, [.ref yp, .int (bI ys)])), (yp, .inl (cI, 130, .inl (nf yd)))]) (ws' := fun _ => [(tq, .inr (0, [.ref tp, .int (bI ts)])), (tp, .inl (cI, 130, .inl (nf (mix i (adD xd yd) td)))), (xq, .inr (0, [.ref xp, .int (bI xs)])), (xp, .inl (cI, 130, .inl (nf xd))), (yq, .inr (0, [.ref yp, .int (bI ys)])), (yp, .inl (cI, 130, .inl (nf yd)))]) (st' := fun _ => [.int (nI (xd i))]) [2, 3] [0, 1, 4, 5] [0, 1, 4, 5, 2, 3] [] rfl mt_144 mt_141 mt_2 mt_142 mt_143 0 rfl rfl hdR_digitAt (by decide) ⟨rfl, rfl⟩ (by decide) rfl rfl (by decide) rfl (by decide) (by decide) (by decide) (fun u => rfl) (fun u => rfl) (fun u => rfl) rfl rfl (by simp [Value.category]) dR_addSizes_15 (fun _ _ => ?_)
        refine xg_aload_n hX 2 dR_addSizes_18 rfl rfl ?_
        refine xg_iload hX 4 dR_addSizes_19 rfl ?_
        refine xg_cV hX yq [.int (nI i)] (hM := xc_digitAt l D cI yq yp yd ys i (by omega)) (wr := [(tq, .inr (0, [.ref tp, .int (bI ts)])), (tp, .inl (cI, 130, .inl (nf (mix i (adD xd yd) td)))), (xq, .inr (0, [.ref xp, .int (bI xs)])), (xp, .inl (cI, 130, .inl (nf xd)))]) (ws' := fun _ => [(tq, .inr (0, [.ref tp, .int (bI ts)])), (tp, .inl (cI, 130, .inl (nf (mix i (adD xd yd) td)))), (xq, .inr (0, [.ref xp, .int (bI xs)])), (xp, .inl (cI, 130, .inl (nf xd))), (yq, .inr (0, [.ref yp, .int (bI ys)])), (yp, .inl (cI, 130, .inl (nf yd)))]) (st' := fun _ => [.int (nI (yd i)), .int (nI (xd i))]) [4, 5] [0, 1, 2, 3] [0, 1, 2, 3, 4, 5] [.int (nI (xd i))] rfl mt_144 mt_141 mt_2 mt_142 mt_143 0 rfl rfl hdR_digitAt (by decide) ⟨rfl, rfl⟩ (by decide) rfl rfl (by decide) rfl (by decide) (by decide) (by decide) (fun u => rfl) (fun u => rfl) (fun u => rfl) rfl rfl (by simp [Value.category]) dR_addSizes_21 (fun _ _ => ?_)
        refine xg_iaddN hX dR_addSizes_24 ?_
        refine xg_iload_n hX 3 dR_addSizes_25 rfl rfl ?_
        refine xg_iaddN hX dR_addSizes_26 ?_
        refine xg_istore hX (lv' := [(5, .int (nI (((xd i) + (yd i)) + (adC xd yd i)))), (0, .ref tq), (1, .ref xq), (2, .ref yq), (3, .int (nI (adC xd yd i))), (4, .int (nI i))]) dR_addSizes_27 (by decide) rfl ?_
        refine xg_iload hX 0 dR_addSizes_29 rfl ?_
        refine xg_bipush hX (nI 10) dR_addSizes_31 (by decide) ?_
        refine xg_idivN hX (by omega) (by omega) (by omega) dR_addSizes_33 ?_
        refine xg_istore_n hX (lv' := [(3, .int (nI ((((xd i) + (yd i)) + (adC xd yd i)) / 10))), (5, .int (nI (((xd i) + (yd i)) + (adC xd yd i)))), (0, .ref tq), (1, .ref xq), (2, .ref yq), (4, .int (nI i))]) dR_addSizes_34 rfl (by decide) rfl ?_
        refine xg_aload_n hX 2 dR_addSizes_35 rfl rfl ?_
        refine xg_iload hX 5 dR_addSizes_36 rfl ?_
        refine xg_iload hX 1 dR_addSizes_38 rfl ?_
        refine xg_bipush hX (nI 10) dR_addSizes_40 (by decide) ?_
        refine xg_iremN hX (by omega) (by omega) (by omega) dR_addSizes_42 ?_
        refine xg_cV hX tq [.int (nI i), .int (nI ((((xd i) + (yd i)) + (adC xd yd i)) % 10))] (hM := xc_setDigit l D cI tq tp (mix i (adD xd yd) td) ts i ((((xd i) + (yd i)) + (adC xd yd i)) % 10) (by omega)) (wr := [(xq, .inr (0, [.ref xp, .int (bI xs)])), (xp, .inl (cI, 130, .inl (nf xd))), (yq, .inr (0, [.ref yp, .int (bI ys)])), (yp, .inl (cI, 130, .inl (nf yd)))]) (ws' := fun _ => [(tq, .inr (0, [.ref tp, .int (bI ts)])), (tp, .inl (cI, 130, .inl (nf (up (mix i (adD xd yd) td) i ((((xd i) + (yd i)) + (adC xd yd i)) % 10))))), (xq, .inr (0, [.ref xp, .int (bI xs)])), (xp, .inl (cI, 130, .inl (nf xd))), (yq, .inr (0, [.ref yp, .int (bI ys)])), (yp, .inl (cI, 130, .inl (nf yd)))]) (st' := fun _ => []) [0, 1] [2, 3, 4, 5] [4, 5, 0, 1, 2, 3] [] rfl mt_128 mt_154 mt_2 mt_126 mt_127 0 rfl rfl hdR_setDigit (by decide) ⟨rfl, rfl⟩ (by decide) rfl rfl (by decide) rfl (by decide) (by decide) (by decide) (fun u => rfl) (fun u => rfl) (fun u => rfl) rfl rfl (by simp [Value.category]) dR_addSizes_43 (fun _ _ => ?_)
        refine xg_iincN hX (lv' := [(4, .int (nI (i + 1))), (3, .int (nI ((((xd i) + (yd i)) + (adC xd yd i)) / 10))), (5, .int (nI (((xd i) + (yd i)) + (adC xd yd i)))), (0, .ref tq), (1, .ref xq), (2, .ref yq)]) (i + 1) 5 dR_addSizes_46 rfl (xn_inc _) (by decide) rfl ?_
        refine xg_goto hX 5 dR_addSizes_49 (by decide) ?_
        refine xg_ext hX (g := mix (i + 1) (adD xd yd) td) (ws' := [(tq, .inr (0, [.ref tp, .int (bI ts)])), (tp, .inl (cI, 130, .inl (nf (mix (i + 1) (adD xd yd) td)))), (xq, .inr (0, [.ref xp, .int (bI xs)])), (xp, .inl (cI, 130, .inl (nf xd))), (yq, .inr (0, [.ref yp, .int (bI ys)])), (yp, .inl (cI, 130, .inl (nf yd)))]) 1 rfl (fun j hj => mix_up rfl j) rfl ?_
        refine xg_lv hX (lv' := [(0, .ref tq), (1, .ref xq), (2, .ref yq), (3, .int (nI ((((xd i) + (yd i)) + (adC xd yd i)) / 10))), (4, .int (nI (i + 1)))]) [3, 4, 5, 1, 0] rfl ?_
        refine xg_lvE (lv' := [(0, .ref tq), (1, .ref xq), (2, .ref yq), (3, .int (nI (adC xd yd (i + 1)))), (4, .int (nI (i + 1)))]) (by rw [← (show (nI ((((xd i) + (yd i)) + (adC xd yd i)) / 10) : Int32) = nI (adC xd yd (i + 1)) from (by first | rfl | decide))]) ?_
        exact ih3 (i + 1) (by omega) (by omega)
  refine xg_ext hX (g := mix 0 (adD xd yd) td) (ws' := [(tq, .inr (0, [.ref tp, .int (bI ts)])), (tp, .inl (cI, 130, .inl (nf (mix 0 (adD xd yd) td)))), (xq, .inr (0, [.ref xp, .int (bI xs)])), (xp, .inl (cI, 130, .inl (nf xd))), (yq, .inr (0, [.ref yp, .int (bI ys)])), (yp, .inl (cI, 130, .inl (nf yd)))]) 1 rfl (fun j hj => mix_0 j) rfl ?_
  refine xg_lv hX (lv' := [(0, .ref tq), (1, .ref xq), (2, .ref yq), (3, .int (nI 0)), (4, .int (nI 0))]) [2, 3, 4, 1, 0] rfl ?_
  refine xg_lvE (lv' := [(0, .ref tq), (1, .ref xq), (2, .ref yq), (3, .int (nI (adC xd yd 0))), (4, .int (nI 0))]) (by rw [← (show (nI 0 : Int32) = nI (adC xd yd 0) from (by first | rfl | decide))]) ?_
  exact lp1 (32 - 0 + 1) 0 (by omega) (Nat.lt_succ_self _)
set_option maxHeartbeats 4000000 in
set_option maxRecDepth 100000 in
theorem xc_sub (l : Launch) (D : va_G) (cI : ClassId) (tq : Nat) (tp : Nat) (td : Nat → Nat) (ts : Bool) (xq : Nat) (xp : Nat) (xd : Nat → Nat) (xs : Bool) (yq : Nat) (yp : Nat) (yd : Nat → Nat) (ys : Bool) (hxd : ∀ j, xd j < 10) (hyd : ∀ j, yd j < 10) : Ctr l D cI yR_subtractSizes cR_subtractSizes 6 none { frames := 1, cells := 0, slots := 0, locals := 22 } [.ref tq, .ref xq, .ref yq] [(tq, .inr (0, [.ref tp, .int (bI ts)])), (tp, .inl (cI, 130, .inl (nf td))), (xq, .inr (0, [.ref xp, .int (bI xs)])), (xp, .inl (cI, 130, .inl (nf xd))), (yq, .inr (0, [.ref yp, .int (bI ys)])), (yp, .inl (cI, 130, .inl (nf yd)))] (fun _ : Unit => none) (fun _ : Unit => True) (fun _ : Unit => [(tq, .inr (0, [.ref tp, .int (bI ts)])), (tp, .inl (cI, 130, .inl (nf (mix 32 (suD xd yd) td)))), (xq, .inr (0, [.ref xp, .int (bI xs)])), (xp, .inl (cI, 130, .inl (nf xd))), (yq, .inr (0, [.ref yp, .int (bI ys)])), (yp, .inl (cI, 130, .inl (nf yd)))]) 0 0 := by
  refine xc_mkV (by decide +kernel) (Nat.le_of_ble_eq_true rfl) (fun X hX hin hret => ?_)
  show GG D X 0 0 0 [(tq, .inr (0, [.ref tp, .int (bI ts)])), (tp, .inl (cI, 130, .inl (nf td))), (xq, .inr (0, [.ref xp, .int (bI xs)])), (xp, .inl (cI, 130, .inl (nf xd))), (yq, .inr (0, [.ref yp, .int (bI ys)])), (yp, .inl (cI, 130, .inl (nf yd)))] [(0, .ref tq), (1, .ref xq), (2, .ref yq)] []
  refine xg_iconst hX (nI 0) dR_subtractSizes_0 (by decide) ?_
  refine xg_istore_n hX (lv' := [(3, .int (nI 0)), (0, .ref tq), (1, .ref xq), (2, .ref yq)]) dR_subtractSizes_1 rfl (by decide) rfl ?_
  refine xg_iconst hX (nI 0) dR_subtractSizes_2 (by decide) ?_
  refine xg_istore hX (lv' := [(4, .int (nI 0)), (3, .int (nI 0)), (0, .ref tq), (1, .ref xq), (2, .ref yq)]) dR_subtractSizes_3 (by decide) rfl ?_
  have lp1 : ∀ (fu2 : Nat) (i : Nat), (i ≤ 32) → 32 - i < fu2 → GG D X 0 0 5 [(tq, .inr (0, [.ref tp, .int (bI ts)])), (tp, .inl (cI, 130, .inl (nf (mix i (suD xd yd) td)))), (xq, .inr (0, [.ref xp, .int (bI xs)])), (xp, .inl (cI, 130, .inl (nf xd))), (yq, .inr (0, [.ref yp, .int (bI ys)])), (yp, .inl (cI, 130, .inl (nf yd)))] [(0, .ref tq), (1, .ref xq), (2, .ref yq), (3, .int (nI (suB xd yd i))), (4, .int (nI i))] [] := by
    intro fu2
    induction fu2 with
    | zero => intro i hi hm4; exact absurd hm4 (Nat.not_lt_zero _)
    | succ fu2 ih3 =>
      intro i hi hm4
      have e1 := hxd i
      have e2 := hyd i
      have e3 := suB_le xd yd i
      have e4 : (nI (xd i) - nI (yd i) - nI (suB xd yd i)).toInt = (xd i : Int) - (yd i : Int) - (suB xd yd i : Int) := xn_s3 (by omega) (by omega) (by omega)
      refine xg_iload hX 4 dR_subtractSizes_5 rfl ?_
      refine xg_bipush hX (nI 32) dR_subtractSizes_7 (by decide) ?_
      refine xg_icmp_geN hX 59 (by omega) (by omega) dR_subtractSizes_9 (by decide) (fun hh_5 => ?_) (fun hh_5 => ?_)
      ·
        have hie : i = 32 := by omega
        refine xg_ext hX (g := mix 32 (suD xd yd) td) (ws' := [(tq, .inr (0, [.ref tp, .int (bI ts)])), (tp, .inl (cI, 130, .inl (nf (mix 32 (suD xd yd) td)))), (xq, .inr (0, [.ref xp, .int (bI xs)])), (xp, .inl (cI, 130, .inl (nf xd))), (yq, .inr (0, [.ref yp, .int (bI ys)])), (yp, .inl (cI, 130, .inl (nf yd)))]) 1 rfl (fun j hj => by first | rfl | (rw [hie]; done) | (rw [hie]; rfl)) rfl ?_
        exact hret () _ _ rfl trivial dR_subtractSizes_59
      ·
        refine xg_aload_n hX 1 dR_subtractSizes_12 rfl rfl ?_
        refine xg_iload hX 4 dR_subtractSizes_13 rfl ?_
        refine xg_cV hX xq [.int (nI i)] (hM := xc_digitAt l D cI xq xp xd xs i (by omega)) (wr := [(tq, .inr (0, [.ref tp, .int (bI ts)])), (tp, .inl (cI, 130, .inl (nf (mix i (suD xd yd) td)))), (yq, .inr (0, [.ref yp, .int (bI ys)])), (yp, .inl (cI, 130, .inl (nf yd)))]) (ws' := fun _ => [(tq, .inr (0, [.ref tp, .int (bI ts)])), (tp, .inl (cI, 130, .inl (nf (mix i (suD xd yd) td)))), (xq, .inr (0, [.ref xp, .int (bI xs)])), (xp, .inl (cI, 130, .inl (nf xd))), (yq, .inr (0, [.ref yp, .int (bI ys)])), (yp, .inl (cI, 130, .inl (nf yd)))]) (st' := fun _ => [.int (nI (xd i))]) [2, 3] [0, 1, 4, 5] [0, 1, 4, 5, 2, 3] [] rfl mt_144 mt_141 mt_2 mt_142 mt_143 0 rfl rfl hdR_digitAt (by decide) ⟨rfl, rfl⟩ (by decide) rfl rfl (by decide) rfl (by decide) (by decide) (by decide) (fun u => rfl) (fun u => rfl) (fun u => rfl) rfl rfl (by simp [Value.category]) dR_subtractSizes_15 (fun _ _ => ?_)
        refine xg_aload_n hX 2 dR_subtractSizes_18 rfl rfl ?_
        refine xg_iload hX 4 dR_subtractSizes_19 rfl ?_
        refine xg_cV hX yq [.int (nI i)] (hM := xc_digitAt l D cI yq yp yd ys i (by omega)) (wr := [(tq, .inr (0, [.ref tp, .int (bI ts)])), (tp, .inl (cI, 130, .inl (nf (mix i (suD xd yd) td)))), (xq, .inr (0, [.ref xp, .int (bI xs)])), (xp, .inl (cI, 130, .inl (nf xd)))]) (ws' := fun _ => [(tq, .inr (0, [.ref tp, .int (bI ts)])), (tp, .inl (cI, 130, .inl (nf (mix i (suD xd yd) td)))), (xq, .inr (0, [.ref xp, .int (bI xs)])), (xp, .inl (cI, 130, .inl (nf xd))), (yq, .inr (0, [.ref yp, .int (bI ys)])), (yp, .inl (cI, 130, .inl (nf yd)))]) (st' := fun _ => [.int (nI (yd i)), .int (nI (xd i))]) [4, 5] [0, 1, 2, 3] [0, 1, 2, 3, 4, 5] [.int (nI (xd i))] rfl mt_144 mt_141 mt_2 mt_142 mt_143 0 rfl rfl hdR_digitAt (by decide) ⟨rfl, rfl⟩ (by decide) rfl rfl (by decide) rfl (by decide) (by decide) (by decide) (fun u => rfl) (fun u => rfl) (fun u => rfl) rfl rfl (by simp [Value.category]) dR_subtractSizes_21 (fun _ _ => ?_)
        refine xg_isub hX dR_subtractSizes_24 ?_
        refine xg_iload_n hX 3 dR_subtractSizes_25 rfl rfl ?_
        refine xg_isub hX dR_subtractSizes_26 ?_
        refine xg_istore hX (lv' := [(5, .int (((nI (xd i)) - (nI (yd i))) - (nI (suB xd yd i)))), (0, .ref tq), (1, .ref xq), (2, .ref yq), (3, .int (nI (suB xd yd i))), (4, .int (nI i))]) dR_subtractSizes_27 (by decide) rfl ?_
        refine xg_iload hX 0 dR_subtractSizes_29 rfl ?_
        refine xg_if_geZ hX ((((nI (xd i)) - (nI (yd i))) - (nI (suB xd yd i))).toInt) rfl 38 dR_subtractSizes_31 (by decide) (fun h31 => ?_) (fun h31 => ?_)
        ·
          rw [e4] at h31
          have e5 : suB xd yd (i + 1) = 0 := if_neg (by omega)
          refine xg_iconst hX (nI 0) dR_subtractSizes_38 (by decide) ?_
          refine xg_istore_n hX (lv' := [(3, .int (nI 0)), (5, .int (((nI (xd i)) - (nI (yd i))) - (nI (suB xd yd i)))), (0, .ref tq), (1, .ref xq), (2, .ref yq), (4, .int (nI i))]) dR_subtractSizes_39 rfl (by decide) rfl ?_
          refine xg_aload_n hX 2 dR_subtractSizes_40 rfl rfl ?_
          refine xg_iload hX 5 dR_subtractSizes_41 rfl ?_
          refine xg_iload hX 1 dR_subtractSizes_43 rfl ?_
          refine xg_bipush hX (nI 10) dR_subtractSizes_45 (by decide) ?_
          refine xg_iload_n hX 0 dR_subtractSizes_47 rfl rfl ?_
          refine xg_imulN hX dR_subtractSizes_48 ?_
          refine xg_iadd hX dR_subtractSizes_49 ?_
          refine xg_top (nI (suD xd yd i)) (by unfold suD; rw [e5]; exact xn_s4 (by omega)) ?_
          refine xg_cV hX tq [.int (nI i), .int (nI (suD xd yd i))] (hM := xc_setDigit l D cI tq tp (mix i (suD xd yd) td) ts i (suD xd yd i) (by omega)) (wr := [(xq, .inr (0, [.ref xp, .int (bI xs)])), (xp, .inl (cI, 130, .inl (nf xd))), (yq, .inr (0, [.ref yp, .int (bI ys)])), (yp, .inl (cI, 130, .inl (nf yd)))]) (ws' := fun _ => [(tq, .inr (0, [.ref tp, .int (bI ts)])), (tp, .inl (cI, 130, .inl (nf (up (mix i (suD xd yd) td) i (suD xd yd i))))), (xq, .inr (0, [.ref xp, .int (bI xs)])), (xp, .inl (cI, 130, .inl (nf xd))), (yq, .inr (0, [.ref yp, .int (bI ys)])), (yp, .inl (cI, 130, .inl (nf yd)))]) (st' := fun _ => []) [0, 1] [2, 3, 4, 5] [4, 5, 0, 1, 2, 3] [] rfl mt_128 mt_154 mt_2 mt_126 mt_127 0 rfl rfl hdR_setDigit (by decide) ⟨rfl, rfl⟩ (by decide) rfl rfl (by decide) rfl (by decide) (by decide) (by decide) (fun u => rfl) (fun u => rfl) (fun u => rfl) rfl rfl (by simp [Value.category]) dR_subtractSizes_50 (fun _ _ => ?_)
          refine xg_iincN hX (lv' := [(4, .int (nI (i + 1))), (3, .int (nI 0)), (5, .int (((nI (xd i)) - (nI (yd i))) - (nI (suB xd yd i)))), (0, .ref tq), (1, .ref xq), (2, .ref yq)]) (i + 1) 5 dR_subtractSizes_53 rfl (xn_inc _) (by decide) rfl ?_
          refine xg_goto hX 5 dR_subtractSizes_56 (by decide) ?_
          refine xg_ext hX (g := mix (i + 1) (suD xd yd) td) (ws' := [(tq, .inr (0, [.ref tp, .int (bI ts)])), (tp, .inl (cI, 130, .inl (nf (mix (i + 1) (suD xd yd) td)))), (xq, .inr (0, [.ref xp, .int (bI xs)])), (xp, .inl (cI, 130, .inl (nf xd))), (yq, .inr (0, [.ref yp, .int (bI ys)])), (yp, .inl (cI, 130, .inl (nf yd)))]) 1 rfl (fun j hj => mix_up rfl j) rfl ?_
          refine xg_lv hX (lv' := [(0, .ref tq), (1, .ref xq), (2, .ref yq), (3, .int (nI 0)), (4, .int (nI (i + 1)))]) [3, 4, 5, 1, 0] rfl ?_
          refine xg_lvE (lv' := [(0, .ref tq), (1, .ref xq), (2, .ref yq), (3, .int (nI (suB xd yd (i + 1)))), (4, .int (nI (i + 1)))]) (by rw [← (show (nI 0 : Int32) = nI (suB xd yd (i + 1)) from (by rw [e5]))]) ?_
          exact ih3 (i + 1) (by omega) (by omega)
        ·
          rw [e4] at h31
          have e5 : suB xd yd (i + 1) = 1 := if_pos (by omega)
          refine xg_iconst hX (nI 1) dR_subtractSizes_34 (by decide) ?_
          refine xg_goto hX 39 dR_subtractSizes_35 (by decide) ?_
          refine xg_istore_n hX (lv' := [(3, .int (nI 1)), (5, .int (((nI (xd i)) - (nI (yd i))) - (nI (suB xd yd i)))), (0, .ref tq), (1, .ref xq), (2, .ref yq), (4, .int (nI i))]) dR_subtractSizes_39 rfl (by decide) rfl ?_
          refine xg_aload_n hX 2 dR_subtractSizes_40 rfl rfl ?_
          refine xg_iload hX 5 dR_subtractSizes_41 rfl ?_
          refine xg_iload hX 1 dR_subtractSizes_43 rfl ?_
          refine xg_bipush hX (nI 10) dR_subtractSizes_45 (by decide) ?_
          refine xg_iload_n hX 0 dR_subtractSizes_47 rfl rfl ?_
          refine xg_imulN hX dR_subtractSizes_48 ?_
          refine xg_iadd hX dR_subtractSizes_49 ?_
          refine xg_top (nI (suD xd yd i)) (by unfold suD; rw [e5]; exact xn_s4 (by omega)) ?_
          refine xg_cV hX tq [.int (nI i), .int (nI (suD xd yd i))] (hM := xc_setDigit l D cI tq tp (mix i (suD xd yd) td) ts i (suD xd yd i) (by omega)) (wr := [(xq, .inr (0, [.ref xp, .int (bI xs)])), (xp, .inl (cI, 130, .inl (nf xd))), (yq, .inr (0, [.ref yp, .int (bI ys)])), (yp, .inl (cI, 130, .inl (nf yd)))]) (ws' := fun _ => [(tq, .inr (0, [.ref tp, .int (bI ts)])), (tp, .inl (cI, 130, .inl (nf (up (mix i (suD xd yd) td) i (suD xd yd i))))), (xq, .inr (0, [.ref xp, .int (bI xs)])), (xp, .inl (cI, 130, .inl (nf xd))), (yq, .inr (0, [.ref yp, .int (bI ys)])), (yp, .inl (cI, 130, .inl (nf yd)))]) (st' := fun _ => []) [0, 1] [2, 3, 4, 5] [4, 5, 0, 1, 2, 3] [] rfl mt_128 mt_154 mt_2 mt_126 mt_127 0 rfl rfl hdR_setDigit (by decide) ⟨rfl, rfl⟩ (by decide) rfl rfl (by decide) rfl (by decide) (by decide) (by decide) (fun u => rfl) (fun u => rfl) (fun u => rfl) rfl rfl (by simp [Value.category]) dR_subtractSizes_50 (fun _ _ => ?_)
          refine xg_iincN hX (lv' := [(4, .int (nI (i + 1))), (3, .int (nI 1)), (5, .int (((nI (xd i)) - (nI (yd i))) - (nI (suB xd yd i)))), (0, .ref tq), (1, .ref xq), (2, .ref yq)]) (i + 1) 5 dR_subtractSizes_53 rfl (xn_inc _) (by decide) rfl ?_
          refine xg_goto hX 5 dR_subtractSizes_56 (by decide) ?_
          refine xg_ext hX (g := mix (i + 1) (suD xd yd) td) (ws' := [(tq, .inr (0, [.ref tp, .int (bI ts)])), (tp, .inl (cI, 130, .inl (nf (mix (i + 1) (suD xd yd) td)))), (xq, .inr (0, [.ref xp, .int (bI xs)])), (xp, .inl (cI, 130, .inl (nf xd))), (yq, .inr (0, [.ref yp, .int (bI ys)])), (yp, .inl (cI, 130, .inl (nf yd)))]) 1 rfl (fun j hj => mix_up rfl j) rfl ?_
          refine xg_lv hX (lv' := [(0, .ref tq), (1, .ref xq), (2, .ref yq), (3, .int (nI 1)), (4, .int (nI (i + 1)))]) [3, 4, 5, 1, 0] rfl ?_
          refine xg_lvE (lv' := [(0, .ref tq), (1, .ref xq), (2, .ref yq), (3, .int (nI (suB xd yd (i + 1)))), (4, .int (nI (i + 1)))]) (by rw [← (show (nI 1 : Int32) = nI (suB xd yd (i + 1)) from (by rw [e5]))]) ?_
          exact ih3 (i + 1) (by omega) (by omega)
  refine xg_ext hX (g := mix 0 (suD xd yd) td) (ws' := [(tq, .inr (0, [.ref tp, .int (bI ts)])), (tp, .inl (cI, 130, .inl (nf (mix 0 (suD xd yd) td)))), (xq, .inr (0, [.ref xp, .int (bI xs)])), (xp, .inl (cI, 130, .inl (nf xd))), (yq, .inr (0, [.ref yp, .int (bI ys)])), (yp, .inl (cI, 130, .inl (nf yd)))]) 1 rfl (fun j hj => mix_0 j) rfl ?_
  refine xg_lv hX (lv' := [(0, .ref tq), (1, .ref xq), (2, .ref yq), (3, .int (nI 0)), (4, .int (nI 0))]) [2, 3, 4, 1, 0] rfl ?_
  refine xg_lvE (lv' := [(0, .ref tq), (1, .ref xq), (2, .ref yq), (3, .int (nI (suB xd yd 0))), (4, .int (nI 0))]) (by rw [← (show (nI 0 : Int32) = nI (suB xd yd 0) from (by first | rfl | decide))]) ?_
  exact lp1 (32 - 0 + 1) 0 (by omega) (Nat.lt_succ_self _)
set_option maxHeartbeats 4000000 in
set_option maxRecDepth 100000 in
theorem xc_subSelf (l : Launch) (D : va_G) (cI : ClassId) (tq : Nat) (tp : Nat) (td : Nat → Nat) (ts : Bool) (yq : Nat) (yp : Nat) (yd : Nat → Nat) (ys : Bool) (htd : ∀ j, td j < 10) (hyd : ∀ j, yd j < 10) : Ctr l D cI yR_subtractSizes cR_subtractSizes 6 none { frames := 1, cells := 0, slots := 0, locals := 22 } [.ref tq, .ref tq, .ref yq] [(tq, .inr (0, [.ref tp, .int (bI ts)])), (tp, .inl (cI, 130, .inl (nf td))), (yq, .inr (0, [.ref yp, .int (bI ys)])), (yp, .inl (cI, 130, .inl (nf yd)))] (fun _ : Unit => none) (fun _ : Unit => True) (fun _ : Unit => [(tq, .inr (0, [.ref tp, .int (bI ts)])), (tp, .inl (cI, 130, .inl (nf (sbW 32 td yd)))), (yq, .inr (0, [.ref yp, .int (bI ys)])), (yp, .inl (cI, 130, .inl (nf yd)))]) 0 0 := by
  refine xc_mkV (by decide +kernel) (Nat.le_of_ble_eq_true rfl) (fun X hX hin hret => ?_)
  show GG D X 0 0 0 [(tq, .inr (0, [.ref tp, .int (bI ts)])), (tp, .inl (cI, 130, .inl (nf td))), (yq, .inr (0, [.ref yp, .int (bI ys)])), (yp, .inl (cI, 130, .inl (nf yd)))] [(0, .ref tq), (1, .ref tq), (2, .ref yq)] []
  refine xg_iconst hX (nI 0) dR_subtractSizes_0 (by decide) ?_
  refine xg_istore_n hX (lv' := [(3, .int (nI 0)), (0, .ref tq), (1, .ref tq), (2, .ref yq)]) dR_subtractSizes_1 rfl (by decide) rfl ?_
  refine xg_iconst hX (nI 0) dR_subtractSizes_2 (by decide) ?_
  refine xg_istore hX (lv' := [(4, .int (nI 0)), (3, .int (nI 0)), (0, .ref tq), (1, .ref tq), (2, .ref yq)]) dR_subtractSizes_3 (by decide) rfl ?_
  have lp1 : ∀ (fu2 : Nat) (i : Nat), (i ≤ 32) → 32 - i < fu2 → GG D X 0 0 5 [(tq, .inr (0, [.ref tp, .int (bI ts)])), (tp, .inl (cI, 130, .inl (nf (mix i (suD td yd) td)))), (yq, .inr (0, [.ref yp, .int (bI ys)])), (yp, .inl (cI, 130, .inl (nf yd)))] [(0, .ref tq), (1, .ref tq), (2, .ref yq), (3, .int (nI (suB td yd i))), (4, .int (nI i))] [] := by
    intro fu2
    induction fu2 with
    | zero => intro i hi hm4; exact absurd hm4 (Nat.not_lt_zero _)
    | succ fu2 ih3 =>
      intro i hi hm4
      have e1 := htd i
      have e2 := hyd i
      have e3 := suB_le td yd i
      have e4 : (nI (td i) - nI (yd i) - nI (suB td yd i)).toInt = (td i : Int) - (yd i : Int) - (suB td yd i : Int) := xn_s3 (by omega) (by omega) (by omega)
      refine xg_iload hX 4 dR_subtractSizes_5 rfl ?_
      refine xg_bipush hX (nI 32) dR_subtractSizes_7 (by decide) ?_
      refine xg_icmp_geN hX 59 (by omega) (by omega) dR_subtractSizes_9 (by decide) (fun hh_5 => ?_) (fun hh_5 => ?_)
      ·
        have hie : i = 32 := by omega
        refine xg_ext hX (g := sbW 32 td yd) (ws' := [(tq, .inr (0, [.ref tp, .int (bI ts)])), (tp, .inl (cI, 130, .inl (nf (sbW 32 td yd)))), (yq, .inr (0, [.ref yp, .int (bI ys)])), (yp, .inl (cI, 130, .inl (nf yd)))]) 1 rfl (fun j hj => by first | rfl | (rw [hie]; done) | (rw [hie]; rfl)) rfl ?_
        exact hret () _ _ rfl trivial dR_subtractSizes_59
      ·
        refine xg_aload_n hX 1 dR_subtractSizes_12 rfl rfl ?_
        refine xg_iload hX 4 dR_subtractSizes_13 rfl ?_
        refine xg_cV hX tq [.int (nI i)] (hM := xc_digitAt l D cI tq tp (mix i (suD td yd) td) ts i (by omega)) (wr := [(yq, .inr (0, [.ref yp, .int (bI ys)])), (yp, .inl (cI, 130, .inl (nf yd)))]) (ws' := fun _ => [(tq, .inr (0, [.ref tp, .int (bI ts)])), (tp, .inl (cI, 130, .inl (nf (mix i (suD td yd) td)))), (yq, .inr (0, [.ref yp, .int (bI ys)])), (yp, .inl (cI, 130, .inl (nf yd)))]) (st' := fun _ => [.int (nI ((mix i (suD td yd) td) i))]) [0, 1] [2, 3] [2, 3, 0, 1] [] rfl mt_144 mt_141 mt_2 mt_142 mt_143 0 rfl rfl hdR_digitAt (by decide) ⟨rfl, rfl⟩ (by decide) rfl rfl (by decide) rfl (by decide) (by decide) (by decide) (fun u => rfl) (fun u => rfl) (fun u => rfl) rfl rfl (by simp [Value.category]) dR_subtractSizes_15 (fun _ _ => ?_)
        refine xg_top (nI (td i)) (by rw [mix_hi (Nat.le_refl i)]) ?_
        refine xg_aload_n hX 2 dR_subtractSizes_18 rfl rfl ?_
        refine xg_iload hX 4 dR_subtractSizes_19 rfl ?_
        refine xg_cV hX yq [.int (nI i)] (hM := xc_digitAt l D cI yq yp yd ys i (by omega)) (wr := [(tq, .inr (0, [.ref tp, .int (bI ts)])), (tp, .inl (cI, 130, .inl (nf (mix i (suD td yd) td))))]) (ws' := fun _ => [(tq, .inr (0, [.ref tp, .int (bI ts)])), (tp, .inl (cI, 130, .inl (nf (mix i (suD td yd) td)))), (yq, .inr (0, [.ref yp, .int (bI ys)])), (yp, .inl (cI, 130, .inl (nf yd)))]) (st' := fun _ => [.int (nI (yd i)), .int (nI (td i))]) [2, 3] [0, 1] [0, 1, 2, 3] [.int (nI (td i))] rfl mt_144 mt_141 mt_2 mt_142 mt_143 0 rfl rfl hdR_digitAt (by decide) ⟨rfl, rfl⟩ (by decide) rfl rfl (by decide) rfl (by decide) (by decide) (by decide) (fun u => rfl) (fun u => rfl) (fun u => rfl) rfl rfl (by simp [Value.category]) dR_subtractSizes_21 (fun _ _ => ?_)
        refine xg_isub hX dR_subtractSizes_24 ?_
        refine xg_iload_n hX 3 dR_subtractSizes_25 rfl rfl ?_
        refine xg_isub hX dR_subtractSizes_26 ?_
        refine xg_istore hX (lv' := [(5, .int (((nI (td i)) - (nI (yd i))) - (nI (suB td yd i)))), (0, .ref tq), (1, .ref tq), (2, .ref yq), (3, .int (nI (suB td yd i))), (4, .int (nI i))]) dR_subtractSizes_27 (by decide) rfl ?_
        refine xg_iload hX 0 dR_subtractSizes_29 rfl ?_
        refine xg_if_geZ hX ((((nI (td i)) - (nI (yd i))) - (nI (suB td yd i))).toInt) rfl 38 dR_subtractSizes_31 (by decide) (fun h31 => ?_) (fun h31 => ?_)
        ·
          rw [e4] at h31
          have e5 : suB td yd (i + 1) = 0 := if_neg (by omega)
          refine xg_iconst hX (nI 0) dR_subtractSizes_38 (by decide) ?_
          refine xg_istore_n hX (lv' := [(3, .int (nI 0)), (5, .int (((nI (td i)) - (nI (yd i))) - (nI (suB td yd i)))), (0, .ref tq), (1, .ref tq), (2, .ref yq), (4, .int (nI i))]) dR_subtractSizes_39 rfl (by decide) rfl ?_
          refine xg_aload_n hX 2 dR_subtractSizes_40 rfl rfl ?_
          refine xg_iload hX 5 dR_subtractSizes_41 rfl ?_
          refine xg_iload hX 1 dR_subtractSizes_43 rfl ?_
          refine xg_bipush hX (nI 10) dR_subtractSizes_45 (by decide) ?_
          refine xg_iload_n hX 0 dR_subtractSizes_47 rfl rfl ?_
          refine xg_imulN hX dR_subtractSizes_48 ?_
          refine xg_iadd hX dR_subtractSizes_49 ?_
          refine xg_top (nI (suD td yd i)) (by unfold suD; rw [e5]; exact xn_s4 (by omega)) ?_
          refine xg_cV hX tq [.int (nI i), .int (nI (suD td yd i))] (hM := xc_setDigit l D cI tq tp (mix i (suD td yd) td) ts i (suD td yd i) (by omega)) (wr := [(yq, .inr (0, [.ref yp, .int (bI ys)])), (yp, .inl (cI, 130, .inl (nf yd)))]) (ws' := fun _ => [(tq, .inr (0, [.ref tp, .int (bI ts)])), (tp, .inl (cI, 130, .inl (nf (up (mix i (suD td yd) td) i (suD td yd i))))), (yq, .inr (0, [.ref yp, .int (bI ys)])), (yp, .inl (cI, 130, .inl (nf yd)))]) (st' := fun _ => []) [0, 1] [2, 3] [2, 3, 0, 1] [] rfl mt_128 mt_154 mt_2 mt_126 mt_127 0 rfl rfl hdR_setDigit (by decide) ⟨rfl, rfl⟩ (by decide) rfl rfl (by decide) rfl (by decide) (by decide) (by decide) (fun u => rfl) (fun u => rfl) (fun u => rfl) rfl rfl (by simp [Value.category]) dR_subtractSizes_50 (fun _ _ => ?_)
          refine xg_iincN hX (lv' := [(4, .int (nI (i + 1))), (3, .int (nI 0)), (5, .int (((nI (td i)) - (nI (yd i))) - (nI (suB td yd i)))), (0, .ref tq), (1, .ref tq), (2, .ref yq)]) (i + 1) 5 dR_subtractSizes_53 rfl (xn_inc _) (by decide) rfl ?_
          refine xg_goto hX 5 dR_subtractSizes_56 (by decide) ?_
          refine xg_ext hX (g := mix (i + 1) (suD td yd) td) (ws' := [(tq, .inr (0, [.ref tp, .int (bI ts)])), (tp, .inl (cI, 130, .inl (nf (mix (i + 1) (suD td yd) td)))), (yq, .inr (0, [.ref yp, .int (bI ys)])), (yp, .inl (cI, 130, .inl (nf yd)))]) 1 rfl (fun j hj => mix_up rfl j) rfl ?_
          refine xg_lv hX (lv' := [(0, .ref tq), (1, .ref tq), (2, .ref yq), (3, .int (nI 0)), (4, .int (nI (i + 1)))]) [3, 4, 5, 1, 0] rfl ?_
          refine xg_lvE (lv' := [(0, .ref tq), (1, .ref tq), (2, .ref yq), (3, .int (nI (suB td yd (i + 1)))), (4, .int (nI (i + 1)))]) (by rw [← (show (nI 0 : Int32) = nI (suB td yd (i + 1)) from (by rw [e5]))]) ?_
          exact ih3 (i + 1) (by omega) (by omega)
        ·
          rw [e4] at h31
          have e5 : suB td yd (i + 1) = 1 := if_pos (by omega)
          refine xg_iconst hX (nI 1) dR_subtractSizes_34 (by decide) ?_
          refine xg_goto hX 39 dR_subtractSizes_35 (by decide) ?_
          refine xg_istore_n hX (lv' := [(3, .int (nI 1)), (5, .int (((nI (td i)) - (nI (yd i))) - (nI (suB td yd i)))), (0, .ref tq), (1, .ref tq), (2, .ref yq), (4, .int (nI i))]) dR_subtractSizes_39 rfl (by decide) rfl ?_
          refine xg_aload_n hX 2 dR_subtractSizes_40 rfl rfl ?_
          refine xg_iload hX 5 dR_subtractSizes_41 rfl ?_
          refine xg_iload hX 1 dR_subtractSizes_43 rfl ?_
          refine xg_bipush hX (nI 10) dR_subtractSizes_45 (by decide) ?_
          refine xg_iload_n hX 0 dR_subtractSizes_47 rfl rfl ?_
          refine xg_imulN hX dR_subtractSizes_48 ?_
          refine xg_iadd hX dR_subtractSizes_49 ?_
          refine xg_top (nI (suD td yd i)) (by unfold suD; rw [e5]; exact xn_s4 (by omega)) ?_
          refine xg_cV hX tq [.int (nI i), .int (nI (suD td yd i))] (hM := xc_setDigit l D cI tq tp (mix i (suD td yd) td) ts i (suD td yd i) (by omega)) (wr := [(yq, .inr (0, [.ref yp, .int (bI ys)])), (yp, .inl (cI, 130, .inl (nf yd)))]) (ws' := fun _ => [(tq, .inr (0, [.ref tp, .int (bI ts)])), (tp, .inl (cI, 130, .inl (nf (up (mix i (suD td yd) td) i (suD td yd i))))), (yq, .inr (0, [.ref yp, .int (bI ys)])), (yp, .inl (cI, 130, .inl (nf yd)))]) (st' := fun _ => []) [0, 1] [2, 3] [2, 3, 0, 1] [] rfl mt_128 mt_154 mt_2 mt_126 mt_127 0 rfl rfl hdR_setDigit (by decide) ⟨rfl, rfl⟩ (by decide) rfl rfl (by decide) rfl (by decide) (by decide) (by decide) (fun u => rfl) (fun u => rfl) (fun u => rfl) rfl rfl (by simp [Value.category]) dR_subtractSizes_50 (fun _ _ => ?_)
          refine xg_iincN hX (lv' := [(4, .int (nI (i + 1))), (3, .int (nI 1)), (5, .int (((nI (td i)) - (nI (yd i))) - (nI (suB td yd i)))), (0, .ref tq), (1, .ref tq), (2, .ref yq)]) (i + 1) 5 dR_subtractSizes_53 rfl (xn_inc _) (by decide) rfl ?_
          refine xg_goto hX 5 dR_subtractSizes_56 (by decide) ?_
          refine xg_ext hX (g := mix (i + 1) (suD td yd) td) (ws' := [(tq, .inr (0, [.ref tp, .int (bI ts)])), (tp, .inl (cI, 130, .inl (nf (mix (i + 1) (suD td yd) td)))), (yq, .inr (0, [.ref yp, .int (bI ys)])), (yp, .inl (cI, 130, .inl (nf yd)))]) 1 rfl (fun j hj => mix_up rfl j) rfl ?_
          refine xg_lv hX (lv' := [(0, .ref tq), (1, .ref tq), (2, .ref yq), (3, .int (nI 1)), (4, .int (nI (i + 1)))]) [3, 4, 5, 1, 0] rfl ?_
          refine xg_lvE (lv' := [(0, .ref tq), (1, .ref tq), (2, .ref yq), (3, .int (nI (suB td yd (i + 1)))), (4, .int (nI (i + 1)))]) (by rw [← (show (nI 1 : Int32) = nI (suB td yd (i + 1)) from (by rw [e5]))]) ?_
          exact ih3 (i + 1) (by omega) (by omega)
  refine xg_ext hX (g := mix 0 (suD td yd) td) (ws' := [(tq, .inr (0, [.ref tp, .int (bI ts)])), (tp, .inl (cI, 130, .inl (nf (mix 0 (suD td yd) td)))), (yq, .inr (0, [.ref yp, .int (bI ys)])), (yp, .inl (cI, 130, .inl (nf yd)))]) 1 rfl (fun j hj => mix_0 j) rfl ?_
  refine xg_lv hX (lv' := [(0, .ref tq), (1, .ref tq), (2, .ref yq), (3, .int (nI 0)), (4, .int (nI 0))]) [2, 3, 4, 1, 0] rfl ?_
  refine xg_lvE (lv' := [(0, .ref tq), (1, .ref tq), (2, .ref yq), (3, .int (nI (suB td yd 0))), (4, .int (nI 0))]) (by rw [← (show (nI 0 : Int32) = nI (suB td yd 0) from (by first | rfl | decide))]) ?_
  exact lp1 (32 - 0 + 1) 0 (by omega) (Nat.lt_succ_self _)
set_option maxHeartbeats 4000000 in
set_option maxRecDepth 100000 in
theorem xc_addSigned (l : Launch) (D : va_G) (cI : ClassId) (tq : Nat) (tp : Nat) (td : Nat → Nat) (ts : Bool) (xq : Nat) (xp : Nat) (xd : Nat → Nat) (xs : Bool) (yq : Nat) (yp : Nat) (yd : Nat → Nat) (ys : Bool) (hxd : ∀ j, xd j < 10) (hyd : ∀ j, yd j < 10) : Ctr l D cI yR_addSigned cR_addSigned 3 none { frames := 2, cells := 0, slots := 0, locals := 47 } [.ref tq, .ref xq, .ref yq] [(tq, .inr (0, [.ref tp, .int (bI ts)])), (tp, .inl (cI, 130, .inl (nf td))), (xq, .inr (0, [.ref xp, .int (bI xs)])), (xp, .inl (cI, 130, .inl (nf xd))), (yq, .inr (0, [.ref yp, .int (bI ys)])), (yp, .inl (cI, 130, .inl (nf yd)))] (fun _ : Unit => none) (fun _ : Unit => True) (fun _ : Unit => [(tq, .inr (0, [.ref tp, .int (bI (asS xd xs yd ys))])), (tp, .inl (cI, 130, .inl (nf (asD xd xs yd ys)))), (xq, .inr (0, [.ref xp, .int (bI xs)])), (xp, .inl (cI, 130, .inl (nf xd))), (yq, .inr (0, [.ref yp, .int (bI ys)])), (yp, .inl (cI, 130, .inl (nf yd)))]) 0 0 := by
  refine xc_mkV (by decide +kernel) (Nat.le_of_ble_eq_true rfl) (fun X hX hin hret => ?_)
  show GG D X 0 0 0 [(tq, .inr (0, [.ref tp, .int (bI ts)])), (tp, .inl (cI, 130, .inl (nf td))), (xq, .inr (0, [.ref xp, .int (bI xs)])), (xp, .inl (cI, 130, .inl (nf xd))), (yq, .inr (0, [.ref yp, .int (bI ys)])), (yp, .inl (cI, 130, .inl (nf yd)))] [(0, .ref tq), (1, .ref xq), (2, .ref yq)] []
  refine xg_aload_n hX 0 dR_addSigned_0 rfl rfl ?_
  refine xg_cV hX tq [] (hM := xc_clear l D cI tq tp td ts) (wr := [(xq, .inr (0, [.ref xp, .int (bI xs)])), (xp, .inl (cI, 130, .inl (nf xd))), (yq, .inr (0, [.ref yp, .int (bI ys)])), (yp, .inl (cI, 130, .inl (nf yd)))]) (ws' := fun _ => [(tq, .inr (0, [.ref tp, .int (bI false)])), (tp, .inl (cI, 130, .inl (nf zf))), (xq, .inr (0, [.ref xp, .int (bI xs)])), (xp, .inl (cI, 130, .inl (nf xd))), (yq, .inr (0, [.ref yp, .int (bI ys)])), (yp, .inl (cI, 130, .inl (nf yd)))]) (st' := fun _ => []) [0, 1] [2, 3, 4, 5] [4, 5, 0, 1, 2, 3] [] rfl mt_121 mt_149 mt_2 mt_119 mt_120 0 rfl rfl hdR_clear (by decide) ⟨rfl, rfl⟩ (by decide) rfl rfl (by decide) rfl (by decide) (by decide) (by decide) (fun u => rfl) (fun u => rfl) (fun u => rfl) rfl rfl (by simp [Value.category]) dR_addSigned_1 (fun _ _ => ?_)
  refine xg_aload_n hX 1 dR_addSigned_4 rfl rfl ?_
  refine xg_get hX (ci := 0) rfl hinR 2 rfl 1 (by decide) mt_22 rfl dR_addSigned_5 ?_
  refine xg_aload_n hX 2 dR_addSigned_8 rfl rfl ?_
  refine xg_get hX (ci := 0) rfl hinR 4 rfl 1 (by decide) mt_22 rfl dR_addSigned_9 ?_
  refine xg_icmp_neB hX 32 dR_addSigned_12 (by decide) (fun h12 => ?_) (fun h12 => ?_)
  ·
    refine xg_aload_n hX 1 dR_addSigned_32 rfl rfl ?_
    refine xg_aload_n hX 2 dR_addSigned_33 rfl rfl ?_
    refine xg_cV hX xq [.ref yq] (hM := xc_order l D cI xq xp xd xs yq yp yd ys hxd hyd) (wr := [(tq, .inr (0, [.ref tp, .int (bI false)])), (tp, .inl (cI, 130, .inl (nf zf)))]) (ws' := fun _ => [(tq, .inr (0, [.ref tp, .int (bI false)])), (tp, .inl (cI, 130, .inl (nf zf))), (xq, .inr (0, [.ref xp, .int (bI xs)])), (xp, .inl (cI, 130, .inl (nf xd))), (yq, .inr (0, [.ref yp, .int (bI ys)])), (yp, .inl (cI, 130, .inl (nf yd)))]) (st' := fun _ => [.int (cmpZ xd yd 32)]) [2, 3, 4, 5] [0, 1] [0, 1, 2, 3, 4, 5] [] rfl mt_158 mt_155 mt_2 mt_156 mt_157 0 rfl rfl hdR_orderOfSizes (by decide) ⟨rfl, rfl⟩ (by decide) rfl rfl (by decide) rfl (by decide) (by decide) (by decide) (fun u => rfl) (fun u => rfl) (fun u => rfl) rfl rfl (by simp [Value.category]) dR_addSigned_34 (fun _ _ => ?_)
    refine xg_if_lt hX 57 dR_addSigned_37 (by decide) (fun h37 => ?_) (fun h37 => ?_)
    ·
      refine xg_aload_n hX 0 dR_addSigned_57 rfl rfl ?_
      refine xg_aload_n hX 2 dR_addSigned_58 rfl rfl ?_
      refine xg_aload_n hX 1 dR_addSigned_59 rfl rfl ?_
      refine xg_cV hX tq [.ref yq, .ref xq] (hM := xc_sub l D cI tq tp zf false yq yp yd ys xq xp xd xs hyd hxd) (wr := []) (ws' := fun _ => [(tq, .inr (0, [.ref tp, .int (bI false)])), (tp, .inl (cI, 130, .inl (nf (mix 32 (suD yd xd) zf)))), (xq, .inr (0, [.ref xp, .int (bI xs)])), (xp, .inl (cI, 130, .inl (nf xd))), (yq, .inr (0, [.ref yp, .int (bI ys)])), (yp, .inl (cI, 130, .inl (nf yd)))]) (st' := fun _ => []) [0, 1, 4, 5, 2, 3] [] [0, 1, 4, 5, 2, 3] [] rfl mt_162 mt_159 mt_2 mt_161 mp_4 0 rfl rfl hdR_subtractSizes (by decide) ⟨rfl, rfl⟩ (by decide) rfl rfl (by decide) rfl (by decide) (by decide) (by decide) (fun u => rfl) (fun u => rfl) (fun u => rfl) rfl rfl (by simp [Value.category]) dR_addSigned_60 (fun _ _ => ?_)
      refine xg_aload_n hX 0 dR_addSigned_63 rfl rfl ?_
      refine xg_aload_n hX 2 dR_addSigned_64 rfl rfl ?_
      refine xg_get hX (ci := 0) rfl hinR 4 rfl 1 (by decide) mt_22 rfl dR_addSigned_65 ?_
      refine xg_put hX tyR tyR_ok nmR (ci := 0) rfl hinR (ws' := [(tq, .inr (0, [.ref tp, .int (bI ys)])), (tp, .inl (cI, 130, .inl (nf (mix 32 (suD yd xd) zf)))), (xq, .inr (0, [.ref xp, .int (bI xs)])), (xp, .inl (cI, 130, .inl (nf xd))), (yq, .inr (0, [.ref yp, .int (bI ys)])), (yp, .inl (cI, 130, .inl (nf yd)))]) 0 rfl 1 (by decide) mt_22 rfl (xn_narB _) (xn_fitB _) (Nat.le_of_ble_eq_true rfl) rfl dR_addSigned_68 ?_
      refine xg_wsE (ws' := [(tq, .inr (0, [.ref tp, .int (bI (asS xd xs yd ys))])), (tp, .inl (cI, 130, .inl (nf (mix 32 (suD yd xd) zf)))), (xq, .inr (0, [.ref xp, .int (bI xs)])), (xp, .inl (cI, 130, .inl (nf xd))), (yq, .inr (0, [.ref yp, .int (bI ys)])), (yp, .inl (cI, 130, .inl (nf yd)))]) (by rw [← (show (bI ys : Int32) = bI (asS xd xs yd ys) from (by unfold asS; first | (rw [if_pos h12]; done) | (rw [if_neg h12, if_pos h37]; done) | (rw [if_neg h12, if_neg h37]; done)))]) ?_
      refine xg_ext hX (g := asD xd xs yd ys) (ws' := [(tq, .inr (0, [.ref tp, .int (bI (asS xd xs yd ys))])), (tp, .inl (cI, 130, .inl (nf (asD xd xs yd ys)))), (xq, .inr (0, [.ref xp, .int (bI xs)])), (xp, .inl (cI, 130, .inl (nf xd))), (yq, .inr (0, [.ref yp, .int (bI ys)])), (yp, .inl (cI, 130, .inl (nf yd)))]) 1 rfl (fun j hj => by unfold asD; first | (rw [if_pos h12]; done) | (rw [if_neg h12, if_pos h37]; done) | (rw [if_neg h12, if_neg h37]; done)) rfl ?_
      exact hret () _ _ rfl trivial dR_addSigned_71
    ·
      refine xg_aload_n hX 0 dR_addSigned_40 rfl rfl ?_
      refine xg_aload_n hX 1 dR_addSigned_41 rfl rfl ?_
      refine xg_aload_n hX 2 dR_addSigned_42 rfl rfl ?_
      refine xg_cV hX tq [.ref xq, .ref yq] (hM := xc_sub l D cI tq tp zf false xq xp xd xs yq yp yd ys hxd hyd) (wr := []) (ws' := fun _ => [(tq, .inr (0, [.ref tp, .int (bI false)])), (tp, .inl (cI, 130, .inl (nf (mix 32 (suD xd yd) zf)))), (xq, .inr (0, [.ref xp, .int (bI xs)])), (xp, .inl (cI, 130, .inl (nf xd))), (yq, .inr (0, [.ref yp, .int (bI ys)])), (yp, .inl (cI, 130, .inl (nf yd)))]) (st' := fun _ => []) [0, 1, 2, 3, 4, 5] [] [0, 1, 2, 3, 4, 5] [] rfl mt_162 mt_159 mt_2 mt_161 mp_4 0 rfl rfl hdR_subtractSizes (by decide) ⟨rfl, rfl⟩ (by decide) rfl rfl (by decide) rfl (by decide) (by decide) (by decide) (fun u => rfl) (fun u => rfl) (fun u => rfl) rfl rfl (by simp [Value.category]) dR_addSigned_43 (fun _ _ => ?_)
      refine xg_aload_n hX 0 dR_addSigned_46 rfl rfl ?_
      refine xg_aload_n hX 1 dR_addSigned_47 rfl rfl ?_
      refine xg_get hX (ci := 0) rfl hinR 2 rfl 1 (by decide) mt_22 rfl dR_addSigned_48 ?_
      refine xg_put hX tyR tyR_ok nmR (ci := 0) rfl hinR (ws' := [(tq, .inr (0, [.ref tp, .int (bI xs)])), (tp, .inl (cI, 130, .inl (nf (mix 32 (suD xd yd) zf)))), (xq, .inr (0, [.ref xp, .int (bI xs)])), (xp, .inl (cI, 130, .inl (nf xd))), (yq, .inr (0, [.ref yp, .int (bI ys)])), (yp, .inl (cI, 130, .inl (nf yd)))]) 0 rfl 1 (by decide) mt_22 rfl (xn_narB _) (xn_fitB _) (Nat.le_of_ble_eq_true rfl) rfl dR_addSigned_51 ?_
      refine xg_goto hX 71 dR_addSigned_54 (by decide) ?_
      refine xg_wsE (ws' := [(tq, .inr (0, [.ref tp, .int (bI (asS xd xs yd ys))])), (tp, .inl (cI, 130, .inl (nf (mix 32 (suD xd yd) zf)))), (xq, .inr (0, [.ref xp, .int (bI xs)])), (xp, .inl (cI, 130, .inl (nf xd))), (yq, .inr (0, [.ref yp, .int (bI ys)])), (yp, .inl (cI, 130, .inl (nf yd)))]) (by rw [← (show (bI xs : Int32) = bI (asS xd xs yd ys) from (by unfold asS; first | (rw [if_pos h12]; done) | (rw [if_neg h12, if_pos h37]; done) | (rw [if_neg h12, if_neg h37]; done)))]) ?_
      refine xg_ext hX (g := asD xd xs yd ys) (ws' := [(tq, .inr (0, [.ref tp, .int (bI (asS xd xs yd ys))])), (tp, .inl (cI, 130, .inl (nf (asD xd xs yd ys)))), (xq, .inr (0, [.ref xp, .int (bI xs)])), (xp, .inl (cI, 130, .inl (nf xd))), (yq, .inr (0, [.ref yp, .int (bI ys)])), (yp, .inl (cI, 130, .inl (nf yd)))]) 1 rfl (fun j hj => by unfold asD; first | (rw [if_pos h12]; done) | (rw [if_neg h12, if_pos h37]; done) | (rw [if_neg h12, if_neg h37]; done)) rfl ?_
      exact hret () _ _ rfl trivial dR_addSigned_71
  ·
    refine xg_aload_n hX 0 dR_addSigned_15 rfl rfl ?_
    refine xg_aload_n hX 1 dR_addSigned_16 rfl rfl ?_
    refine xg_aload_n hX 2 dR_addSigned_17 rfl rfl ?_
    refine xg_cV hX tq [.ref xq, .ref yq] (hM := xc_addSizes l D cI tq tp zf false xq xp xd xs yq yp yd ys hxd hyd) (wr := []) (ws' := fun _ => [(tq, .inr (0, [.ref tp, .int (bI false)])), (tp, .inl (cI, 130, .inl (nf (mix 32 (adD xd yd) zf)))), (xq, .inr (0, [.ref xp, .int (bI xs)])), (xp, .inl (cI, 130, .inl (nf xd))), (yq, .inr (0, [.ref yp, .int (bI ys)])), (yp, .inl (cI, 130, .inl (nf yd)))]) (st' := fun _ => []) [0, 1, 2, 3, 4, 5] [] [0, 1, 2, 3, 4, 5] [] rfl mt_153 mt_150 mt_2 mt_152 mp_3 0 rfl rfl hdR_addSizes (by decide) ⟨rfl, rfl⟩ (by decide) rfl rfl (by decide) rfl (by decide) (by decide) (by decide) (fun u => rfl) (fun u => rfl) (fun u => rfl) rfl rfl (by simp [Value.category]) dR_addSigned_18 (fun _ _ => ?_)
    refine xg_aload_n hX 0 dR_addSigned_21 rfl rfl ?_
    refine xg_aload_n hX 1 dR_addSigned_22 rfl rfl ?_
    refine xg_get hX (ci := 0) rfl hinR 2 rfl 1 (by decide) mt_22 rfl dR_addSigned_23 ?_
    refine xg_put hX tyR tyR_ok nmR (ci := 0) rfl hinR (ws' := [(tq, .inr (0, [.ref tp, .int (bI xs)])), (tp, .inl (cI, 130, .inl (nf (mix 32 (adD xd yd) zf)))), (xq, .inr (0, [.ref xp, .int (bI xs)])), (xp, .inl (cI, 130, .inl (nf xd))), (yq, .inr (0, [.ref yp, .int (bI ys)])), (yp, .inl (cI, 130, .inl (nf yd)))]) 0 rfl 1 (by decide) mt_22 rfl (xn_narB _) (xn_fitB _) (Nat.le_of_ble_eq_true rfl) rfl dR_addSigned_26 ?_
    refine xg_goto hX 71 dR_addSigned_29 (by decide) ?_
    refine xg_wsE (ws' := [(tq, .inr (0, [.ref tp, .int (bI (asS xd xs yd ys))])), (tp, .inl (cI, 130, .inl (nf (mix 32 (adD xd yd) zf)))), (xq, .inr (0, [.ref xp, .int (bI xs)])), (xp, .inl (cI, 130, .inl (nf xd))), (yq, .inr (0, [.ref yp, .int (bI ys)])), (yp, .inl (cI, 130, .inl (nf yd)))]) (by rw [← (show (bI xs : Int32) = bI (asS xd xs yd ys) from (by unfold asS; first | (rw [if_pos h12]; done) | (rw [if_neg h12, if_pos h37]; done) | (rw [if_neg h12, if_neg h37]; done)))]) ?_
    refine xg_ext hX (g := asD xd xs yd ys) (ws' := [(tq, .inr (0, [.ref tp, .int (bI (asS xd xs yd ys))])), (tp, .inl (cI, 130, .inl (nf (asD xd xs yd ys)))), (xq, .inr (0, [.ref xp, .int (bI xs)])), (xp, .inl (cI, 130, .inl (nf xd))), (yq, .inr (0, [.ref yp, .int (bI ys)])), (yp, .inl (cI, 130, .inl (nf yd)))]) 1 rfl (fun j hj => by unfold asD; first | (rw [if_pos h12]; done) | (rw [if_neg h12, if_pos h37]; done) | (rw [if_neg h12, if_neg h37]; done)) rfl ?_
    exact hret () _ _ rfl trivial dR_addSigned_71
set_option maxHeartbeats 4000000 in
set_option maxRecDepth 100000 in
theorem xc_addOne (l : Launch) (D : va_G) (cI : ClassId) (tq : Nat) (tp : Nat) (td : Nat → Nat) (ts : Bool) (htd : ∀ j, td j < 10) : Ctr l D cI yR_addOne cR_addOne 4 none { frames := 1, cells := 0, slots := 0, locals := 22 } [.ref tq] [(tq, .inr (0, [.ref tp, .int (bI ts)])), (tp, .inl (cI, 130, .inl (nf td)))] (fun _ : Unit => none) (fun _ : Unit => True) (fun _ : Unit => [(tq, .inr (0, [.ref tp, .int (bI ts)])), (tp, .inl (cI, 130, .inl (nf (mix 32 (inD td) td))))]) 0 0 := by
  refine xc_mkV (by decide +kernel) (Nat.le_of_ble_eq_true rfl) (fun X hX hin hret => ?_)
  show GG D X 0 0 0 [(tq, .inr (0, [.ref tp, .int (bI ts)])), (tp, .inl (cI, 130, .inl (nf td)))] [(0, .ref tq)] []
  refine xg_iconst hX (nI 1) dR_addOne_0 (by decide) ?_
  refine xg_istore_n hX (lv' := [(1, .int (nI 1)), (0, .ref tq)]) dR_addOne_1 rfl (by decide) rfl ?_
  refine xg_iconst hX (nI 0) dR_addOne_2 (by decide) ?_
  refine xg_istore_n hX (lv' := [(2, .int (nI 0)), (1, .int (nI 1)), (0, .ref tq)]) dR_addOne_3 rfl (by decide) rfl ?_
  have lp1 : ∀ (fu2 : Nat) (i : Nat), (i ≤ 32) → 32 - i < fu2 → GG D X 0 0 4 [(tq, .inr (0, [.ref tp, .int (bI ts)])), (tp, .inl (cI, 130, .inl (nf (mix i (inD td) td))))] [(0, .ref tq), (1, .int (nI (inC td i))), (2, .int (nI i))] [] := by
    intro fu2
    induction fu2 with
    | zero => intro i hi hm4; exact absurd hm4 (Nat.not_lt_zero _)
    | succ fu2 ih3 =>
      intro i hi hm4
      have e1 := htd i
      have e3 := inC_le htd i
      refine xg_iload_n hX 2 dR_addOne_4 rfl rfl ?_
      refine xg_bipush hX (nI 32) dR_addOne_5 (by decide) ?_
      refine xg_icmp_geN hX 42 (by omega) (by omega) dR_addOne_7 (by decide) (fun h7 => ?_) (fun h7 => ?_)
      ·
        refine xg_ext hX (g := mix 32 (inD td) td) (ws' := [(tq, .inr (0, [.ref tp, .int (bI ts)])), (tp, .inl (cI, 130, .inl (nf (mix 32 (inD td) td))))]) 1 rfl (fun j hj => in_fin htd hi (by first | exact Or.inl (by omega) | exact Or.inr h11) j) rfl ?_
        exact hret () _ _ rfl trivial dR_addOne_42
      ·
        refine xg_iload_n hX 1 dR_addOne_10 rfl rfl ?_
        refine xg_if_leN hX 42 (by omega) dR_addOne_11 (by decide) (fun h11 => ?_) (fun h11 => ?_)
        ·
          refine xg_ext hX (g := mix 32 (inD td) td) (ws' := [(tq, .inr (0, [.ref tp, .int (bI ts)])), (tp, .inl (cI, 130, .inl (nf (mix 32 (inD td) td))))]) 1 rfl (fun j hj => in_fin htd hi (by first | exact Or.inl (by omega) | exact Or.inr h11) j) rfl ?_
          exact hret () _ _ rfl trivial dR_addOne_42
        ·
          refine xg_aload_n hX 0 dR_addOne_14 rfl rfl ?_
          refine xg_iload_n hX 2 dR_addOne_15 rfl rfl ?_
          refine xg_cV hX tq [.int (nI i)] (hM := xc_digitAt l D cI tq tp (mix i (inD td) td) ts i (by omega)) (wr := []) (ws' := fun _ => [(tq, .inr (0, [.ref tp, .int (bI ts)])), (tp, .inl (cI, 130, .inl (nf (mix i (inD td) td))))]) (st' := fun _ => [.int (nI ((mix i (inD td) td) i))]) [0, 1] [] [0, 1] [] rfl mt_144 mt_141 mt_2 mt_142 mt_143 0 rfl rfl hdR_digitAt (by decide) ⟨rfl, rfl⟩ (by decide) rfl rfl (by decide) rfl (by decide) (by decide) (by decide) (fun u => rfl) (fun u => rfl) (fun u => rfl) rfl rfl (by simp [Value.category]) dR_addOne_16 (fun _ _ => ?_)
          refine xg_top (nI (td i)) (by rw [mix_hi (Nat.le_refl i)]) ?_
          refine xg_iload_n hX 1 dR_addOne_19 rfl rfl ?_
          refine xg_iaddN hX dR_addOne_20 ?_
          refine xg_istore_n hX (lv' := [(3, .int (nI ((td i) + (inC td i)))), (0, .ref tq), (1, .int (nI (inC td i))), (2, .int (nI i))]) dR_addOne_21 rfl (by decide) rfl ?_
          refine xg_iload_n hX 0 dR_addOne_22 rfl rfl ?_
          refine xg_bipush hX (nI 10) dR_addOne_23 (by decide) ?_
          refine xg_idivN hX (by omega) (by omega) (by omega) dR_addOne_25 ?_
          refine xg_istore_n hX (lv' := [(1, .int (nI (((td i) + (inC td i)) / 10))), (3, .int (nI ((td i) + (inC td i)))), (0, .ref tq), (2, .int (nI i))]) dR_addOne_26 rfl (by decide) rfl ?_
          refine xg_aload_n hX 2 dR_addOne_27 rfl rfl ?_
          refine xg_iload_n hX 3 dR_addOne_28 rfl rfl ?_
          refine xg_iload_n hX 1 dR_addOne_29 rfl rfl ?_
          refine xg_bipush hX (nI 10) dR_addOne_30 (by decide) ?_
          refine xg_iremN hX (by omega) (by omega) (by omega) dR_addOne_32 ?_
          refine xg_cV hX tq [.int (nI i), .int (nI (((td i) + (inC td i)) % 10))] (hM := xc_setDigit l D cI tq tp (mix i (inD td) td) ts i (((td i) + (inC td i)) % 10) (by omega)) (wr := []) (ws' := fun _ => [(tq, .inr (0, [.ref tp, .int (bI ts)])), (tp, .inl (cI, 130, .inl (nf (up (mix i (inD td) td) i (((td i) + (inC td i)) % 10)))))]) (st' := fun _ => []) [0, 1] [] [0, 1] [] rfl mt_128 mt_154 mt_2 mt_126 mt_127 0 rfl rfl hdR_setDigit (by decide) ⟨rfl, rfl⟩ (by decide) rfl rfl (by decide) rfl (by decide) (by decide) (by decide) (fun u => rfl) (fun u => rfl) (fun u => rfl) rfl rfl (by simp [Value.category]) dR_addOne_33 (fun _ _ => ?_)
          refine xg_iincN hX (lv' := [(2, .int (nI (i + 1))), (1, .int (nI (((td i) + (inC td i)) / 10))), (3, .int (nI ((td i) + (inC td i)))), (0, .ref tq)]) (i + 1) 3 dR_addOne_36 rfl (xn_inc _) (by decide) rfl ?_
          refine xg_goto hX 4 dR_addOne_39 (by decide) ?_
          refine xg_ext hX (g := mix (i + 1) (inD td) td) (ws' := [(tq, .inr (0, [.ref tp, .int (bI ts)])), (tp, .inl (cI, 130, .inl (nf (mix (i + 1) (inD td) td))))]) 1 rfl (fun j hj => mix_up rfl j) rfl ?_
          refine xg_lv hX (lv' := [(0, .ref tq), (1, .int (nI (((td i) + (inC td i)) / 10))), (2, .int (nI (i + 1)))]) [3, 1, 0] rfl ?_
          refine xg_lvE (lv' := [(0, .ref tq), (1, .int (nI (inC td (i + 1)))), (2, .int (nI (i + 1)))]) (by rw [← (show (nI (((td i) + (inC td i)) / 10) : Int32) = nI (inC td (i + 1)) from (by first | rfl | decide))]) ?_
          exact ih3 (i + 1) (by omega) (by omega)
  refine xg_ext hX (g := mix 0 (inD td) td) (ws' := [(tq, .inr (0, [.ref tp, .int (bI ts)])), (tp, .inl (cI, 130, .inl (nf (mix 0 (inD td) td))))]) 1 rfl (fun j hj => mix_0 j) rfl ?_
  refine xg_lv hX (lv' := [(0, .ref tq), (1, .int (nI 1)), (2, .int (nI 0))]) [2, 1, 0] rfl ?_
  refine xg_lvE (lv' := [(0, .ref tq), (1, .int (nI (inC td 0))), (2, .int (nI 0))]) (by rw [← (show (nI 1 : Int32) = nI (inC td 0) from (by first | rfl | decide))]) ?_
  exact lp1 (32 - 0 + 1) 0 (by omega) (Nat.lt_succ_self _)
set_option maxHeartbeats 4000000 in
set_option maxRecDepth 100000 in
theorem xc_addMult (l : Launch) (D : va_G) (cI : ClassId) (tq : Nat) (tp : Nat) (td : Nat → Nat) (ts : Bool) (xq : Nat) (xp : Nat) (xd : Nat → Nat) (xs : Bool) (f : Nat) (a : Nat) (hf : f < 10) (ha : a ≤ 30) (htd : ∀ j, td j < 10) (hxd : ∀ j, xd j < 10) : Ctr l D cI yR_addMultiple cR_addMultiple 7 none { frames := 1, cells := 0, slots := 0, locals := 22 } [.ref tq, .ref xq, .int (nI f), .int (nI a)] [(tq, .inr (0, [.ref tp, .int (bI ts)])), (tp, .inl (cI, 130, .inl (nf td))), (xq, .inr (0, [.ref xp, .int (bI xs)])), (xp, .inl (cI, 130, .inl (nf xd)))] (fun _ : Unit => none) (fun _ : Unit => True) (fun _ : Unit => [(tq, .inr (0, [.ref tp, .int (bI ts)])), (tp, .inl (cI, 130, .inl (nf (amR td xd f a 32)))), (xq, .inr (0, [.ref xp, .int (bI xs)])), (xp, .inl (cI, 130, .inl (nf xd)))]) 0 0 := by
  refine xc_mkV (by decide +kernel) (Nat.le_of_ble_eq_true rfl) (fun X hX hin hret => ?_)
  show GG D X 0 0 0 [(tq, .inr (0, [.ref tp, .int (bI ts)])), (tp, .inl (cI, 130, .inl (nf td))), (xq, .inr (0, [.ref xp, .int (bI xs)])), (xp, .inl (cI, 130, .inl (nf xd)))] [(0, .ref tq), (1, .ref xq), (2, .int (nI f)), (3, .int (nI a))] []
  refine xg_iconst hX (nI 0) dR_addMultiple_0 (by decide) ?_
  refine xg_istore hX (lv' := [(4, .int (nI 0)), (0, .ref tq), (1, .ref xq), (2, .int (nI f)), (3, .int (nI a))]) dR_addMultiple_1 (by decide) rfl ?_
  refine xg_iconst hX (nI 0) dR_addMultiple_3 (by decide) ?_
  refine xg_istore hX (lv' := [(5, .int (nI 0)), (4, .int (nI 0)), (0, .ref tq), (1, .ref xq), (2, .int (nI f)), (3, .int (nI a))]) dR_addMultiple_4 (by decide) rfl ?_
  have lp1 : ∀ (fu2 : Nat) (i : Nat), (i ≤ 32) → 32 - i < fu2 → GG D X 0 0 6 [(tq, .inr (0, [.ref tp, .int (bI ts)])), (tp, .inl (cI, 130, .inl (nf (amR td xd f a i)))), (xq, .inr (0, [.ref xp, .int (bI xs)])), (xp, .inl (cI, 130, .inl (nf xd)))] [(0, .ref tq), (1, .ref xq), (2, .int (nI f)), (3, .int (nI a)), (4, .int (nI (amC td xd f a i))), (5, .int (nI i))] [] := by
    intro fu2
    induction fu2 with
    | zero => intro i hi hm4; exact absurd hm4 (Nat.not_lt_zero _)
    | succ fu2 ih3 =>
      intro i hi hm4
      have e1 := htd (a + i)
      have e2 := hxd i
      have e3 := amC_le (a := a) htd hxd hf i
      have e4 : f * xd i ≤ 9 * 9 := Nat.mul_le_mul (by omega) (by omega)
      refine xg_iload hX 5 dR_addMultiple_6 rfl ?_
      refine xg_bipush hX (nI 32) dR_addMultiple_8 (by decide) ?_
      refine xg_icmp_geN hX 61 (by omega) (by omega) dR_addMultiple_10 (by decide) (fun hh_5 => ?_) (fun hh_5 => ?_)
      ·
        have hie : i = 32 := by omega
        refine xg_ext hX (g := amR td xd f a 32) (ws' := [(tq, .inr (0, [.ref tp, .int (bI ts)])), (tp, .inl (cI, 130, .inl (nf (amR td xd f a 32)))), (xq, .inr (0, [.ref xp, .int (bI xs)])), (xp, .inl (cI, 130, .inl (nf xd)))]) 1 rfl (fun j hj => by first | rfl | (rw [hie]; done) | (rw [hie]; rfl)) rfl ?_
        exact hret () _ _ rfl trivial dR_addMultiple_61
      ·
        refine xg_aload_n hX 0 dR_addMultiple_13 rfl rfl ?_
        refine xg_iload_n hX 3 dR_addMultiple_14 rfl rfl ?_
        refine xg_iload hX 5 dR_addMultiple_15 rfl ?_
        refine xg_iaddN hX dR_addMultiple_17 ?_
        refine xg_cV hX tq [.int (nI (a + i))] (hM := xc_digitAt l D cI tq tp (amR td xd f a i) ts (a + i) (by omega)) (wr := [(xq, .inr (0, [.ref xp, .int (bI xs)])), (xp, .inl (cI, 130, .inl (nf xd)))]) (ws' := fun _ => [(tq, .inr (0, [.ref tp, .int (bI ts)])), (tp, .inl (cI, 130, .inl (nf (amR td xd f a i)))), (xq, .inr (0, [.ref xp, .int (bI xs)])), (xp, .inl (cI, 130, .inl (nf xd)))]) (st' := fun _ => [.int (nI ((amR td xd f a i) (a + i)))]) [0, 1] [2, 3] [2, 3, 0, 1] [] rfl mt_144 mt_141 mt_2 mt_142 mt_143 0 rfl rfl hdR_digitAt (by decide) ⟨rfl, rfl⟩ (by decide) rfl rfl (by decide) rfl (by decide) (by decide) (by decide) (fun u => rfl) (fun u => rfl) (fun u => rfl) rfl rfl (by simp [Value.category]) dR_addMultiple_18 (fun _ _ => ?_)
        refine xg_top (nI (td (a + i))) (by unfold amR; rw [mix_hi (Nat.le_refl _)]) ?_
        refine xg_iload_n hX 2 dR_addMultiple_21 rfl rfl ?_
        refine xg_aload_n hX 1 dR_addMultiple_22 rfl rfl ?_
        refine xg_iload hX 5 dR_addMultiple_23 rfl ?_
        refine xg_cV hX xq [.int (nI i)] (hM := xc_digitAt l D cI xq xp xd xs i (by omega)) (wr := [(tq, .inr (0, [.ref tp, .int (bI ts)])), (tp, .inl (cI, 130, .inl (nf (amR td xd f a i))))]) (ws' := fun _ => [(tq, .inr (0, [.ref tp, .int (bI ts)])), (tp, .inl (cI, 130, .inl (nf (amR td xd f a i)))), (xq, .inr (0, [.ref xp, .int (bI xs)])), (xp, .inl (cI, 130, .inl (nf xd)))]) (st' := fun _ => [.int (nI (xd i)), .int (nI f), .int (nI (td (a + i)))]) [2, 3] [0, 1] [0, 1, 2, 3] [.int (nI f), .int (nI (td (a + i)))] rfl mt_144 mt_141 mt_2 mt_142 mt_143 0 rfl rfl hdR_digitAt (by decide) ⟨rfl, rfl⟩ (by decide) rfl rfl (by decide) rfl (by decide) (by decide) (by decide) (fun u => rfl) (fun u => rfl) (fun u => rfl) rfl rfl (by simp [Value.category]) dR_addMultiple_25 (fun _ _ => ?_)
        refine xg_imulN hX dR_addMultiple_28 ?_
        refine xg_iaddN hX dR_addMultiple_29 ?_
        refine xg_iload hX 4 dR_addMultiple_30 rfl ?_
        refine xg_iaddN hX dR_addMultiple_32 ?_
        refine xg_istore hX (lv' := [(6, .int (nI (((td (a + i)) + (f * (xd i))) + (amC td xd f a i)))), (0, .ref tq), (1, .ref xq), (2, .int (nI f)), (3, .int (nI a)), (4, .int (nI (amC td xd f a i))), (5, .int (nI i))]) dR_addMultiple_33 (by decide) rfl ?_
        refine xg_iload hX 0 dR_addMultiple_35 rfl ?_
        refine xg_bipush hX (nI 10) dR_addMultiple_37 (by decide) ?_
        refine xg_idivN hX (by omega) (by omega) (by omega) dR_addMultiple_39 ?_
        refine xg_istore hX (lv' := [(4, .int (nI ((((td (a + i)) + (f * (xd i))) + (amC td xd f a i)) / 10))), (6, .int (nI (((td (a + i)) + (f * (xd i))) + (amC td xd f a i)))), (0, .ref tq), (1, .ref xq), (2, .int (nI f)), (3, .int (nI a)), (5, .int (nI i))]) dR_addMultiple_40 (by decide) rfl ?_
        refine xg_aload_n hX 2 dR_addMultiple_42 rfl rfl ?_
        refine xg_iload_n hX 5 dR_addMultiple_43 rfl rfl ?_
        refine xg_iload hX 6 dR_addMultiple_44 rfl ?_
        refine xg_iaddN hX dR_addMultiple_46 ?_
        refine xg_iload hX 1 dR_addMultiple_47 rfl ?_
        refine xg_bipush hX (nI 10) dR_addMultiple_49 (by decide) ?_
        refine xg_iremN hX (by omega) (by omega) (by omega) dR_addMultiple_51 ?_
        refine xg_cV hX tq [.int (nI (a + i)), .int (nI ((((td (a + i)) + (f * (xd i))) + (amC td xd f a i)) % 10))] (hM := xc_setDigit l D cI tq tp (amR td xd f a i) ts (a + i) ((((td (a + i)) + (f * (xd i))) + (amC td xd f a i)) % 10) (by omega)) (wr := [(xq, .inr (0, [.ref xp, .int (bI xs)])), (xp, .inl (cI, 130, .inl (nf xd)))]) (ws' := fun _ => [(tq, .inr (0, [.ref tp, .int (bI ts)])), (tp, .inl (cI, 130, .inl (nf (up (amR td xd f a i) (a + i) ((((td (a + i)) + (f * (xd i))) + (amC td xd f a i)) % 10))))), (xq, .inr (0, [.ref xp, .int (bI xs)])), (xp, .inl (cI, 130, .inl (nf xd)))]) (st' := fun _ => []) [0, 1] [2, 3] [2, 3, 0, 1] [] rfl mt_128 mt_154 mt_2 mt_126 mt_127 0 rfl rfl hdR_setDigit (by decide) ⟨rfl, rfl⟩ (by decide) rfl rfl (by decide) rfl (by decide) (by decide) (by decide) (fun u => rfl) (fun u => rfl) (fun u => rfl) rfl rfl (by simp [Value.category]) dR_addMultiple_52 (fun _ _ => ?_)
        refine xg_iincN hX (lv' := [(5, .int (nI (i + 1))), (4, .int (nI ((((td (a + i)) + (f * (xd i))) + (amC td xd f a i)) / 10))), (6, .int (nI (((td (a + i)) + (f * (xd i))) + (amC td xd f a i)))), (0, .ref tq), (1, .ref xq), (2, .int (nI f)), (3, .int (nI a))]) (i + 1) 6 dR_addMultiple_55 rfl (xn_inc _) (by decide) rfl ?_
        refine xg_goto hX 6 dR_addMultiple_58 (by decide) ?_
        refine xg_ext hX (g := amR td xd f a (i + 1)) (ws' := [(tq, .inr (0, [.ref tp, .int (bI ts)])), (tp, .inl (cI, 130, .inl (nf (amR td xd f a (i + 1))))), (xq, .inr (0, [.ref xp, .int (bI xs)])), (xp, .inl (cI, 130, .inl (nf xd)))]) 1 rfl (fun j hj => amR_s j) rfl ?_
        refine xg_lv hX (lv' := [(0, .ref tq), (1, .ref xq), (2, .int (nI f)), (3, .int (nI a)), (4, .int (nI ((((td (a + i)) + (f * (xd i))) + (amC td xd f a i)) / 10))), (5, .int (nI (i + 1)))]) [3, 4, 5, 6, 1, 0] rfl ?_
        refine xg_lvE (lv' := [(0, .ref tq), (1, .ref xq), (2, .int (nI f)), (3, .int (nI a)), (4, .int (nI (amC td xd f a (i + 1)))), (5, .int (nI (i + 1)))]) (by rw [← (show (nI ((((td (a + i)) + (f * (xd i))) + (amC td xd f a i)) / 10) : Int32) = nI (amC td xd f a (i + 1)) from (by first | rfl | decide))]) ?_
        exact ih3 (i + 1) (by omega) (by omega)
  refine xg_ext hX (g := amR td xd f a 0) (ws' := [(tq, .inr (0, [.ref tp, .int (bI ts)])), (tp, .inl (cI, 130, .inl (nf (amR td xd f a 0)))), (xq, .inr (0, [.ref xp, .int (bI xs)])), (xp, .inl (cI, 130, .inl (nf xd)))]) 1 rfl (fun j hj => amR_0 j) rfl ?_
  refine xg_lv hX (lv' := [(0, .ref tq), (1, .ref xq), (2, .int (nI f)), (3, .int (nI a)), (4, .int (nI 0)), (5, .int (nI 0))]) [2, 3, 4, 5, 1, 0] rfl ?_
  refine xg_lvE (lv' := [(0, .ref tq), (1, .ref xq), (2, .int (nI f)), (3, .int (nI a)), (4, .int (nI (amC td xd f a 0))), (5, .int (nI 0))]) (by rw [← (show (nI 0 : Int32) = nI (amC td xd f a 0) from (by first | rfl | decide))]) ?_
  exact lp1 (32 - 0 + 1) 0 (by omega) (Nat.lt_succ_self _)
set_option maxHeartbeats 4000000 in
set_option maxRecDepth 100000 in
theorem xc_multiply (l : Launch) (D : va_G) (cI : ClassId) (tq : Nat) (tp : Nat) (td : Nat → Nat) (ts : Bool) (xq : Nat) (xp : Nat) (xd : Nat → Nat) (xs : Bool) (yq : Nat) (yp : Nat) (yd : Nat → Nat) (ys : Bool) (hxd : ∀ j, xd j < 10) (hyd : ∀ j, yd j < 10) : Ctr l D cI yR_multiply cR_multiply 4 none { frames := 2, cells := 0, slots := 0, locals := 48 } [.ref tq, .ref xq, .ref yq] [(tq, .inr (0, [.ref tp, .int (bI ts)])), (tp, .inl (cI, 130, .inl (nf td))), (xq, .inr (0, [.ref xp, .int (bI xs)])), (xp, .inl (cI, 130, .inl (nf xd))), (yq, .inr (0, [.ref yp, .int (bI ys)])), (yp, .inl (cI, 130, .inl (nf yd)))] (fun _ : Unit => none) (fun _ : Unit => True) (fun _ : Unit => [(tq, .inr (0, [.ref tp, .int (bI (xs != ys))])), (tp, .inl (cI, 130, .inl (nf (muR xd yd 31)))), (xq, .inr (0, [.ref xp, .int (bI xs)])), (xp, .inl (cI, 130, .inl (nf xd))), (yq, .inr (0, [.ref yp, .int (bI ys)])), (yp, .inl (cI, 130, .inl (nf yd)))]) 0 0 := by
  refine xc_mkV (by decide +kernel) (Nat.le_of_ble_eq_true rfl) (fun X hX hin hret => ?_)
  show GG D X 0 0 0 [(tq, .inr (0, [.ref tp, .int (bI ts)])), (tp, .inl (cI, 130, .inl (nf td))), (xq, .inr (0, [.ref xp, .int (bI xs)])), (xp, .inl (cI, 130, .inl (nf xd))), (yq, .inr (0, [.ref yp, .int (bI ys)])), (yp, .inl (cI, 130, .inl (nf yd)))] [(0, .ref tq), (1, .ref xq), (2, .ref yq)] []
  refine xg_aload_n hX 0 dR_multiply_0 rfl rfl ?_
  refine xg_cV hX tq [] (hM := xc_clear l D cI tq tp td ts) (wr := [(xq, .inr (0, [.ref xp, .int (bI xs)])), (xp, .inl (cI, 130, .inl (nf xd))), (yq, .inr (0, [.ref yp, .int (bI ys)])), (yp, .inl (cI, 130, .inl (nf yd)))]) (ws' := fun _ => [(tq, .inr (0, [.ref tp, .int (bI false)])), (tp, .inl (cI, 130, .inl (nf zf))), (xq, .inr (0, [.ref xp, .int (bI xs)])), (xp, .inl (cI, 130, .inl (nf xd))), (yq, .inr (0, [.ref yp, .int (bI ys)])), (yp, .inl (cI, 130, .inl (nf yd)))]) (st' := fun _ => []) [0, 1] [2, 3, 4, 5] [4, 5, 0, 1, 2, 3] [] rfl mt_121 mt_149 mt_2 mt_119 mt_120 0 rfl rfl hdR_clear (by decide) ⟨rfl, rfl⟩ (by decide) rfl rfl (by decide) rfl (by decide) (by decide) (by decide) (fun u => rfl) (fun u => rfl) (fun u => rfl) rfl rfl (by simp [Value.category]) dR_multiply_1 (fun _ _ => ?_)
  refine xg_iconst hX (nI 0) dR_multiply_4 (by decide) ?_
  refine xg_istore_n hX (lv' := [(3, .int (nI 0)), (0, .ref tq), (1, .ref xq), (2, .ref yq)]) dR_multiply_5 rfl (by decide) rfl ?_
  have lp1 : ∀ (fu2 : Nat) (i : Nat), (i ≤ 31) → 31 - i < fu2 → GG D X 0 0 6 [(tq, .inr (0, [.ref tp, .int (bI false)])), (tp, .inl (cI, 130, .inl (nf (muR xd yd i)))), (xq, .inr (0, [.ref xp, .int (bI xs)])), (xp, .inl (cI, 130, .inl (nf xd))), (yq, .inr (0, [.ref yp, .int (bI ys)])), (yp, .inl (cI, 130, .inl (nf yd)))] [(0, .ref tq), (1, .ref xq), (2, .ref yq), (3, .int (nI i))] [] := by
    intro fu2
    induction fu2 with
    | zero => intro i hi hm4; exact absurd hm4 (Nat.not_lt_zero _)
    | succ fu2 ih3 =>
      intro i hi hm4
      have e1 := hxd i
      refine xg_iload_n hX 3 dR_multiply_6 rfl rfl ?_
      refine xg_bipush hX (nI 31) dR_multiply_7 (by decide) ?_
      refine xg_icmp_geN hX 37 (by omega) (by omega) dR_multiply_9 (by decide) (fun hh_5 => ?_) (fun hh_5 => ?_)
      ·
        refine xg_aload_n hX 0 dR_multiply_37 rfl rfl ?_
        refine xg_aload_n hX 1 dR_multiply_38 rfl rfl ?_
        refine xg_get hX (ci := 0) rfl hinR 2 rfl 1 (by decide) mt_22 rfl dR_multiply_39 ?_
        refine xg_aload_n hX 2 dR_multiply_42 rfl rfl ?_
        refine xg_get hX (ci := 0) rfl hinR 4 rfl 1 (by decide) mt_22 rfl dR_multiply_43 ?_
        refine xg_icmp_eqB hX 53 dR_multiply_46 (by decide) (fun h46 => ?_) (fun h46 => ?_)
        ·
          refine xg_iconst hX (nI 0) dR_multiply_53 (by decide) ?_
          refine xg_top (bI false) rfl ?_
          refine xg_put hX tyR tyR_ok nmR (ci := 0) rfl hinR (ws' := [(tq, .inr (0, [.ref tp, .int (bI false)])), (tp, .inl (cI, 130, .inl (nf (muR xd yd i)))), (xq, .inr (0, [.ref xp, .int (bI xs)])), (xp, .inl (cI, 130, .inl (nf xd))), (yq, .inr (0, [.ref yp, .int (bI ys)])), (yp, .inl (cI, 130, .inl (nf yd)))]) 0 rfl 1 (by decide) mt_22 rfl (xn_narB _) (xn_fitB _) (Nat.le_of_ble_eq_true rfl) rfl dR_multiply_54 ?_
          have hie : i = 31 := by omega
          refine xg_wsE (ws' := [(tq, .inr (0, [.ref tp, .int (bI (xs != ys))])), (tp, .inl (cI, 130, .inl (nf (muR xd yd i)))), (xq, .inr (0, [.ref xp, .int (bI xs)])), (xp, .inl (cI, 130, .inl (nf xd))), (yq, .inr (0, [.ref yp, .int (bI ys)])), (yp, .inl (cI, 130, .inl (nf yd)))]) (by rw [← (show (bI false : Int32) = bI (xs != ys) from (by first | (rw [show (xs != ys) = false by simp [h46]]; done) | (rw [show (xs != ys) = true by simp [h46]]; done)))]) ?_
          refine xg_ext hX (g := muR xd yd 31) (ws' := [(tq, .inr (0, [.ref tp, .int (bI (xs != ys))])), (tp, .inl (cI, 130, .inl (nf (muR xd yd 31)))), (xq, .inr (0, [.ref xp, .int (bI xs)])), (xp, .inl (cI, 130, .inl (nf xd))), (yq, .inr (0, [.ref yp, .int (bI ys)])), (yp, .inl (cI, 130, .inl (nf yd)))]) 1 rfl (fun j hj => by first | rfl | (rw [hie]; done) | (rw [hie]; rfl)) rfl ?_
          exact hret () _ _ rfl trivial dR_multiply_57
        ·
          refine xg_iconst hX (nI 1) dR_multiply_49 (by decide) ?_
          refine xg_goto hX 54 dR_multiply_50 (by decide) ?_
          refine xg_top (bI true) rfl ?_
          refine xg_put hX tyR tyR_ok nmR (ci := 0) rfl hinR (ws' := [(tq, .inr (0, [.ref tp, .int (bI true)])), (tp, .inl (cI, 130, .inl (nf (muR xd yd i)))), (xq, .inr (0, [.ref xp, .int (bI xs)])), (xp, .inl (cI, 130, .inl (nf xd))), (yq, .inr (0, [.ref yp, .int (bI ys)])), (yp, .inl (cI, 130, .inl (nf yd)))]) 0 rfl 1 (by decide) mt_22 rfl (xn_narB _) (xn_fitB _) (Nat.le_of_ble_eq_true rfl) rfl dR_multiply_54 ?_
          have hie : i = 31 := by omega
          refine xg_wsE (ws' := [(tq, .inr (0, [.ref tp, .int (bI (xs != ys))])), (tp, .inl (cI, 130, .inl (nf (muR xd yd i)))), (xq, .inr (0, [.ref xp, .int (bI xs)])), (xp, .inl (cI, 130, .inl (nf xd))), (yq, .inr (0, [.ref yp, .int (bI ys)])), (yp, .inl (cI, 130, .inl (nf yd)))]) (by rw [← (show (bI true : Int32) = bI (xs != ys) from (by first | (rw [show (xs != ys) = false by simp [h46]]; done) | (rw [show (xs != ys) = true by simp [h46]]; done)))]) ?_
          refine xg_ext hX (g := muR xd yd 31) (ws' := [(tq, .inr (0, [.ref tp, .int (bI (xs != ys))])), (tp, .inl (cI, 130, .inl (nf (muR xd yd 31)))), (xq, .inr (0, [.ref xp, .int (bI xs)])), (xp, .inl (cI, 130, .inl (nf xd))), (yq, .inr (0, [.ref yp, .int (bI ys)])), (yp, .inl (cI, 130, .inl (nf yd)))]) 1 rfl (fun j hj => by first | rfl | (rw [hie]; done) | (rw [hie]; rfl)) rfl ?_
          exact hret () _ _ rfl trivial dR_multiply_57
      ·
        refine xg_aload_n hX 1 dR_multiply_12 rfl rfl ?_
        refine xg_iload_n hX 3 dR_multiply_13 rfl rfl ?_
        refine xg_cV hX xq [.int (nI i)] (hM := xc_digitAt l D cI xq xp xd xs i (by omega)) (wr := [(tq, .inr (0, [.ref tp, .int (bI false)])), (tp, .inl (cI, 130, .inl (nf (muR xd yd i)))), (yq, .inr (0, [.ref yp, .int (bI ys)])), (yp, .inl (cI, 130, .inl (nf yd)))]) (ws' := fun _ => [(tq, .inr (0, [.ref tp, .int (bI false)])), (tp, .inl (cI, 130, .inl (nf (muR xd yd i)))), (xq, .inr (0, [.ref xp, .int (bI xs)])), (xp, .inl (cI, 130, .inl (nf xd))), (yq, .inr (0, [.ref yp, .int (bI ys)])), (yp, .inl (cI, 130, .inl (nf yd)))]) (st' := fun _ => [.int (nI (xd i))]) [2, 3] [0, 1, 4, 5] [0, 1, 4, 5, 2, 3] [] rfl mt_144 mt_141 mt_2 mt_142 mt_143 0 rfl rfl hdR_digitAt (by decide) ⟨rfl, rfl⟩ (by decide) rfl rfl (by decide) rfl (by decide) (by decide) (by decide) (fun u => rfl) (fun u => rfl) (fun u => rfl) rfl rfl (by simp [Value.category]) dR_multiply_14 (fun _ _ => ?_)
        refine xg_if_eqN hX 31 (by omega) dR_multiply_17 (by decide) (fun h17 => ?_) (fun h17 => ?_)
        ·
          refine xg_iincN hX (lv' := [(3, .int (nI (i + 1))), (0, .ref tq), (1, .ref xq), (2, .ref yq)]) (i + 1) 3 dR_multiply_31 rfl (xn_inc _) (by decide) rfl ?_
          refine xg_goto hX 6 dR_multiply_34 (by decide) ?_
          refine xg_ext hX (g := muR xd yd (i + 1)) (ws' := [(tq, .inr (0, [.ref tp, .int (bI false)])), (tp, .inl (cI, 130, .inl (nf (muR xd yd (i + 1))))), (xq, .inr (0, [.ref xp, .int (bI xs)])), (xp, .inl (cI, 130, .inl (nf xd))), (yq, .inr (0, [.ref yp, .int (bI ys)])), (yp, .inl (cI, 130, .inl (nf yd)))]) 1 rfl (fun j hj => by first | rw [muR_0 h17] | rw [muR_1 (by omega)]) rfl ?_
          refine xg_lv hX (lv' := [(0, .ref tq), (1, .ref xq), (2, .ref yq), (3, .int (nI (i + 1)))]) [1, 2, 3, 0] rfl ?_
          exact ih3 (i + 1) (by omega) (by omega)
        ·
          refine xg_aload_n hX 0 dR_multiply_20 rfl rfl ?_
          refine xg_aload_n hX 2 dR_multiply_21 rfl rfl ?_
          refine xg_aload_n hX 1 dR_multiply_22 rfl rfl ?_
          refine xg_iload_n hX 3 dR_multiply_23 rfl rfl ?_
          refine xg_cV hX xq [.int (nI i)] (hM := xc_digitAt l D cI xq xp xd xs i (by omega)) (wr := [(tq, .inr (0, [.ref tp, .int (bI false)])), (tp, .inl (cI, 130, .inl (nf (muR xd yd i)))), (yq, .inr (0, [.ref yp, .int (bI ys)])), (yp, .inl (cI, 130, .inl (nf yd)))]) (ws' := fun _ => [(tq, .inr (0, [.ref tp, .int (bI false)])), (tp, .inl (cI, 130, .inl (nf (muR xd yd i)))), (xq, .inr (0, [.ref xp, .int (bI xs)])), (xp, .inl (cI, 130, .inl (nf xd))), (yq, .inr (0, [.ref yp, .int (bI ys)])), (yp, .inl (cI, 130, .inl (nf yd)))]) (st' := fun _ => [.int (nI (xd i)), .ref yq, .ref tq]) [2, 3] [0, 1, 4, 5] [0, 1, 4, 5, 2, 3] [.ref yq, .ref tq] rfl mt_144 mt_141 mt_2 mt_142 mt_143 0 rfl rfl hdR_digitAt (by decide) ⟨rfl, rfl⟩ (by decide) rfl rfl (by decide) rfl (by decide) (by decide) (by decide) (fun u => rfl) (fun u => rfl) (fun u => rfl) rfl rfl (by simp [Value.category]) dR_multiply_24 (fun _ _ => ?_)
          refine xg_iload_n hX 3 dR_multiply_27 rfl rfl ?_
          refine xg_cV hX tq [.ref yq, .int (nI (xd i)), .int (nI i)] (hM := xc_addMult l D cI tq tp (muR xd yd i) false yq yp yd ys (xd i) i (by omega) (by omega) (muR_lt xd yd i) hyd) (wr := [(xq, .inr (0, [.ref xp, .int (bI xs)])), (xp, .inl (cI, 130, .inl (nf xd)))]) (ws' := fun _ => [(tq, .inr (0, [.ref tp, .int (bI false)])), (tp, .inl (cI, 130, .inl (nf (amR (muR xd yd i) yd (xd i) i 32)))), (xq, .inr (0, [.ref xp, .int (bI xs)])), (xp, .inl (cI, 130, .inl (nf xd))), (yq, .inr (0, [.ref yp, .int (bI ys)])), (yp, .inl (cI, 130, .inl (nf yd)))]) (st' := fun _ => []) [0, 1, 4, 5] [2, 3] [2, 3, 0, 1, 4, 5] [] rfl mt_188 mt_185 mt_2 mt_187 mp_6 0 rfl rfl hdR_addMultiple (by decide) ⟨rfl, rfl⟩ (by decide) rfl rfl (by decide) rfl (by decide) (by decide) (by decide) (fun u => rfl) (fun u => rfl) (fun u => rfl) rfl rfl (by simp [Value.category]) dR_multiply_28 (fun _ _ => ?_)
          refine xg_iincN hX (lv' := [(3, .int (nI (i + 1))), (0, .ref tq), (1, .ref xq), (2, .ref yq)]) (i + 1) 3 dR_multiply_31 rfl (xn_inc _) (by decide) rfl ?_
          refine xg_goto hX 6 dR_multiply_34 (by decide) ?_
          refine xg_ext hX (g := muR xd yd (i + 1)) (ws' := [(tq, .inr (0, [.ref tp, .int (bI false)])), (tp, .inl (cI, 130, .inl (nf (muR xd yd (i + 1))))), (xq, .inr (0, [.ref xp, .int (bI xs)])), (xp, .inl (cI, 130, .inl (nf xd))), (yq, .inr (0, [.ref yp, .int (bI ys)])), (yp, .inl (cI, 130, .inl (nf yd)))]) 1 rfl (fun j hj => by first | rw [muR_0 h17] | rw [muR_1 (by omega)]) rfl ?_
          refine xg_lv hX (lv' := [(0, .ref tq), (1, .ref xq), (2, .ref yq), (3, .int (nI (i + 1)))]) [1, 2, 3, 0] rfl ?_
          exact ih3 (i + 1) (by omega) (by omega)
  refine xg_ext hX (g := muR xd yd 0) (ws' := [(tq, .inr (0, [.ref tp, .int (bI false)])), (tp, .inl (cI, 130, .inl (nf (muR xd yd 0)))), (xq, .inr (0, [.ref xp, .int (bI xs)])), (xp, .inl (cI, 130, .inl (nf xd))), (yq, .inr (0, [.ref yp, .int (bI ys)])), (yp, .inl (cI, 130, .inl (nf yd)))]) 1 rfl (fun j hj => rfl) rfl ?_
  refine xg_lv hX (lv' := [(0, .ref tq), (1, .ref xq), (2, .ref yq), (3, .int (nI 0))]) [1, 2, 3, 0] rfl ?_
  exact lp1 (31 - 0 + 1) 0 (by omega) (Nat.lt_succ_self _)
set_option maxHeartbeats 4000000 in
set_option maxRecDepth 100000 in
theorem xc_bringDown (l : Launch) (D : va_G) (cI : ClassId) (tq : Nat) (tp : Nat) (td : Nat → Nat) (ts : Bool) (g : Nat) : Ctr l D cI yR_bringDown cR_bringDown 3 none { frames := 1, cells := 0, slots := 0, locals := 22 } [.ref tq, .int (nI g)] [(tq, .inr (0, [.ref tp, .int (bI ts)])), (tp, .inl (cI, 130, .inl (nf td)))] (fun _ : Unit => none) (fun _ : Unit => True) (fun _ : Unit => [(tq, .inr (0, [.ref tp, .int (bI ts)])), (tp, .inl (cI, 130, .inl (nf (bdW 32 td g))))]) 0 0 := by
  refine xc_mkV (by decide +kernel) (Nat.le_of_ble_eq_true rfl) (fun X hX hin hret => ?_)
  show GG D X 0 0 0 [(tq, .inr (0, [.ref tp, .int (bI ts)])), (tp, .inl (cI, 130, .inl (nf td)))] [(0, .ref tq), (1, .int (nI g))] []
  refine xg_bipush hX (nI 31) dR_bringDown_0 (by decide) ?_
  refine xg_istore_n hX (lv' := [(2, .int (nI 31)), (0, .ref tq), (1, .int (nI g))]) dR_bringDown_2 rfl (by decide) rfl ?_
  have lp1 : ∀ (fu2 : Nat) (i : Nat), (i ≤ 31) → i < fu2 → GG D X 0 0 3 [(tq, .inr (0, [.ref tp, .int (bI ts)])), (tp, .inl (cI, 130, .inl (nf (bdP td i))))] [(0, .ref tq), (1, .int (nI g)), (2, .int (nI i))] [] := by
    intro fu2
    induction fu2 with
    | zero => intro i hi hm4; exact absurd hm4 (Nat.not_lt_zero _)
    | succ fu2 ih3 =>
      intro i hi hm4
      refine xg_iload_n hX 2 dR_bringDown_3 rfl rfl ?_
      refine xg_if_leN hX 25 (by omega) dR_bringDown_4 (by decide) (fun h4 => ?_) (fun h4 => ?_)
      ·
        refine xg_aload_n hX 0 dR_bringDown_25 rfl rfl ?_
        refine xg_iconst hX (nI 0) dR_bringDown_26 (by decide) ?_
        refine xg_iload_n hX 1 dR_bringDown_27 rfl rfl ?_
        refine xg_cV hX tq [.int (nI 0), .int (nI g)] (hM := xc_setDigit l D cI tq tp (bdP td i) ts 0 g (by omega)) (wr := []) (ws' := fun _ => [(tq, .inr (0, [.ref tp, .int (bI ts)])), (tp, .inl (cI, 130, .inl (nf (up (bdP td i) 0 g))))]) (st' := fun _ => []) [0, 1] [] [0, 1] [] rfl mt_128 mt_154 mt_2 mt_126 mt_127 0 rfl rfl hdR_setDigit (by decide) ⟨rfl, rfl⟩ (by decide) rfl rfl (by decide) rfl (by decide) (by decide) (by decide) (fun u => rfl) (fun u => rfl) (fun u => rfl) rfl rfl (by simp [Value.category]) dR_bringDown_28 (fun _ _ => ?_)
        subst h4
        refine xg_ext hX (g := bdW 32 td g) (ws' := [(tq, .inr (0, [.ref tp, .int (bI ts)])), (tp, .inl (cI, 130, .inl (nf (bdW 32 td g))))]) 1 rfl (fun j hj => bdP_e j) rfl ?_
        exact hret () _ _ rfl trivial dR_bringDown_31
      ·
        refine xg_aload_n hX 0 dR_bringDown_7 rfl rfl ?_
        refine xg_iload_n hX 2 dR_bringDown_8 rfl rfl ?_
        refine xg_aload_n hX 0 dR_bringDown_9 rfl rfl ?_
        refine xg_iload_n hX 2 dR_bringDown_10 rfl rfl ?_
        refine xg_iconst hX (nI 1) dR_bringDown_11 (by decide) ?_
        refine xg_isubN hX (by omega) dR_bringDown_12 ?_
        refine xg_cV hX tq [.int (nI (i - 1))] (hM := xc_digitAt l D cI tq tp (bdP td i) ts (i - 1) (by omega)) (wr := []) (ws' := fun _ => [(tq, .inr (0, [.ref tp, .int (bI ts)])), (tp, .inl (cI, 130, .inl (nf (bdP td i))))]) (st' := fun _ => [.int (nI ((bdP td i) (i - 1))), .int (nI i), .ref tq]) [0, 1] [] [0, 1] [.int (nI i), .ref tq] rfl mt_144 mt_141 mt_2 mt_142 mt_143 0 rfl rfl hdR_digitAt (by decide) ⟨rfl, rfl⟩ (by decide) rfl rfl (by decide) rfl (by decide) (by decide) (by decide) (fun u => rfl) (fun u => rfl) (fun u => rfl) rfl rfl (by simp [Value.category]) dR_bringDown_13 (fun _ _ => ?_)
        refine xg_top (nI (td (i - 1))) (by rw [bdP_at (by omega)]) ?_
        refine xg_cV hX tq [.int (nI i), .int (nI (td (i - 1)))] (hM := xc_setDigit l D cI tq tp (bdP td i) ts i (td (i - 1)) (by omega)) (wr := []) (ws' := fun _ => [(tq, .inr (0, [.ref tp, .int (bI ts)])), (tp, .inl (cI, 130, .inl (nf (up (bdP td i) i (td (i - 1))))))]) (st' := fun _ => []) [0, 1] [] [0, 1] [] rfl mt_128 mt_154 mt_2 mt_126 mt_127 0 rfl rfl hdR_setDigit (by decide) ⟨rfl, rfl⟩ (by decide) rfl rfl (by decide) rfl (by decide) (by decide) (by decide) (fun u => rfl) (fun u => rfl) (fun u => rfl) rfl rfl (by simp [Value.category]) dR_bringDown_16 (fun _ _ => ?_)
        refine xg_iincN hX (lv' := [(2, .int (nI (i - 1))), (0, .ref tq), (1, .int (nI g))]) (i - 1) 2 dR_bringDown_19 rfl (xn_dec _ (by omega)) (by decide) rfl ?_
        refine xg_goto hX 3 dR_bringDown_22 (by decide) ?_
        refine xg_ext hX (g := bdP td (i - 1)) (ws' := [(tq, .inr (0, [.ref tp, .int (bI ts)])), (tp, .inl (cI, 130, .inl (nf (bdP td (i - 1)))))]) 1 rfl (fun j hj => bdP_s (by omega) j) rfl ?_
        refine xg_lv hX (lv' := [(0, .ref tq), (1, .int (nI g)), (2, .int (nI (i - 1)))]) [1, 2, 0] rfl ?_
        exact ih3 (i - 1) (by omega) (by omega)
  refine xg_ext hX (g := bdP td 31) (ws' := [(tq, .inr (0, [.ref tp, .int (bI ts)])), (tp, .inl (cI, 130, .inl (nf (bdP td 31))))]) 1 rfl (fun j hj => bdP_0 j) rfl ?_
  refine xg_lv hX (lv' := [(0, .ref tq), (1, .int (nI g)), (2, .int (nI 31))]) [1, 2, 0] rfl ?_
  exact lp1 (31 + 1) 31 (by omega) (Nat.lt_succ_self _)
set_option maxHeartbeats 4000000 in
set_option maxRecDepth 100000 in
theorem xc_takeAway (l : Launch) (D : va_G) (cI : ClassId) (tq : Nat) (tp : Nat) (td : Nat → Nat) (ts : Bool) (xq : Nat) (xp : Nat) (xd : Nat → Nat) (xs : Bool) (htd : ∀ j, td j < 10) (hxd : ∀ j, xd j < 10) : Ctr l D cI yR_takeAway cR_takeAway 3 (some .int) { frames := 2, cells := 0, slots := 0, locals := 47 } [.ref tq, .ref xq] [(tq, .inr (0, [.ref tp, .int (bI ts)])), (tp, .inl (cI, 130, .inl (nf td))), (xq, .inr (0, [.ref xp, .int (bI xs)])), (xp, .inl (cI, 130, .inl (nf xd)))] (fun _ : Unit => some (.int (nI ((taF 32 xd 9 td).1)))) (fun _ : Unit => True) (fun _ : Unit => [(tq, .inr (0, [.ref tp, .int (bI ts)])), (tp, .inl (cI, 130, .inl (nf ((taF 32 xd 9 td).2)))), (xq, .inr (0, [.ref xp, .int (bI xs)])), (xp, .inl (cI, 130, .inl (nf xd)))]) 0 0 := by
  refine xc_mkI (by decide +kernel) (Nat.le_of_ble_eq_true rfl) (fun X hX hret => ?_)
  show GG D X 0 0 0 [(tq, .inr (0, [.ref tp, .int (bI ts)])), (tp, .inl (cI, 130, .inl (nf td))), (xq, .inr (0, [.ref xp, .int (bI xs)])), (xp, .inl (cI, 130, .inl (nf xd)))] [(0, .ref tq), (1, .ref xq)] []
  refine xg_iconst hX (nI 0) dR_takeAway_0 (by decide) ?_
  refine xg_istore_n hX (lv' := [(2, .int (nI 0)), (0, .ref tq), (1, .ref xq)]) dR_takeAway_1 rfl (by decide) rfl ?_
  have lp1 : ∀ (fu2 : Nat) (k : Nat) (r : Nat → Nat), (k ≤ 9) → (∀ j, r j < 10) → (taF 32 xd 9 td = (k + (taF 32 xd (9 - k) r).1, (taF 32 xd (9 - k) r).2)) → 9 - k < fu2 → GG D X 0 0 2 [(tq, .inr (0, [.ref tp, .int (bI ts)])), (tp, .inl (cI, 130, .inl (nf r))), (xq, .inr (0, [.ref xp, .int (bI xs)])), (xp, .inl (cI, 130, .inl (nf xd)))] [(0, .ref tq), (1, .ref xq), (2, .int (nI k))] [] := by
    intro fu2
    induction fu2 with
    | zero => intro k r hk hr hq hm4; exact absurd hm4 (Nat.not_lt_zero _)
    | succ fu2 ih3 =>
      intro k r hk hr hq hm4
      refine xg_iload_n hX 2 dR_takeAway_2 rfl rfl ?_
      refine xg_bipush hX (nI 9) dR_takeAway_3 (by decide) ?_
      refine xg_icmp_geN hX 28 (by omega) (by omega) dR_takeAway_5 (by decide) (fun h5 => ?_) (fun h5 => ?_)
      ·
        refine xg_iload_n hX 2 dR_takeAway_28 rfl rfl ?_
        have hz : taF 32 xd 9 td = (k, r) := hq.trans (by first | exact taF_end9 (by omega) | exact taF_lt0 (by omega) h13)
        refine xg_ext hX (g := (taF 32 xd 9 td).2) (ws' := [(tq, .inr (0, [.ref tp, .int (bI ts)])), (tp, .inl (cI, 130, .inl (nf ((taF 32 xd 9 td).2)))), (xq, .inr (0, [.ref xp, .int (bI xs)])), (xp, .inl (cI, 130, .inl (nf xd)))]) 1 rfl (fun j hj => by rw [hz]) rfl ?_
        refine xg_top (nI ((taF 32 xd 9 td).1)) (by rw [hz]) ?_
        exact hret () _ _ _ rfl trivial dR_takeAway_29
      ·
        refine xg_aload_n hX 0 dR_takeAway_8 rfl rfl ?_
        refine xg_aload_n hX 1 dR_takeAway_9 rfl rfl ?_
        refine xg_cV hX tq [.ref xq] (hM := xc_order l D cI tq tp r ts xq xp xd xs hr hxd) (wr := []) (ws' := fun _ => [(tq, .inr (0, [.ref tp, .int (bI ts)])), (tp, .inl (cI, 130, .inl (nf r))), (xq, .inr (0, [.ref xp, .int (bI xs)])), (xp, .inl (cI, 130, .inl (nf xd)))]) (st' := fun _ => [.int (cmpZ r xd 32)]) [0, 1, 2, 3] [] [0, 1, 2, 3] [] rfl mt_158 mt_155 mt_2 mt_156 mt_157 0 rfl rfl hdR_orderOfSizes (by decide) ⟨rfl, rfl⟩ (by decide) rfl rfl (by decide) rfl (by decide) (by decide) (by decide) (fun u => rfl) (fun u => rfl) (fun u => rfl) rfl rfl (by simp [Value.category]) dR_takeAway_10 (fun _ _ => ?_)
        refine xg_if_lt hX 28 dR_takeAway_13 (by decide) (fun h13 => ?_) (fun h13 => ?_)
        ·
          refine xg_iload_n hX 2 dR_takeAway_28 rfl rfl ?_
          have hz : taF 32 xd 9 td = (k, r) := hq.trans (by first | exact taF_end9 (by omega) | exact taF_lt0 (by omega) h13)
          refine xg_ext hX (g := (taF 32 xd 9 td).2) (ws' := [(tq, .inr (0, [.ref tp, .int (bI ts)])), (tp, .inl (cI, 130, .inl (nf ((taF 32 xd 9 td).2)))), (xq, .inr (0, [.ref xp, .int (bI xs)])), (xp, .inl (cI, 130, .inl (nf xd)))]) 1 rfl (fun j hj => by rw [hz]) rfl ?_
          refine xg_top (nI ((taF 32 xd 9 td).1)) (by rw [hz]) ?_
          exact hret () _ _ _ rfl trivial dR_takeAway_29
        ·
          refine xg_aload_n hX 0 dR_takeAway_16 rfl rfl ?_
          refine xg_aload_n hX 0 dR_takeAway_17 rfl rfl ?_
          refine xg_aload_n hX 1 dR_takeAway_18 rfl rfl ?_
          refine xg_cV hX tq [.ref tq, .ref xq] (hM := xc_subSelf l D cI tq tp r ts xq xp xd xs hr hxd) (wr := []) (ws' := fun _ => [(tq, .inr (0, [.ref tp, .int (bI ts)])), (tp, .inl (cI, 130, .inl (nf (sbW 32 r xd)))), (xq, .inr (0, [.ref xp, .int (bI xs)])), (xp, .inl (cI, 130, .inl (nf xd)))]) (st' := fun _ => []) [0, 1, 2, 3] [] [0, 1, 2, 3] [] rfl mt_162 mt_159 mt_2 mt_161 mp_4 0 rfl rfl hdR_subtractSizes (by decide) ⟨rfl, rfl⟩ (by decide) rfl rfl (by decide) rfl (by decide) (by decide) (by decide) (fun u => rfl) (fun u => rfl) (fun u => rfl) rfl rfl (by simp [Value.category]) dR_takeAway_19 (fun _ _ => ?_)
          refine xg_iincN hX (lv' := [(2, .int (nI (k + 1))), (0, .ref tq), (1, .ref xq)]) (k + 1) 2 dR_takeAway_22 rfl (xn_inc _) (by decide) rfl ?_
          refine xg_goto hX 2 dR_takeAway_25 (by decide) ?_
          refine xg_lv hX (lv' := [(0, .ref tq), (1, .ref xq), (2, .int (nI (k + 1)))]) [1, 2, 0] rfl ?_
          exact ih3 (k + 1) (sbW 32 r xd) (by omega) (sbW_lt hr hxd) (hq.trans (taF_s (by omega) h13)) (by omega)
  refine xg_lv hX (lv' := [(0, .ref tq), (1, .ref xq), (2, .int (nI 0))]) [1, 2, 0] rfl ?_
  exact lp1 (9 - 0 + 1) 0 td (by omega) htd (by simp) (Nat.lt_succ_self _)
set_option maxHeartbeats 4000000 in
set_option maxRecDepth 100000 in
theorem xc_divide (l : Launch) (D : va_G) (cI : ClassId) (tq : Nat) (tp : Nat) (td : Nat → Nat) (ts : Bool) (xq : Nat) (xp : Nat) (xd : Nat → Nat) (xs : Bool) (yq : Nat) (yp : Nat) (yd : Nat → Nat) (ys : Bool) (zq : Nat) (zp : Nat) (zd : Nat → Nat) (zs : Bool) (hxd : ∀ j, xd j < 10) (hyd : ∀ j, yd j < 10) : Ctr l D cI yR_divide cR_divide 5 none { frames := 3, cells := 0, slots := 0, locals := 69 } [.ref tq, .ref xq, .ref yq, .ref zq] [(tq, .inr (0, [.ref tp, .int (bI ts)])), (tp, .inl (cI, 130, .inl (nf td))), (xq, .inr (0, [.ref xp, .int (bI xs)])), (xp, .inl (cI, 130, .inl (nf xd))), (yq, .inr (0, [.ref yp, .int (bI ys)])), (yp, .inl (cI, 130, .inl (nf yd))), (zq, .inr (0, [.ref zp, .int (bI zs)])), (zp, .inl (cI, 130, .inl (nf zd)))] (fun _ : Unit => none) (fun _ : Unit => True) (fun _ : Unit => [(tq, .inr (0, [.ref tp, .int (bI (xs != ys))])), (tp, .inl (cI, 130, .inl (nf (qmx 0 (dvQ 32 xd yd))))), (xq, .inr (0, [.ref xp, .int (bI xs)])), (xp, .inl (cI, 130, .inl (nf xd))), (yq, .inr (0, [.ref yp, .int (bI ys)])), (yp, .inl (cI, 130, .inl (nf yd))), (zq, .inr (0, [.ref zp, .int (bI false)])), (zp, .inl (cI, 130, .inl (nf (dvR 32 xd yd 31))))]) 0 0 := by
  refine xc_mkV (by decide +kernel) (Nat.le_of_ble_eq_true rfl) (fun X hX hin hret => ?_)
  show GG D X 0 0 0 [(tq, .inr (0, [.ref tp, .int (bI ts)])), (tp, .inl (cI, 130, .inl (nf td))), (xq, .inr (0, [.ref xp, .int (bI xs)])), (xp, .inl (cI, 130, .inl (nf xd))), (yq, .inr (0, [.ref yp, .int (bI ys)])), (yp, .inl (cI, 130, .inl (nf yd))), (zq, .inr (0, [.ref zp, .int (bI zs)])), (zp, .inl (cI, 130, .inl (nf zd)))] [(0, .ref tq), (1, .ref xq), (2, .ref yq), (3, .ref zq)] []
  refine xg_aload_n hX 0 dR_divide_0 rfl rfl ?_
  refine xg_cV hX tq [] (hM := xc_clear l D cI tq tp td ts) (wr := [(xq, .inr (0, [.ref xp, .int (bI xs)])), (xp, .inl (cI, 130, .inl (nf xd))), (yq, .inr (0, [.ref yp, .int (bI ys)])), (yp, .inl (cI, 130, .inl (nf yd))), (zq, .inr (0, [.ref zp, .int (bI zs)])), (zp, .inl (cI, 130, .inl (nf zd)))]) (ws' := fun _ => [(tq, .inr (0, [.ref tp, .int (bI false)])), (tp, .inl (cI, 130, .inl (nf zf))), (xq, .inr (0, [.ref xp, .int (bI xs)])), (xp, .inl (cI, 130, .inl (nf xd))), (yq, .inr (0, [.ref yp, .int (bI ys)])), (yp, .inl (cI, 130, .inl (nf yd))), (zq, .inr (0, [.ref zp, .int (bI zs)])), (zp, .inl (cI, 130, .inl (nf zd)))]) (st' := fun _ => []) [0, 1] [2, 3, 4, 5, 6, 7] [6, 7, 0, 1, 2, 3, 4, 5] [] rfl mt_121 mt_149 mt_2 mt_119 mt_120 0 rfl rfl hdR_clear (by decide) ⟨rfl, rfl⟩ (by decide) rfl rfl (by decide) rfl (by decide) (by decide) (by decide) (fun u => rfl) (fun u => rfl) (fun u => rfl) rfl rfl (by simp [Value.category]) dR_divide_1 (fun _ _ => ?_)
  refine xg_aload_n hX 3 dR_divide_4 rfl rfl ?_
  refine xg_cV hX zq [] (hM := xc_clear l D cI zq zp zd zs) (wr := [(tq, .inr (0, [.ref tp, .int (bI false)])), (tp, .inl (cI, 130, .inl (nf zf))), (xq, .inr (0, [.ref xp, .int (bI xs)])), (xp, .inl (cI, 130, .inl (nf xd))), (yq, .inr (0, [.ref yp, .int (bI ys)])), (yp, .inl (cI, 130, .inl (nf yd)))]) (ws' := fun _ => [(tq, .inr (0, [.ref tp, .int (bI false)])), (tp, .inl (cI, 130, .inl (nf zf))), (xq, .inr (0, [.ref xp, .int (bI xs)])), (xp, .inl (cI, 130, .inl (nf xd))), (yq, .inr (0, [.ref yp, .int (bI ys)])), (yp, .inl (cI, 130, .inl (nf yd))), (zq, .inr (0, [.ref zp, .int (bI false)])), (zp, .inl (cI, 130, .inl (nf zf)))]) (st' := fun _ => []) [6, 7] [0, 1, 2, 3, 4, 5] [0, 1, 2, 3, 4, 5, 6, 7] [] rfl mt_121 mt_149 mt_2 mt_119 mt_120 0 rfl rfl hdR_clear (by decide) ⟨rfl, rfl⟩ (by decide) rfl rfl (by decide) rfl (by decide) (by decide) (by decide) (fun u => rfl) (fun u => rfl) (fun u => rfl) rfl rfl (by simp [Value.category]) dR_divide_5 (fun _ _ => ?_)
  refine xg_bipush hX (nI 30) dR_divide_8 (by decide) ?_
  refine xg_istore hX (lv' := [(4, .int (nI 30)), (0, .ref tq), (1, .ref xq), (2, .ref yq), (3, .ref zq)]) dR_divide_10 (by decide) rfl ?_
  have lp1 : ∀ (fu2 : Nat) (c : Nat), (c ≤ 31) → c < fu2 → GG D X 0 0 12 [(tq, .inr (0, [.ref tp, .int (bI false)])), (tp, .inl (cI, 130, .inl (nf (qmx c (dvQ 32 xd yd))))), (xq, .inr (0, [.ref xp, .int (bI xs)])), (xp, .inl (cI, 130, .inl (nf xd))), (yq, .inr (0, [.ref yp, .int (bI ys)])), (yp, .inl (cI, 130, .inl (nf yd))), (zq, .inr (0, [.ref zp, .int (bI false)])), (zp, .inl (cI, 130, .inl (nf (dvR 32 xd yd (31 - c)))))] [(0, .ref tq), (1, .ref xq), (2, .ref yq), (3, .ref zq), (4, .int (nI c - 1))] [] := by
    intro fu2
    induction fu2 with
    | zero => intro c hc hm4; exact absurd hm4 (Nat.not_lt_zero _)
    | succ fu2 ih3 =>
      intro c hc hm4
      cases c with
      | zero =>
        rw [show nI 0 - 1 = (-1 : Int32) from by decide]
        refine xg_iload hX 4 dR_divide_12 rfl ?_
        refine xg_if_lt hX 44 dR_divide_14 (by decide) (fun _ => ?_) (fun h => absurd (by decide) h)
        refine xg_aload_n hX 0 dR_divide_44 rfl rfl ?_
        refine xg_aload_n hX 1 dR_divide_45 rfl rfl ?_
        refine xg_get hX (ci := 0) rfl hinR 2 rfl 1 (by decide) mt_22 rfl dR_divide_46 ?_
        refine xg_aload_n hX 2 dR_divide_49 rfl rfl ?_
        refine xg_get hX (ci := 0) rfl hinR 4 rfl 1 (by decide) mt_22 rfl dR_divide_50 ?_
        refine xg_icmp_eqB hX 60 dR_divide_53 (by decide) (fun h53 => ?_) (fun h53 => ?_)
        ·
          refine xg_iconst hX (nI 0) dR_divide_60 (by decide) ?_
          refine xg_top (bI false) rfl ?_
          refine xg_put hX tyR tyR_ok nmR (ci := 0) rfl hinR (ws' := [(tq, .inr (0, [.ref tp, .int (bI false)])), (tp, .inl (cI, 130, .inl (nf (qmx 0 (dvQ 32 xd yd))))), (xq, .inr (0, [.ref xp, .int (bI xs)])), (xp, .inl (cI, 130, .inl (nf xd))), (yq, .inr (0, [.ref yp, .int (bI ys)])), (yp, .inl (cI, 130, .inl (nf yd))), (zq, .inr (0, [.ref zp, .int (bI false)])), (zp, .inl (cI, 130, .inl (nf (dvR 32 xd yd (31 - 0)))))]) 0 rfl 1 (by decide) mt_22 rfl (xn_narB _) (xn_fitB _) (Nat.le_of_ble_eq_true rfl) rfl dR_divide_61 ?_
          refine xg_wsE (ws' := [(tq, .inr (0, [.ref tp, .int (bI (xs != ys))])), (tp, .inl (cI, 130, .inl (nf (qmx 0 (dvQ 32 xd yd))))), (xq, .inr (0, [.ref xp, .int (bI xs)])), (xp, .inl (cI, 130, .inl (nf xd))), (yq, .inr (0, [.ref yp, .int (bI ys)])), (yp, .inl (cI, 130, .inl (nf yd))), (zq, .inr (0, [.ref zp, .int (bI false)])), (zp, .inl (cI, 130, .inl (nf (dvR 32 xd yd (31 - 0)))))]) (by rw [← (show (bI false : Int32) = bI (xs != ys) from (by first | (rw [show (xs != ys) = false by simp [h53]]; done) | (rw [show (xs != ys) = true by simp [h53]]; done)))]) ?_
          refine xg_ext hX (g := dvR 32 xd yd 31) (ws' := [(tq, .inr (0, [.ref tp, .int (bI (xs != ys))])), (tp, .inl (cI, 130, .inl (nf (qmx 0 (dvQ 32 xd yd))))), (xq, .inr (0, [.ref xp, .int (bI xs)])), (xp, .inl (cI, 130, .inl (nf xd))), (yq, .inr (0, [.ref yp, .int (bI ys)])), (yp, .inl (cI, 130, .inl (nf yd))), (zq, .inr (0, [.ref zp, .int (bI false)])), (zp, .inl (cI, 130, .inl (nf (dvR 32 xd yd 31))))]) 7 rfl (fun j hj => rfl) rfl ?_
          exact hret () _ _ rfl trivial dR_divide_64
        ·
          refine xg_iconst hX (nI 1) dR_divide_56 (by decide) ?_
          refine xg_goto hX 61 dR_divide_57 (by decide) ?_
          refine xg_top (bI true) rfl ?_
          refine xg_put hX tyR tyR_ok nmR (ci := 0) rfl hinR (ws' := [(tq, .inr (0, [.ref tp, .int (bI true)])), (tp, .inl (cI, 130, .inl (nf (qmx 0 (dvQ 32 xd yd))))), (xq, .inr (0, [.ref xp, .int (bI xs)])), (xp, .inl (cI, 130, .inl (nf xd))), (yq, .inr (0, [.ref yp, .int (bI ys)])), (yp, .inl (cI, 130, .inl (nf yd))), (zq, .inr (0, [.ref zp, .int (bI false)])), (zp, .inl (cI, 130, .inl (nf (dvR 32 xd yd (31 - 0)))))]) 0 rfl 1 (by decide) mt_22 rfl (xn_narB _) (xn_fitB _) (Nat.le_of_ble_eq_true rfl) rfl dR_divide_61 ?_
          refine xg_wsE (ws' := [(tq, .inr (0, [.ref tp, .int (bI (xs != ys))])), (tp, .inl (cI, 130, .inl (nf (qmx 0 (dvQ 32 xd yd))))), (xq, .inr (0, [.ref xp, .int (bI xs)])), (xp, .inl (cI, 130, .inl (nf xd))), (yq, .inr (0, [.ref yp, .int (bI ys)])), (yp, .inl (cI, 130, .inl (nf yd))), (zq, .inr (0, [.ref zp, .int (bI false)])), (zp, .inl (cI, 130, .inl (nf (dvR 32 xd yd (31 - 0)))))]) (by rw [← (show (bI true : Int32) = bI (xs != ys) from (by first | (rw [show (xs != ys) = false by simp [h53]]; done) | (rw [show (xs != ys) = true by simp [h53]]; done)))]) ?_
          refine xg_ext hX (g := dvR 32 xd yd 31) (ws' := [(tq, .inr (0, [.ref tp, .int (bI (xs != ys))])), (tp, .inl (cI, 130, .inl (nf (qmx 0 (dvQ 32 xd yd))))), (xq, .inr (0, [.ref xp, .int (bI xs)])), (xp, .inl (cI, 130, .inl (nf xd))), (yq, .inr (0, [.ref yp, .int (bI ys)])), (yp, .inl (cI, 130, .inl (nf yd))), (zq, .inr (0, [.ref zp, .int (bI false)])), (zp, .inl (cI, 130, .inl (nf (dvR 32 xd yd 31))))]) 7 rfl (fun j hj => rfl) rfl ?_
          exact hret () _ _ rfl trivial dR_divide_64
      | succ j =>
        rw [nI_pred]
        have e1 := hxd j
        have e2 : ∀ i, bdW 32 (dvR 32 xd yd (31 - (j + 1))) (xd j) i < 10 := bdW_lt (dvR_lt hxd hyd _) (by omega)
        refine xg_iload hX 4 dR_divide_12 rfl ?_
        refine xg_if_ltN hX 44 (by omega) dR_divide_14 (by decide) ?_
        refine xg_aload_n hX 3 dR_divide_17 rfl rfl ?_
        refine xg_aload_n hX 1 dR_divide_18 rfl rfl ?_
        refine xg_iload hX 4 dR_divide_19 rfl ?_
        refine xg_cV hX xq [.int (nI j)] (hM := xc_digitAt l D cI xq xp xd xs j (by omega)) (wr := [(tq, .inr (0, [.ref tp, .int (bI false)])), (tp, .inl (cI, 130, .inl (nf (qmx (j + 1) (dvQ 32 xd yd))))), (yq, .inr (0, [.ref yp, .int (bI ys)])), (yp, .inl (cI, 130, .inl (nf yd))), (zq, .inr (0, [.ref zp, .int (bI false)])), (zp, .inl (cI, 130, .inl (nf (dvR 32 xd yd (31 - (j + 1))))))]) (ws' := fun _ => [(tq, .inr (0, [.ref tp, .int (bI false)])), (tp, .inl (cI, 130, .inl (nf (qmx (j + 1) (dvQ 32 xd yd))))), (xq, .inr (0, [.ref xp, .int (bI xs)])), (xp, .inl (cI, 130, .inl (nf xd))), (yq, .inr (0, [.ref yp, .int (bI ys)])), (yp, .inl (cI, 130, .inl (nf yd))), (zq, .inr (0, [.ref zp, .int (bI false)])), (zp, .inl (cI, 130, .inl (nf (dvR 32 xd yd (31 - (j + 1))))))]) (st' := fun _ => [.int (nI (xd j)), .ref zq]) [2, 3] [0, 1, 4, 5, 6, 7] [0, 1, 6, 7, 2, 3, 4, 5] [.ref zq] rfl mt_144 mt_141 mt_2 mt_142 mt_143 0 rfl rfl hdR_digitAt (by decide) ⟨rfl, rfl⟩ (by decide) rfl rfl (by decide) rfl (by decide) (by decide) (by decide) (fun u => rfl) (fun u => rfl) (fun u => rfl) rfl rfl (by simp [Value.category]) dR_divide_21 (fun _ _ => ?_)
        refine xg_cV hX zq [.int (nI (xd j))] (hM := xc_bringDown l D cI zq zp (dvR 32 xd yd (31 - (j + 1))) false (xd j)) (wr := [(tq, .inr (0, [.ref tp, .int (bI false)])), (tp, .inl (cI, 130, .inl (nf (qmx (j + 1) (dvQ 32 xd yd))))), (xq, .inr (0, [.ref xp, .int (bI xs)])), (xp, .inl (cI, 130, .inl (nf xd))), (yq, .inr (0, [.ref yp, .int (bI ys)])), (yp, .inl (cI, 130, .inl (nf yd)))]) (ws' := fun _ => [(tq, .inr (0, [.ref tp, .int (bI false)])), (tp, .inl (cI, 130, .inl (nf (qmx (j + 1) (dvQ 32 xd yd))))), (xq, .inr (0, [.ref xp, .int (bI xs)])), (xp, .inl (cI, 130, .inl (nf xd))), (yq, .inr (0, [.ref yp, .int (bI ys)])), (yp, .inl (cI, 130, .inl (nf yd))), (zq, .inr (0, [.ref zp, .int (bI false)])), (zp, .inl (cI, 130, .inl (nf (bdW 32 (dvR 32 xd yd (31 - (j + 1))) (xd j)))))]) (st' := fun _ => []) [6, 7] [0, 1, 2, 3, 4, 5] [0, 1, 2, 3, 4, 5, 6, 7] [] rfl mt_201 mt_198 mt_2 mt_200 mp_7 0 rfl rfl hdR_bringDown (by decide) ⟨rfl, rfl⟩ (by decide) rfl rfl (by decide) rfl (by decide) (by decide) (by decide) (fun u => rfl) (fun u => rfl) (fun u => rfl) rfl rfl (by simp [Value.category]) dR_divide_24 (fun _ _ => ?_)
        refine xg_aload_n hX 0 dR_divide_27 rfl rfl ?_
        refine xg_iload hX 4 dR_divide_28 rfl ?_
        refine xg_aload_n hX 3 dR_divide_30 rfl rfl ?_
        refine xg_aload_n hX 2 dR_divide_31 rfl rfl ?_
        refine xg_cV hX zq [.ref yq] (hM := xc_takeAway l D cI zq zp (bdW 32 (dvR 32 xd yd (31 - (j + 1))) (xd j)) false yq yp yd ys e2 hyd) (wr := [(tq, .inr (0, [.ref tp, .int (bI false)])), (tp, .inl (cI, 130, .inl (nf (qmx (j + 1) (dvQ 32 xd yd))))), (xq, .inr (0, [.ref xp, .int (bI xs)])), (xp, .inl (cI, 130, .inl (nf xd)))]) (ws' := fun _ => [(tq, .inr (0, [.ref tp, .int (bI false)])), (tp, .inl (cI, 130, .inl (nf (qmx (j + 1) (dvQ 32 xd yd))))), (xq, .inr (0, [.ref xp, .int (bI xs)])), (xp, .inl (cI, 130, .inl (nf xd))), (yq, .inr (0, [.ref yp, .int (bI ys)])), (yp, .inl (cI, 130, .inl (nf yd))), (zq, .inr (0, [.ref zp, .int (bI false)])), (zp, .inl (cI, 130, .inl (nf ((taF 32 yd 9 (bdW 32 (dvR 32 xd yd (31 - (j + 1))) (xd j))).2))))]) (st' := fun _ => [.int (nI ((taF 32 yd 9 (bdW 32 (dvR 32 xd yd (31 - (j + 1))) (xd j))).1)), .int (nI j), .ref tq]) [6, 7, 4, 5] [0, 1, 2, 3] [0, 1, 2, 3, 6, 7, 4, 5] [.int (nI j), .ref tq] rfl mt_205 mt_202 mt_2 mt_204 mp_8 0 rfl rfl hdR_takeAway (by decide) ⟨rfl, rfl⟩ (by decide) rfl rfl (by decide) rfl (by decide) (by decide) (by decide) (fun u => rfl) (fun u => rfl) (fun u => rfl) rfl rfl (by simp [Value.category]) dR_divide_32 (fun _ _ => ?_)
        refine xg_cV hX tq [.int (nI j), .int (nI ((taF 32 yd 9 (bdW 32 (dvR 32 xd yd (31 - (j + 1))) (xd j))).1))] (hM := xc_setDigit l D cI tq tp (qmx (j + 1) (dvQ 32 xd yd)) false j ((taF 32 yd 9 (bdW 32 (dvR 32 xd yd (31 - (j + 1))) (xd j))).1) (by omega)) (wr := [(xq, .inr (0, [.ref xp, .int (bI xs)])), (xp, .inl (cI, 130, .inl (nf xd))), (yq, .inr (0, [.ref yp, .int (bI ys)])), (yp, .inl (cI, 130, .inl (nf yd))), (zq, .inr (0, [.ref zp, .int (bI false)])), (zp, .inl (cI, 130, .inl (nf ((taF 32 yd 9 (bdW 32 (dvR 32 xd yd (31 - (j + 1))) (xd j))).2))))]) (ws' := fun _ => [(tq, .inr (0, [.ref tp, .int (bI false)])), (tp, .inl (cI, 130, .inl (nf (up (qmx (j + 1) (dvQ 32 xd yd)) j ((taF 32 yd 9 (bdW 32 (dvR 32 xd yd (31 - (j + 1))) (xd j))).1))))), (xq, .inr (0, [.ref xp, .int (bI xs)])), (xp, .inl (cI, 130, .inl (nf xd))), (yq, .inr (0, [.ref yp, .int (bI ys)])), (yp, .inl (cI, 130, .inl (nf yd))), (zq, .inr (0, [.ref zp, .int (bI false)])), (zp, .inl (cI, 130, .inl (nf ((taF 32 yd 9 (bdW 32 (dvR 32 xd yd (31 - (j + 1))) (xd j))).2))))]) (st' := fun _ => []) [0, 1] [2, 3, 4, 5, 6, 7] [6, 7, 0, 1, 2, 3, 4, 5] [] rfl mt_128 mt_154 mt_2 mt_126 mt_127 0 rfl rfl hdR_setDigit (by decide) ⟨rfl, rfl⟩ (by decide) rfl rfl (by decide) rfl (by decide) (by decide) (by decide) (fun u => rfl) (fun u => rfl) (fun u => rfl) rfl rfl (by simp [Value.category]) dR_divide_35 (fun _ _ => ?_)
        refine xg_iinc hX (lv' := [(4, .int (nI j - 1)), (0, .ref tq), (1, .ref xq), (2, .ref yq), (3, .ref zq)]) (nI j - 1) 4 dR_divide_38 rfl (xn_decZ _) (by decide) rfl ?_
        refine xg_goto hX 12 dR_divide_41 (by decide) ?_
        refine xg_ext hX (g := qmx j (dvQ 32 xd yd)) (ws' := [(tq, .inr (0, [.ref tp, .int (bI false)])), (tp, .inl (cI, 130, .inl (nf (qmx j (dvQ 32 xd yd))))), (xq, .inr (0, [.ref xp, .int (bI xs)])), (xp, .inl (cI, 130, .inl (nf xd))), (yq, .inr (0, [.ref yp, .int (bI ys)])), (yp, .inl (cI, 130, .inl (nf yd))), (zq, .inr (0, [.ref zp, .int (bI false)])), (zp, .inl (cI, 130, .inl (nf ((taF 32 yd 9 (bdW 32 (dvR 32 xd yd (31 - (j + 1))) (xd j))).2))))]) 1 rfl (fun i hi => qmx_s (by omega) (dv_q (by omega)) i) rfl ?_
        refine xg_ext hX (g := dvR 32 xd yd (31 - j)) (ws' := [(tq, .inr (0, [.ref tp, .int (bI false)])), (tp, .inl (cI, 130, .inl (nf (qmx j (dvQ 32 xd yd))))), (xq, .inr (0, [.ref xp, .int (bI xs)])), (xp, .inl (cI, 130, .inl (nf xd))), (yq, .inr (0, [.ref yp, .int (bI ys)])), (yp, .inl (cI, 130, .inl (nf yd))), (zq, .inr (0, [.ref zp, .int (bI false)])), (zp, .inl (cI, 130, .inl (nf (dvR 32 xd yd (31 - j)))))]) 7 rfl (fun i hi => by rw [dv_s (by omega)]) rfl ?_
        refine xg_lv hX (lv' := [(0, .ref tq), (1, .ref xq), (2, .ref yq), (3, .ref zq), (4, .int (nI j - 1))]) [1, 2, 3, 4, 0] rfl ?_
        exact ih3 j (by omega) (by omega)
  refine xg_ext hX (g := qmx 31 (dvQ 32 xd yd)) (ws' := [(tq, .inr (0, [.ref tp, .int (bI false)])), (tp, .inl (cI, 130, .inl (nf (qmx 31 (dvQ 32 xd yd))))), (xq, .inr (0, [.ref xp, .int (bI xs)])), (xp, .inl (cI, 130, .inl (nf xd))), (yq, .inr (0, [.ref yp, .int (bI ys)])), (yp, .inl (cI, 130, .inl (nf yd))), (zq, .inr (0, [.ref zp, .int (bI false)])), (zp, .inl (cI, 130, .inl (nf zf)))]) 1 rfl (fun j hj => qmx_31 j hj) rfl ?_
  refine xg_ext hX (g := dvR 32 xd yd (31 - 31)) (ws' := [(tq, .inr (0, [.ref tp, .int (bI false)])), (tp, .inl (cI, 130, .inl (nf (qmx 31 (dvQ 32 xd yd))))), (xq, .inr (0, [.ref xp, .int (bI xs)])), (xp, .inl (cI, 130, .inl (nf xd))), (yq, .inr (0, [.ref yp, .int (bI ys)])), (yp, .inl (cI, 130, .inl (nf yd))), (zq, .inr (0, [.ref zp, .int (bI false)])), (zp, .inl (cI, 130, .inl (nf (dvR 32 xd yd (31 - 31)))))]) 7 rfl (fun j hj => rfl) rfl ?_
  refine xg_lv hX (lv' := [(0, .ref tq), (1, .ref xq), (2, .ref yq), (3, .ref zq), (4, .int (nI 30))]) [1, 2, 3, 4, 0] rfl ?_
  refine xg_lvE (lv' := [(0, .ref tq), (1, .ref xq), (2, .ref yq), (3, .ref zq), (4, .int (nI 31 - 1))]) (by rw [← (show (nI 30 : Int32) = nI 31 - 1 from (by first | rfl | decide))]) ?_
  exact lp1 (31 + 1) 31 (by omega) (Nat.lt_succ_self _)
set_option maxHeartbeats 4000000 in
set_option maxRecDepth 100000 in
theorem xc_moveLeft (l : Launch) (D : va_G) (cI : ClassId) (tq : Nat) (tp : Nat) (td : Nat → Nat) (ts : Bool) (xq : Nat) (xp : Nat) (xd : Nat → Nat) (xs : Bool) (b : Int32) (hb1 : -99 ≤ b.toInt) (hb2 : b.toInt ≤ 99) (hxd : ∀ j, xd j < 10) : Ctr l D cI yR_moveLeft cR_moveLeft 4 none { frames := 2, cells := 0, slots := 0, locals := 43 } [.ref tq, .ref xq, .int b] [(tq, .inr (0, [.ref tp, .int (bI ts)])), (tp, .inl (cI, 130, .inl (nf td))), (xq, .inr (0, [.ref xp, .int (bI xs)])), (xp, .inl (cI, 130, .inl (nf xd)))] (fun _ : Unit => none) (fun _ : Unit => True) (fun _ : Unit => [(tq, .inr (0, [.ref tp, .int (bI xs)])), (tp, .inl (cI, 130, .inl (nf (mvI xd b.toInt 31)))), (xq, .inr (0, [.ref xp, .int (bI xs)])), (xp, .inl (cI, 130, .inl (nf xd)))]) 0 0 := by
  refine xc_mkV (by decide +kernel) (Nat.le_of_ble_eq_true rfl) (fun X hX hin hret => ?_)
  show GG D X 0 0 0 [(tq, .inr (0, [.ref tp, .int (bI ts)])), (tp, .inl (cI, 130, .inl (nf td))), (xq, .inr (0, [.ref xp, .int (bI xs)])), (xp, .inl (cI, 130, .inl (nf xd)))] [(0, .ref tq), (1, .ref xq), (2, .int b)] []
  refine xg_aload_n hX 0 dR_moveLeft_0 rfl rfl ?_
  refine xg_cV hX tq [] (hM := xc_clear l D cI tq tp td ts) (wr := [(xq, .inr (0, [.ref xp, .int (bI xs)])), (xp, .inl (cI, 130, .inl (nf xd)))]) (ws' := fun _ => [(tq, .inr (0, [.ref tp, .int (bI false)])), (tp, .inl (cI, 130, .inl (nf zf))), (xq, .inr (0, [.ref xp, .int (bI xs)])), (xp, .inl (cI, 130, .inl (nf xd)))]) (st' := fun _ => []) [0, 1] [2, 3] [2, 3, 0, 1] [] rfl mt_121 mt_149 mt_2 mt_119 mt_120 0 rfl rfl hdR_clear (by decide) ⟨rfl, rfl⟩ (by decide) rfl rfl (by decide) rfl (by decide) (by decide) (by decide) (fun u => rfl) (fun u => rfl) (fun u => rfl) rfl rfl (by simp [Value.category]) dR_moveLeft_1 (fun _ _ => ?_)
  refine xg_iconst hX (nI 0) dR_moveLeft_4 (by decide) ?_
  refine xg_istore_n hX (lv' := [(3, .int (nI 0)), (0, .ref tq), (1, .ref xq), (2, .int b)]) dR_moveLeft_5 rfl (by decide) rfl ?_
  have lp1 : ∀ (fu2 : Nat) (i : Nat), (i ≤ 31) → 31 - i < fu2 → GG D X 0 0 6 [(tq, .inr (0, [.ref tp, .int (bI false)])), (tp, .inl (cI, 130, .inl (nf (mvI xd b.toInt i)))), (xq, .inr (0, [.ref xp, .int (bI xs)])), (xp, .inl (cI, 130, .inl (nf xd)))] [(0, .ref tq), (1, .ref xq), (2, .int b), (3, .int (nI i))] [] := by
    intro fu2
    induction fu2 with
    | zero => intro i hi hm4; exact absurd hm4 (Nat.not_lt_zero _)
    | succ fu2 ih3 =>
      intro i hi hm4
      refine xg_iload_n hX 3 dR_moveLeft_6 rfl rfl ?_
      refine xg_bipush hX (nI 31) dR_moveLeft_7 (by decide) ?_
      refine xg_icmp_geN hX 30 (by omega) (by omega) dR_moveLeft_9 (by decide) (fun hh_5 => ?_) (fun hh_5 => ?_)
      ·
        refine xg_aload_n hX 0 dR_moveLeft_30 rfl rfl ?_
        refine xg_aload_n hX 1 dR_moveLeft_31 rfl rfl ?_
        refine xg_get hX (ci := 0) rfl hinR 2 rfl 1 (by decide) mt_22 rfl dR_moveLeft_32 ?_
        refine xg_put hX tyR tyR_ok nmR (ci := 0) rfl hinR (ws' := [(tq, .inr (0, [.ref tp, .int (bI xs)])), (tp, .inl (cI, 130, .inl (nf (mvI xd b.toInt i)))), (xq, .inr (0, [.ref xp, .int (bI xs)])), (xp, .inl (cI, 130, .inl (nf xd)))]) 0 rfl 1 (by decide) mt_22 rfl (xn_narB _) (xn_fitB _) (Nat.le_of_ble_eq_true rfl) rfl dR_moveLeft_35 ?_
        have hie : i = 31 := by omega
        refine xg_ext hX (g := mvI xd b.toInt 31) (ws' := [(tq, .inr (0, [.ref tp, .int (bI xs)])), (tp, .inl (cI, 130, .inl (nf (mvI xd b.toInt 31)))), (xq, .inr (0, [.ref xp, .int (bI xs)])), (xp, .inl (cI, 130, .inl (nf xd)))]) 1 rfl (fun j hj => by first | rfl | (rw [hie]; done) | (rw [hie]; rfl)) rfl ?_
        exact hret () _ _ rfl trivial dR_moveLeft_38
      ·
        refine xg_aload_n hX 0 dR_moveLeft_12 rfl rfl ?_
        refine xg_iload_n hX 3 dR_moveLeft_13 rfl rfl ?_
        refine xg_iload_n hX 2 dR_moveLeft_14 rfl rfl ?_
        refine xg_iadd hX dR_moveLeft_15 ?_
        rcases Int.lt_or_le ((i : Int) + b.toInt) 0 with hs | hs
        ·
          have hs2 : (nI i + b).toInt < 0 := by rw [xn_addZ (by omega) (by omega) (by omega)]; exact hs
          refine xg_aload_n hX 1 dR_moveLeft_16 rfl rfl ?_
          refine xg_iload_n hX 3 dR_moveLeft_17 rfl rfl ?_
          refine xg_cV hX xq [.int (nI i)] (hM := xc_digitAt l D cI xq xp xd xs i (by omega)) (wr := [(tq, .inr (0, [.ref tp, .int (bI false)])), (tp, .inl (cI, 130, .inl (nf (mvI xd b.toInt i))))]) (ws' := fun _ => [(tq, .inr (0, [.ref tp, .int (bI false)])), (tp, .inl (cI, 130, .inl (nf (mvI xd b.toInt i)))), (xq, .inr (0, [.ref xp, .int (bI xs)])), (xp, .inl (cI, 130, .inl (nf xd)))]) (st' := fun _ => [.int (nI (xd i)), .int ((nI i) + b), .ref tq]) [2, 3] [0, 1] [0, 1, 2, 3] [.int ((nI i) + b), .ref tq] rfl mt_144 mt_141 mt_2 mt_142 mt_143 0 rfl rfl hdR_digitAt (by decide) ⟨rfl, rfl⟩ (by decide) rfl rfl (by decide) rfl (by decide) (by decide) (by decide) (fun u => rfl) (fun u => rfl) (fun u => rfl) rfl rfl (by simp [Value.category]) dR_moveLeft_18 (fun _ _ => ?_)
          refine xg_cV hX tq [.int ((nI i) + b), .int (nI (xd i))] (hM := xc_setDigitNeg l D cI tq tp (mvI xd b.toInt i) false ((nI i) + b) (xd i) hs2) (wr := [(xq, .inr (0, [.ref xp, .int (bI xs)])), (xp, .inl (cI, 130, .inl (nf xd)))]) (ws' := fun _ => [(tq, .inr (0, [.ref tp, .int (bI false)])), (tp, .inl (cI, 130, .inl (nf (mvI xd b.toInt i)))), (xq, .inr (0, [.ref xp, .int (bI xs)])), (xp, .inl (cI, 130, .inl (nf xd)))]) (st' := fun _ => []) [0, 1] [2, 3] [2, 3, 0, 1] [] rfl mt_128 mt_154 mt_2 mt_126 mt_127 0 rfl rfl hdR_setDigit (by decide) ⟨rfl, rfl⟩ (by decide) rfl rfl (by decide) rfl (by decide) (by decide) (by decide) (fun u => rfl) (fun u => rfl) (fun u => rfl) rfl rfl (by simp [Value.category]) dR_moveLeft_21 (fun _ _ => ?_)
          refine xg_iincN hX (lv' := [(3, .int (nI (i + 1))), (0, .ref tq), (1, .ref xq), (2, .int b)]) (i + 1) 3 dR_moveLeft_24 rfl (xn_inc _) (by decide) rfl ?_
          refine xg_goto hX 6 dR_moveLeft_27 (by decide) ?_
          refine xg_ext hX (g := mvI xd b.toInt (i + 1)) (ws' := [(tq, .inr (0, [.ref tp, .int (bI false)])), (tp, .inl (cI, 130, .inl (nf (mvI xd b.toInt (i + 1))))), (xq, .inr (0, [.ref xp, .int (bI xs)])), (xp, .inl (cI, 130, .inl (nf xd)))]) 1 rfl (fun j hj => by first | exact mvI_neg hs j | exact mvI_s hkk j) rfl ?_
          refine xg_lv hX (lv' := [(0, .ref tq), (1, .ref xq), (2, .int b), (3, .int (nI (i + 1)))]) [1, 2, 3, 0] rfl ?_
          exact ih3 (i + 1) (by omega) (by omega)
        ·
          obtain ⟨kk, hkk, hke⟩ : ∃ kk : Nat, (kk : Int) = (i : Int) + b.toInt ∧ nI i + b = nI kk := ⟨((i : Int) + b.toInt).toNat, Int.toNat_of_nonneg hs, xn_addN (by omega) (by omega) hs⟩
          refine xg_top (nI kk) hke ?_
          refine xg_aload_n hX 1 dR_moveLeft_16 rfl rfl ?_
          refine xg_iload_n hX 3 dR_moveLeft_17 rfl rfl ?_
          refine xg_cV hX xq [.int (nI i)] (hM := xc_digitAt l D cI xq xp xd xs i (by omega)) (wr := [(tq, .inr (0, [.ref tp, .int (bI false)])), (tp, .inl (cI, 130, .inl (nf (mvI xd b.toInt i))))]) (ws' := fun _ => [(tq, .inr (0, [.ref tp, .int (bI false)])), (tp, .inl (cI, 130, .inl (nf (mvI xd b.toInt i)))), (xq, .inr (0, [.ref xp, .int (bI xs)])), (xp, .inl (cI, 130, .inl (nf xd)))]) (st' := fun _ => [.int (nI (xd i)), .int (nI kk), .ref tq]) [2, 3] [0, 1] [0, 1, 2, 3] [.int (nI kk), .ref tq] rfl mt_144 mt_141 mt_2 mt_142 mt_143 0 rfl rfl hdR_digitAt (by decide) ⟨rfl, rfl⟩ (by decide) rfl rfl (by decide) rfl (by decide) (by decide) (by decide) (fun u => rfl) (fun u => rfl) (fun u => rfl) rfl rfl (by simp [Value.category]) dR_moveLeft_18 (fun _ _ => ?_)
          refine xg_cV hX tq [.int (nI kk), .int (nI (xd i))] (hM := xc_setDigit l D cI tq tp (mvI xd b.toInt i) false kk (xd i) (by omega)) (wr := [(xq, .inr (0, [.ref xp, .int (bI xs)])), (xp, .inl (cI, 130, .inl (nf xd)))]) (ws' := fun _ => [(tq, .inr (0, [.ref tp, .int (bI false)])), (tp, .inl (cI, 130, .inl (nf (up (mvI xd b.toInt i) kk (xd i))))), (xq, .inr (0, [.ref xp, .int (bI xs)])), (xp, .inl (cI, 130, .inl (nf xd)))]) (st' := fun _ => []) [0, 1] [2, 3] [2, 3, 0, 1] [] rfl mt_128 mt_154 mt_2 mt_126 mt_127 0 rfl rfl hdR_setDigit (by decide) ⟨rfl, rfl⟩ (by decide) rfl rfl (by decide) rfl (by decide) (by decide) (by decide) (fun u => rfl) (fun u => rfl) (fun u => rfl) rfl rfl (by simp [Value.category]) dR_moveLeft_21 (fun _ _ => ?_)
          refine xg_iincN hX (lv' := [(3, .int (nI (i + 1))), (0, .ref tq), (1, .ref xq), (2, .int b)]) (i + 1) 3 dR_moveLeft_24 rfl (xn_inc _) (by decide) rfl ?_
          refine xg_goto hX 6 dR_moveLeft_27 (by decide) ?_
          refine xg_ext hX (g := mvI xd b.toInt (i + 1)) (ws' := [(tq, .inr (0, [.ref tp, .int (bI false)])), (tp, .inl (cI, 130, .inl (nf (mvI xd b.toInt (i + 1))))), (xq, .inr (0, [.ref xp, .int (bI xs)])), (xp, .inl (cI, 130, .inl (nf xd)))]) 1 rfl (fun j hj => by first | exact mvI_neg hs j | exact mvI_s hkk j) rfl ?_
          refine xg_lv hX (lv' := [(0, .ref tq), (1, .ref xq), (2, .int b), (3, .int (nI (i + 1)))]) [1, 2, 3, 0] rfl ?_
          exact ih3 (i + 1) (by omega) (by omega)
  refine xg_ext hX (g := mvI xd b.toInt 0) (ws' := [(tq, .inr (0, [.ref tp, .int (bI false)])), (tp, .inl (cI, 130, .inl (nf (mvI xd b.toInt 0)))), (xq, .inr (0, [.ref xp, .int (bI xs)])), (xp, .inl (cI, 130, .inl (nf xd)))]) 1 rfl (fun j hj => mvI_0 j) rfl ?_
  refine xg_lv hX (lv' := [(0, .ref tq), (1, .ref xq), (2, .int b), (3, .int (nI 0))]) [1, 2, 3, 0] rfl ?_
  exact lp1 (31 - 0 + 1) 0 (by omega) (Nat.lt_succ_self _)
