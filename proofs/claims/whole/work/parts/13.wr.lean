set_option maxHeartbeats 4000000 in
set_option maxRecDepth 100000 in
theorem xc_begin (l : Launch) (D : va_G) (cI : ClassId) (wq : Nat) (pw : Nat) (pt : Nat) (cn : Nat) (lf : Nat) (sg : Bool) (bl : Bool) (zr : Bool) (fi : Nat) (si : Nat) (W : Nat → Nat) (T : Nat → Nat) (xq : Nat) (xp : Nat) (xd : Nat → Nat) (xs : Bool) (n : Nat) (hxd : ∀ j, xd j < 10) : Ctr l D cI yW_begin cW_begin 4 none { frames := 3, cells := 0, slots := 0, locals := 64 } [.ref wq, .ref xq, .int (nI n)] [(wq, .inr (1, [.ref pw, .ref pt, .int (nI cn), .int (nI lf), .int (bI sg), .int (bI bl), .int (bI zr), .int (nI fi), .int (nI si)])), (pw, .inl (cI, 64, .inl (nf W))), (pt, .inl (cI, 31, .inl (nf T))), (xq, .inr (0, [.ref xp, .int (bI xs)])), (xp, .inl (cI, 130, .inl (nf xd)))] (fun _ : Unit => none) (fun _ : Unit => True) (fun _ : Unit => [(wq, .inr (1, [.ref pw, .ref pt, .int (nI 0), .int (nI n), .int (bI false), .int (bI xs), .int (bI (!hasD xd 0 130)), .int (nI 32), .int (nI (if xs = true then 45 else 32))])), (pw, .inl (cI, 64, .inl (nf W))), (pt, .inl (cI, 31, .inl (nf xd))), (xq, .inr (0, [.ref xp, .int (bI xs)])), (xp, .inl (cI, 130, .inl (nf xd)))]) 0 0 := by
  refine xc_mkV (by decide +kernel) (Nat.le_of_ble_eq_true rfl) (fun X hX hin hret => ?_)
  show GG D X 0 0 0 [(wq, .inr (1, [.ref pw, .ref pt, .int (nI cn), .int (nI lf), .int (bI sg), .int (bI bl), .int (bI zr), .int (nI fi), .int (nI si)])), (pw, .inl (cI, 64, .inl (nf W))), (pt, .inl (cI, 31, .inl (nf T))), (xq, .inr (0, [.ref xp, .int (bI xs)])), (xp, .inl (cI, 130, .inl (nf xd)))] [(0, .ref wq), (1, .ref xq), (2, .int (nI n))] []
  refine xg_iconst hX (nI 0) dW_begin_0 (by decide) ?_
  refine xg_istore_n hX (lv' := [(3, .int (nI 0)), (0, .ref wq), (1, .ref xq), (2, .int (nI n))]) dW_begin_1 rfl (by decide) rfl ?_
  have lp1 : ∀ (fu2 : Nat) (i : Nat), (i ≤ 31) → 31 - i < fu2 → GG D X 0 0 2 [(wq, .inr (1, [.ref pw, .ref pt, .int (nI cn), .int (nI lf), .int (bI sg), .int (bI bl), .int (bI zr), .int (nI fi), .int (nI si)])), (pw, .inl (cI, 64, .inl (nf W))), (pt, .inl (cI, 31, .inl (nf (mix i xd T)))), (xq, .inr (0, [.ref xp, .int (bI xs)])), (xp, .inl (cI, 130, .inl (nf xd)))] [(0, .ref wq), (1, .ref xq), (2, .int (nI n)), (3, .int (nI i))] [] := by
    intro fu2
    induction fu2 with
    | zero => intro i hi hm4; exact absurd hm4 (Nat.not_lt_zero _)
    | succ fu2 ih3 =>
      intro i hi hm4
      refine xg_iload_n hX 3 dW_begin_2 rfl rfl ?_
      refine xg_bipush hX (nI 31) dW_begin_3 (by decide) ?_
      refine xg_icmp_geN hX 25 (by omega) (by omega) dW_begin_5 (by decide) (fun hh_5 => ?_) (fun hh_5 => ?_)
      ·
        refine xg_aload_n hX 0 dW_begin_25 rfl rfl ?_
        refine xg_iconst hX (nI 0) dW_begin_26 (by decide) ?_
        refine xg_put hX tyW tyW_ok nmW (ci := 1) rfl hinW (ws' := [(wq, .inr (1, [.ref pw, .ref pt, .int (nI 0), .int (nI lf), .int (bI sg), .int (bI bl), .int (bI zr), .int (nI fi), .int (nI si)])), (pw, .inl (cI, 64, .inl (nf W))), (pt, .inl (cI, 31, .inl (nf (mix i xd T)))), (xq, .inr (0, [.ref xp, .int (bI xs)])), (xp, .inl (cI, 130, .inl (nf xd)))]) 0 rfl 2 (by decide) mt_39 rfl rfl rfl (Nat.le_of_ble_eq_true rfl) rfl dW_begin_27 ?_
        refine xg_aload_n hX 0 dW_begin_30 rfl rfl ?_
        refine xg_iload_n hX 2 dW_begin_31 rfl rfl ?_
        refine xg_put hX tyW tyW_ok nmW (ci := 1) rfl hinW (ws' := [(wq, .inr (1, [.ref pw, .ref pt, .int (nI 0), .int (nI n), .int (bI sg), .int (bI bl), .int (bI zr), .int (nI fi), .int (nI si)])), (pw, .inl (cI, 64, .inl (nf W))), (pt, .inl (cI, 31, .inl (nf (mix i xd T)))), (xq, .inr (0, [.ref xp, .int (bI xs)])), (xp, .inl (cI, 130, .inl (nf xd)))]) 0 rfl 3 (by decide) mt_41 rfl rfl rfl (Nat.le_of_ble_eq_true rfl) rfl dW_begin_32 ?_
        refine xg_aload_n hX 0 dW_begin_35 rfl rfl ?_
        refine xg_iconst hX (nI 0) dW_begin_36 (by decide) ?_
        refine xg_top (bI false) rfl ?_
        refine xg_put hX tyW tyW_ok nmW (ci := 1) rfl hinW (ws' := [(wq, .inr (1, [.ref pw, .ref pt, .int (nI 0), .int (nI n), .int (bI false), .int (bI bl), .int (bI zr), .int (nI fi), .int (nI si)])), (pw, .inl (cI, 64, .inl (nf W))), (pt, .inl (cI, 31, .inl (nf (mix i xd T)))), (xq, .inr (0, [.ref xp, .int (bI xs)])), (xp, .inl (cI, 130, .inl (nf xd)))]) 0 rfl 4 (by decide) mt_43 rfl (xn_narB _) (xn_fitB _) (Nat.le_of_ble_eq_true rfl) rfl dW_begin_37 ?_
        refine xg_aload_n hX 0 dW_begin_40 rfl rfl ?_
        refine xg_aload_n hX 1 dW_begin_41 rfl rfl ?_
        refine xg_get hX (ci := 0) rfl hinR 3 rfl 1 (by decide) mt_23 rfl dW_begin_42 ?_
        refine xg_put hX tyW tyW_ok nmW (ci := 1) rfl hinW (ws' := [(wq, .inr (1, [.ref pw, .ref pt, .int (nI 0), .int (nI n), .int (bI false), .int (bI xs), .int (bI zr), .int (nI fi), .int (nI si)])), (pw, .inl (cI, 64, .inl (nf W))), (pt, .inl (cI, 31, .inl (nf (mix i xd T)))), (xq, .inr (0, [.ref xp, .int (bI xs)])), (xp, .inl (cI, 130, .inl (nf xd)))]) 0 rfl 5 (by decide) mt_45 rfl (xn_narB _) (xn_fitB _) (Nat.le_of_ble_eq_true rfl) rfl dW_begin_45 ?_
        refine xg_aload_n hX 0 dW_begin_48 rfl rfl ?_
        refine xg_aload_n hX 1 dW_begin_49 rfl rfl ?_
        refine xg_cV hX xq [] (hM := xc_isZero l D cI xq xp xd xs hxd) (wr := [(wq, .inr (1, [.ref pw, .ref pt, .int (nI 0), .int (nI n), .int (bI false), .int (bI xs), .int (bI zr), .int (nI fi), .int (nI si)])), (pw, .inl (cI, 64, .inl (nf W))), (pt, .inl (cI, 31, .inl (nf (mix i xd T))))]) (ws' := fun _ => [(wq, .inr (1, [.ref pw, .ref pt, .int (nI 0), .int (nI n), .int (bI false), .int (bI xs), .int (bI zr), .int (nI fi), .int (nI si)])), (pw, .inl (cI, 64, .inl (nf W))), (pt, .inl (cI, 31, .inl (nf (mix i xd T)))), (xq, .inr (0, [.ref xp, .int (bI xs)])), (xp, .inl (cI, 130, .inl (nf xd)))]) (st' := fun _ => [.int (bI (!hasD xd 0 130)), .ref wq]) [3, 4] [0, 1, 2] [0, 1, 2, 3, 4] [.ref wq] rfl mt_136 mt_270 mt_2 mt_134 mt_135 0 rfl rfl hdR_isZero (by decide) ⟨rfl, rfl⟩ (by decide) rfl rfl (by decide) rfl (by decide) (by decide) (by decide) (fun u => rfl) (fun u => rfl) (fun u => rfl) rfl rfl (by simp [Value.category]) dW_begin_50 (fun _ _ => ?_)
        refine xg_put hX tyW tyW_ok nmW (ci := 1) rfl hinW (ws' := [(wq, .inr (1, [.ref pw, .ref pt, .int (nI 0), .int (nI n), .int (bI false), .int (bI xs), .int (bI (!hasD xd 0 130)), .int (nI fi), .int (nI si)])), (pw, .inl (cI, 64, .inl (nf W))), (pt, .inl (cI, 31, .inl (nf (mix i xd T)))), (xq, .inr (0, [.ref xp, .int (bI xs)])), (xp, .inl (cI, 130, .inl (nf xd)))]) 0 rfl 6 (by decide) mt_46 rfl (xn_narB _) (xn_fitB _) (Nat.le_of_ble_eq_true rfl) rfl dW_begin_53 ?_
        refine xg_aload_n hX 0 dW_begin_56 rfl rfl ?_
        refine xg_bipush hX (nI 32) dW_begin_57 (by decide) ?_
        refine xg_put hX tyW tyW_ok nmW (ci := 1) rfl hinW (ws' := [(wq, .inr (1, [.ref pw, .ref pt, .int (nI 0), .int (nI n), .int (bI false), .int (bI xs), .int (bI (!hasD xd 0 130)), .int (nI 32), .int (nI si)])), (pw, .inl (cI, 64, .inl (nf W))), (pt, .inl (cI, 31, .inl (nf (mix i xd T)))), (xq, .inr (0, [.ref xp, .int (bI xs)])), (xp, .inl (cI, 130, .inl (nf xd)))]) 0 rfl 7 (by decide) mt_47 rfl rfl rfl (Nat.le_of_ble_eq_true rfl) rfl dW_begin_59 ?_
        refine xg_aload_n hX 0 dW_begin_62 rfl rfl ?_
        refine xg_aload_n hX 0 dW_begin_63 rfl rfl ?_
        refine xg_get hX (ci := 1) rfl hinW 0 rfl 5 (by decide) mt_45 rfl dW_begin_64 ?_
        refine xg_if_eqB hX 75 dW_begin_67 (by decide) (fun h67 => ?_) (fun h67 => ?_)
        ·
          refine xg_bipush hX (nI 32) dW_begin_75 (by decide) ?_
          refine xg_put hX tyW tyW_ok nmW (ci := 1) rfl hinW (ws' := [(wq, .inr (1, [.ref pw, .ref pt, .int (nI 0), .int (nI n), .int (bI false), .int (bI xs), .int (bI (!hasD xd 0 130)), .int (nI 32), .int (nI 32)])), (pw, .inl (cI, 64, .inl (nf W))), (pt, .inl (cI, 31, .inl (nf (mix i xd T)))), (xq, .inr (0, [.ref xp, .int (bI xs)])), (xp, .inl (cI, 130, .inl (nf xd)))]) 0 rfl 8 (by decide) mt_48 rfl rfl rfl (Nat.le_of_ble_eq_true rfl) rfl dW_begin_77 ?_
          have hie : i = 31 := by omega
          refine xg_wsE (ws' := [(wq, .inr (1, [.ref pw, .ref pt, .int (nI 0), .int (nI n), .int (bI false), .int (bI xs), .int (bI (!hasD xd 0 130)), .int (nI 32), .int (nI (if xs = true then 45 else 32))])), (pw, .inl (cI, 64, .inl (nf W))), (pt, .inl (cI, 31, .inl (nf (mix i xd T)))), (xq, .inr (0, [.ref xp, .int (bI xs)])), (xp, .inl (cI, 130, .inl (nf xd)))]) (by rw [← (show (nI 32 : Int32) = nI (if xs = true then 45 else 32) from (by rw [h67] <;> rfl))]) ?_
          refine xg_ext hX (g := xd) (ws' := [(wq, .inr (1, [.ref pw, .ref pt, .int (nI 0), .int (nI n), .int (bI false), .int (bI xs), .int (bI (!hasD xd 0 130)), .int (nI 32), .int (nI (if xs = true then 45 else 32))])), (pw, .inl (cI, 64, .inl (nf W))), (pt, .inl (cI, 31, .inl (nf xd))), (xq, .inr (0, [.ref xp, .int (bI xs)])), (xp, .inl (cI, 130, .inl (nf xd)))]) 2 rfl (fun j hj => by rw [hie]; exact mix_lo hj) rfl ?_
          exact hret () _ _ rfl trivial dW_begin_80
        ·
          refine xg_bipush hX (nI 45) dW_begin_70 (by decide) ?_
          refine xg_goto hX 77 dW_begin_72 (by decide) ?_
          refine xg_put hX tyW tyW_ok nmW (ci := 1) rfl hinW (ws' := [(wq, .inr (1, [.ref pw, .ref pt, .int (nI 0), .int (nI n), .int (bI false), .int (bI xs), .int (bI (!hasD xd 0 130)), .int (nI 32), .int (nI 45)])), (pw, .inl (cI, 64, .inl (nf W))), (pt, .inl (cI, 31, .inl (nf (mix i xd T)))), (xq, .inr (0, [.ref xp, .int (bI xs)])), (xp, .inl (cI, 130, .inl (nf xd)))]) 0 rfl 8 (by decide) mt_48 rfl rfl rfl (Nat.le_of_ble_eq_true rfl) rfl dW_begin_77 ?_
          have hie : i = 31 := by omega
          refine xg_wsE (ws' := [(wq, .inr (1, [.ref pw, .ref pt, .int (nI 0), .int (nI n), .int (bI false), .int (bI xs), .int (bI (!hasD xd 0 130)), .int (nI 32), .int (nI (if xs = true then 45 else 32))])), (pw, .inl (cI, 64, .inl (nf W))), (pt, .inl (cI, 31, .inl (nf (mix i xd T)))), (xq, .inr (0, [.ref xp, .int (bI xs)])), (xp, .inl (cI, 130, .inl (nf xd)))]) (by rw [← (show (nI 45 : Int32) = nI (if xs = true then 45 else 32) from (by rw [h67] <;> rfl))]) ?_
          refine xg_ext hX (g := xd) (ws' := [(wq, .inr (1, [.ref pw, .ref pt, .int (nI 0), .int (nI n), .int (bI false), .int (bI xs), .int (bI (!hasD xd 0 130)), .int (nI 32), .int (nI (if xs = true then 45 else 32))])), (pw, .inl (cI, 64, .inl (nf W))), (pt, .inl (cI, 31, .inl (nf xd))), (xq, .inr (0, [.ref xp, .int (bI xs)])), (xp, .inl (cI, 130, .inl (nf xd)))]) 2 rfl (fun j hj => by rw [hie]; exact mix_lo hj) rfl ?_
          exact hret () _ _ rfl trivial dW_begin_80
      ·
        refine xg_aload_n hX 0 dW_begin_8 rfl rfl ?_
        refine xg_get hX (ci := 1) rfl hinW 0 rfl 1 (by decide) mt_38 rfl dW_begin_9 ?_
        refine xg_iload_n hX 3 dW_begin_12 rfl rfl ?_
        refine xg_aload_n hX 1 dW_begin_13 rfl rfl ?_
        refine xg_iload_n hX 3 dW_begin_14 rfl rfl ?_
        refine xg_cV hX xq [.int (nI i)] (hM := xc_digitAt l D cI xq xp xd xs i (by omega)) (wr := [(wq, .inr (1, [.ref pw, .ref pt, .int (nI cn), .int (nI lf), .int (bI sg), .int (bI bl), .int (bI zr), .int (nI fi), .int (nI si)])), (pw, .inl (cI, 64, .inl (nf W))), (pt, .inl (cI, 31, .inl (nf (mix i xd T))))]) (ws' := fun _ => [(wq, .inr (1, [.ref pw, .ref pt, .int (nI cn), .int (nI lf), .int (bI sg), .int (bI bl), .int (bI zr), .int (nI fi), .int (nI si)])), (pw, .inl (cI, 64, .inl (nf W))), (pt, .inl (cI, 31, .inl (nf (mix i xd T)))), (xq, .inr (0, [.ref xp, .int (bI xs)])), (xp, .inl (cI, 130, .inl (nf xd)))]) (st' := fun _ => [.int (nI (xd i)), .int (nI i), .ref pt]) [3, 4] [0, 1, 2] [0, 1, 2, 3, 4] [.int (nI i), .ref pt] rfl mt_144 mt_269 mt_2 mt_142 mt_143 0 rfl rfl hdR_digitAt (by decide) ⟨rfl, rfl⟩ (by decide) rfl rfl (by decide) rfl (by decide) (by decide) (by decide) (fun u => rfl) (fun u => rfl) (fun u => rfl) rfl rfl (by simp [Value.category]) dW_begin_15 (fun _ _ => ?_)
        refine xg_iast hX (ws' := [(wq, .inr (1, [.ref pw, .ref pt, .int (nI cn), .int (nI lf), .int (bI sg), .int (bI bl), .int (bI zr), .int (nI fi), .int (nI si)])), (pw, .inl (cI, 64, .inl (nf W))), (pt, .inl (cI, 31, .inl (nf (up (mix i xd T) i (xd i))))), (xq, .inr (0, [.ref xp, .int (bI xs)])), (xp, .inl (cI, 130, .inl (nf xd)))]) 2 i (xd i) rfl (by omega) (by decide) rfl dW_begin_18 ?_
        refine xg_iincN hX (lv' := [(3, .int (nI (i + 1))), (0, .ref wq), (1, .ref xq), (2, .int (nI n))]) (i + 1) 3 dW_begin_19 rfl (xn_inc _) (by decide) rfl ?_
        refine xg_goto hX 2 dW_begin_22 (by decide) ?_
        refine xg_ext hX (g := mix (i + 1) xd T) (ws' := [(wq, .inr (1, [.ref pw, .ref pt, .int (nI cn), .int (nI lf), .int (bI sg), .int (bI bl), .int (bI zr), .int (nI fi), .int (nI si)])), (pw, .inl (cI, 64, .inl (nf W))), (pt, .inl (cI, 31, .inl (nf (mix (i + 1) xd T)))), (xq, .inr (0, [.ref xp, .int (bI xs)])), (xp, .inl (cI, 130, .inl (nf xd)))]) 2 rfl (fun j hj => mix_up rfl j) rfl ?_
        refine xg_lv hX (lv' := [(0, .ref wq), (1, .ref xq), (2, .int (nI n)), (3, .int (nI (i + 1)))]) [1, 2, 3, 0] rfl ?_
        exact ih3 (i + 1) (by omega) (by omega)
  refine xg_ext hX (g := mix 0 xd T) (ws' := [(wq, .inr (1, [.ref pw, .ref pt, .int (nI cn), .int (nI lf), .int (bI sg), .int (bI bl), .int (bI zr), .int (nI fi), .int (nI si)])), (pw, .inl (cI, 64, .inl (nf W))), (pt, .inl (cI, 31, .inl (nf (mix 0 xd T)))), (xq, .inr (0, [.ref xp, .int (bI xs)])), (xp, .inl (cI, 130, .inl (nf xd)))]) 2 rfl (fun j hj => mix_0 j) rfl ?_
  refine xg_lv hX (lv' := [(0, .ref wq), (1, .ref xq), (2, .int (nI n)), (3, .int (nI 0))]) [1, 2, 3, 0] rfl ?_
  exact lp1 (31 - 0 + 1) 0 (by omega) (Nat.lt_succ_self _)
set_option maxHeartbeats 4000000 in
set_option maxRecDepth 100000 in
theorem xc_takesNext (l : Launch) (D : va_G) (cI : ClassId) (k : Nat) (hk : k < 256) : Ctr l D cI yW_takesNext cW_takesNext 1 (some .boolean) { frames := 0, cells := 0, slots := 0, locals := 0 } [.int (nI k)] [] (fun _ : Unit => some (.int (bI (takesN k)))) (fun _ : Unit => True) (fun _ : Unit => []) 0 0 := by
  refine xc_mkZ (by decide +kernel) (Nat.le_of_ble_eq_true rfl) (fun X hX hret => ?_)
  show GG D X 0 0 0 [] [(0, .int (nI k))] []
  refine xg_iload_n hX 0 dW_takesNext_0 rfl rfl ?_
  refine xg_iconst hX (nI 4) dW_takesNext_1 (by decide) ?_
  refine xg_icmp_ltN hX 15 (by omega) (by omega) dW_takesNext_2 (by decide) (fun hh_1 => ?_) (fun hh_1 => ?_)
  ·
    refine xg_iconst hX (nI 0) dW_takesNext_15 (by decide) ?_
    refine xg_top (bI (takesN k)) (by unfold takesN; first | (rw [decide_eq_true (by omega)] <;> rfl) | (rw [decide_eq_false (by omega)] <;> rfl)) ?_
    exact hret () _ _ _ rfl (xn_narB _) trivial dW_takesNext_16
  ·
    refine xg_iload_n hX 0 dW_takesNext_5 rfl rfl ?_
    refine xg_bipush hX (nI 8) dW_takesNext_6 (by decide) ?_
    refine xg_icmp_gtN hX 15 (by omega) (by omega) dW_takesNext_8 (by decide) (fun hh_2 => ?_) (fun hh_2 => ?_)
    ·
      refine xg_iconst hX (nI 0) dW_takesNext_15 (by decide) ?_
      refine xg_top (bI (takesN k)) (by unfold takesN; first | (rw [decide_eq_true (by omega)] <;> rfl) | (rw [decide_eq_false (by omega)] <;> rfl)) ?_
      exact hret () _ _ _ rfl (xn_narB _) trivial dW_takesNext_16
    ·
      refine xg_iconst hX (nI 1) dW_takesNext_11 (by decide) ?_
      refine xg_goto hX 16 dW_takesNext_12 (by decide) ?_
      refine xg_top (bI (takesN k)) (by unfold takesN; first | (rw [decide_eq_true (by omega)] <;> rfl) | (rw [decide_eq_false (by omega)] <;> rfl)) ?_
      exact hret () _ _ _ rfl (xn_narB _) trivial dW_takesNext_16
set_option maxHeartbeats 4000000 in
set_option maxRecDepth 100000 in
theorem xc_charAt (l : Launch) (D : va_G) (cI : ClassId) (wq : Nat) (pw : Nat) (pt : Nat) (cn : Nat) (lf : Nat) (sg : Bool) (bl : Bool) (zr : Bool) (fi : Nat) (si : Nat) (W : Nat → Nat) (T : Nat → Nat) (k : Nat) (hk : k < 64) : Ctr l D cI yW_characterAt cW_characterAt 2 (some .int) { frames := 0, cells := 0, slots := 0, locals := 0 } [.ref wq, .int (nI k)] [(wq, .inr (1, [.ref pw, .ref pt, .int (nI cn), .int (nI lf), .int (bI sg), .int (bI bl), .int (bI zr), .int (nI fi), .int (nI si)])), (pw, .inl (cI, 64, .inl (nf W))), (pt, .inl (cI, 31, .inl (nf T)))] (fun _ : Unit => some (.int (nI (W k)))) (fun _ : Unit => True) (fun _ : Unit => [(wq, .inr (1, [.ref pw, .ref pt, .int (nI cn), .int (nI lf), .int (bI sg), .int (bI bl), .int (bI zr), .int (nI fi), .int (nI si)])), (pw, .inl (cI, 64, .inl (nf W))), (pt, .inl (cI, 31, .inl (nf T)))]) 0 0 := by
  refine xc_mkI (by decide +kernel) (Nat.le_of_ble_eq_true rfl) (fun X hX hret => ?_)
  show GG D X 0 0 0 [(wq, .inr (1, [.ref pw, .ref pt, .int (nI cn), .int (nI lf), .int (bI sg), .int (bI bl), .int (bI zr), .int (nI fi), .int (nI si)])), (pw, .inl (cI, 64, .inl (nf W))), (pt, .inl (cI, 31, .inl (nf T)))] [(0, .ref wq), (1, .int (nI k))] []
  refine xg_iload_n hX 1 dW_characterAt_0 rfl rfl ?_
  refine xg_if_ltN hX 19 (by omega) dW_characterAt_1 (by decide) ?_
  refine xg_iload_n hX 1 dW_characterAt_4 rfl rfl ?_
  refine xg_bipush hX (nI 64) dW_characterAt_5 (by decide) ?_
  refine xg_icmp_geN hX 19 (by omega) (by omega) dW_characterAt_7 (by decide) (fun hh_2 => absurd hh_2 (by omega)) (fun hh_2 => ?_)
  refine xg_aload_n hX 0 dW_characterAt_10 rfl rfl ?_
  refine xg_get hX (ci := 1) rfl hinW 0 rfl 0 (by decide) mt_37 rfl dW_characterAt_11 ?_
  refine xg_iload_n hX 1 dW_characterAt_14 rfl rfl ?_
  refine xg_iald hX 1 k rfl (by omega) (by decide) dW_characterAt_15 ?_
  refine xg_goto hX 21 dW_characterAt_16 (by decide) ?_
  exact hret () _ _ _ rfl trivial dW_characterAt_21
set_option maxHeartbeats 4000000 in
set_option maxRecDepth 100000 in
theorem xc_isRun (l : Launch) (D : va_G) (cI : ClassId) (k : Nat) (b : Nat) (hk : k < 256) (hb : b < 256) : Ctr l D cI yW_isRun cW_isRun 2 (some .boolean) { frames := 0, cells := 0, slots := 0, locals := 0 } [.int (nI k), .int (nI b)] [] (fun _ : Unit => some (.int (bI (decide (b < k ∧ k ≤ b + 15))))) (fun _ : Unit => True) (fun _ : Unit => []) 0 0 := by
  refine xc_mkZ (by decide +kernel) (Nat.le_of_ble_eq_true rfl) (fun X hX hret => ?_)
  show GG D X 0 0 0 [] [(0, .int (nI k)), (1, .int (nI b))] []
  refine xg_iload_n hX 0 dW_isRun_0 rfl rfl ?_
  refine xg_iload_n hX 1 dW_isRun_1 rfl rfl ?_
  refine xg_icmp_leN hX 17 (by omega) (by omega) dW_isRun_2 (by decide) (fun hh_1 => ?_) (fun hh_1 => ?_)
  ·
    refine xg_iconst hX (nI 0) dW_isRun_17 (by decide) ?_
    refine xg_top (bI (decide (b < k ∧ k ≤ b + 15))) (by first | (rw [decide_eq_true (by omega)] <;> rfl) | (rw [decide_eq_false (by omega)] <;> rfl)) ?_
    exact hret () _ _ _ rfl (xn_narB _) trivial dW_isRun_18
  ·
    refine xg_iload_n hX 0 dW_isRun_5 rfl rfl ?_
    refine xg_iload_n hX 1 dW_isRun_6 rfl rfl ?_
    refine xg_bipush hX (nI 15) dW_isRun_7 (by decide) ?_
    refine xg_iaddN hX dW_isRun_9 ?_
    refine xg_icmp_gtN hX 17 (by omega) (by omega) dW_isRun_10 (by decide) (fun hh_2 => ?_) (fun hh_2 => ?_)
    ·
      refine xg_iconst hX (nI 0) dW_isRun_17 (by decide) ?_
      refine xg_top (bI (decide (b < k ∧ k ≤ b + 15))) (by first | (rw [decide_eq_true (by omega)] <;> rfl) | (rw [decide_eq_false (by omega)] <;> rfl)) ?_
      exact hret () _ _ _ rfl (xn_narB _) trivial dW_isRun_18
    ·
      refine xg_iconst hX (nI 1) dW_isRun_13 (by decide) ?_
      refine xg_goto hX 18 dW_isRun_14 (by decide) ?_
      refine xg_top (bI (decide (b < k ∧ k ≤ b + 15))) (by first | (rw [decide_eq_true (by omega)] <;> rfl) | (rw [decide_eq_false (by omega)] <;> rfl)) ?_
      exact hret () _ _ _ rfl (xn_narB _) trivial dW_isRun_18
set_option maxHeartbeats 4000000 in
set_option maxRecDepth 100000 in
theorem xc_write (l : Launch) (D : va_G) (cI : ClassId) (wq : Nat) (pw : Nat) (pt : Nat) (cn : Nat) (lf : Nat) (sg : Bool) (bl : Bool) (zr : Bool) (fi : Nat) (si : Nat) (W : Nat → Nat) (T : Nat → Nat) (c : Nat) (hcn : cn ≤ 64) : Ctr l D cI yW_write cW_write 2 (some .boolean) { frames := 0, cells := 0, slots := 0, locals := 0 } [.ref wq, .int (nI c)] [(wq, .inr (1, [.ref pw, .ref pt, .int (nI cn), .int (nI lf), .int (bI sg), .int (bI bl), .int (bI zr), .int (nI fi), .int (nI si)])), (pw, .inl (cI, 64, .inl (nf W))), (pt, .inl (cI, 31, .inl (nf T)))] (fun u : Bool × (Nat → Nat) × Nat × Nat × Bool × Nat × Nat => match u with | (ok, W2, cn2, lf2, sg2, fi2, si2) => some (.int (bI ok))) (fun u : Bool × (Nat → Nat) × Nat × Nat × Bool × Nat × Nat => match u with | (ok, W2, cn2, lf2, sg2, fi2, si2) => pres ok (pWr c (W, cn, lf, sg, fi, si)) (W2, cn2, lf2, sg2, fi2, si2)) (fun u : Bool × (Nat → Nat) × Nat × Nat × Bool × Nat × Nat => match u with | (ok, W2, cn2, lf2, sg2, fi2, si2) => [(wq, .inr (1, [.ref pw, .ref pt, .int (nI cn2), .int (nI lf2), .int (bI sg2), .int (bI bl), .int (bI zr), .int (nI fi2), .int (nI si2)])), (pw, .inl (cI, 64, .inl (nf W2))), (pt, .inl (cI, 31, .inl (nf T)))]) 0 0 := by
  refine xc_mkZ (by decide +kernel) (Nat.le_of_ble_eq_true rfl) (fun X hX hret => ?_)
  show GG D X 0 0 0 [(wq, .inr (1, [.ref pw, .ref pt, .int (nI cn), .int (nI lf), .int (bI sg), .int (bI bl), .int (bI zr), .int (nI fi), .int (nI si)])), (pw, .inl (cI, 64, .inl (nf W))), (pt, .inl (cI, 31, .inl (nf T)))] [(0, .ref wq), (1, .int (nI c))] []
  refine xg_aload_n hX 0 dW_write_0 rfl rfl ?_
  refine xg_get hX (ci := 1) rfl hinW 0 rfl 2 (by decide) mt_39 rfl dW_write_1 ?_
  refine xg_if_ltN hX 16 (by omega) dW_write_4 (by decide) ?_
  refine xg_aload_n hX 0 dW_write_7 rfl rfl ?_
  refine xg_get hX (ci := 1) rfl hinW 0 rfl 2 (by decide) mt_39 rfl dW_write_8 ?_
  refine xg_bipush hX (nI 64) dW_write_11 (by decide) ?_
  refine xg_icmp_ltN hX 18 (by omega) (by omega) dW_write_13 (by decide) (fun h13 => ?_) (fun h13 => ?_)
  ·
    refine xg_aload_n hX 0 dW_write_18 rfl rfl ?_
    refine xg_get hX (ci := 1) rfl hinW 0 rfl 0 (by decide) mt_37 rfl dW_write_19 ?_
    refine xg_aload_n hX 0 dW_write_22 rfl rfl ?_
    refine xg_get hX (ci := 1) rfl hinW 0 rfl 2 (by decide) mt_39 rfl dW_write_23 ?_
    refine xg_iload_n hX 1 dW_write_26 rfl rfl ?_
    refine xg_iast hX (ws' := [(wq, .inr (1, [.ref pw, .ref pt, .int (nI cn), .int (nI lf), .int (bI sg), .int (bI bl), .int (bI zr), .int (nI fi), .int (nI si)])), (pw, .inl (cI, 64, .inl (nf (up W cn c)))), (pt, .inl (cI, 31, .inl (nf T)))]) 1 cn c rfl (by omega) (by decide) rfl dW_write_27 ?_
    refine xg_aload_n hX 0 dW_write_28 rfl rfl ?_
    refine xg_dup hX dW_write_29 rfl ?_
    refine xg_get hX (ci := 1) rfl hinW 0 rfl 2 (by decide) mt_39 rfl dW_write_30 ?_
    refine xg_iconst hX (nI 1) dW_write_33 (by decide) ?_
    refine xg_iaddN hX dW_write_34 ?_
    refine xg_put hX tyW tyW_ok nmW (ci := 1) rfl hinW (ws' := [(wq, .inr (1, [.ref pw, .ref pt, .int (nI (cn + 1)), .int (nI lf), .int (bI sg), .int (bI bl), .int (bI zr), .int (nI fi), .int (nI si)])), (pw, .inl (cI, 64, .inl (nf (up W cn c)))), (pt, .inl (cI, 31, .inl (nf T)))]) 0 rfl 2 (by decide) mt_39 rfl rfl rfl (Nat.le_of_ble_eq_true rfl) rfl dW_write_35 ?_
    refine xg_iconst hX (nI 1) dW_write_38 (by decide) ?_
    refine xg_top (bI true) rfl ?_
    exact hret (true, up W cn c, cn + 1, lf, sg, fi, si) _ _ _ rfl (xn_narB _) (show pres true (pWr c (W, cn, lf, sg, fi, si)) ((up W cn c), (cn + 1), lf, sg, fi, si) from (pres_t (if_pos h13))) dW_write_39
  ·
    refine xg_iconst hX (nI 0) dW_write_16 (by decide) ?_
    refine xg_top (bI false) rfl ?_
    exact hret (false, W, cn, lf, sg, fi, si) _ _ _ rfl (xn_narB _) (show pres false (pWr c (W, cn, lf, sg, fi, si)) (W, cn, lf, sg, fi, si) from (pres_f (if_neg (by show ¬ cn < 64; omega)))) dW_write_17
set_option maxHeartbeats 4000000 in
set_option maxRecDepth 100000 in
theorem xc_writeFills (l : Launch) (D : va_G) (cI : ClassId) (wq : Nat) (pw : Nat) (pt : Nat) (cn : Nat) (lf : Nat) (sg : Bool) (bl : Bool) (zr : Bool) (fi : Nat) (si : Nat) (W : Nat → Nat) (T : Nat → Nat) (x : Nat) (hx : x ≤ 15) (hcn : cn ≤ 64) : Ctr l D cI yW_writeFills cW_writeFills 3 (some .boolean) { frames := 1, cells := 0, slots := 0, locals := 21 } [.ref wq, .int (nI x)] [(wq, .inr (1, [.ref pw, .ref pt, .int (nI cn), .int (nI lf), .int (bI sg), .int (bI bl), .int (bI zr), .int (nI fi), .int (nI si)])), (pw, .inl (cI, 64, .inl (nf W))), (pt, .inl (cI, 31, .inl (nf T)))] (fun u : Bool × (Nat → Nat) × Nat × Nat × Bool × Nat × Nat => match u with | (ok, W2, cn2, lf2, sg2, fi2, si2) => some (.int (bI ok))) (fun u : Bool × (Nat → Nat) × Nat × Nat × Bool × Nat × Nat => match u with | (ok, W2, cn2, lf2, sg2, fi2, si2) => pres ok (pFl x (W, cn, lf, sg, fi, si)) (W2, cn2, lf2, sg2, fi2, si2)) (fun u : Bool × (Nat → Nat) × Nat × Nat × Bool × Nat × Nat => match u with | (ok, W2, cn2, lf2, sg2, fi2, si2) => [(wq, .inr (1, [.ref pw, .ref pt, .int (nI cn2), .int (nI lf2), .int (bI sg2), .int (bI bl), .int (bI zr), .int (nI fi2), .int (nI si2)])), (pw, .inl (cI, 64, .inl (nf W2))), (pt, .inl (cI, 31, .inl (nf T)))]) 0 0 := by
  refine xc_mkZ (by decide +kernel) (Nat.le_of_ble_eq_true rfl) (fun X hX hret => ?_)
  show GG D X 0 0 0 [(wq, .inr (1, [.ref pw, .ref pt, .int (nI cn), .int (nI lf), .int (bI sg), .int (bI bl), .int (bI zr), .int (nI fi), .int (nI si)])), (pw, .inl (cI, 64, .inl (nf W))), (pt, .inl (cI, 31, .inl (nf T)))] [(0, .ref wq), (1, .int (nI x))] []
  refine xg_iconst hX (nI 0) dW_writeFills_0 (by decide) ?_
  refine xg_istore_n hX (lv' := [(2, .int (nI 0)), (0, .ref wq), (1, .int (nI x))]) dW_writeFills_1 rfl (by decide) rfl ?_
  have lp1 : ∀ (fu2 : Nat) (i : Nat) (Vw : Nat → Nat) (vc : Nat), (i ≤ x) → (vc ≤ 64) → (pFl x (W, cn, lf, sg, fi, si) = pFl (x - i) (Vw, vc, lf, sg, fi, si)) → x - i < fu2 → GG D X 0 0 2 [(wq, .inr (1, [.ref pw, .ref pt, .int (nI vc), .int (nI lf), .int (bI sg), .int (bI bl), .int (bI zr), .int (nI fi), .int (nI si)])), (pw, .inl (cI, 64, .inl (nf Vw))), (pt, .inl (cI, 31, .inl (nf T)))] [(0, .ref wq), (1, .int (nI x)), (2, .int (nI i))] [] := by
    intro fu2
    induction fu2 with
    | zero => intro i Vw vc hi hvc hq hm4; exact absurd hm4 (Nat.not_lt_zero _)
    | succ fu2 ih3 =>
      intro i Vw vc hi hvc hq hm4
      refine xg_iload_n hX 2 dW_writeFills_2 rfl rfl ?_
      refine xg_iload_n hX 1 dW_writeFills_3 rfl rfl ?_
      refine xg_icmp_geN hX 26 (by omega) (by omega) dW_writeFills_4 (by decide) (fun h4 => ?_) (fun h4 => ?_)
      ·
        refine xg_iconst hX (nI 1) dW_writeFills_26 (by decide) ?_
        refine xg_top (bI true) rfl ?_
        exact hret (true, Vw, vc, lf, sg, fi, si) _ _ _ rfl (xn_narB _) (show pres true (pFl x (W, cn, lf, sg, fi, si)) (Vw, vc, lf, sg, fi, si) from (pres_t (by rw [hq, show x - i = 0 by omega] <;> rfl))) dW_writeFills_27
      ·
        refine xg_aload_n hX 0 dW_writeFills_7 rfl rfl ?_
        refine xg_aload_n hX 0 dW_writeFills_8 rfl rfl ?_
        refine xg_get hX (ci := 1) rfl hinW 0 rfl 7 (by decide) mt_47 rfl dW_writeFills_9 ?_
        refine xg_cV hX wq [.int (nI fi)] (hM := xc_write l D cI wq pw pt vc lf sg bl zr fi si Vw T fi hvc) (wr := []) (ws' := fun u => match u with | (okA, W2A, cn2A, lf2A, sg2A, fi2A, si2A) => [(wq, .inr (1, [.ref pw, .ref pt, .int (nI cn2A), .int (nI lf2A), .int (bI sg2A), .int (bI bl), .int (bI zr), .int (nI fi2A), .int (nI si2A)])), (pw, .inl (cI, 64, .inl (nf W2A))), (pt, .inl (cI, 31, .inl (nf T)))]) (st' := fun u => match u with | (okA, W2A, cn2A, lf2A, sg2A, fi2A, si2A) => [.int (bI okA)]) [0, 1, 2] [] [0, 1, 2] [] rfl mt_293 mt_290 mt_3 mt_292 mp_13 0 rfl rfl hdW_write (by decide) ⟨rfl, rfl⟩ (by decide) rfl rfl (by decide) rfl (by decide) (by decide) (by decide) (fun u => rfl) (fun u => rfl) (fun u => rfl) rfl rfl (by simp [Value.category]) dW_writeFills_12 (fun u hu => ?_)
        obtain ⟨okA, W2A, cn2A, lf2A, sg2A, fi2A, si2A⟩ := u
        have huA : pres okA (pWr fi (Vw, vc, lf, sg, fi, si)) (W2A, cn2A, lf2A, sg2A, fi2A, si2A) := hu
        show GG D X 0 0 15 [(wq, .inr (1, [.ref pw, .ref pt, .int (nI cn2A), .int (nI lf2A), .int (bI sg2A), .int (bI bl), .int (bI zr), .int (nI fi2A), .int (nI si2A)])), (pw, .inl (cI, 64, .inl (nf W2A))), (pt, .inl (cI, 31, .inl (nf T)))] [(0, .ref wq), (1, .int (nI x)), (2, .int (nI i))] [.int (bI okA)]
        refine xg_if_neB hX 20 dW_writeFills_15 (by decide) (fun h15 => ?_) (fun h15 => ?_)
        ·
          obtain ⟨rfl, rfl, rfl, rfl, rfl, rfl, eA⟩ := pWr_eq (pres_some huA h15)
          refine xg_iincN hX (lv' := [(2, .int (nI (i + 1))), (0, .ref wq), (1, .int (nI x))]) (i + 1) 2 dW_writeFills_20 rfl (xn_inc _) (by decide) rfl ?_
          refine xg_goto hX 2 dW_writeFills_23 (by decide) ?_
          refine xg_lv hX (lv' := [(0, .ref wq), (1, .int (nI x)), (2, .int (nI (i + 1)))]) [1, 2, 0] rfl ?_
          exact ih3 (i + 1) (up Vw vc fi) (vc + 1) (by omega) (by omega) (by rw [hq, show x - i = (x - (i + 1)) + 1 by omega, pFl_s, pWr_lt eA] <;> rfl) (by omega)
        ·
          refine xg_iconst hX (nI 0) dW_writeFills_18 (by decide) ?_
          refine xg_top (bI false) rfl ?_
          exact hret (false, W2A, cn2A, lf2A, sg2A, fi2A, si2A) _ _ _ rfl (xn_narB _) (show pres false (pFl x (W, cn, lf, sg, fi, si)) (W2A, cn2A, lf2A, sg2A, fi2A, si2A) from (pres_f (by rw [hq, show x - i = (x - (i + 1)) + 1 by omega, pFl_s, pres_none huA h15] <;> rfl))) dW_writeFills_19
  refine xg_lv hX (lv' := [(0, .ref wq), (1, .int (nI x)), (2, .int (nI 0))]) [1, 2, 0] rfl ?_
  exact lp1 (x - 0 + 1) 0 W cn (by omega) (by omega) rfl (Nat.lt_succ_self _)
set_option maxHeartbeats 4000000 in
set_option maxRecDepth 100000 in
theorem xc_writeDigit (l : Launch) (D : va_G) (cI : ClassId) (wq : Nat) (pw : Nat) (pt : Nat) (cn : Nat) (lf : Nat) (sg : Bool) (bl : Bool) (zr : Bool) (fi : Nat) (si : Nat) (W : Nat → Nat) (T : Nat → Nat) (sd : Bool) (hlf : lf < 31) (hcn : cn ≤ 64) (hT : ∀ j, T j < 10) : Ctr l D cI yW_writeDigit cW_writeDigit 5 (some .boolean) { frames := 1, cells := 0, slots := 0, locals := 21 } [.ref wq, .int (nI lf), .int (bI sd)] [(wq, .inr (1, [.ref pw, .ref pt, .int (nI cn), .int (nI lf), .int (bI sg), .int (bI bl), .int (bI zr), .int (nI fi), .int (nI si)])), (pw, .inl (cI, 64, .inl (nf W))), (pt, .inl (cI, 31, .inl (nf T)))] (fun u : Bool × (Nat → Nat) × Nat × Nat × Bool × Nat × Nat => match u with | (ok, W2, cn2, lf2, sg2, fi2, si2) => some (.int (bI ok))) (fun u : Bool × (Nat → Nat) × Nat × Nat × Bool × Nat × Nat => match u with | (ok, W2, cn2, lf2, sg2, fi2, si2) => pres ok (pDg T sd (W, cn, lf + 1, sg, fi, si)) (W2, cn2, lf2, sg2, fi2, si2)) (fun u : Bool × (Nat → Nat) × Nat × Nat × Bool × Nat × Nat => match u with | (ok, W2, cn2, lf2, sg2, fi2, si2) => [(wq, .inr (1, [.ref pw, .ref pt, .int (nI cn2), .int (nI lf2), .int (bI sg2), .int (bI bl), .int (bI zr), .int (nI fi2), .int (nI si2)])), (pw, .inl (cI, 64, .inl (nf W2))), (pt, .inl (cI, 31, .inl (nf T)))]) 0 0 := by
  refine xc_mkZ (by decide +kernel) (Nat.le_of_ble_eq_true rfl) (fun X hX hret => ?_)
  show GG D X 0 0 0 [(wq, .inr (1, [.ref pw, .ref pt, .int (nI cn), .int (nI lf), .int (bI sg), .int (bI bl), .int (bI zr), .int (nI fi), .int (nI si)])), (pw, .inl (cI, 64, .inl (nf W))), (pt, .inl (cI, 31, .inl (nf T)))] [(0, .ref wq), (1, .int (nI lf)), (2, .int (bI sd))] []
  refine xg_iload_n hX 1 dW_writeDigit_0 rfl rfl ?_
  refine xg_if_ltN hX 19 (by omega) dW_writeDigit_1 (by decide) ?_
  refine xg_iload_n hX 1 dW_writeDigit_4 rfl rfl ?_
  refine xg_bipush hX (nI 31) dW_writeDigit_5 (by decide) ?_
  refine xg_icmp_geN hX 19 (by omega) (by omega) dW_writeDigit_7 (by decide) (fun hh_2 => absurd hh_2 (by omega)) (fun hh_2 => ?_)
  refine xg_aload_n hX 0 dW_writeDigit_10 rfl rfl ?_
  refine xg_get hX (ci := 1) rfl hinW 0 rfl 1 (by decide) mt_38 rfl dW_writeDigit_11 ?_
  refine xg_iload_n hX 1 dW_writeDigit_14 rfl rfl ?_
  refine xg_iald hX 2 lf rfl (by omega) (by decide) dW_writeDigit_15 ?_
  have eT := hT lf
  refine xg_goto hX 20 dW_writeDigit_16 (by decide) ?_
  refine xg_istore_n hX (lv' := [(3, .int (nI (T lf))), (0, .ref wq), (1, .int (nI lf)), (2, .int (bI sd))]) dW_writeDigit_20 rfl (by decide) rfl ?_
  refine xg_iload_n hX 0 dW_writeDigit_21 rfl rfl ?_
  refine xg_if_neN hX 41 (by omega) dW_writeDigit_22 (by decide) (fun h22 => ?_) (fun h22 => ?_)
  ·
    refine xg_iload_n hX 3 dW_writeDigit_41 rfl rfl ?_
    refine xg_if_eqB hX 56 dW_writeDigit_42 (by decide) (fun h42 => ?_) (fun h42 => ?_)
    ·
      refine xg_iconst hX (nI 0) dW_writeDigit_56 (by decide) ?_
      refine xg_istore hX (lv' := [(4, .int (nI 0)), (3, .int (nI (T lf))), (0, .ref wq), (1, .int (nI lf)), (2, .int (bI sd))]) dW_writeDigit_57 (by decide) rfl ?_
      refine xg_aload_n hX 2 dW_writeDigit_59 rfl rfl ?_
      refine xg_iconst hX (nI 1) dW_writeDigit_60 (by decide) ?_
      refine xg_top (bI true) rfl ?_
      refine xg_put hX tyW tyW_ok nmW (ci := 1) rfl hinW (ws' := [(wq, .inr (1, [.ref pw, .ref pt, .int (nI cn), .int (nI lf), .int (bI true), .int (bI bl), .int (bI zr), .int (nI fi), .int (nI si)])), (pw, .inl (cI, 64, .inl (nf W))), (pt, .inl (cI, 31, .inl (nf T)))]) 0 rfl 4 (by decide) mt_43 rfl (xn_narB _) (xn_fitB _) (Nat.le_of_ble_eq_true rfl) rfl dW_writeDigit_61 ?_
      refine xg_iload hX 0 dW_writeDigit_64 rfl ?_
      refine xg_if_eqN hX 82 (by omega) dW_writeDigit_66 (by decide) (fun _ => ?_) (fun h => absurd h (by decide))
      refine xg_aload_n hX 2 dW_writeDigit_82 rfl rfl ?_
      refine xg_bipush hX (nI 48) dW_writeDigit_83 (by decide) ?_
      refine xg_iload_n hX 1 dW_writeDigit_85 rfl rfl ?_
      refine xg_iaddN hX dW_writeDigit_86 ?_
      refine xg_cV hX wq [.int (nI (48 + (T lf)))] (hM := xc_write l D cI wq pw pt cn lf true bl zr fi si W T (48 + (T lf)) (by omega)) (wr := []) (ws' := fun u => match u with | (okC, W2C, cn2C, lf2C, sg2C, fi2C, si2C) => [(wq, .inr (1, [.ref pw, .ref pt, .int (nI cn2C), .int (nI lf2C), .int (bI sg2C), .int (bI bl), .int (bI zr), .int (nI fi2C), .int (nI si2C)])), (pw, .inl (cI, 64, .inl (nf W2C))), (pt, .inl (cI, 31, .inl (nf T)))]) (st' := fun u => match u with | (okC, W2C, cn2C, lf2C, sg2C, fi2C, si2C) => [.int (bI okC)]) [0, 1, 2] [] [0, 1, 2] [] rfl mt_293 mt_290 mt_3 mt_292 mp_13 0 rfl rfl hdW_write (by decide) ⟨rfl, rfl⟩ (by decide) rfl rfl (by decide) rfl (by decide) (by decide) (by decide) (fun u => rfl) (fun u => rfl) (fun u => rfl) rfl rfl (by simp [Value.category]) dW_writeDigit_87 (fun u hu => ?_)
      obtain ⟨okC, W2C, cn2C, lf2C, sg2C, fi2C, si2C⟩ := u
      have huC : pres okC (pWr (48 + (T lf)) (W, cn, lf, true, fi, si)) (W2C, cn2C, lf2C, sg2C, fi2C, si2C) := hu
      show GG D X 0 0 90 [(wq, .inr (1, [.ref pw, .ref pt, .int (nI cn2C), .int (nI lf2C), .int (bI sg2C), .int (bI bl), .int (bI zr), .int (nI fi2C), .int (nI si2C)])), (pw, .inl (cI, 64, .inl (nf W2C))), (pt, .inl (cI, 31, .inl (nf T)))] [(4, .int (nI 0)), (3, .int (nI (T lf))), (0, .ref wq), (1, .int (nI lf)), (2, .int (bI sd))] [.int (bI okC)]
      exact hret (okC, W2C, cn2C, lf2C, sg2C, fi2C, si2C) _ _ _ rfl (xn_narB _) (show pres okC (pDg T sd (W, cn, lf + 1, sg, fi, si)) (W2C, cn2C, lf2C, sg2C, fi2C, si2C) from (by rw [pDg_eq, if_neg (fun q => by first | omega | exact absurd (h29.symm.trans q.2) (by decide))]; first | (rw [if_pos ⟨h42, h49⟩, pWr_lt eB]; exact huC) | (rw [if_neg (fun q => by first | exact absurd (h42.symm.trans q.1) (by decide) | exact absurd (h49.symm.trans q.2) (by decide))]; exact huC))) dW_writeDigit_90
    ·
      refine xg_aload_n hX 1 dW_writeDigit_45 rfl rfl ?_
      refine xg_get hX (ci := 1) rfl hinW 0 rfl 4 (by decide) mt_43 rfl dW_writeDigit_46 ?_
      refine xg_if_neB hX 56 dW_writeDigit_49 (by decide) (fun h49 => ?_) (fun h49 => ?_)
      ·
        refine xg_iconst hX (nI 0) dW_writeDigit_56 (by decide) ?_
        refine xg_istore hX (lv' := [(4, .int (nI 0)), (3, .int (nI (T lf))), (0, .ref wq), (1, .int (nI lf)), (2, .int (bI sd))]) dW_writeDigit_57 (by decide) rfl ?_
        refine xg_aload_n hX 2 dW_writeDigit_59 rfl rfl ?_
        refine xg_iconst hX (nI 1) dW_writeDigit_60 (by decide) ?_
        refine xg_top (bI true) rfl ?_
        refine xg_put hX tyW tyW_ok nmW (ci := 1) rfl hinW (ws' := [(wq, .inr (1, [.ref pw, .ref pt, .int (nI cn), .int (nI lf), .int (bI true), .int (bI bl), .int (bI zr), .int (nI fi), .int (nI si)])), (pw, .inl (cI, 64, .inl (nf W))), (pt, .inl (cI, 31, .inl (nf T)))]) 0 rfl 4 (by decide) mt_43 rfl (xn_narB _) (xn_fitB _) (Nat.le_of_ble_eq_true rfl) rfl dW_writeDigit_61 ?_
        refine xg_iload hX 0 dW_writeDigit_64 rfl ?_
        refine xg_if_eqN hX 82 (by omega) dW_writeDigit_66 (by decide) (fun _ => ?_) (fun h => absurd h (by decide))
        refine xg_aload_n hX 2 dW_writeDigit_82 rfl rfl ?_
        refine xg_bipush hX (nI 48) dW_writeDigit_83 (by decide) ?_
        refine xg_iload_n hX 1 dW_writeDigit_85 rfl rfl ?_
        refine xg_iaddN hX dW_writeDigit_86 ?_
        refine xg_cV hX wq [.int (nI (48 + (T lf)))] (hM := xc_write l D cI wq pw pt cn lf true bl zr fi si W T (48 + (T lf)) (by omega)) (wr := []) (ws' := fun u => match u with | (okC, W2C, cn2C, lf2C, sg2C, fi2C, si2C) => [(wq, .inr (1, [.ref pw, .ref pt, .int (nI cn2C), .int (nI lf2C), .int (bI sg2C), .int (bI bl), .int (bI zr), .int (nI fi2C), .int (nI si2C)])), (pw, .inl (cI, 64, .inl (nf W2C))), (pt, .inl (cI, 31, .inl (nf T)))]) (st' := fun u => match u with | (okC, W2C, cn2C, lf2C, sg2C, fi2C, si2C) => [.int (bI okC)]) [0, 1, 2] [] [0, 1, 2] [] rfl mt_293 mt_290 mt_3 mt_292 mp_13 0 rfl rfl hdW_write (by decide) ⟨rfl, rfl⟩ (by decide) rfl rfl (by decide) rfl (by decide) (by decide) (by decide) (fun u => rfl) (fun u => rfl) (fun u => rfl) rfl rfl (by simp [Value.category]) dW_writeDigit_87 (fun u hu => ?_)
        obtain ⟨okC, W2C, cn2C, lf2C, sg2C, fi2C, si2C⟩ := u
        have huC : pres okC (pWr (48 + (T lf)) (W, cn, lf, true, fi, si)) (W2C, cn2C, lf2C, sg2C, fi2C, si2C) := hu
        show GG D X 0 0 90 [(wq, .inr (1, [.ref pw, .ref pt, .int (nI cn2C), .int (nI lf2C), .int (bI sg2C), .int (bI bl), .int (bI zr), .int (nI fi2C), .int (nI si2C)])), (pw, .inl (cI, 64, .inl (nf W2C))), (pt, .inl (cI, 31, .inl (nf T)))] [(4, .int (nI 0)), (3, .int (nI (T lf))), (0, .ref wq), (1, .int (nI lf)), (2, .int (bI sd))] [.int (bI okC)]
        exact hret (okC, W2C, cn2C, lf2C, sg2C, fi2C, si2C) _ _ _ rfl (xn_narB _) (show pres okC (pDg T sd (W, cn, lf + 1, sg, fi, si)) (W2C, cn2C, lf2C, sg2C, fi2C, si2C) from (by rw [pDg_eq, if_neg (fun q => by first | omega | exact absurd (h29.symm.trans q.2) (by decide))]; first | (rw [if_pos ⟨h42, h49⟩, pWr_lt eB]; exact huC) | (rw [if_neg (fun q => by first | exact absurd (h42.symm.trans q.1) (by decide) | exact absurd (h49.symm.trans q.2) (by decide))]; exact huC))) dW_writeDigit_90
      ·
        refine xg_iconst hX (nI 1) dW_writeDigit_52 (by decide) ?_
        refine xg_goto hX 57 dW_writeDigit_53 (by decide) ?_
        refine xg_istore hX (lv' := [(4, .int (nI 1)), (3, .int (nI (T lf))), (0, .ref wq), (1, .int (nI lf)), (2, .int (bI sd))]) dW_writeDigit_57 (by decide) rfl ?_
        refine xg_aload_n hX 2 dW_writeDigit_59 rfl rfl ?_
        refine xg_iconst hX (nI 1) dW_writeDigit_60 (by decide) ?_
        refine xg_top (bI true) rfl ?_
        refine xg_put hX tyW tyW_ok nmW (ci := 1) rfl hinW (ws' := [(wq, .inr (1, [.ref pw, .ref pt, .int (nI cn), .int (nI lf), .int (bI true), .int (bI bl), .int (bI zr), .int (nI fi), .int (nI si)])), (pw, .inl (cI, 64, .inl (nf W))), (pt, .inl (cI, 31, .inl (nf T)))]) 0 rfl 4 (by decide) mt_43 rfl (xn_narB _) (xn_fitB _) (Nat.le_of_ble_eq_true rfl) rfl dW_writeDigit_61 ?_
        refine xg_iload hX 0 dW_writeDigit_64 rfl ?_
        refine xg_if_eqN hX 82 (by omega) dW_writeDigit_66 (by decide) (fun h => absurd h (by decide)) (fun _ => ?_)
        refine xg_aload_n hX 2 dW_writeDigit_69 rfl rfl ?_
        refine xg_aload_n hX 2 dW_writeDigit_70 rfl rfl ?_
        refine xg_get hX (ci := 1) rfl hinW 0 rfl 8 (by decide) mt_48 rfl dW_writeDigit_71 ?_
        refine xg_cV hX wq [.int (nI si)] (hM := xc_write l D cI wq pw pt cn lf true bl zr fi si W T si hcn) (wr := []) (ws' := fun u => match u with | (okB, W2B, cn2B, lf2B, sg2B, fi2B, si2B) => [(wq, .inr (1, [.ref pw, .ref pt, .int (nI cn2B), .int (nI lf2B), .int (bI sg2B), .int (bI bl), .int (bI zr), .int (nI fi2B), .int (nI si2B)])), (pw, .inl (cI, 64, .inl (nf W2B))), (pt, .inl (cI, 31, .inl (nf T)))]) (st' := fun u => match u with | (okB, W2B, cn2B, lf2B, sg2B, fi2B, si2B) => [.int (bI okB)]) [0, 1, 2] [] [0, 1, 2] [] rfl mt_293 mt_290 mt_3 mt_292 mp_13 0 rfl rfl hdW_write (by decide) ⟨rfl, rfl⟩ (by decide) rfl rfl (by decide) rfl (by decide) (by decide) (by decide) (fun u => rfl) (fun u => rfl) (fun u => rfl) rfl rfl (by simp [Value.category]) dW_writeDigit_74 (fun u hu => ?_)
        obtain ⟨okB, W2B, cn2B, lf2B, sg2B, fi2B, si2B⟩ := u
        have huB : pres okB (pWr si (W, cn, lf, true, fi, si)) (W2B, cn2B, lf2B, sg2B, fi2B, si2B) := hu
        show GG D X 0 0 77 [(wq, .inr (1, [.ref pw, .ref pt, .int (nI cn2B), .int (nI lf2B), .int (bI sg2B), .int (bI bl), .int (bI zr), .int (nI fi2B), .int (nI si2B)])), (pw, .inl (cI, 64, .inl (nf W2B))), (pt, .inl (cI, 31, .inl (nf T)))] [(4, .int (nI 1)), (3, .int (nI (T lf))), (0, .ref wq), (1, .int (nI lf)), (2, .int (bI sd))] [.int (bI okB)]
        refine xg_if_neB hX 82 dW_writeDigit_77 (by decide) (fun h77 => ?_) (fun h77 => ?_)
        ·
          obtain ⟨rfl, rfl, rfl, rfl, rfl, rfl, eB⟩ := pWr_eq (pres_some huB h77)
          refine xg_aload_n hX 2 dW_writeDigit_82 rfl rfl ?_
          refine xg_bipush hX (nI 48) dW_writeDigit_83 (by decide) ?_
          refine xg_iload_n hX 1 dW_writeDigit_85 rfl rfl ?_
          refine xg_iaddN hX dW_writeDigit_86 ?_
          refine xg_cV hX wq [.int (nI (48 + (T lf)))] (hM := xc_write l D cI wq pw pt (cn + 1) lf true bl zr fi si (up W cn si) T (48 + (T lf)) (by omega)) (wr := []) (ws' := fun u => match u with | (okC, W2C, cn2C, lf2C, sg2C, fi2C, si2C) => [(wq, .inr (1, [.ref pw, .ref pt, .int (nI cn2C), .int (nI lf2C), .int (bI sg2C), .int (bI bl), .int (bI zr), .int (nI fi2C), .int (nI si2C)])), (pw, .inl (cI, 64, .inl (nf W2C))), (pt, .inl (cI, 31, .inl (nf T)))]) (st' := fun u => match u with | (okC, W2C, cn2C, lf2C, sg2C, fi2C, si2C) => [.int (bI okC)]) [0, 1, 2] [] [0, 1, 2] [] rfl mt_293 mt_290 mt_3 mt_292 mp_13 0 rfl rfl hdW_write (by decide) ⟨rfl, rfl⟩ (by decide) rfl rfl (by decide) rfl (by decide) (by decide) (by decide) (fun u => rfl) (fun u => rfl) (fun u => rfl) rfl rfl (by simp [Value.category]) dW_writeDigit_87 (fun u hu => ?_)
          obtain ⟨okC, W2C, cn2C, lf2C, sg2C, fi2C, si2C⟩ := u
          have huC : pres okC (pWr (48 + (T lf)) (up W cn si, cn + 1, lf, true, fi, si)) (W2C, cn2C, lf2C, sg2C, fi2C, si2C) := hu
          show GG D X 0 0 90 [(wq, .inr (1, [.ref pw, .ref pt, .int (nI cn2C), .int (nI lf2C), .int (bI sg2C), .int (bI bl), .int (bI zr), .int (nI fi2C), .int (nI si2C)])), (pw, .inl (cI, 64, .inl (nf W2C))), (pt, .inl (cI, 31, .inl (nf T)))] [(4, .int (nI 1)), (3, .int (nI (T lf))), (0, .ref wq), (1, .int (nI lf)), (2, .int (bI sd))] [.int (bI okC)]
          exact hret (okC, W2C, cn2C, lf2C, sg2C, fi2C, si2C) _ _ _ rfl (xn_narB _) (show pres okC (pDg T sd (W, cn, lf + 1, sg, fi, si)) (W2C, cn2C, lf2C, sg2C, fi2C, si2C) from (by rw [pDg_eq, if_neg (fun q => by first | omega | exact absurd (h29.symm.trans q.2) (by decide))]; first | (rw [if_pos ⟨h42, h49⟩, pWr_lt eB]; exact huC) | (rw [if_neg (fun q => by first | exact absurd (h42.symm.trans q.1) (by decide) | exact absurd (h49.symm.trans q.2) (by decide))]; exact huC))) dW_writeDigit_90
        ·
          refine xg_iconst hX (nI 0) dW_writeDigit_80 (by decide) ?_
          refine xg_top (bI false) rfl ?_
          exact hret (false, W2B, cn2B, lf2B, sg2B, fi2B, si2B) _ _ _ rfl (xn_narB _) (show pres false (pDg T sd (W, cn, lf + 1, sg, fi, si)) (W2B, cn2B, lf2B, sg2B, fi2B, si2B) from (pres_f (by rw [pDg_eq, if_neg (fun q => by first | omega | exact absurd (h29.symm.trans q.2) (by decide)), if_pos ⟨h42, h49⟩, pres_none huB h77] <;> rfl))) dW_writeDigit_81
  ·
    refine xg_aload_n hX 1 dW_writeDigit_25 rfl rfl ?_
    refine xg_get hX (ci := 1) rfl hinW 0 rfl 4 (by decide) mt_43 rfl dW_writeDigit_26 ?_
    refine xg_if_neB hX 41 dW_writeDigit_29 (by decide) (fun h29 => ?_) (fun h29 => ?_)
    ·
      refine xg_iload_n hX 3 dW_writeDigit_41 rfl rfl ?_
      refine xg_if_eqB hX 56 dW_writeDigit_42 (by decide) (fun h42 => ?_) (fun h42 => ?_)
      ·
        refine xg_iconst hX (nI 0) dW_writeDigit_56 (by decide) ?_
        refine xg_istore hX (lv' := [(4, .int (nI 0)), (3, .int (nI (T lf))), (0, .ref wq), (1, .int (nI lf)), (2, .int (bI sd))]) dW_writeDigit_57 (by decide) rfl ?_
        refine xg_aload_n hX 2 dW_writeDigit_59 rfl rfl ?_
        refine xg_iconst hX (nI 1) dW_writeDigit_60 (by decide) ?_
        refine xg_top (bI true) rfl ?_
        refine xg_put hX tyW tyW_ok nmW (ci := 1) rfl hinW (ws' := [(wq, .inr (1, [.ref pw, .ref pt, .int (nI cn), .int (nI lf), .int (bI true), .int (bI bl), .int (bI zr), .int (nI fi), .int (nI si)])), (pw, .inl (cI, 64, .inl (nf W))), (pt, .inl (cI, 31, .inl (nf T)))]) 0 rfl 4 (by decide) mt_43 rfl (xn_narB _) (xn_fitB _) (Nat.le_of_ble_eq_true rfl) rfl dW_writeDigit_61 ?_
        refine xg_iload hX 0 dW_writeDigit_64 rfl ?_
        refine xg_if_eqN hX 82 (by omega) dW_writeDigit_66 (by decide) (fun _ => ?_) (fun h => absurd h (by decide))
        refine xg_aload_n hX 2 dW_writeDigit_82 rfl rfl ?_
        refine xg_bipush hX (nI 48) dW_writeDigit_83 (by decide) ?_
        refine xg_iload_n hX 1 dW_writeDigit_85 rfl rfl ?_
        refine xg_iaddN hX dW_writeDigit_86 ?_
        refine xg_cV hX wq [.int (nI (48 + (T lf)))] (hM := xc_write l D cI wq pw pt cn lf true bl zr fi si W T (48 + (T lf)) (by omega)) (wr := []) (ws' := fun u => match u with | (okC, W2C, cn2C, lf2C, sg2C, fi2C, si2C) => [(wq, .inr (1, [.ref pw, .ref pt, .int (nI cn2C), .int (nI lf2C), .int (bI sg2C), .int (bI bl), .int (bI zr), .int (nI fi2C), .int (nI si2C)])), (pw, .inl (cI, 64, .inl (nf W2C))), (pt, .inl (cI, 31, .inl (nf T)))]) (st' := fun u => match u with | (okC, W2C, cn2C, lf2C, sg2C, fi2C, si2C) => [.int (bI okC)]) [0, 1, 2] [] [0, 1, 2] [] rfl mt_293 mt_290 mt_3 mt_292 mp_13 0 rfl rfl hdW_write (by decide) ⟨rfl, rfl⟩ (by decide) rfl rfl (by decide) rfl (by decide) (by decide) (by decide) (fun u => rfl) (fun u => rfl) (fun u => rfl) rfl rfl (by simp [Value.category]) dW_writeDigit_87 (fun u hu => ?_)
        obtain ⟨okC, W2C, cn2C, lf2C, sg2C, fi2C, si2C⟩ := u
        have huC : pres okC (pWr (48 + (T lf)) (W, cn, lf, true, fi, si)) (W2C, cn2C, lf2C, sg2C, fi2C, si2C) := hu
        show GG D X 0 0 90 [(wq, .inr (1, [.ref pw, .ref pt, .int (nI cn2C), .int (nI lf2C), .int (bI sg2C), .int (bI bl), .int (bI zr), .int (nI fi2C), .int (nI si2C)])), (pw, .inl (cI, 64, .inl (nf W2C))), (pt, .inl (cI, 31, .inl (nf T)))] [(4, .int (nI 0)), (3, .int (nI (T lf))), (0, .ref wq), (1, .int (nI lf)), (2, .int (bI sd))] [.int (bI okC)]
        exact hret (okC, W2C, cn2C, lf2C, sg2C, fi2C, si2C) _ _ _ rfl (xn_narB _) (show pres okC (pDg T sd (W, cn, lf + 1, sg, fi, si)) (W2C, cn2C, lf2C, sg2C, fi2C, si2C) from (by rw [pDg_eq, if_neg (fun q => by first | omega | exact absurd (h29.symm.trans q.2) (by decide))]; first | (rw [if_pos ⟨h42, h49⟩, pWr_lt eB]; exact huC) | (rw [if_neg (fun q => by first | exact absurd (h42.symm.trans q.1) (by decide) | exact absurd (h49.symm.trans q.2) (by decide))]; exact huC))) dW_writeDigit_90
      ·
        refine xg_aload_n hX 1 dW_writeDigit_45 rfl rfl ?_
        refine xg_get hX (ci := 1) rfl hinW 0 rfl 4 (by decide) mt_43 rfl dW_writeDigit_46 ?_
        refine xg_if_neB hX 56 dW_writeDigit_49 (by decide) (fun h49 => ?_) (fun h49 => ?_)
        ·
          refine xg_iconst hX (nI 0) dW_writeDigit_56 (by decide) ?_
          refine xg_istore hX (lv' := [(4, .int (nI 0)), (3, .int (nI (T lf))), (0, .ref wq), (1, .int (nI lf)), (2, .int (bI sd))]) dW_writeDigit_57 (by decide) rfl ?_
          refine xg_aload_n hX 2 dW_writeDigit_59 rfl rfl ?_
          refine xg_iconst hX (nI 1) dW_writeDigit_60 (by decide) ?_
          refine xg_top (bI true) rfl ?_
          refine xg_put hX tyW tyW_ok nmW (ci := 1) rfl hinW (ws' := [(wq, .inr (1, [.ref pw, .ref pt, .int (nI cn), .int (nI lf), .int (bI true), .int (bI bl), .int (bI zr), .int (nI fi), .int (nI si)])), (pw, .inl (cI, 64, .inl (nf W))), (pt, .inl (cI, 31, .inl (nf T)))]) 0 rfl 4 (by decide) mt_43 rfl (xn_narB _) (xn_fitB _) (Nat.le_of_ble_eq_true rfl) rfl dW_writeDigit_61 ?_
          refine xg_iload hX 0 dW_writeDigit_64 rfl ?_
          refine xg_if_eqN hX 82 (by omega) dW_writeDigit_66 (by decide) (fun _ => ?_) (fun h => absurd h (by decide))
          refine xg_aload_n hX 2 dW_writeDigit_82 rfl rfl ?_
          refine xg_bipush hX (nI 48) dW_writeDigit_83 (by decide) ?_
          refine xg_iload_n hX 1 dW_writeDigit_85 rfl rfl ?_
          refine xg_iaddN hX dW_writeDigit_86 ?_
          refine xg_cV hX wq [.int (nI (48 + (T lf)))] (hM := xc_write l D cI wq pw pt cn lf true bl zr fi si W T (48 + (T lf)) (by omega)) (wr := []) (ws' := fun u => match u with | (okC, W2C, cn2C, lf2C, sg2C, fi2C, si2C) => [(wq, .inr (1, [.ref pw, .ref pt, .int (nI cn2C), .int (nI lf2C), .int (bI sg2C), .int (bI bl), .int (bI zr), .int (nI fi2C), .int (nI si2C)])), (pw, .inl (cI, 64, .inl (nf W2C))), (pt, .inl (cI, 31, .inl (nf T)))]) (st' := fun u => match u with | (okC, W2C, cn2C, lf2C, sg2C, fi2C, si2C) => [.int (bI okC)]) [0, 1, 2] [] [0, 1, 2] [] rfl mt_293 mt_290 mt_3 mt_292 mp_13 0 rfl rfl hdW_write (by decide) ⟨rfl, rfl⟩ (by decide) rfl rfl (by decide) rfl (by decide) (by decide) (by decide) (fun u => rfl) (fun u => rfl) (fun u => rfl) rfl rfl (by simp [Value.category]) dW_writeDigit_87 (fun u hu => ?_)
          obtain ⟨okC, W2C, cn2C, lf2C, sg2C, fi2C, si2C⟩ := u
          have huC : pres okC (pWr (48 + (T lf)) (W, cn, lf, true, fi, si)) (W2C, cn2C, lf2C, sg2C, fi2C, si2C) := hu
          show GG D X 0 0 90 [(wq, .inr (1, [.ref pw, .ref pt, .int (nI cn2C), .int (nI lf2C), .int (bI sg2C), .int (bI bl), .int (bI zr), .int (nI fi2C), .int (nI si2C)])), (pw, .inl (cI, 64, .inl (nf W2C))), (pt, .inl (cI, 31, .inl (nf T)))] [(4, .int (nI 0)), (3, .int (nI (T lf))), (0, .ref wq), (1, .int (nI lf)), (2, .int (bI sd))] [.int (bI okC)]
          exact hret (okC, W2C, cn2C, lf2C, sg2C, fi2C, si2C) _ _ _ rfl (xn_narB _) (show pres okC (pDg T sd (W, cn, lf + 1, sg, fi, si)) (W2C, cn2C, lf2C, sg2C, fi2C, si2C) from (by rw [pDg_eq, if_neg (fun q => by first | omega | exact absurd (h29.symm.trans q.2) (by decide))]; first | (rw [if_pos ⟨h42, h49⟩, pWr_lt eB]; exact huC) | (rw [if_neg (fun q => by first | exact absurd (h42.symm.trans q.1) (by decide) | exact absurd (h49.symm.trans q.2) (by decide))]; exact huC))) dW_writeDigit_90
        ·
          refine xg_iconst hX (nI 1) dW_writeDigit_52 (by decide) ?_
          refine xg_goto hX 57 dW_writeDigit_53 (by decide) ?_
          refine xg_istore hX (lv' := [(4, .int (nI 1)), (3, .int (nI (T lf))), (0, .ref wq), (1, .int (nI lf)), (2, .int (bI sd))]) dW_writeDigit_57 (by decide) rfl ?_
          refine xg_aload_n hX 2 dW_writeDigit_59 rfl rfl ?_
          refine xg_iconst hX (nI 1) dW_writeDigit_60 (by decide) ?_
          refine xg_top (bI true) rfl ?_
          refine xg_put hX tyW tyW_ok nmW (ci := 1) rfl hinW (ws' := [(wq, .inr (1, [.ref pw, .ref pt, .int (nI cn), .int (nI lf), .int (bI true), .int (bI bl), .int (bI zr), .int (nI fi), .int (nI si)])), (pw, .inl (cI, 64, .inl (nf W))), (pt, .inl (cI, 31, .inl (nf T)))]) 0 rfl 4 (by decide) mt_43 rfl (xn_narB _) (xn_fitB _) (Nat.le_of_ble_eq_true rfl) rfl dW_writeDigit_61 ?_
          refine xg_iload hX 0 dW_writeDigit_64 rfl ?_
          refine xg_if_eqN hX 82 (by omega) dW_writeDigit_66 (by decide) (fun h => absurd h (by decide)) (fun _ => ?_)
          refine xg_aload_n hX 2 dW_writeDigit_69 rfl rfl ?_
          refine xg_aload_n hX 2 dW_writeDigit_70 rfl rfl ?_
          refine xg_get hX (ci := 1) rfl hinW 0 rfl 8 (by decide) mt_48 rfl dW_writeDigit_71 ?_
          refine xg_cV hX wq [.int (nI si)] (hM := xc_write l D cI wq pw pt cn lf true bl zr fi si W T si hcn) (wr := []) (ws' := fun u => match u with | (okB, W2B, cn2B, lf2B, sg2B, fi2B, si2B) => [(wq, .inr (1, [.ref pw, .ref pt, .int (nI cn2B), .int (nI lf2B), .int (bI sg2B), .int (bI bl), .int (bI zr), .int (nI fi2B), .int (nI si2B)])), (pw, .inl (cI, 64, .inl (nf W2B))), (pt, .inl (cI, 31, .inl (nf T)))]) (st' := fun u => match u with | (okB, W2B, cn2B, lf2B, sg2B, fi2B, si2B) => [.int (bI okB)]) [0, 1, 2] [] [0, 1, 2] [] rfl mt_293 mt_290 mt_3 mt_292 mp_13 0 rfl rfl hdW_write (by decide) ⟨rfl, rfl⟩ (by decide) rfl rfl (by decide) rfl (by decide) (by decide) (by decide) (fun u => rfl) (fun u => rfl) (fun u => rfl) rfl rfl (by simp [Value.category]) dW_writeDigit_74 (fun u hu => ?_)
          obtain ⟨okB, W2B, cn2B, lf2B, sg2B, fi2B, si2B⟩ := u
          have huB : pres okB (pWr si (W, cn, lf, true, fi, si)) (W2B, cn2B, lf2B, sg2B, fi2B, si2B) := hu
          show GG D X 0 0 77 [(wq, .inr (1, [.ref pw, .ref pt, .int (nI cn2B), .int (nI lf2B), .int (bI sg2B), .int (bI bl), .int (bI zr), .int (nI fi2B), .int (nI si2B)])), (pw, .inl (cI, 64, .inl (nf W2B))), (pt, .inl (cI, 31, .inl (nf T)))] [(4, .int (nI 1)), (3, .int (nI (T lf))), (0, .ref wq), (1, .int (nI lf)), (2, .int (bI sd))] [.int (bI okB)]
          refine xg_if_neB hX 82 dW_writeDigit_77 (by decide) (fun h77 => ?_) (fun h77 => ?_)
          ·
            obtain ⟨rfl, rfl, rfl, rfl, rfl, rfl, eB⟩ := pWr_eq (pres_some huB h77)
            refine xg_aload_n hX 2 dW_writeDigit_82 rfl rfl ?_
            refine xg_bipush hX (nI 48) dW_writeDigit_83 (by decide) ?_
            refine xg_iload_n hX 1 dW_writeDigit_85 rfl rfl ?_
            refine xg_iaddN hX dW_writeDigit_86 ?_
            refine xg_cV hX wq [.int (nI (48 + (T lf)))] (hM := xc_write l D cI wq pw pt (cn + 1) lf true bl zr fi si (up W cn si) T (48 + (T lf)) (by omega)) (wr := []) (ws' := fun u => match u with | (okC, W2C, cn2C, lf2C, sg2C, fi2C, si2C) => [(wq, .inr (1, [.ref pw, .ref pt, .int (nI cn2C), .int (nI lf2C), .int (bI sg2C), .int (bI bl), .int (bI zr), .int (nI fi2C), .int (nI si2C)])), (pw, .inl (cI, 64, .inl (nf W2C))), (pt, .inl (cI, 31, .inl (nf T)))]) (st' := fun u => match u with | (okC, W2C, cn2C, lf2C, sg2C, fi2C, si2C) => [.int (bI okC)]) [0, 1, 2] [] [0, 1, 2] [] rfl mt_293 mt_290 mt_3 mt_292 mp_13 0 rfl rfl hdW_write (by decide) ⟨rfl, rfl⟩ (by decide) rfl rfl (by decide) rfl (by decide) (by decide) (by decide) (fun u => rfl) (fun u => rfl) (fun u => rfl) rfl rfl (by simp [Value.category]) dW_writeDigit_87 (fun u hu => ?_)
            obtain ⟨okC, W2C, cn2C, lf2C, sg2C, fi2C, si2C⟩ := u
            have huC : pres okC (pWr (48 + (T lf)) (up W cn si, cn + 1, lf, true, fi, si)) (W2C, cn2C, lf2C, sg2C, fi2C, si2C) := hu
            show GG D X 0 0 90 [(wq, .inr (1, [.ref pw, .ref pt, .int (nI cn2C), .int (nI lf2C), .int (bI sg2C), .int (bI bl), .int (bI zr), .int (nI fi2C), .int (nI si2C)])), (pw, .inl (cI, 64, .inl (nf W2C))), (pt, .inl (cI, 31, .inl (nf T)))] [(4, .int (nI 1)), (3, .int (nI (T lf))), (0, .ref wq), (1, .int (nI lf)), (2, .int (bI sd))] [.int (bI okC)]
            exact hret (okC, W2C, cn2C, lf2C, sg2C, fi2C, si2C) _ _ _ rfl (xn_narB _) (show pres okC (pDg T sd (W, cn, lf + 1, sg, fi, si)) (W2C, cn2C, lf2C, sg2C, fi2C, si2C) from (by rw [pDg_eq, if_neg (fun q => by first | omega | exact absurd (h29.symm.trans q.2) (by decide))]; first | (rw [if_pos ⟨h42, h49⟩, pWr_lt eB]; exact huC) | (rw [if_neg (fun q => by first | exact absurd (h42.symm.trans q.1) (by decide) | exact absurd (h49.symm.trans q.2) (by decide))]; exact huC))) dW_writeDigit_90
          ·
            refine xg_iconst hX (nI 0) dW_writeDigit_80 (by decide) ?_
            refine xg_top (bI false) rfl ?_
            exact hret (false, W2B, cn2B, lf2B, sg2B, fi2B, si2B) _ _ _ rfl (xn_narB _) (show pres false (pDg T sd (W, cn, lf + 1, sg, fi, si)) (W2B, cn2B, lf2B, sg2B, fi2B, si2B) from (pres_f (by rw [pDg_eq, if_neg (fun q => by first | omega | exact absurd (h29.symm.trans q.2) (by decide)), if_pos ⟨h42, h49⟩, pres_none huB h77] <;> rfl))) dW_writeDigit_81
    ·
      refine xg_aload_n hX 1 dW_writeDigit_32 rfl rfl ?_
      refine xg_aload_n hX 1 dW_writeDigit_33 rfl rfl ?_
      refine xg_get hX (ci := 1) rfl hinW 0 rfl 7 (by decide) mt_47 rfl dW_writeDigit_34 ?_
      refine xg_cV hX wq [.int (nI fi)] (hM := xc_write l D cI wq pw pt cn lf sg bl zr fi si W T fi hcn) (wr := []) (ws' := fun u => match u with | (okA, W2A, cn2A, lf2A, sg2A, fi2A, si2A) => [(wq, .inr (1, [.ref pw, .ref pt, .int (nI cn2A), .int (nI lf2A), .int (bI sg2A), .int (bI bl), .int (bI zr), .int (nI fi2A), .int (nI si2A)])), (pw, .inl (cI, 64, .inl (nf W2A))), (pt, .inl (cI, 31, .inl (nf T)))]) (st' := fun u => match u with | (okA, W2A, cn2A, lf2A, sg2A, fi2A, si2A) => [.int (bI okA)]) [0, 1, 2] [] [0, 1, 2] [] rfl mt_293 mt_290 mt_3 mt_292 mp_13 0 rfl rfl hdW_write (by decide) ⟨rfl, rfl⟩ (by decide) rfl rfl (by decide) rfl (by decide) (by decide) (by decide) (fun u => rfl) (fun u => rfl) (fun u => rfl) rfl rfl (by simp [Value.category]) dW_writeDigit_37 (fun u hu => ?_)
      obtain ⟨okA, W2A, cn2A, lf2A, sg2A, fi2A, si2A⟩ := u
      have huA : pres okA (pWr fi (W, cn, lf, sg, fi, si)) (W2A, cn2A, lf2A, sg2A, fi2A, si2A) := hu
      show GG D X 0 0 40 [(wq, .inr (1, [.ref pw, .ref pt, .int (nI cn2A), .int (nI lf2A), .int (bI sg2A), .int (bI bl), .int (bI zr), .int (nI fi2A), .int (nI si2A)])), (pw, .inl (cI, 64, .inl (nf W2A))), (pt, .inl (cI, 31, .inl (nf T)))] [(3, .int (nI (T lf))), (0, .ref wq), (1, .int (nI lf)), (2, .int (bI sd))] [.int (bI okA)]
      exact hret (okA, W2A, cn2A, lf2A, sg2A, fi2A, si2A) _ _ _ rfl (xn_narB _) (show pres okA (pDg T sd (W, cn, lf + 1, sg, fi, si)) (W2A, cn2A, lf2A, sg2A, fi2A, si2A) from (by rw [pDg_eq, if_pos ⟨h22, h29⟩]; exact huA)) dW_writeDigit_40
set_option maxHeartbeats 4000000 in
set_option maxRecDepth 100000 in
theorem xc_writeDigits (l : Launch) (D : va_G) (cI : ClassId) (wq : Nat) (pw : Nat) (pt : Nat) (cn : Nat) (lf : Nat) (sg : Bool) (bl : Bool) (zr : Bool) (fi : Nat) (si : Nat) (W : Nat → Nat) (T : Nat → Nat) (x : Nat) (sd : Bool) (hx : x ≤ 15) (hlf : lf ≤ 31) (hcn : cn ≤ 64) (hT : ∀ j, T j < 10) : Ctr l D cI yW_writeDigits cW_writeDigits 4 (some .boolean) { frames := 2, cells := 0, slots := 0, locals := 45 } [.ref wq, .int (nI x), .int (bI sd)] [(wq, .inr (1, [.ref pw, .ref pt, .int (nI cn), .int (nI lf), .int (bI sg), .int (bI bl), .int (bI zr), .int (nI fi), .int (nI si)])), (pw, .inl (cI, 64, .inl (nf W))), (pt, .inl (cI, 31, .inl (nf T)))] (fun u : Bool × (Nat → Nat) × Nat × Nat × Bool × Nat × Nat => match u with | (ok, W2, cn2, lf2, sg2, fi2, si2) => some (.int (bI ok))) (fun u : Bool × (Nat → Nat) × Nat × Nat × Bool × Nat × Nat => match u with | (ok, W2, cn2, lf2, sg2, fi2, si2) => pres ok (pDs T sd x (W, cn, lf, sg, fi, si)) (W2, cn2, lf2, sg2, fi2, si2)) (fun u : Bool × (Nat → Nat) × Nat × Nat × Bool × Nat × Nat => match u with | (ok, W2, cn2, lf2, sg2, fi2, si2) => [(wq, .inr (1, [.ref pw, .ref pt, .int (nI cn2), .int (nI lf2), .int (bI sg2), .int (bI bl), .int (bI zr), .int (nI fi2), .int (nI si2)])), (pw, .inl (cI, 64, .inl (nf W2))), (pt, .inl (cI, 31, .inl (nf T)))]) 0 0 := by
  refine xc_mkZ (by decide +kernel) (Nat.le_of_ble_eq_true rfl) (fun X hX hret => ?_)
  show GG D X 0 0 0 [(wq, .inr (1, [.ref pw, .ref pt, .int (nI cn), .int (nI lf), .int (bI sg), .int (bI bl), .int (bI zr), .int (nI fi), .int (nI si)])), (pw, .inl (cI, 64, .inl (nf W))), (pt, .inl (cI, 31, .inl (nf T)))] [(0, .ref wq), (1, .int (nI x)), (2, .int (bI sd))] []
  refine xg_iload_n hX 1 dW_writeDigits_0 rfl rfl ?_
  refine xg_aload_n hX 0 dW_writeDigits_1 rfl rfl ?_
  refine xg_get hX (ci := 1) rfl hinW 0 rfl 3 (by decide) mt_41 rfl dW_writeDigits_2 ?_
  refine xg_icmp_leN hX 10 (by omega) (by omega) dW_writeDigits_5 (by decide) (fun h5 => ?_) (fun h5 => ?_)
  ·
    refine xg_iconst hX (nI 0) dW_writeDigits_10 (by decide) ?_
    refine xg_istore_n hX (lv' := [(3, .int (nI 0)), (0, .ref wq), (1, .int (nI x)), (2, .int (bI sd))]) dW_writeDigits_11 rfl (by decide) rfl ?_
    have lp1 : ∀ (fu2 : Nat) (i : Nat) (Vw : Nat → Nat) (vc : Nat) (vl : Nat) (vs : Bool), (i ≤ x) → (vc ≤ 64) → (vl ≤ 31) → (x - i ≤ vl) → (pDs T sd x (W, cn, lf, sg, fi, si) = pDs T sd (x - i) (Vw, vc, vl, vs, fi, si)) → x - i < fu2 → GG D X 0 0 12 [(wq, .inr (1, [.ref pw, .ref pt, .int (nI vc), .int (nI vl), .int (bI vs), .int (bI bl), .int (bI zr), .int (nI fi), .int (nI si)])), (pw, .inl (cI, 64, .inl (nf Vw))), (pt, .inl (cI, 31, .inl (nf T)))] [(0, .ref wq), (1, .int (nI x)), (2, .int (bI sd)), (3, .int (nI i))] [] := by
      intro fu2
      induction fu2 with
      | zero => intro i Vw vc vl vs hi hvc hvl hxl hq hm4; exact absurd hm4 (Nat.not_lt_zero _)
      | succ fu2 ih3 =>
        intro i Vw vc vl vs hi hvc hvl hxl hq hm4
        refine xg_iload_n hX 3 dW_writeDigits_12 rfl rfl ?_
        refine xg_iload_n hX 1 dW_writeDigits_13 rfl rfl ?_
        refine xg_icmp_geN hX 47 (by omega) (by omega) dW_writeDigits_14 (by decide) (fun h14 => ?_) (fun h14 => ?_)
        ·
          refine xg_iconst hX (nI 1) dW_writeDigits_47 (by decide) ?_
          refine xg_top (bI true) rfl ?_
          exact hret (true, Vw, vc, vl, vs, fi, si) _ _ _ rfl (xn_narB _) (show pres true (pDs T sd x (W, cn, lf, sg, fi, si)) (Vw, vc, vl, vs, fi, si) from (pres_t (by rw [hq, show x - i = 0 by omega] <;> rfl))) dW_writeDigits_48
        ·
          refine xg_aload_n hX 0 dW_writeDigits_17 rfl rfl ?_
          refine xg_dup hX dW_writeDigits_18 rfl ?_
          refine xg_get hX (ci := 1) rfl hinW 0 rfl 3 (by decide) mt_41 rfl dW_writeDigits_19 ?_
          refine xg_iconst hX (nI 1) dW_writeDigits_22 (by decide) ?_
          refine xg_isubN hX (by omega) dW_writeDigits_23 ?_
          refine xg_put hX tyW tyW_ok nmW (ci := 1) rfl hinW (ws' := [(wq, .inr (1, [.ref pw, .ref pt, .int (nI vc), .int (nI (vl - 1)), .int (bI vs), .int (bI bl), .int (bI zr), .int (nI fi), .int (nI si)])), (pw, .inl (cI, 64, .inl (nf Vw))), (pt, .inl (cI, 31, .inl (nf T)))]) 0 rfl 3 (by decide) mt_41 rfl rfl rfl (Nat.le_of_ble_eq_true rfl) rfl dW_writeDigits_24 ?_
          refine xg_aload_n hX 0 dW_writeDigits_27 rfl rfl ?_
          refine xg_aload_n hX 0 dW_writeDigits_28 rfl rfl ?_
          refine xg_get hX (ci := 1) rfl hinW 0 rfl 3 (by decide) mt_41 rfl dW_writeDigits_29 ?_
          refine xg_iload_n hX 2 dW_writeDigits_32 rfl rfl ?_
          refine xg_cV hX wq [.int (nI (vl - 1)), .int (bI sd)] (hM := xc_writeDigit l D cI wq pw pt vc (vl - 1) vs bl zr fi si Vw T sd (by omega) hvc hT) (wr := []) (ws' := fun u => match u with | (okA, W2A, cn2A, lf2A, sg2A, fi2A, si2A) => [(wq, .inr (1, [.ref pw, .ref pt, .int (nI cn2A), .int (nI lf2A), .int (bI sg2A), .int (bI bl), .int (bI zr), .int (nI fi2A), .int (nI si2A)])), (pw, .inl (cI, 64, .inl (nf W2A))), (pt, .inl (cI, 31, .inl (nf T)))]) (st' := fun u => match u with | (okA, W2A, cn2A, lf2A, sg2A, fi2A, si2A) => [.int (bI okA)]) [0, 1, 2] [] [0, 1, 2] [] rfl mt_289 mt_286 mt_3 mt_288 mp_12 0 rfl rfl hdW_writeDigit (by decide) ⟨rfl, rfl⟩ (by decide) rfl rfl (by decide) rfl (by decide) (by decide) (by decide) (fun u => rfl) (fun u => rfl) (fun u => rfl) rfl rfl (by simp [Value.category]) dW_writeDigits_33 (fun u hu => ?_)
          obtain ⟨okA, W2A, cn2A, lf2A, sg2A, fi2A, si2A⟩ := u
          have huA : pres okA (pDg T sd (Vw, vc, (vl - 1) + 1, vs, fi, si)) (W2A, cn2A, lf2A, sg2A, fi2A, si2A) := hu
          show GG D X 0 0 36 [(wq, .inr (1, [.ref pw, .ref pt, .int (nI cn2A), .int (nI lf2A), .int (bI sg2A), .int (bI bl), .int (bI zr), .int (nI fi2A), .int (nI si2A)])), (pw, .inl (cI, 64, .inl (nf W2A))), (pt, .inl (cI, 31, .inl (nf T)))] [(0, .ref wq), (1, .int (nI x)), (2, .int (bI sd)), (3, .int (nI i))] [.int (bI okA)]
          refine xg_if_neB hX 41 dW_writeDigits_36 (by decide) (fun h36 => ?_) (fun h36 => ?_)
          ·
            obtain ⟨rfl, rfl, rfl, eA⟩ := pDg_keep (pres_some huA h36)
            refine xg_iincN hX (lv' := [(3, .int (nI (i + 1))), (0, .ref wq), (1, .int (nI x)), (2, .int (bI sd))]) (i + 1) 3 dW_writeDigits_41 rfl (xn_inc _) (by decide) rfl ?_
            refine xg_goto hX 12 dW_writeDigits_44 (by decide) ?_
            refine xg_lv hX (lv' := [(0, .ref wq), (1, .int (nI x)), (2, .int (bI sd)), (3, .int (nI (i + 1)))]) [1, 2, 3, 0] rfl ?_
            exact ih3 (i + 1) W2A cn2A (vl - 1) sg2A (by omega) eA (by omega) (by omega) (by rw [hq, show x - i = (x - (i + 1)) + 1 by omega, pDs_s (by omega)]; have e9 := pres_some huA h36; rw [show vl - 1 + 1 = vl by omega] at e9; rw [e9] <;> rfl) (by omega)
          ·
            refine xg_iconst hX (nI 0) dW_writeDigits_39 (by decide) ?_
            refine xg_top (bI false) rfl ?_
            exact hret (false, W2A, cn2A, lf2A, sg2A, fi2A, si2A) _ _ _ rfl (xn_narB _) (show pres false (pDs T sd x (W, cn, lf, sg, fi, si)) (W2A, cn2A, lf2A, sg2A, fi2A, si2A) from (pres_f (by rw [hq, show x - i = (x - (i + 1)) + 1 by omega, pDs_s (by omega)]; have e9 := pres_none huA h36; rw [show vl - 1 + 1 = vl by omega] at e9; rw [e9] <;> rfl))) dW_writeDigits_40
    refine xg_lv hX (lv' := [(0, .ref wq), (1, .int (nI x)), (2, .int (bI sd)), (3, .int (nI 0))]) [1, 2, 3, 0] rfl ?_
    exact lp1 (x - 0 + 1) 0 W cn lf sg (by omega) (by omega) (by omega) (by omega) rfl (Nat.lt_succ_self _)
  ·
    refine xg_iconst hX (nI 0) dW_writeDigits_8 (by decide) ?_
    refine xg_top (bI false) rfl ?_
    exact hret (false, W, cn, lf, sg, fi, si) _ _ _ rfl (xn_narB _) (show pres false (pDs T sd x (W, cn, lf, sg, fi, si)) (W, cn, lf, sg, fi, si) from (pres_f (pDs_more x _ h5))) dW_writeDigits_9
set_option maxHeartbeats 4000000 in
set_option maxRecDepth 100000 in
theorem xc_fillLast (l : Launch) (D : va_G) (cI : ClassId) (wq : Nat) (pw : Nat) (pt : Nat) (cn : Nat) (lf : Nat) (sg : Bool) (bl : Bool) (zr : Bool) (fi : Nat) (si : Nat) (W : Nat → Nat) (T : Nat → Nat) (x : Nat) (hx : x < 256) (hcn : cn ≤ 64) : Ctr l D cI yW_fillLast cW_fillLast 3 (some .boolean) { frames := 0, cells := 0, slots := 0, locals := 0 } [.ref wq, .int (nI x)] [(wq, .inr (1, [.ref pw, .ref pt, .int (nI cn), .int (nI lf), .int (bI sg), .int (bI bl), .int (bI zr), .int (nI fi), .int (nI si)])), (pw, .inl (cI, 64, .inl (nf W))), (pt, .inl (cI, 31, .inl (nf T)))] (fun u : Bool × (Nat → Nat) × Nat × Nat × Bool × Nat × Nat => match u with | (ok, W2, cn2, lf2, sg2, fi2, si2) => some (.int (bI ok))) (fun u : Bool × (Nat → Nat) × Nat × Nat × Bool × Nat × Nat => match u with | (ok, W2, cn2, lf2, sg2, fi2, si2) => pres ok (pL8 zr x (W, cn, lf, sg, fi, si)) (W2, cn2, lf2, sg2, fi2, si2)) (fun u : Bool × (Nat → Nat) × Nat × Nat × Bool × Nat × Nat => match u with | (ok, W2, cn2, lf2, sg2, fi2, si2) => [(wq, .inr (1, [.ref pw, .ref pt, .int (nI cn2), .int (nI lf2), .int (bI sg2), .int (bI bl), .int (bI zr), .int (nI fi2), .int (nI si2)])), (pw, .inl (cI, 64, .inl (nf W2))), (pt, .inl (cI, 31, .inl (nf T)))]) 0 0 := by
  refine xc_mkZ (by decide +kernel) (Nat.le_of_ble_eq_true rfl) (fun X hX hret => ?_)
  show GG D X 0 0 0 [(wq, .inr (1, [.ref pw, .ref pt, .int (nI cn), .int (nI lf), .int (bI sg), .int (bI bl), .int (bI zr), .int (nI fi), .int (nI si)])), (pw, .inl (cI, 64, .inl (nf W))), (pt, .inl (cI, 31, .inl (nf T)))] [(0, .ref wq), (1, .int (nI x))] []
  refine xg_iload_n hX 1 dW_fillLast_0 rfl rfl ?_
  refine xg_aload_n hX 0 dW_fillLast_1 rfl rfl ?_
  refine xg_get hX (ci := 1) rfl hinW 0 rfl 2 (by decide) mt_39 rfl dW_fillLast_2 ?_
  refine xg_icmp_leN hX 10 (by omega) (by omega) dW_fillLast_5 (by decide) (fun h5 => ?_) (fun h5 => ?_)
  ·
    refine xg_aload_n hX 0 dW_fillLast_10 rfl rfl ?_
    refine xg_get hX (ci := 1) rfl hinW 0 rfl 2 (by decide) mt_39 rfl dW_fillLast_11 ?_
    refine xg_iload_n hX 1 dW_fillLast_14 rfl rfl ?_
    refine xg_isubN hX (by omega) dW_fillLast_15 ?_
    refine xg_istore_n hX (lv' := [(2, .int (nI (cn - x))), (0, .ref wq), (1, .int (nI x))]) dW_fillLast_16 rfl (by decide) rfl ?_
    have lp1 : ∀ (fu2 : Nat) (i : Nat), (cn - x ≤ i) → (i ≤ cn) → (zr = false → i = cn - x) → cn - i < fu2 → GG D X 0 0 17 [(wq, .inr (1, [.ref pw, .ref pt, .int (nI cn), .int (nI lf), .int (bI sg), .int (bI bl), .int (bI zr), .int (nI fi), .int (nI si)])), (pw, .inl (cI, 64, .inl (nf (f8 W fi cn x i)))), (pt, .inl (cI, 31, .inl (nf T)))] [(0, .ref wq), (1, .int (nI x)), (2, .int (nI i))] [] := by
      intro fu2
      induction fu2 with
      | zero => intro i hi hi2 hz hm4; exact absurd hm4 (Nat.not_lt_zero _)
      | succ fu2 ih3 =>
        intro i hi hi2 hz hm4
        refine xg_aload_n hX 0 dW_fillLast_17 rfl rfl ?_
        refine xg_get hX (ci := 1) rfl hinW 0 rfl 6 (by decide) mt_46 rfl dW_fillLast_18 ?_
        refine xg_if_eqB hX 58 dW_fillLast_21 (by decide) (fun h21 => ?_) (fun h21 => ?_)
        ·
          refine xg_iconst hX (nI 1) dW_fillLast_58 (by decide) ?_
          by_cases hzr : zr = true
          ·
            have hie : i = cn := by first | omega | (rw [h21] at hzr; cases hzr)
            refine xg_ext hX (g := f8 W fi cn x cn) (ws' := [(wq, .inr (1, [.ref pw, .ref pt, .int (nI cn), .int (nI lf), .int (bI sg), .int (bI bl), .int (bI zr), .int (nI fi), .int (nI si)])), (pw, .inl (cI, 64, .inl (nf (f8 W fi cn x cn)))), (pt, .inl (cI, 31, .inl (nf T)))]) 1 rfl (fun j hj => by rw [hie]) rfl ?_
            refine xg_top (bI true) rfl ?_
            exact hret (true, f8 W fi cn x cn, cn, lf, sg, fi, si) _ _ _ rfl (xn_narB _) (pres_t (pL8_t h5 hzr)) dW_fillLast_59
          ·
            have hzf : zr = false := by cases zr with | true => exact absurd rfl hzr | false => rfl
            have hie := hz hzf
            refine xg_ext hX (g := W) (ws' := [(wq, .inr (1, [.ref pw, .ref pt, .int (nI cn), .int (nI lf), .int (bI sg), .int (bI bl), .int (bI zr), .int (nI fi), .int (nI si)])), (pw, .inl (cI, 64, .inl (nf W))), (pt, .inl (cI, 31, .inl (nf T)))]) 1 rfl (fun j hj => by rw [hie]; exact (f8_0 j).symm) rfl ?_
            refine xg_top (bI true) rfl ?_
            exact hret (true, W, cn, lf, sg, fi, si) _ _ _ rfl (xn_narB _) (pres_t (pL8_f h5 hzf)) dW_fillLast_59
        ·
          refine xg_iload_n hX 2 dW_fillLast_24 rfl rfl ?_
          refine xg_aload_n hX 0 dW_fillLast_25 rfl rfl ?_
          refine xg_get hX (ci := 1) rfl hinW 0 rfl 2 (by decide) mt_39 rfl dW_fillLast_26 ?_
          refine xg_icmp_geN hX 58 (by omega) (by omega) dW_fillLast_29 (by decide) (fun h29 => ?_) (fun h29 => ?_)
          ·
            refine xg_iconst hX (nI 1) dW_fillLast_58 (by decide) ?_
            by_cases hzr : zr = true
            ·
              have hie : i = cn := by first | omega | (rw [h21] at hzr; cases hzr)
              refine xg_ext hX (g := f8 W fi cn x cn) (ws' := [(wq, .inr (1, [.ref pw, .ref pt, .int (nI cn), .int (nI lf), .int (bI sg), .int (bI bl), .int (bI zr), .int (nI fi), .int (nI si)])), (pw, .inl (cI, 64, .inl (nf (f8 W fi cn x cn)))), (pt, .inl (cI, 31, .inl (nf T)))]) 1 rfl (fun j hj => by rw [hie]) rfl ?_
              refine xg_top (bI true) rfl ?_
              exact hret (true, f8 W fi cn x cn, cn, lf, sg, fi, si) _ _ _ rfl (xn_narB _) (pres_t (pL8_t h5 hzr)) dW_fillLast_59
            ·
              have hzf : zr = false := by cases zr with | true => exact absurd rfl hzr | false => rfl
              have hie := hz hzf
              refine xg_ext hX (g := W) (ws' := [(wq, .inr (1, [.ref pw, .ref pt, .int (nI cn), .int (nI lf), .int (bI sg), .int (bI bl), .int (bI zr), .int (nI fi), .int (nI si)])), (pw, .inl (cI, 64, .inl (nf W))), (pt, .inl (cI, 31, .inl (nf T)))]) 1 rfl (fun j hj => by rw [hie]; exact (f8_0 j).symm) rfl ?_
              refine xg_top (bI true) rfl ?_
              exact hret (true, W, cn, lf, sg, fi, si) _ _ _ rfl (xn_narB _) (pres_t (pL8_f h5 hzf)) dW_fillLast_59
          ·
            refine xg_iload_n hX 2 dW_fillLast_32 rfl rfl ?_
            refine xg_if_ltN hX 52 (by omega) dW_fillLast_33 (by decide) ?_
            refine xg_iload_n hX 2 dW_fillLast_36 rfl rfl ?_
            refine xg_bipush hX (nI 64) dW_fillLast_37 (by decide) ?_
            refine xg_icmp_geN hX 52 (by omega) (by omega) dW_fillLast_39 (by decide) (fun hh_6 => absurd hh_6 (by omega)) (fun hh_6 => ?_)
            refine xg_aload_n hX 0 dW_fillLast_42 rfl rfl ?_
            refine xg_get hX (ci := 1) rfl hinW 0 rfl 0 (by decide) mt_37 rfl dW_fillLast_43 ?_
            refine xg_iload_n hX 2 dW_fillLast_46 rfl rfl ?_
            refine xg_aload_n hX 0 dW_fillLast_47 rfl rfl ?_
            refine xg_get hX (ci := 1) rfl hinW 0 rfl 7 (by decide) mt_47 rfl dW_fillLast_48 ?_
            refine xg_iast hX (ws' := [(wq, .inr (1, [.ref pw, .ref pt, .int (nI cn), .int (nI lf), .int (bI sg), .int (bI bl), .int (bI zr), .int (nI fi), .int (nI si)])), (pw, .inl (cI, 64, .inl (nf (up (f8 W fi cn x i) i fi)))), (pt, .inl (cI, 31, .inl (nf T)))]) 1 i fi rfl (by omega) (by decide) rfl dW_fillLast_51 ?_
            refine xg_iincN hX (lv' := [(2, .int (nI (i + 1))), (0, .ref wq), (1, .int (nI x))]) (i + 1) 2 dW_fillLast_52 rfl (xn_inc _) (by decide) rfl ?_
            refine xg_goto hX 17 dW_fillLast_55 (by decide) ?_
            refine xg_ext hX (g := f8 W fi cn x (i + 1)) (ws' := [(wq, .inr (1, [.ref pw, .ref pt, .int (nI cn), .int (nI lf), .int (bI sg), .int (bI bl), .int (bI zr), .int (nI fi), .int (nI si)])), (pw, .inl (cI, 64, .inl (nf (f8 W fi cn x (i + 1))))), (pt, .inl (cI, 31, .inl (nf T)))]) 1 rfl (fun j hj => f8_s hi j) rfl ?_
            refine xg_lv hX (lv' := [(0, .ref wq), (1, .int (nI x)), (2, .int (nI (i + 1)))]) [1, 2, 0] rfl ?_
            exact ih3 (i + 1) (by omega) (by omega) (fun q => by rw [h21] at q; cases q) (by omega)
    refine xg_ext hX (g := f8 W fi cn x (cn - x)) (ws' := [(wq, .inr (1, [.ref pw, .ref pt, .int (nI cn), .int (nI lf), .int (bI sg), .int (bI bl), .int (bI zr), .int (nI fi), .int (nI si)])), (pw, .inl (cI, 64, .inl (nf (f8 W fi cn x (cn - x))))), (pt, .inl (cI, 31, .inl (nf T)))]) 1 rfl (fun j hj => f8_0 j) rfl ?_
    refine xg_lv hX (lv' := [(0, .ref wq), (1, .int (nI x)), (2, .int (nI (cn - x)))]) [1, 2, 0] rfl ?_
    exact lp1 (cn - (cn - x) + 1) (cn - x) (by omega) (by omega) (fun _ => rfl) (Nat.lt_succ_self _)
  ·
    refine xg_iconst hX (nI 0) dW_fillLast_8 (by decide) ?_
    refine xg_top (bI false) rfl ?_
    exact hret (false, W, cn, lf, sg, fi, si) _ _ _ rfl (xn_narB _) (show pres false (pL8 zr x (W, cn, lf, sg, fi, si)) (W, cn, lf, sg, fi, si) from (pres_f (pL8_no h5))) dW_fillLast_9
set_option maxHeartbeats 4000000 in
set_option maxRecDepth 100000 in
theorem xc_obeyNext (l : Launch) (D : va_G) (cI : ClassId) (wq : Nat) (pw : Nat) (pt : Nat) (cn : Nat) (lf : Nat) (sg : Bool) (bl : Bool) (zr : Bool) (fi : Nat) (si : Nat) (W : Nat → Nat) (T : Nat → Nat) (k : Nat) (x : Nat) (hk1 : 4 ≤ k) (hk2 : k ≤ 8) (hx : x < 256) (hcn : cn ≤ 64) : Ctr l D cI yW_obeyWithNext cW_obeyWithNext 3 (some .boolean) { frames := 1, cells := 0, slots := 0, locals := 22 } [.ref wq, .int (nI k), .int (nI x)] [(wq, .inr (1, [.ref pw, .ref pt, .int (nI cn), .int (nI lf), .int (bI sg), .int (bI bl), .int (bI zr), .int (nI fi), .int (nI si)])), (pw, .inl (cI, 64, .inl (nf W))), (pt, .inl (cI, 31, .inl (nf T)))] (fun u : Bool × (Nat → Nat) × Nat × Nat × Bool × Nat × Nat => match u with | (ok, W2, cn2, lf2, sg2, fi2, si2) => some (.int (bI ok))) (fun u : Bool × (Nat → Nat) × Nat × Nat × Bool × Nat × Nat => match u with | (ok, W2, cn2, lf2, sg2, fi2, si2) => pres ok (pNx bl zr k x (W, cn, lf, sg, fi, si)) (W2, cn2, lf2, sg2, fi2, si2)) (fun u : Bool × (Nat → Nat) × Nat × Nat × Bool × Nat × Nat => match u with | (ok, W2, cn2, lf2, sg2, fi2, si2) => [(wq, .inr (1, [.ref pw, .ref pt, .int (nI cn2), .int (nI lf2), .int (bI sg2), .int (bI bl), .int (bI zr), .int (nI fi2), .int (nI si2)])), (pw, .inl (cI, 64, .inl (nf W2))), (pt, .inl (cI, 31, .inl (nf T)))]) 0 0 := by
  refine xc_mkZ (by decide +kernel) (Nat.le_of_ble_eq_true rfl) (fun X hX hret => ?_)
  show GG D X 0 0 0 [(wq, .inr (1, [.ref pw, .ref pt, .int (nI cn), .int (nI lf), .int (bI sg), .int (bI bl), .int (bI zr), .int (nI fi), .int (nI si)])), (pw, .inl (cI, 64, .inl (nf W))), (pt, .inl (cI, 31, .inl (nf T)))] [(0, .ref wq), (1, .int (nI k)), (2, .int (nI x))] []
  refine xg_iload_n hX 1 dW_obeyWithNext_0 rfl rfl ?_
  rcases (show k = 4 ∨ k = 5 ∨ k = 6 ∨ k = 7 ∨ k = 8 by omega) with hk | hk | hk | hk | hk
  ·
    refine xg_tab hX (c := 4) hk 36 dW_obeyWithNext_1 (by decide) (by decide) rfl (by decide) ?_
    refine xg_aload_n hX 0 dW_obeyWithNext_36 rfl rfl ?_
    refine xg_iload_n hX 2 dW_obeyWithNext_37 rfl rfl ?_
    refine xg_put hX tyW tyW_ok nmW (ci := 1) rfl hinW (ws' := [(wq, .inr (1, [.ref pw, .ref pt, .int (nI cn), .int (nI lf), .int (bI sg), .int (bI bl), .int (bI zr), .int (nI x), .int (nI si)])), (pw, .inl (cI, 64, .inl (nf W))), (pt, .inl (cI, 31, .inl (nf T)))]) 0 rfl 7 (by decide) mt_47 rfl rfl rfl (Nat.le_of_ble_eq_true rfl) rfl dW_obeyWithNext_38 ?_
    refine xg_iconst hX (nI 1) dW_obeyWithNext_41 (by decide) ?_
    refine xg_top (bI true) rfl ?_
    exact hret (true, W, cn, lf, sg, x, si) _ _ _ rfl (xn_narB _) (show pres true (pNx bl zr k x (W, cn, lf, sg, fi, si)) (W, cn, lf, sg, x, si) from (pres_t (by subst hk; rfl))) dW_obeyWithNext_42
  ·
    refine xg_tab hX (c := 5) hk 43 dW_obeyWithNext_1 (by decide) (by decide) rfl (by decide) ?_
    refine xg_aload_n hX 0 dW_obeyWithNext_43 rfl rfl ?_
    refine xg_aload_n hX 0 dW_obeyWithNext_44 rfl rfl ?_
    refine xg_get hX (ci := 1) rfl hinW 0 rfl 5 (by decide) mt_45 rfl dW_obeyWithNext_45 ?_
    refine xg_if_eqB hX 58 dW_obeyWithNext_48 (by decide) (fun h48 => ?_) (fun h48 => ?_)
    ·
      refine xg_iload_n hX 2 dW_obeyWithNext_58 rfl rfl ?_
      refine xg_put hX tyW tyW_ok nmW (ci := 1) rfl hinW (ws' := [(wq, .inr (1, [.ref pw, .ref pt, .int (nI cn), .int (nI lf), .int (bI sg), .int (bI bl), .int (bI zr), .int (nI fi), .int (nI x)])), (pw, .inl (cI, 64, .inl (nf W))), (pt, .inl (cI, 31, .inl (nf T)))]) 0 rfl 8 (by decide) mt_48 rfl rfl rfl (Nat.le_of_ble_eq_true rfl) rfl dW_obeyWithNext_59 ?_
      refine xg_iconst hX (nI 1) dW_obeyWithNext_62 (by decide) ?_
      refine xg_top (bI true) rfl ?_
      exact hret (true, W, cn, lf, sg, fi, x) _ _ _ rfl (xn_narB _) (show pres true (pNx bl zr k x (W, cn, lf, sg, fi, si)) (W, cn, lf, sg, fi, x) from (pres_t (by subst hk; simp [pNx, h48]))) dW_obeyWithNext_63
    ·
      refine xg_aload_n hX 0 dW_obeyWithNext_51 rfl rfl ?_
      refine xg_get hX (ci := 1) rfl hinW 0 rfl 8 (by decide) mt_48 rfl dW_obeyWithNext_52 ?_
      refine xg_goto hX 59 dW_obeyWithNext_55 (by decide) ?_
      refine xg_put hX tyW tyW_ok nmW (ci := 1) rfl hinW (ws' := [(wq, .inr (1, [.ref pw, .ref pt, .int (nI cn), .int (nI lf), .int (bI sg), .int (bI bl), .int (bI zr), .int (nI fi), .int (nI si)])), (pw, .inl (cI, 64, .inl (nf W))), (pt, .inl (cI, 31, .inl (nf T)))]) 0 rfl 8 (by decide) mt_48 rfl rfl rfl (Nat.le_of_ble_eq_true rfl) rfl dW_obeyWithNext_59 ?_
      refine xg_iconst hX (nI 1) dW_obeyWithNext_62 (by decide) ?_
      refine xg_top (bI true) rfl ?_
      exact hret (true, W, cn, lf, sg, fi, si) _ _ _ rfl (xn_narB _) (show pres true (pNx bl zr k x (W, cn, lf, sg, fi, si)) (W, cn, lf, sg, fi, si) from (pres_t (by subst hk; simp [pNx, h48]))) dW_obeyWithNext_63
  ·
    refine xg_tab hX (c := 6) hk 64 dW_obeyWithNext_1 (by decide) (by decide) rfl (by decide) ?_
    refine xg_aload_n hX 0 dW_obeyWithNext_64 rfl rfl ?_
    refine xg_aload_n hX 0 dW_obeyWithNext_65 rfl rfl ?_
    refine xg_get hX (ci := 1) rfl hinW 0 rfl 5 (by decide) mt_45 rfl dW_obeyWithNext_66 ?_
    refine xg_if_eqB hX 76 dW_obeyWithNext_69 (by decide) (fun h69 => ?_) (fun h69 => ?_)
    ·
      refine xg_aload_n hX 0 dW_obeyWithNext_76 rfl rfl ?_
      refine xg_get hX (ci := 1) rfl hinW 0 rfl 8 (by decide) mt_48 rfl dW_obeyWithNext_77 ?_
      refine xg_put hX tyW tyW_ok nmW (ci := 1) rfl hinW (ws' := [(wq, .inr (1, [.ref pw, .ref pt, .int (nI cn), .int (nI lf), .int (bI sg), .int (bI bl), .int (bI zr), .int (nI fi), .int (nI si)])), (pw, .inl (cI, 64, .inl (nf W))), (pt, .inl (cI, 31, .inl (nf T)))]) 0 rfl 8 (by decide) mt_48 rfl rfl rfl (Nat.le_of_ble_eq_true rfl) rfl dW_obeyWithNext_80 ?_
      refine xg_iconst hX (nI 1) dW_obeyWithNext_83 (by decide) ?_
      refine xg_top (bI true) rfl ?_
      exact hret (true, W, cn, lf, sg, fi, si) _ _ _ rfl (xn_narB _) (show pres true (pNx bl zr k x (W, cn, lf, sg, fi, si)) (W, cn, lf, sg, fi, si) from (pres_t (by subst hk; simp [pNx, h69]))) dW_obeyWithNext_84
    ·
      refine xg_iload_n hX 2 dW_obeyWithNext_72 rfl rfl ?_
      refine xg_goto hX 80 dW_obeyWithNext_73 (by decide) ?_
      refine xg_put hX tyW tyW_ok nmW (ci := 1) rfl hinW (ws' := [(wq, .inr (1, [.ref pw, .ref pt, .int (nI cn), .int (nI lf), .int (bI sg), .int (bI bl), .int (bI zr), .int (nI fi), .int (nI x)])), (pw, .inl (cI, 64, .inl (nf W))), (pt, .inl (cI, 31, .inl (nf T)))]) 0 rfl 8 (by decide) mt_48 rfl rfl rfl (Nat.le_of_ble_eq_true rfl) rfl dW_obeyWithNext_80 ?_
      refine xg_iconst hX (nI 1) dW_obeyWithNext_83 (by decide) ?_
      refine xg_top (bI true) rfl ?_
      exact hret (true, W, cn, lf, sg, fi, x) _ _ _ rfl (xn_narB _) (show pres true (pNx bl zr k x (W, cn, lf, sg, fi, si)) (W, cn, lf, sg, fi, x) from (pres_t (by subst hk; simp [pNx, h69]))) dW_obeyWithNext_84
  ·
    refine xg_tab hX (c := 7) hk 85 dW_obeyWithNext_1 (by decide) (by decide) rfl (by decide) ?_
    refine xg_aload_n hX 0 dW_obeyWithNext_85 rfl rfl ?_
    refine xg_aload_n hX 0 dW_obeyWithNext_86 rfl rfl ?_
    refine xg_get hX (ci := 1) rfl hinW 0 rfl 4 (by decide) mt_43 rfl dW_obeyWithNext_87 ?_
    refine xg_if_eqB hX 97 dW_obeyWithNext_90 (by decide) (fun h90 => ?_) (fun h90 => ?_)
    ·
      refine xg_aload_n hX 0 dW_obeyWithNext_97 rfl rfl ?_
      refine xg_get hX (ci := 1) rfl hinW 0 rfl 7 (by decide) mt_47 rfl dW_obeyWithNext_98 ?_
      refine xg_cV hX wq [.int (nI fi)] (hM := xc_write l D cI wq pw pt cn lf sg bl zr fi si W T fi hcn) (wr := []) (ws' := fun u => match u with | (okA, W2A, cn2A, lf2A, sg2A, fi2A, si2A) => [(wq, .inr (1, [.ref pw, .ref pt, .int (nI cn2A), .int (nI lf2A), .int (bI sg2A), .int (bI bl), .int (bI zr), .int (nI fi2A), .int (nI si2A)])), (pw, .inl (cI, 64, .inl (nf W2A))), (pt, .inl (cI, 31, .inl (nf T)))]) (st' := fun u => match u with | (okA, W2A, cn2A, lf2A, sg2A, fi2A, si2A) => [.int (bI okA)]) [0, 1, 2] [] [0, 1, 2] [] rfl mt_293 mt_290 mt_3 mt_292 mp_13 0 rfl rfl hdW_write (by decide) ⟨rfl, rfl⟩ (by decide) rfl rfl (by decide) rfl (by decide) (by decide) (by decide) (fun u => rfl) (fun u => rfl) (fun u => rfl) rfl rfl (by simp [Value.category]) dW_obeyWithNext_101 (fun u hu => ?_)
      obtain ⟨okA, W2A, cn2A, lf2A, sg2A, fi2A, si2A⟩ := u
      have huA : pres okA (pWr fi (W, cn, lf, sg, fi, si)) (W2A, cn2A, lf2A, sg2A, fi2A, si2A) := hu
      show GG D X 0 0 104 [(wq, .inr (1, [.ref pw, .ref pt, .int (nI cn2A), .int (nI lf2A), .int (bI sg2A), .int (bI bl), .int (bI zr), .int (nI fi2A), .int (nI si2A)])), (pw, .inl (cI, 64, .inl (nf W2A))), (pt, .inl (cI, 31, .inl (nf T)))] [(0, .ref wq), (1, .int (nI k)), (2, .int (nI x))] [.int (bI okA)]
      exact hret (okA, W2A, cn2A, lf2A, sg2A, fi2A, si2A) _ _ _ rfl (xn_narB _) (show pres okA (pNx bl zr k x (W, cn, lf, sg, fi, si)) (W2A, cn2A, lf2A, sg2A, fi2A, si2A) from (by subst hk; simpa [pNx, h90] using huA)) dW_obeyWithNext_104
    ·
      refine xg_iload_n hX 2 dW_obeyWithNext_93 rfl rfl ?_
      refine xg_goto hX 101 dW_obeyWithNext_94 (by decide) ?_
      refine xg_cV hX wq [.int (nI x)] (hM := xc_write l D cI wq pw pt cn lf sg bl zr fi si W T x hcn) (wr := []) (ws' := fun u => match u with | (okA, W2A, cn2A, lf2A, sg2A, fi2A, si2A) => [(wq, .inr (1, [.ref pw, .ref pt, .int (nI cn2A), .int (nI lf2A), .int (bI sg2A), .int (bI bl), .int (bI zr), .int (nI fi2A), .int (nI si2A)])), (pw, .inl (cI, 64, .inl (nf W2A))), (pt, .inl (cI, 31, .inl (nf T)))]) (st' := fun u => match u with | (okA, W2A, cn2A, lf2A, sg2A, fi2A, si2A) => [.int (bI okA)]) [0, 1, 2] [] [0, 1, 2] [] rfl mt_293 mt_290 mt_3 mt_292 mp_13 0 rfl rfl hdW_write (by decide) ⟨rfl, rfl⟩ (by decide) rfl rfl (by decide) rfl (by decide) (by decide) (by decide) (fun u => rfl) (fun u => rfl) (fun u => rfl) rfl rfl (by simp [Value.category]) dW_obeyWithNext_101 (fun u hu => ?_)
      obtain ⟨okA, W2A, cn2A, lf2A, sg2A, fi2A, si2A⟩ := u
      have huA : pres okA (pWr x (W, cn, lf, sg, fi, si)) (W2A, cn2A, lf2A, sg2A, fi2A, si2A) := hu
      show GG D X 0 0 104 [(wq, .inr (1, [.ref pw, .ref pt, .int (nI cn2A), .int (nI lf2A), .int (bI sg2A), .int (bI bl), .int (bI zr), .int (nI fi2A), .int (nI si2A)])), (pw, .inl (cI, 64, .inl (nf W2A))), (pt, .inl (cI, 31, .inl (nf T)))] [(0, .ref wq), (1, .int (nI k)), (2, .int (nI x))] [.int (bI okA)]
      exact hret (okA, W2A, cn2A, lf2A, sg2A, fi2A, si2A) _ _ _ rfl (xn_narB _) (show pres okA (pNx bl zr k x (W, cn, lf, sg, fi, si)) (W2A, cn2A, lf2A, sg2A, fi2A, si2A) from (by subst hk; simpa [pNx, h90] using huA)) dW_obeyWithNext_104
  ·
    refine xg_tab hX (c := 8) hk 105 dW_obeyWithNext_1 (by decide) (by decide) rfl (by decide) ?_
    refine xg_aload_n hX 0 dW_obeyWithNext_105 rfl rfl ?_
    refine xg_iload_n hX 2 dW_obeyWithNext_106 rfl rfl ?_
    refine xg_cV hX wq [.int (nI x)] (hM := xc_fillLast l D cI wq pw pt cn lf sg bl zr fi si W T x hx hcn) (wr := []) (ws' := fun u => match u with | (okA, W2A, cn2A, lf2A, sg2A, fi2A, si2A) => [(wq, .inr (1, [.ref pw, .ref pt, .int (nI cn2A), .int (nI lf2A), .int (bI sg2A), .int (bI bl), .int (bI zr), .int (nI fi2A), .int (nI si2A)])), (pw, .inl (cI, 64, .inl (nf W2A))), (pt, .inl (cI, 31, .inl (nf T)))]) (st' := fun u => match u with | (okA, W2A, cn2A, lf2A, sg2A, fi2A, si2A) => [.int (bI okA)]) [0, 1, 2] [] [0, 1, 2] [] rfl mt_308 mt_305 mt_3 mt_307 mp_16 0 rfl rfl hdW_fillLast (by decide) ⟨rfl, rfl⟩ (by decide) rfl rfl (by decide) rfl (by decide) (by decide) (by decide) (fun u => rfl) (fun u => rfl) (fun u => rfl) rfl rfl (by simp [Value.category]) dW_obeyWithNext_107 (fun u hu => ?_)
    obtain ⟨okA, W2A, cn2A, lf2A, sg2A, fi2A, si2A⟩ := u
    have huA : pres okA (pL8 zr x (W, cn, lf, sg, fi, si)) (W2A, cn2A, lf2A, sg2A, fi2A, si2A) := hu
    show GG D X 0 0 110 [(wq, .inr (1, [.ref pw, .ref pt, .int (nI cn2A), .int (nI lf2A), .int (bI sg2A), .int (bI bl), .int (bI zr), .int (nI fi2A), .int (nI si2A)])), (pw, .inl (cI, 64, .inl (nf W2A))), (pt, .inl (cI, 31, .inl (nf T)))] [(0, .ref wq), (1, .int (nI k)), (2, .int (nI x))] [.int (bI okA)]
    exact hret (okA, W2A, cn2A, lf2A, sg2A, fi2A, si2A) _ _ _ rfl (xn_narB _) (show pres okA (pNx bl zr k x (W, cn, lf, sg, fi, si)) (W2A, cn2A, lf2A, sg2A, fi2A, si2A) from (by subst hk; exact huA)) dW_obeyWithNext_110
set_option maxHeartbeats 4000000 in
set_option maxRecDepth 100000 in
theorem xc_obey (l : Launch) (D : va_G) (cI : ClassId) (wq : Nat) (pw : Nat) (pt : Nat) (cn : Nat) (lf : Nat) (sg : Bool) (bl : Bool) (zr : Bool) (fi : Nat) (si : Nat) (W : Nat → Nat) (T : Nat → Nat) (k : Nat) (nx : Option Nat) (hk1 : 1 ≤ k) (hk2 : k < 256) (hnx : ∀ y, nx = some y → y < 256) (hlf : lf ≤ 31) (hcn : cn ≤ 64) (hT : ∀ j, T j < 10) : Ctr l D cI yW_obey cW_obey 3 (some .boolean) { frames := 3, cells := 0, slots := 0, locals := 68 } [.ref wq, .int (nI k), .int (nxI nx)] [(wq, .inr (1, [.ref pw, .ref pt, .int (nI cn), .int (nI lf), .int (bI sg), .int (bI bl), .int (bI zr), .int (nI fi), .int (nI si)])), (pw, .inl (cI, 64, .inl (nf W))), (pt, .inl (cI, 31, .inl (nf T)))] (fun u : Bool × (Nat → Nat) × Nat × Nat × Bool × Nat × Nat => match u with | (ok, W2, cn2, lf2, sg2, fi2, si2) => some (.int (bI ok))) (fun u : Bool × (Nat → Nat) × Nat × Nat × Bool × Nat × Nat => match u with | (ok, W2, cn2, lf2, sg2, fi2, si2) => pres ok (pOb T bl zr k nx (W, cn, lf, sg, fi, si)) (W2, cn2, lf2, sg2, fi2, si2)) (fun u : Bool × (Nat → Nat) × Nat × Nat × Bool × Nat × Nat => match u with | (ok, W2, cn2, lf2, sg2, fi2, si2) => [(wq, .inr (1, [.ref pw, .ref pt, .int (nI cn2), .int (nI lf2), .int (bI sg2), .int (bI bl), .int (bI zr), .int (nI fi2), .int (nI si2)])), (pw, .inl (cI, 64, .inl (nf W2))), (pt, .inl (cI, 31, .inl (nf T)))]) 0 0 := by
  refine xc_mkZ (by decide +kernel) (Nat.le_of_ble_eq_true rfl) (fun X hX hret => ?_)
  show GG D X 0 0 0 [(wq, .inr (1, [.ref pw, .ref pt, .int (nI cn), .int (nI lf), .int (bI sg), .int (bI bl), .int (bI zr), .int (nI fi), .int (nI si)])), (pw, .inl (cI, 64, .inl (nf W))), (pt, .inl (cI, 31, .inl (nf T)))] [(0, .ref wq), (1, .int (nI k)), (2, .int (nxI nx))] []
  refine xg_iload_n hX 1 dW_obey_0 rfl rfl ?_
  refine xg_sipush hX (nI 160) dW_obey_1 (by decide) ?_
  refine xg_cS hX [.int (nI k), .int (nI 160)] (hM := xc_isRun l D cI k 160 (by omega) (by omega)) (wr := [(wq, .inr (1, [.ref pw, .ref pt, .int (nI cn), .int (nI lf), .int (bI sg), .int (bI bl), .int (bI zr), .int (nI fi), .int (nI si)])), (pw, .inl (cI, 64, .inl (nf W))), (pt, .inl (cI, 31, .inl (nf T)))]) (ws' := fun _ => [(wq, .inr (1, [.ref pw, .ref pt, .int (nI cn), .int (nI lf), .int (bI sg), .int (bI bl), .int (bI zr), .int (nI fi), .int (nI si)])), (pw, .inl (cI, 64, .inl (nf W))), (pt, .inl (cI, 31, .inl (nf T)))]) (st' := fun _ => [.int (bI (decide (160 < k ∧ k ≤ 160 + 15)))]) [] [0, 1, 2] [0, 1, 2] [] rfl mt_281 mt_279 mt_3 mt_280 hdW_isRun (by decide) ⟨rfl, rfl⟩ (by decide) rfl rfl (by decide) rfl (by decide) (by decide) (by decide) (fun u => rfl) (fun u => rfl) (fun u => rfl) rfl rfl (by simp [Value.category]) dW_obey_4 (fun _ _ => ?_)
  refine xg_if_eqB hX 21 dW_obey_7 (by decide) (fun h7 => ?_) (fun h7 => ?_)
  ·
    have c1 : ¬ (160 < k ∧ k ≤ 175) := of_decide_eq_false h7
    refine xg_iload_n hX 1 dW_obey_21 rfl rfl ?_
    refine xg_sipush hX (nI 144) dW_obey_22 (by decide) ?_
    refine xg_cS hX [.int (nI k), .int (nI 144)] (hM := xc_isRun l D cI k 144 (by omega) (by omega)) (wr := [(wq, .inr (1, [.ref pw, .ref pt, .int (nI cn), .int (nI lf), .int (bI sg), .int (bI bl), .int (bI zr), .int (nI fi), .int (nI si)])), (pw, .inl (cI, 64, .inl (nf W))), (pt, .inl (cI, 31, .inl (nf T)))]) (ws' := fun _ => [(wq, .inr (1, [.ref pw, .ref pt, .int (nI cn), .int (nI lf), .int (bI sg), .int (bI bl), .int (bI zr), .int (nI fi), .int (nI si)])), (pw, .inl (cI, 64, .inl (nf W))), (pt, .inl (cI, 31, .inl (nf T)))]) (st' := fun _ => [.int (bI (decide (144 < k ∧ k ≤ 144 + 15)))]) [] [0, 1, 2] [0, 1, 2] [] rfl mt_281 mt_279 mt_3 mt_280 hdW_isRun (by decide) ⟨rfl, rfl⟩ (by decide) rfl rfl (by decide) rfl (by decide) (by decide) (by decide) (fun u => rfl) (fun u => rfl) (fun u => rfl) rfl rfl (by simp [Value.category]) dW_obey_25 (fun _ _ => ?_)
    refine xg_if_eqB hX 42 dW_obey_28 (by decide) (fun h28 => ?_) (fun h28 => ?_)
    ·
      have c2 : ¬ (144 < k ∧ k ≤ 159) := of_decide_eq_false h28
      refine xg_iload_n hX 1 dW_obey_42 rfl rfl ?_
      refine xg_sipush hX (nI 128) dW_obey_43 (by decide) ?_
      refine xg_cS hX [.int (nI k), .int (nI 128)] (hM := xc_isRun l D cI k 128 (by omega) (by omega)) (wr := [(wq, .inr (1, [.ref pw, .ref pt, .int (nI cn), .int (nI lf), .int (bI sg), .int (bI bl), .int (bI zr), .int (nI fi), .int (nI si)])), (pw, .inl (cI, 64, .inl (nf W))), (pt, .inl (cI, 31, .inl (nf T)))]) (ws' := fun _ => [(wq, .inr (1, [.ref pw, .ref pt, .int (nI cn), .int (nI lf), .int (bI sg), .int (bI bl), .int (bI zr), .int (nI fi), .int (nI si)])), (pw, .inl (cI, 64, .inl (nf W))), (pt, .inl (cI, 31, .inl (nf T)))]) (st' := fun _ => [.int (bI (decide (128 < k ∧ k ≤ 128 + 15)))]) [] [0, 1, 2] [0, 1, 2] [] rfl mt_281 mt_279 mt_3 mt_280 hdW_isRun (by decide) ⟨rfl, rfl⟩ (by decide) rfl rfl (by decide) rfl (by decide) (by decide) (by decide) (fun u => rfl) (fun u => rfl) (fun u => rfl) rfl rfl (by simp [Value.category]) dW_obey_46 (fun _ _ => ?_)
      refine xg_if_eqB hX 62 dW_obey_49 (by decide) (fun h49 => ?_) (fun h49 => ?_)
      ·
        have c3 : ¬ (128 < k ∧ k ≤ 143) := of_decide_eq_false h49
        refine xg_iload_n hX 1 dW_obey_62 rfl rfl ?_
        refine xg_cS hX [.int (nI k)] (hM := xc_takesNext l D cI k (by omega)) (wr := [(wq, .inr (1, [.ref pw, .ref pt, .int (nI cn), .int (nI lf), .int (bI sg), .int (bI bl), .int (bI zr), .int (nI fi), .int (nI si)])), (pw, .inl (cI, 64, .inl (nf W))), (pt, .inl (cI, 31, .inl (nf T)))]) (ws' := fun _ => [(wq, .inr (1, [.ref pw, .ref pt, .int (nI cn), .int (nI lf), .int (bI sg), .int (bI bl), .int (bI zr), .int (nI fi), .int (nI si)])), (pw, .inl (cI, 64, .inl (nf W))), (pt, .inl (cI, 31, .inl (nf T)))]) (st' := fun _ => [.int (bI (takesN k))]) [] [0, 1, 2] [0, 1, 2] [] rfl mt_300 mt_298 mt_3 mt_299 hdW_takesNext (by decide) ⟨rfl, rfl⟩ (by decide) rfl rfl (by decide) rfl (by decide) (by decide) (by decide) (fun u => rfl) (fun u => rfl) (fun u => rfl) rfl rfl (by simp [Value.category]) dW_obey_63 (fun _ _ => ?_)
        refine xg_if_eqB hX 88 dW_obey_66 (by decide) (fun h66 => ?_) (fun h66 => ?_)
        ·
          have c4 : ¬ (4 ≤ k ∧ k ≤ 8) := of_decide_eq_false h66
          refine xg_iload_n hX 1 dW_obey_88 rfl rfl ?_
          refine xg_iconst hX (nI 1) dW_obey_89 (by decide) ?_
          refine xg_icmp_eqN hX 98 (by omega) (by omega) dW_obey_90 (by decide) (fun h90 => ?_) (fun h90 => ?_)
          ·
            refine xg_aload_n hX 0 dW_obey_98 rfl rfl ?_
            refine xg_iload_n hX 1 dW_obey_99 rfl rfl ?_
            refine xg_iconst hX (nI 2) dW_obey_100 (by decide) ?_
            refine xg_icmp_neN hX 108 (by omega) (by omega) dW_obey_101 (by decide) (fun h101 => ?_) (fun h101 => ?_)
            ·
              refine xg_iconst hX (nI 0) dW_obey_108 (by decide) ?_
              refine xg_top (bI false) rfl ?_
              refine xg_put hX tyW tyW_ok nmW (ci := 1) rfl hinW (ws' := [(wq, .inr (1, [.ref pw, .ref pt, .int (nI cn), .int (nI lf), .int (bI false), .int (bI bl), .int (bI zr), .int (nI fi), .int (nI si)])), (pw, .inl (cI, 64, .inl (nf W))), (pt, .inl (cI, 31, .inl (nf T)))]) 0 rfl 4 (by decide) mt_43 rfl (xn_narB _) (xn_fitB _) (Nat.le_of_ble_eq_true rfl) rfl dW_obey_109 ?_
              refine xg_iconst hX (nI 1) dW_obey_112 (by decide) ?_
              refine xg_top (bI true) rfl ?_
              exact hret (true, W, cn, lf, false, fi, si) _ _ _ rfl (xn_narB _) (show pres true (pOb T bl zr k nx (W, cn, lf, sg, fi, si)) (W, cn, lf, false, fi, si) from (pres_t (by unfold pOb; rw [if_neg c1, if_neg c2, if_neg c3, if_neg c4, if_pos (by omega)]; first | (rw [decide_eq_true (by omega)]; done) | (rw [decide_eq_false (by omega)]; done)))) dW_obey_113
            ·
              refine xg_iconst hX (nI 1) dW_obey_104 (by decide) ?_
              refine xg_goto hX 109 dW_obey_105 (by decide) ?_
              refine xg_top (bI true) rfl ?_
              refine xg_put hX tyW tyW_ok nmW (ci := 1) rfl hinW (ws' := [(wq, .inr (1, [.ref pw, .ref pt, .int (nI cn), .int (nI lf), .int (bI true), .int (bI bl), .int (bI zr), .int (nI fi), .int (nI si)])), (pw, .inl (cI, 64, .inl (nf W))), (pt, .inl (cI, 31, .inl (nf T)))]) 0 rfl 4 (by decide) mt_43 rfl (xn_narB _) (xn_fitB _) (Nat.le_of_ble_eq_true rfl) rfl dW_obey_109 ?_
              refine xg_iconst hX (nI 1) dW_obey_112 (by decide) ?_
              refine xg_top (bI true) rfl ?_
              exact hret (true, W, cn, lf, true, fi, si) _ _ _ rfl (xn_narB _) (show pres true (pOb T bl zr k nx (W, cn, lf, sg, fi, si)) (W, cn, lf, true, fi, si) from (pres_t (by unfold pOb; rw [if_neg c1, if_neg c2, if_neg c3, if_neg c4, if_pos (by omega)]; first | (rw [decide_eq_true (by omega)]; done) | (rw [decide_eq_false (by omega)]; done)))) dW_obey_113
          ·
            refine xg_iload_n hX 1 dW_obey_93 rfl rfl ?_
            refine xg_iconst hX (nI 2) dW_obey_94 (by decide) ?_
            refine xg_icmp_neN hX 114 (by omega) (by omega) dW_obey_95 (by decide) (fun h95 => ?_) (fun h95 => ?_)
            ·
              refine xg_iload_n hX 1 dW_obey_114 rfl rfl ?_
              refine xg_iconst hX (nI 3) dW_obey_115 (by decide) ?_
              refine xg_icmp_neN hX 134 (by omega) (by omega) dW_obey_116 (by decide) (fun h116 => ?_) (fun h116 => ?_)
              ·
                refine xg_iconst hX (nI 0) dW_obey_134 (by decide) ?_
                refine xg_top (bI false) rfl ?_
                exact hret (false, W, cn, lf, sg, fi, si) _ _ _ rfl (xn_narB _) (show pres false (pOb T bl zr k nx (W, cn, lf, sg, fi, si)) (W, cn, lf, sg, fi, si) from (pres_f (by unfold pOb; rw [if_neg c1, if_neg c2, if_neg c3, if_neg c4, if_neg (by omega)]; rw [if_neg (by omega)]))) dW_obey_135
              ·
                refine xg_aload_n hX 0 dW_obey_119 rfl rfl ?_
                refine xg_aload_n hX 0 dW_obey_120 rfl rfl ?_
                refine xg_get hX (ci := 1) rfl hinW 0 rfl 8 (by decide) mt_48 rfl dW_obey_121 ?_
                refine xg_cV hX wq [.int (nI si)] (hM := xc_write l D cI wq pw pt cn lf sg bl zr fi si W T si hcn) (wr := []) (ws' := fun u => match u with | (okA, W2A, cn2A, lf2A, sg2A, fi2A, si2A) => [(wq, .inr (1, [.ref pw, .ref pt, .int (nI cn2A), .int (nI lf2A), .int (bI sg2A), .int (bI bl), .int (bI zr), .int (nI fi2A), .int (nI si2A)])), (pw, .inl (cI, 64, .inl (nf W2A))), (pt, .inl (cI, 31, .inl (nf T)))]) (st' := fun u => match u with | (okA, W2A, cn2A, lf2A, sg2A, fi2A, si2A) => [.int (bI okA)]) [0, 1, 2] [] [0, 1, 2] [] rfl mt_293 mt_290 mt_3 mt_292 mp_13 0 rfl rfl hdW_write (by decide) ⟨rfl, rfl⟩ (by decide) rfl rfl (by decide) rfl (by decide) (by decide) (by decide) (fun u => rfl) (fun u => rfl) (fun u => rfl) rfl rfl (by simp [Value.category]) dW_obey_124 (fun u hu => ?_)
                obtain ⟨okA, W2A, cn2A, lf2A, sg2A, fi2A, si2A⟩ := u
                have huA : pres okA (pWr si (W, cn, lf, sg, fi, si)) (W2A, cn2A, lf2A, sg2A, fi2A, si2A) := hu
                show GG D X 0 0 127 [(wq, .inr (1, [.ref pw, .ref pt, .int (nI cn2A), .int (nI lf2A), .int (bI sg2A), .int (bI bl), .int (bI zr), .int (nI fi2A), .int (nI si2A)])), (pw, .inl (cI, 64, .inl (nf W2A))), (pt, .inl (cI, 31, .inl (nf T)))] [(0, .ref wq), (1, .int (nI k)), (2, .int (nxI nx))] [.int (bI okA)]
                refine xg_if_eqB hX 134 dW_obey_127 (by decide) (fun h127 => ?_) (fun h127 => ?_)
                ·
                  refine xg_iconst hX (nI 0) dW_obey_134 (by decide) ?_
                  refine xg_top (bI false) rfl ?_
                  exact hret (false, W2A, cn2A, lf2A, sg2A, fi2A, si2A) _ _ _ rfl (xn_narB _) (show pres false (pOb T bl zr k nx (W, cn, lf, sg, fi, si)) (W2A, cn2A, lf2A, sg2A, fi2A, si2A) from (pres_f (by unfold pOb; rw [if_neg c1, if_neg c2, if_neg c3, if_neg c4, if_neg (by omega)]; rw [if_pos (by omega)]; exact pres_none huA h127))) dW_obey_135
                ·
                  refine xg_iconst hX (nI 1) dW_obey_130 (by decide) ?_
                  refine xg_goto hX 135 dW_obey_131 (by decide) ?_
                  refine xg_top (bI true) rfl ?_
                  exact hret (true, W2A, cn2A, lf2A, sg2A, fi2A, si2A) _ _ _ rfl (xn_narB _) (show pres true (pOb T bl zr k nx (W, cn, lf, sg, fi, si)) (W2A, cn2A, lf2A, sg2A, fi2A, si2A) from (pres_t (by unfold pOb; rw [if_neg c1, if_neg c2, if_neg c3, if_neg c4, if_neg (by omega)]; rw [if_pos (by omega)]; exact pres_some huA h127))) dW_obey_135
            ·
              refine xg_aload_n hX 0 dW_obey_98 rfl rfl ?_
              refine xg_iload_n hX 1 dW_obey_99 rfl rfl ?_
              refine xg_iconst hX (nI 2) dW_obey_100 (by decide) ?_
              refine xg_icmp_neN hX 108 (by omega) (by omega) dW_obey_101 (by decide) (fun h101 => ?_) (fun h101 => ?_)
              ·
                refine xg_iconst hX (nI 0) dW_obey_108 (by decide) ?_
                refine xg_top (bI false) rfl ?_
                refine xg_put hX tyW tyW_ok nmW (ci := 1) rfl hinW (ws' := [(wq, .inr (1, [.ref pw, .ref pt, .int (nI cn), .int (nI lf), .int (bI false), .int (bI bl), .int (bI zr), .int (nI fi), .int (nI si)])), (pw, .inl (cI, 64, .inl (nf W))), (pt, .inl (cI, 31, .inl (nf T)))]) 0 rfl 4 (by decide) mt_43 rfl (xn_narB _) (xn_fitB _) (Nat.le_of_ble_eq_true rfl) rfl dW_obey_109 ?_
                refine xg_iconst hX (nI 1) dW_obey_112 (by decide) ?_
                refine xg_top (bI true) rfl ?_
                exact hret (true, W, cn, lf, false, fi, si) _ _ _ rfl (xn_narB _) (show pres true (pOb T bl zr k nx (W, cn, lf, sg, fi, si)) (W, cn, lf, false, fi, si) from (pres_t (by unfold pOb; rw [if_neg c1, if_neg c2, if_neg c3, if_neg c4, if_pos (by omega)]; first | (rw [decide_eq_true (by omega)]; done) | (rw [decide_eq_false (by omega)]; done)))) dW_obey_113
              ·
                refine xg_iconst hX (nI 1) dW_obey_104 (by decide) ?_
                refine xg_goto hX 109 dW_obey_105 (by decide) ?_
                refine xg_top (bI true) rfl ?_
                refine xg_put hX tyW tyW_ok nmW (ci := 1) rfl hinW (ws' := [(wq, .inr (1, [.ref pw, .ref pt, .int (nI cn), .int (nI lf), .int (bI true), .int (bI bl), .int (bI zr), .int (nI fi), .int (nI si)])), (pw, .inl (cI, 64, .inl (nf W))), (pt, .inl (cI, 31, .inl (nf T)))]) 0 rfl 4 (by decide) mt_43 rfl (xn_narB _) (xn_fitB _) (Nat.le_of_ble_eq_true rfl) rfl dW_obey_109 ?_
                refine xg_iconst hX (nI 1) dW_obey_112 (by decide) ?_
                refine xg_top (bI true) rfl ?_
                exact hret (true, W, cn, lf, true, fi, si) _ _ _ rfl (xn_narB _) (show pres true (pOb T bl zr k nx (W, cn, lf, sg, fi, si)) (W, cn, lf, true, fi, si) from (pres_t (by unfold pOb; rw [if_neg c1, if_neg c2, if_neg c3, if_neg c4, if_pos (by omega)]; first | (rw [decide_eq_true (by omega)]; done) | (rw [decide_eq_false (by omega)]; done)))) dW_obey_113
        ·
          have c4 : 4 ≤ k ∧ k ≤ 8 := of_decide_eq_true h66
          cases nx with
          | none =>
            show GG D X 0 0 69 [(wq, .inr (1, [.ref pw, .ref pt, .int (nI cn), .int (nI lf), .int (bI sg), .int (bI bl), .int (bI zr), .int (nI fi), .int (nI si)])), (pw, .inl (cI, 64, .inl (nf W))), (pt, .inl (cI, 31, .inl (nf T)))] [(0, .ref wq), (1, .int (nI k)), (2, .int (-1))] []
            refine xg_iload_n hX 2 dW_obey_69 rfl rfl ?_
            refine xg_if_lt hX 86 dW_obey_70 (by decide) (fun _ => ?_) (fun h => absurd (by decide) h)
            refine xg_iconst hX (nI 0) dW_obey_86 (by decide) ?_
            refine xg_top (bI false) rfl ?_
            exact hret (false, W, cn, lf, sg, fi, si) _ _ _ rfl (xn_narB _) (pres_f (by unfold pOb; rw [if_neg c1, if_neg c2, if_neg c3, if_pos c4]; rfl)) dW_obey_87
          | some y =>
            have hy := hnx y rfl
            show GG D X 0 0 69 [(wq, .inr (1, [.ref pw, .ref pt, .int (nI cn), .int (nI lf), .int (bI sg), .int (bI bl), .int (bI zr), .int (nI fi), .int (nI si)])), (pw, .inl (cI, 64, .inl (nf W))), (pt, .inl (cI, 31, .inl (nf T)))] [(0, .ref wq), (1, .int (nI k)), (2, .int (nI y))] []
            refine xg_iload_n hX 2 dW_obey_69 rfl rfl ?_
            refine xg_if_ltN hX 86 (by omega) dW_obey_70 (by decide) ?_
            refine xg_aload_n hX 0 dW_obey_73 rfl rfl ?_
            refine xg_iload_n hX 1 dW_obey_74 rfl rfl ?_
            refine xg_iload_n hX 2 dW_obey_75 rfl rfl ?_
            refine xg_cV hX wq [.int (nI k), .int (nI y)] (hM := xc_obeyNext l D cI wq pw pt cn lf sg bl zr fi si W T k y (by omega) (by omega) (hnx _ rfl) hcn) (wr := []) (ws' := fun u => match u with | (okA, W2A, cn2A, lf2A, sg2A, fi2A, si2A) => [(wq, .inr (1, [.ref pw, .ref pt, .int (nI cn2A), .int (nI lf2A), .int (bI sg2A), .int (bI bl), .int (bI zr), .int (nI fi2A), .int (nI si2A)])), (pw, .inl (cI, 64, .inl (nf W2A))), (pt, .inl (cI, 31, .inl (nf T)))]) (st' := fun u => match u with | (okA, W2A, cn2A, lf2A, sg2A, fi2A, si2A) => [.int (bI okA)]) [0, 1, 2] [] [0, 1, 2] [] rfl mt_304 mt_301 mt_3 mt_303 mp_15 0 rfl rfl hdW_obeyWithNext (by decide) ⟨rfl, rfl⟩ (by decide) rfl rfl (by decide) rfl (by decide) (by decide) (by decide) (fun u => rfl) (fun u => rfl) (fun u => rfl) rfl rfl (by simp [Value.category]) dW_obey_76 (fun u hu => ?_)
            obtain ⟨okA, W2A, cn2A, lf2A, sg2A, fi2A, si2A⟩ := u
            have huA : pres okA (pNx bl zr k y (W, cn, lf, sg, fi, si)) (W2A, cn2A, lf2A, sg2A, fi2A, si2A) := hu
            show GG D X 0 0 79 [(wq, .inr (1, [.ref pw, .ref pt, .int (nI cn2A), .int (nI lf2A), .int (bI sg2A), .int (bI bl), .int (bI zr), .int (nI fi2A), .int (nI si2A)])), (pw, .inl (cI, 64, .inl (nf W2A))), (pt, .inl (cI, 31, .inl (nf T)))] [(0, .ref wq), (1, .int (nI k)), (2, .int (nI y))] [.int (bI okA)]
            refine xg_if_eqB hX 86 dW_obey_79 (by decide) (fun h79 => ?_) (fun h79 => ?_)
            ·
              refine xg_iconst hX (nI 0) dW_obey_86 (by decide) ?_
              refine xg_top (bI false) rfl ?_
              exact hret (false, W2A, cn2A, lf2A, sg2A, fi2A, si2A) _ _ _ rfl (xn_narB _) (pres_f (by unfold pOb; rw [if_neg c1, if_neg c2, if_neg c3, if_pos c4]; exact pres_none huA h79)) dW_obey_87
            ·
              refine xg_iconst hX (nI 1) dW_obey_82 (by decide) ?_
              refine xg_goto hX 87 dW_obey_83 (by decide) ?_
              refine xg_top (bI true) rfl ?_
              exact hret (true, W2A, cn2A, lf2A, sg2A, fi2A, si2A) _ _ _ rfl (xn_narB _) (pres_t (by unfold pOb; rw [if_neg c1, if_neg c2, if_neg c3, if_pos c4]; exact pres_some huA h79)) dW_obey_87
      ·
        have c3 : 128 < k ∧ k ≤ 143 := of_decide_eq_true h49
        refine xg_aload_n hX 0 dW_obey_52 rfl rfl ?_
        refine xg_iload_n hX 1 dW_obey_53 rfl rfl ?_
        refine xg_sipush hX (nI 128) dW_obey_54 (by decide) ?_
        refine xg_isubN hX (by omega) dW_obey_57 ?_
        refine xg_cV hX wq [.int (nI (k - 128))] (hM := xc_writeFills l D cI wq pw pt cn lf sg bl zr fi si W T (k - 128) (by omega) hcn) (wr := []) (ws' := fun u => match u with | (okA, W2A, cn2A, lf2A, sg2A, fi2A, si2A) => [(wq, .inr (1, [.ref pw, .ref pt, .int (nI cn2A), .int (nI lf2A), .int (bI sg2A), .int (bI bl), .int (bI zr), .int (nI fi2A), .int (nI si2A)])), (pw, .inl (cI, 64, .inl (nf W2A))), (pt, .inl (cI, 31, .inl (nf T)))]) (st' := fun u => match u with | (okA, W2A, cn2A, lf2A, sg2A, fi2A, si2A) => [.int (bI okA)]) [0, 1, 2] [] [0, 1, 2] [] rfl mt_297 mt_294 mt_3 mt_296 mp_14 0 rfl rfl hdW_writeFills (by decide) ⟨rfl, rfl⟩ (by decide) rfl rfl (by decide) rfl (by decide) (by decide) (by decide) (fun u => rfl) (fun u => rfl) (fun u => rfl) rfl rfl (by simp [Value.category]) dW_obey_58 (fun u hu => ?_)
        obtain ⟨okA, W2A, cn2A, lf2A, sg2A, fi2A, si2A⟩ := u
        have huA : pres okA (pFl (k - 128) (W, cn, lf, sg, fi, si)) (W2A, cn2A, lf2A, sg2A, fi2A, si2A) := hu
        show GG D X 0 0 61 [(wq, .inr (1, [.ref pw, .ref pt, .int (nI cn2A), .int (nI lf2A), .int (bI sg2A), .int (bI bl), .int (bI zr), .int (nI fi2A), .int (nI si2A)])), (pw, .inl (cI, 64, .inl (nf W2A))), (pt, .inl (cI, 31, .inl (nf T)))] [(0, .ref wq), (1, .int (nI k)), (2, .int (nxI nx))] [.int (bI okA)]
        exact hret (okA, W2A, cn2A, lf2A, sg2A, fi2A, si2A) _ _ _ rfl (xn_narB _) (show pres okA (pOb T bl zr k nx (W, cn, lf, sg, fi, si)) (W2A, cn2A, lf2A, sg2A, fi2A, si2A) from (by unfold pOb; rw [if_neg c1, if_neg c2, if_pos c3]; exact huA)) dW_obey_61
    ·
      have c2 : 144 < k ∧ k ≤ 159 := of_decide_eq_true h28
      refine xg_aload_n hX 0 dW_obey_31 rfl rfl ?_
      refine xg_iload_n hX 1 dW_obey_32 rfl rfl ?_
      refine xg_sipush hX (nI 144) dW_obey_33 (by decide) ?_
      refine xg_isubN hX (by omega) dW_obey_36 ?_
      refine xg_iconst hX (nI 0) dW_obey_37 (by decide) ?_
      refine xg_cV hX wq [.int (nI (k - 144)), .int (bI false)] (hM := xc_writeDigits l D cI wq pw pt cn lf sg bl zr fi si W T (k - 144) false (by omega) hlf hcn hT) (wr := []) (ws' := fun u => match u with | (okA, W2A, cn2A, lf2A, sg2A, fi2A, si2A) => [(wq, .inr (1, [.ref pw, .ref pt, .int (nI cn2A), .int (nI lf2A), .int (bI sg2A), .int (bI bl), .int (bI zr), .int (nI fi2A), .int (nI si2A)])), (pw, .inl (cI, 64, .inl (nf W2A))), (pt, .inl (cI, 31, .inl (nf T)))]) (st' := fun u => match u with | (okA, W2A, cn2A, lf2A, sg2A, fi2A, si2A) => [.int (bI okA)]) [0, 1, 2] [] [0, 1, 2] [] (by simp [bI_nI]) mt_285 mt_282 mt_3 mt_284 mp_11 0 rfl rfl hdW_writeDigits (by decide) ⟨rfl, rfl⟩ (by decide) rfl rfl (by decide) rfl (by decide) (by decide) (by decide) (fun u => rfl) (fun u => rfl) (fun u => rfl) rfl rfl (by simp [Value.category]) dW_obey_38 (fun u hu => ?_)
      obtain ⟨okA, W2A, cn2A, lf2A, sg2A, fi2A, si2A⟩ := u
      have huA : pres okA (pDs T false (k - 144) (W, cn, lf, sg, fi, si)) (W2A, cn2A, lf2A, sg2A, fi2A, si2A) := hu
      show GG D X 0 0 41 [(wq, .inr (1, [.ref pw, .ref pt, .int (nI cn2A), .int (nI lf2A), .int (bI sg2A), .int (bI bl), .int (bI zr), .int (nI fi2A), .int (nI si2A)])), (pw, .inl (cI, 64, .inl (nf W2A))), (pt, .inl (cI, 31, .inl (nf T)))] [(0, .ref wq), (1, .int (nI k)), (2, .int (nxI nx))] [.int (bI okA)]
      exact hret (okA, W2A, cn2A, lf2A, sg2A, fi2A, si2A) _ _ _ rfl (xn_narB _) (show pres okA (pOb T bl zr k nx (W, cn, lf, sg, fi, si)) (W2A, cn2A, lf2A, sg2A, fi2A, si2A) from (by unfold pOb; rw [if_neg c1, if_pos c2]; exact huA)) dW_obey_41
  ·
    have c1 : 160 < k ∧ k ≤ 175 := of_decide_eq_true h7
    refine xg_aload_n hX 0 dW_obey_10 rfl rfl ?_
    refine xg_iload_n hX 1 dW_obey_11 rfl rfl ?_
    refine xg_sipush hX (nI 160) dW_obey_12 (by decide) ?_
    refine xg_isubN hX (by omega) dW_obey_15 ?_
    refine xg_iconst hX (nI 1) dW_obey_16 (by decide) ?_
    refine xg_cV hX wq [.int (nI (k - 160)), .int (bI true)] (hM := xc_writeDigits l D cI wq pw pt cn lf sg bl zr fi si W T (k - 160) true (by omega) hlf hcn hT) (wr := []) (ws' := fun u => match u with | (okA, W2A, cn2A, lf2A, sg2A, fi2A, si2A) => [(wq, .inr (1, [.ref pw, .ref pt, .int (nI cn2A), .int (nI lf2A), .int (bI sg2A), .int (bI bl), .int (bI zr), .int (nI fi2A), .int (nI si2A)])), (pw, .inl (cI, 64, .inl (nf W2A))), (pt, .inl (cI, 31, .inl (nf T)))]) (st' := fun u => match u with | (okA, W2A, cn2A, lf2A, sg2A, fi2A, si2A) => [.int (bI okA)]) [0, 1, 2] [] [0, 1, 2] [] (by simp [bI_nI]) mt_285 mt_282 mt_3 mt_284 mp_11 0 rfl rfl hdW_writeDigits (by decide) ⟨rfl, rfl⟩ (by decide) rfl rfl (by decide) rfl (by decide) (by decide) (by decide) (fun u => rfl) (fun u => rfl) (fun u => rfl) rfl rfl (by simp [Value.category]) dW_obey_17 (fun u hu => ?_)
    obtain ⟨okA, W2A, cn2A, lf2A, sg2A, fi2A, si2A⟩ := u
    have huA : pres okA (pDs T true (k - 160) (W, cn, lf, sg, fi, si)) (W2A, cn2A, lf2A, sg2A, fi2A, si2A) := hu
    show GG D X 0 0 20 [(wq, .inr (1, [.ref pw, .ref pt, .int (nI cn2A), .int (nI lf2A), .int (bI sg2A), .int (bI bl), .int (bI zr), .int (nI fi2A), .int (nI si2A)])), (pw, .inl (cI, 64, .inl (nf W2A))), (pt, .inl (cI, 31, .inl (nf T)))] [(0, .ref wq), (1, .int (nI k)), (2, .int (nxI nx))] [.int (bI okA)]
    exact hret (okA, W2A, cn2A, lf2A, sg2A, fi2A, si2A) _ _ _ rfl (xn_narB _) (show pres okA (pOb T bl zr k nx (W, cn, lf, sg, fi, si)) (W2A, cn2A, lf2A, sg2A, fi2A, si2A) from (by unfold pOb; rw [if_pos c1]; exact huA)) dW_obey_20
