set_option maxHeartbeats 4000000 in
set_option maxRecDepth 100000 in
theorem yc_quotient (l : Launch) (D : va_G) (cI : ClassId) (mq : Nat) (mm : Nat) (m1 : Nat) (m2 : Nat) (mo : Nat) (mr : Nat) (mw : Nat) (o1 : Bool) (o2 : Bool) (oo : Bool) (men : Bool) (M : Nat → Nat) (x1 : Nat → Nat) (x2 : Nat → Nat) (xo : Nat → Nat) (xr : Nat → Nat) (n : Int32) (a : Int32) (m : Int32) (b : Int32) (k : Int32) (c : Int32) (hM : ∀ j, M j < 256) : Ctr l D cI yM_quotient cM_quotient 13 (some .int) { frames := 3, cells := 0, slots := 0, locals := 81 } [.ref mq, .int n, .int a, .int m, .int b, .int k, .int c] [(mq, .inr (3, [.ref mm, .ref m1, .ref m2, .ref mo, .ref mr, .int (bI o1), .int (bI o2), .int (bI oo), .ref mw, .int (bI men)])), (mm, .inl (cI, 256, .inl (nf M))), (m1, .inl (cI, 200, .inl (nf x1))), (m2, .inl (cI, 200, .inl (nf x2))), (mo, .inl (cI, 200, .inl (nf xo))), (mr, .inl (cI, 200, .inl (nf xr)))] (fun u : Int32 × (Nat → Nat) × (Nat → Nat) × (Nat → Nat) × (Nat → Nat) × (Nat → Nat) × Bool × Bool × Bool => match u with | (r, M2, y1, y2, yo, yr, q1, q2, qo) => some (.int r)) (fun u : Int32 × (Nat → Nat) × (Nat → Nat) × (Nat → Nat) × (Nat → Nat) × (Nat → Nat) × Bool × Bool × Bool => match u with | (r, M2, y1, y2, yo, yr, q1, q2, qo) => (r, M2) = quotM M n a m b k c) (fun u : Int32 × (Nat → Nat) × (Nat → Nat) × (Nat → Nat) × (Nat → Nat) × (Nat → Nat) × Bool × Bool × Bool => match u with | (r, M2, y1, y2, yo, yr, q1, q2, qo) => [(mq, .inr (3, [.ref mm, .ref m1, .ref m2, .ref mo, .ref mr, .int (bI q1), .int (bI q2), .int (bI qo), .ref mw, .int (bI men)])), (mm, .inl (cI, 256, .inl (nf M2))), (m1, .inl (cI, 200, .inl (nf y1))), (m2, .inl (cI, 200, .inl (nf y2))), (mo, .inl (cI, 200, .inl (nf yo))), (mr, .inl (cI, 200, .inl (nf yr)))]) 0 0 := by
  refine xc_mkI (by decide +kernel) (Nat.le_of_ble_eq_true rfl) (fun X hX hret => ?_)
  show GG D X 0 0 0 [(mq, .inr (3, [.ref mm, .ref m1, .ref m2, .ref mo, .ref mr, .int (bI o1), .int (bI o2), .int (bI oo), .ref mw, .int (bI men)])), (mm, .inl (cI, 256, .inl (nf M))), (m1, .inl (cI, 200, .inl (nf x1))), (m2, .inl (cI, 200, .inl (nf x2))), (mo, .inl (cI, 200, .inl (nf xo))), (mr, .inl (cI, 200, .inl (nf xr)))] [(0, .ref mq), (1, .int n), (2, .int a), (3, .int m), (4, .int b), (5, .int k), (6, .int c)] []
  refine xg_aload_n hX 0 dM_quotient_0 rfl rfl ?_
  refine xg_iload_n hX 1 dM_quotient_1 rfl rfl ?_
  refine xg_iload_n hX 2 dM_quotient_2 rfl rfl ?_
  refine xg_iload_n hX 3 dM_quotient_3 rfl rfl ?_
  refine xg_iload hX 4 dM_quotient_4 rfl ?_
  refine xg_iload hX 5 dM_quotient_6 rfl ?_
  refine xg_iload hX 6 dM_quotient_8 rfl ?_
  refine xg_cV hX mq [.int n, .int a, .int m, .int b, .int k, .int c] (hM := yc_three l D cI mq mm m1 m2 mo mr mw o1 o2 oo men M x1 x2 n a m b k c hM) (wr := [(mo, .inl (cI, 200, .inl (nf xo))), (mr, .inl (cI, 200, .inl (nf xr)))]) (ws' := fun u => match u with | (rO, z1, w1, z2, w2) => [(mq, .inr (3, [.ref mm, .ref m1, .ref m2, .ref mo, .ref mr, .int (bI w1), .int (bI w2), .int (bI oo), .ref mw, .int (bI men)])), (mm, .inl (cI, 256, .inl (nf M))), (m1, .inl (cI, 200, .inl (nf z1))), (m2, .inl (cI, 200, .inl (nf z2))), (mo, .inl (cI, 200, .inl (nf xo))), (mr, .inl (cI, 200, .inl (nf xr)))]) (st' := fun u => match u with | (rO, z1, w1, z2, w2) => [.int rO]) [0, 1, 2, 3] [4, 5] [2, 3, 4, 5, 0, 1] [] rfl mt_370 mt_367 mt_4 mt_369 mp_17 0 rfl rfl hdM_three (by decide) ⟨rfl, rfl⟩ (by decide) rfl rfl (by decide) rfl (by decide) (by decide) (by decide) (fun u => rfl) (fun u => rfl) (fun u => rfl) rfl rfl (by simp [Value.category]) dM_quotient_10 (fun u hu => ?_)
  obtain ⟨rO, z1, w1, z2, w2⟩ := u
  have huO : rO = opR M n a m b k c ∧ (rO = 0 → z1 = rdD M (tn n) (tn a) ∧ w1 = rdG M (tn n) (tn a) ∧ z2 = rdD M (tn m) (tn b) ∧ w2 = rdG M (tn m) (tn b)) := hu
  show GG D X 0 0 13 [(mq, .inr (3, [.ref mm, .ref m1, .ref m2, .ref mo, .ref mr, .int (bI w1), .int (bI w2), .int (bI oo), .ref mw, .int (bI men)])), (mm, .inl (cI, 256, .inl (nf M))), (m1, .inl (cI, 200, .inl (nf z1))), (m2, .inl (cI, 200, .inl (nf z2))), (mo, .inl (cI, 200, .inl (nf xo))), (mr, .inl (cI, 200, .inl (nf xr)))] [(0, .ref mq), (1, .int n), (2, .int a), (3, .int m), (4, .int b), (5, .int k), (6, .int c)] [.int rO]
  refine xg_istore hX (lv' := [(7, .int rO), (0, .ref mq), (1, .int n), (2, .int a), (3, .int m), (4, .int b), (5, .int k), (6, .int c)]) dM_quotient_13 (by decide) rfl ?_
  refine xg_iload hX 0 dM_quotient_15 rfl ?_
  refine xg_if_ge hX 23 dM_quotient_17 (by decide) (fun h17 => ?_) (fun h17 => ?_)
  ·
    have ho0 : opR M n a m b k c = 0 := opR_ge (by rw [← huO.1]; exact h17)
    obtain ⟨f1, f2, f3, g1, g2⟩ := opR_0 ho0
    obtain ⟨rfl, rfl, rfl, rfl⟩ := huO.2 (huO.1.trans ho0)
    have hx := sm_rd (df1 f1) g1
    have hy := sm_rd (df1 f2) g2
    refine xg_aload_n hX 1 dM_quotient_23 rfl rfl ?_
    refine xg_get hX (ci := 3) rfl hinM 0 rfl 1 (by decide) mt_325 rfl dM_quotient_24 ?_
    refine xg_cS hX [.ref m1] (hM := yc_isZero l D cI m1 (rdD M (tn n) (tn a)) (fun j => by have := hx.1 j; omega)) (wr := [(mq, .inr (3, [.ref mm, .ref m1, .ref m2, .ref mo, .ref mr, .int (bI (rdG M (tn n) (tn a))), .int (bI (rdG M (tn m) (tn b))), .int (bI oo), .ref mw, .int (bI men)])), (mm, .inl (cI, 256, .inl (nf M))), (m2, .inl (cI, 200, .inl (nf (rdD M (tn m) (tn b))))), (mo, .inl (cI, 200, .inl (nf xo))), (mr, .inl (cI, 200, .inl (nf xr)))]) (ws' := fun _ => [(mq, .inr (3, [.ref mm, .ref m1, .ref m2, .ref mo, .ref mr, .int (bI (rdG M (tn n) (tn a))), .int (bI (rdG M (tn m) (tn b))), .int (bI oo), .ref mw, .int (bI men)])), (mm, .inl (cI, 256, .inl (nf M))), (m1, .inl (cI, 200, .inl (nf (rdD M (tn n) (tn a))))), (m2, .inl (cI, 200, .inl (nf (rdD M (tn m) (tn b))))), (mo, .inl (cI, 200, .inl (nf xo))), (mr, .inl (cI, 200, .inl (nf xr)))]) (st' := fun _ => [.int (bI (!hasD (rdD M (tn n) (tn a)) 0 200))]) [2] [0, 1, 3, 4, 5] [0, 1, 5, 2, 3, 4] [] rfl mt_409 mt_407 mt_4 mt_408 hdM_isZero (by decide) ⟨rfl, rfl⟩ (by decide) rfl rfl (by decide) rfl (by decide) (by decide) (by decide) (fun u => rfl) (fun u => rfl) (fun u => rfl) rfl rfl (by simp [Value.category]) dM_quotient_27 (fun _ _ => ?_)
    refine xg_if_eqB hX 36 dM_quotient_30 (by decide) (fun h30 => ?_) (fun h30 => ?_)
    ·
      refine xg_iconst hX (nI 0) dM_quotient_36 (by decide) ?_
      refine xg_istore hX (lv' := [(8, .int (nI 0)), (7, .int rO), (0, .ref mq), (1, .int n), (2, .int a), (3, .int m), (4, .int b), (5, .int k), (6, .int c)]) dM_quotient_37 (by decide) rfl ?_
      have lp1 : ∀ (fu2 : Nat) (i : Nat), (i ≤ 200) → 200 - i < fu2 → GG D X 0 0 39 [(mq, .inr (3, [.ref mm, .ref m1, .ref m2, .ref mo, .ref mr, .int (bI (rdG M (tn n) (tn a))), .int (bI (rdG M (tn m) (tn b))), .int (bI oo), .ref mw, .int (bI men)])), (mm, .inl (cI, 256, .inl (nf M))), (m1, .inl (cI, 200, .inl (nf (rdD M (tn n) (tn a))))), (m2, .inl (cI, 200, .inl (nf (rdD M (tn m) (tn b))))), (mo, .inl (cI, 200, .inl (nf (mix i zf xo)))), (mr, .inl (cI, 200, .inl (nf (mix i zf xr))))] [(0, .ref mq), (5, .int k), (6, .int c), (8, .int (nI i))] [] := by
        intro fu2
        induction fu2 with
        | zero => intro i hi hm4; exact absurd hm4 (Nat.not_lt_zero _)
        | succ fu2 ih3 =>
          intro i hi hm4
          refine xg_iload hX 3 dM_quotient_39 rfl ?_
          refine xg_sipush hX (nI 200) dM_quotient_41 (by decide) ?_
          refine xg_icmp_geN hX 69 (by omega) (by omega) dM_quotient_44 (by decide) (fun h44 => ?_) (fun h44 => ?_)
          ·
            refine xg_bipush hX (nI 30) dM_quotient_69 (by decide) ?_
            refine xg_istore hX (lv' := [(8, .int (nI 30)), (0, .ref mq), (5, .int k), (6, .int c)]) dM_quotient_71 (by decide) rfl ?_
            have lp5 : ∀ (fu6 : Nat) (dd : Nat), (dd ≤ 31) → dd < fu6 → GG D X 0 0 73 [(mq, .inr (3, [.ref mm, .ref m1, .ref m2, .ref mo, .ref mr, .int (bI (rdG M (tn n) (tn a))), .int (bI (rdG M (tn m) (tn b))), .int (bI oo), .ref mw, .int (bI men)])), (mm, .inl (cI, 256, .inl (nf M))), (m1, .inl (cI, 200, .inl (nf (rdD M (tn n) (tn a))))), (m2, .inl (cI, 200, .inl (nf (rdD M (tn m) (tn b))))), (mo, .inl (cI, 200, .inl (nf (qmx dd (dvQ 200 (rdD M (tn m) (tn b)) (rdD M (tn n) (tn a))))))), (mr, .inl (cI, 200, .inl (nf (dvR 200 (rdD M (tn m) (tn b)) (rdD M (tn n) (tn a)) (31 - dd)))))] [(0, .ref mq), (5, .int k), (6, .int c), (8, .int (nI dd - 1))] [] := by
              intro fu6
              induction fu6 with
              | zero => intro dd hdd hm8; exact absurd hm8 (Nat.not_lt_zero _)
              | succ fu6 ih7 =>
                intro dd hdd hm8
                cases dd with
                | zero =>
                  rw [show nI 0 - 1 = (-1 : Int32) from by decide]
                  refine xg_iload hX 3 dM_quotient_73 rfl ?_
                  refine xg_if_lt hX 237 dM_quotient_75 (by decide) (fun _ => ?_) (fun h => absurd (by decide) h)
                  refine xg_aload_n hX 0 dM_quotient_237 rfl rfl ?_
                  refine xg_aload_n hX 0 dM_quotient_238 rfl rfl ?_
                  refine xg_get hX (ci := 3) rfl hinM 0 rfl 5 (by decide) mt_329 rfl dM_quotient_239 ?_
                  refine xg_aload_n hX 0 dM_quotient_242 rfl rfl ?_
                  refine xg_get hX (ci := 3) rfl hinM 0 rfl 6 (by decide) mt_330 rfl dM_quotient_243 ?_
                  refine xg_icmp_eqB hX 253 dM_quotient_246 (by decide) (fun h246 => ?_) (fun h246 => ?_)
                  ·
                    refine xg_iconst hX (nI 0) dM_quotient_253 (by decide) ?_
                    refine xg_top (bI false) rfl ?_
                    refine xg_put hX tyM tyM_ok nmM (ci := 3) rfl hinM (ws' := [(mq, .inr (3, [.ref mm, .ref m1, .ref m2, .ref mo, .ref mr, .int (bI (rdG M (tn n) (tn a))), .int (bI (rdG M (tn m) (tn b))), .int (bI false), .ref mw, .int (bI men)])), (mm, .inl (cI, 256, .inl (nf M))), (m1, .inl (cI, 200, .inl (nf (rdD M (tn n) (tn a))))), (m2, .inl (cI, 200, .inl (nf (rdD M (tn m) (tn b))))), (mo, .inl (cI, 200, .inl (nf (qmx 0 (dvQ 200 (rdD M (tn m) (tn b)) (rdD M (tn n) (tn a))))))), (mr, .inl (cI, 200, .inl (nf (dvR 200 (rdD M (tn m) (tn b)) (rdD M (tn n) (tn a)) (31 - 0)))))]) 0 rfl 7 (by decide) mt_331 rfl (xn_narB _) (xn_fitB _) (Nat.le_of_ble_eq_true rfl) rfl dM_quotient_254 ?_
                    refine xg_wsE (ws' := [(mq, .inr (3, [.ref mm, .ref m1, .ref m2, .ref mo, .ref mr, .int (bI (rdG M (tn n) (tn a))), .int (bI (rdG M (tn m) (tn b))), .int (bI (rdG M (tn n) (tn a) != rdG M (tn m) (tn b))), .ref mw, .int (bI men)])), (mm, .inl (cI, 256, .inl (nf M))), (m1, .inl (cI, 200, .inl (nf (rdD M (tn n) (tn a))))), (m2, .inl (cI, 200, .inl (nf (rdD M (tn m) (tn b))))), (mo, .inl (cI, 200, .inl (nf (qmx 0 (dvQ 200 (rdD M (tn m) (tn b)) (rdD M (tn n) (tn a))))))), (mr, .inl (cI, 200, .inl (nf (dvR 200 (rdD M (tn m) (tn b)) (rdD M (tn n) (tn a)) (31 - 0)))))]) (by rw [← (show (bI false : Int32) = bI (rdG M (tn n) (tn a) != rdG M (tn m) (tn b)) from (by first | (rw [show (rdG M (tn n) (tn a) != rdG M (tn m) (tn b)) = false by simp [h246]]; done) | (rw [show (rdG M (tn n) (tn a) != rdG M (tn m) (tn b)) = true by simp [h246]]; done)))]) ?_
                    refine xg_aload_n hX 0 dM_quotient_257 rfl rfl ?_
                    refine xg_iload hX 1 dM_quotient_258 rfl ?_
                    refine xg_top (nI (tn k)) (df3 f3) ?_
                    refine xg_iload hX 2 dM_quotient_260 rfl ?_
                    refine xg_top (nI (tn c)) (df4 f3) ?_
                    refine xg_cV hX mq [.int (nI (tn k)), .int (nI (tn c))] (hM := yc_write l D cI mq mm m1 m2 mo mr mw (rdG M (tn n) (tn a)) (rdG M (tn m) (tn b)) (rdG M (tn n) (tn a) != rdG M (tn m) (tn b)) men M (qmx 0 (dvQ 200 (rdD M (tn m) (tn b)) (rdD M (tn n) (tn a)))) (tn k) (tn c) (df1 f3) (df2 f3) hM (qmx_lt (dvQ_lt hy.1 hx.1)) qmx_z) (wr := [(m1, .inl (cI, 200, .inl (nf (rdD M (tn n) (tn a))))), (m2, .inl (cI, 200, .inl (nf (rdD M (tn m) (tn b))))), (mr, .inl (cI, 200, .inl (nf (dvR 200 (rdD M (tn m) (tn b)) (rdD M (tn n) (tn a)) (31 - 0)))))]) (ws' := fun _ => [(mq, .inr (3, [.ref mm, .ref m1, .ref m2, .ref mo, .ref mr, .int (bI (rdG M (tn n) (tn a))), .int (bI (rdG M (tn m) (tn b))), .int (bI (rdG M (tn n) (tn a) != rdG M (tn m) (tn b))), .ref mw, .int (bI men)])), (mm, .inl (cI, 256, .inl (nf (wrM M (qmx 0 (dvQ 200 (rdD M (tn m) (tn b)) (rdD M (tn n) (tn a)))) (rdG M (tn n) (tn a) != rdG M (tn m) (tn b)) (tn k) (tn c))))), (m1, .inl (cI, 200, .inl (nf (rdD M (tn n) (tn a))))), (m2, .inl (cI, 200, .inl (nf (rdD M (tn m) (tn b))))), (mo, .inl (cI, 200, .inl (nf (mix (tn k) (qmx 0 (dvQ 200 (rdD M (tn m) (tn b)) (rdD M (tn n) (tn a)))) zf)))), (mr, .inl (cI, 200, .inl (nf (dvR 200 (rdD M (tn m) (tn b)) (rdD M (tn n) (tn a)) (31 - 0)))))]) (st' := fun _ => [.int (nI (flg (qmx 0 (dvQ 200 (rdD M (tn m) (tn b)) (rdD M (tn n) (tn a)))) (rdG M (tn n) (tn a) != rdG M (tn m) (tn b)) (tn k)))]) [0, 1, 4] [2, 3, 5] [3, 4, 0, 1, 5, 2] [] rfl mt_398 mt_395 mt_4 mt_397 mp_21 0 rfl rfl hdM_write (by decide) ⟨rfl, rfl⟩ (by decide) rfl rfl (by decide) rfl (by decide) (by decide) (by decide) (fun u => rfl) (fun u => rfl) (fun u => rfl) rfl rfl (by simp [Value.category]) dM_quotient_262 (fun _ _ => ?_)
                    exact hret (nI (flg (qmx 0 (dvQ 200 (rdD M (tn m) (tn b)) (rdD M (tn n) (tn a)))) (rdG M (tn n) (tn a) != rdG M (tn m) (tn b)) (tn k)), wrM M (qmx 0 (dvQ 200 (rdD M (tn m) (tn b)) (rdD M (tn n) (tn a)))) (rdG M (tn n) (tn a) != rdG M (tn m) (tn b)) (tn k) (tn c), rdD M (tn n) (tn a), rdD M (tn m) (tn b), mix (tn k) (qmx 0 (dvQ 200 (rdD M (tn m) (tn b)) (rdD M (tn n) (tn a)))) zf, dvR 200 (rdD M (tn m) (tn b)) (rdD M (tn n) (tn a)) (31 - 0), rdG M (tn n) (tn a), rdG M (tn m) (tn b), rdG M (tn n) (tn a) != rdG M (tn m) (tn b)) _ _ _ rfl (show ((nI (flg (qmx 0 (dvQ 200 (rdD M (tn m) (tn b)) (rdD M (tn n) (tn a)))) (rdG M (tn n) (tn a) != rdG M (tn m) (tn b)) (tn k))), (wrM M (qmx 0 (dvQ 200 (rdD M (tn m) (tn b)) (rdD M (tn n) (tn a)))) (rdG M (tn n) (tn a) != rdG M (tn m) (tn b)) (tn k) (tn c))) = quotM M n a m b k c from (by unfold quotM; rw [if_pos ho0, if_pos (nb_f h30)]; exact arZ_ys.symm)) dM_quotient_265
                  ·
                    refine xg_iconst hX (nI 1) dM_quotient_249 (by decide) ?_
                    refine xg_goto hX 254 dM_quotient_250 (by decide) ?_
                    refine xg_top (bI true) rfl ?_
                    refine xg_put hX tyM tyM_ok nmM (ci := 3) rfl hinM (ws' := [(mq, .inr (3, [.ref mm, .ref m1, .ref m2, .ref mo, .ref mr, .int (bI (rdG M (tn n) (tn a))), .int (bI (rdG M (tn m) (tn b))), .int (bI true), .ref mw, .int (bI men)])), (mm, .inl (cI, 256, .inl (nf M))), (m1, .inl (cI, 200, .inl (nf (rdD M (tn n) (tn a))))), (m2, .inl (cI, 200, .inl (nf (rdD M (tn m) (tn b))))), (mo, .inl (cI, 200, .inl (nf (qmx 0 (dvQ 200 (rdD M (tn m) (tn b)) (rdD M (tn n) (tn a))))))), (mr, .inl (cI, 200, .inl (nf (dvR 200 (rdD M (tn m) (tn b)) (rdD M (tn n) (tn a)) (31 - 0)))))]) 0 rfl 7 (by decide) mt_331 rfl (xn_narB _) (xn_fitB _) (Nat.le_of_ble_eq_true rfl) rfl dM_quotient_254 ?_
                    refine xg_wsE (ws' := [(mq, .inr (3, [.ref mm, .ref m1, .ref m2, .ref mo, .ref mr, .int (bI (rdG M (tn n) (tn a))), .int (bI (rdG M (tn m) (tn b))), .int (bI (rdG M (tn n) (tn a) != rdG M (tn m) (tn b))), .ref mw, .int (bI men)])), (mm, .inl (cI, 256, .inl (nf M))), (m1, .inl (cI, 200, .inl (nf (rdD M (tn n) (tn a))))), (m2, .inl (cI, 200, .inl (nf (rdD M (tn m) (tn b))))), (mo, .inl (cI, 200, .inl (nf (qmx 0 (dvQ 200 (rdD M (tn m) (tn b)) (rdD M (tn n) (tn a))))))), (mr, .inl (cI, 200, .inl (nf (dvR 200 (rdD M (tn m) (tn b)) (rdD M (tn n) (tn a)) (31 - 0)))))]) (by rw [← (show (bI true : Int32) = bI (rdG M (tn n) (tn a) != rdG M (tn m) (tn b)) from (by first | (rw [show (rdG M (tn n) (tn a) != rdG M (tn m) (tn b)) = false by simp [h246]]; done) | (rw [show (rdG M (tn n) (tn a) != rdG M (tn m) (tn b)) = true by simp [h246]]; done)))]) ?_
                    refine xg_aload_n hX 0 dM_quotient_257 rfl rfl ?_
                    refine xg_iload hX 1 dM_quotient_258 rfl ?_
                    refine xg_top (nI (tn k)) (df3 f3) ?_
                    refine xg_iload hX 2 dM_quotient_260 rfl ?_
                    refine xg_top (nI (tn c)) (df4 f3) ?_
                    refine xg_cV hX mq [.int (nI (tn k)), .int (nI (tn c))] (hM := yc_write l D cI mq mm m1 m2 mo mr mw (rdG M (tn n) (tn a)) (rdG M (tn m) (tn b)) (rdG M (tn n) (tn a) != rdG M (tn m) (tn b)) men M (qmx 0 (dvQ 200 (rdD M (tn m) (tn b)) (rdD M (tn n) (tn a)))) (tn k) (tn c) (df1 f3) (df2 f3) hM (qmx_lt (dvQ_lt hy.1 hx.1)) qmx_z) (wr := [(m1, .inl (cI, 200, .inl (nf (rdD M (tn n) (tn a))))), (m2, .inl (cI, 200, .inl (nf (rdD M (tn m) (tn b))))), (mr, .inl (cI, 200, .inl (nf (dvR 200 (rdD M (tn m) (tn b)) (rdD M (tn n) (tn a)) (31 - 0)))))]) (ws' := fun _ => [(mq, .inr (3, [.ref mm, .ref m1, .ref m2, .ref mo, .ref mr, .int (bI (rdG M (tn n) (tn a))), .int (bI (rdG M (tn m) (tn b))), .int (bI (rdG M (tn n) (tn a) != rdG M (tn m) (tn b))), .ref mw, .int (bI men)])), (mm, .inl (cI, 256, .inl (nf (wrM M (qmx 0 (dvQ 200 (rdD M (tn m) (tn b)) (rdD M (tn n) (tn a)))) (rdG M (tn n) (tn a) != rdG M (tn m) (tn b)) (tn k) (tn c))))), (m1, .inl (cI, 200, .inl (nf (rdD M (tn n) (tn a))))), (m2, .inl (cI, 200, .inl (nf (rdD M (tn m) (tn b))))), (mo, .inl (cI, 200, .inl (nf (mix (tn k) (qmx 0 (dvQ 200 (rdD M (tn m) (tn b)) (rdD M (tn n) (tn a)))) zf)))), (mr, .inl (cI, 200, .inl (nf (dvR 200 (rdD M (tn m) (tn b)) (rdD M (tn n) (tn a)) (31 - 0)))))]) (st' := fun _ => [.int (nI (flg (qmx 0 (dvQ 200 (rdD M (tn m) (tn b)) (rdD M (tn n) (tn a)))) (rdG M (tn n) (tn a) != rdG M (tn m) (tn b)) (tn k)))]) [0, 1, 4] [2, 3, 5] [3, 4, 0, 1, 5, 2] [] rfl mt_398 mt_395 mt_4 mt_397 mp_21 0 rfl rfl hdM_write (by decide) ⟨rfl, rfl⟩ (by decide) rfl rfl (by decide) rfl (by decide) (by decide) (by decide) (fun u => rfl) (fun u => rfl) (fun u => rfl) rfl rfl (by simp [Value.category]) dM_quotient_262 (fun _ _ => ?_)
                    exact hret (nI (flg (qmx 0 (dvQ 200 (rdD M (tn m) (tn b)) (rdD M (tn n) (tn a)))) (rdG M (tn n) (tn a) != rdG M (tn m) (tn b)) (tn k)), wrM M (qmx 0 (dvQ 200 (rdD M (tn m) (tn b)) (rdD M (tn n) (tn a)))) (rdG M (tn n) (tn a) != rdG M (tn m) (tn b)) (tn k) (tn c), rdD M (tn n) (tn a), rdD M (tn m) (tn b), mix (tn k) (qmx 0 (dvQ 200 (rdD M (tn m) (tn b)) (rdD M (tn n) (tn a)))) zf, dvR 200 (rdD M (tn m) (tn b)) (rdD M (tn n) (tn a)) (31 - 0), rdG M (tn n) (tn a), rdG M (tn m) (tn b), rdG M (tn n) (tn a) != rdG M (tn m) (tn b)) _ _ _ rfl (show ((nI (flg (qmx 0 (dvQ 200 (rdD M (tn m) (tn b)) (rdD M (tn n) (tn a)))) (rdG M (tn n) (tn a) != rdG M (tn m) (tn b)) (tn k))), (wrM M (qmx 0 (dvQ 200 (rdD M (tn m) (tn b)) (rdD M (tn n) (tn a)))) (rdG M (tn n) (tn a) != rdG M (tn m) (tn b)) (tn k) (tn c))) = quotM M n a m b k c from (by unfold quotM; rw [if_pos ho0, if_pos (nb_f h30)]; exact arZ_ys.symm)) dM_quotient_265
                | succ j =>
                  rw [nI_pred]
                  have b1 := hy.1 j
                  have b2 : ∀ q, (bdW 200 (dvR 200 (rdD M (tn m) (tn b)) (rdD M (tn n) (tn a)) (31 - (j + 1))) ((rdD M (tn m) (tn b)) j)) q < 10 := bdW_lt (dvR_lt hy.1 hx.1 _) b1
                  refine xg_iload hX 3 dM_quotient_73 rfl ?_
                  refine xg_if_ltN hX 237 (by omega) dM_quotient_75 (by decide) ?_
                  refine xg_sipush hX (nI 199) dM_quotient_78 (by decide) ?_
                  refine xg_istore hX (lv' := [(9, .int (nI 199)), (0, .ref mq), (5, .int k), (6, .int c), (8, .int (nI j))]) dM_quotient_81 (by decide) rfl ?_
                  have lp11 : ∀ (fu12 : Nat) (p : Nat), (p ≤ 199) → p < fu12 → GG D X 0 0 83 [(mq, .inr (3, [.ref mm, .ref m1, .ref m2, .ref mo, .ref mr, .int (bI (rdG M (tn n) (tn a))), .int (bI (rdG M (tn m) (tn b))), .int (bI oo), .ref mw, .int (bI men)])), (mm, .inl (cI, 256, .inl (nf M))), (m1, .inl (cI, 200, .inl (nf (rdD M (tn n) (tn a))))), (m2, .inl (cI, 200, .inl (nf (rdD M (tn m) (tn b))))), (mo, .inl (cI, 200, .inl (nf (qmx (j + 1) (dvQ 200 (rdD M (tn m) (tn b)) (rdD M (tn n) (tn a))))))), (mr, .inl (cI, 200, .inl (nf (bdQ 200 (dvR 200 (rdD M (tn m) (tn b)) (rdD M (tn n) (tn a)) (31 - (j + 1))) p))))] [(0, .ref mq), (5, .int k), (6, .int c), (8, .int (nI j)), (9, .int (nI p))] [] := by
                    intro fu12
                    induction fu12 with
                    | zero => intro p hp hm14; exact absurd hm14 (Nat.not_lt_zero _)
                    | succ fu12 ih13 =>
                      intro p hp hm14
                      refine xg_iload hX 4 dM_quotient_83 rfl ?_
                      refine xg_if_leN hX 110 (by omega) dM_quotient_85 (by decide) (fun h85 => ?_) (fun h85 => ?_)
                      ·
                        refine xg_aload_n hX 0 dM_quotient_110 rfl rfl ?_
                        refine xg_get hX (ci := 3) rfl hinM 0 rfl 4 (by decide) mt_328 rfl dM_quotient_111 ?_
                        refine xg_iconst hX (nI 0) dM_quotient_114 (by decide) ?_
                        refine xg_aload_n hX 0 dM_quotient_115 rfl rfl ?_
                        refine xg_get hX (ci := 3) rfl hinM 0 rfl 2 (by decide) mt_326 rfl dM_quotient_116 ?_
                        refine xg_iload hX 3 dM_quotient_119 rfl ?_
                        refine xg_iald hX 3 j rfl (by omega) (by decide) dM_quotient_121 ?_
                        refine xg_iast hX (ws' := [(mq, .inr (3, [.ref mm, .ref m1, .ref m2, .ref mo, .ref mr, .int (bI (rdG M (tn n) (tn a))), .int (bI (rdG M (tn m) (tn b))), .int (bI oo), .ref mw, .int (bI men)])), (mm, .inl (cI, 256, .inl (nf M))), (m1, .inl (cI, 200, .inl (nf (rdD M (tn n) (tn a))))), (m2, .inl (cI, 200, .inl (nf (rdD M (tn m) (tn b))))), (mo, .inl (cI, 200, .inl (nf (qmx (j + 1) (dvQ 200 (rdD M (tn m) (tn b)) (rdD M (tn n) (tn a))))))), (mr, .inl (cI, 200, .inl (nf (up (bdQ 200 (dvR 200 (rdD M (tn m) (tn b)) (rdD M (tn n) (tn a)) (31 - (j + 1))) p) 0 ((rdD M (tn m) (tn b)) j)))))]) 5 0 ((rdD M (tn m) (tn b)) j) rfl (by omega) (by decide) rfl dM_quotient_122 ?_
                        refine xg_ext hX (g := bdW 200 (dvR 200 (rdD M (tn m) (tn b)) (rdD M (tn n) (tn a)) (31 - (j + 1))) ((rdD M (tn m) (tn b)) j)) (ws' := [(mq, .inr (3, [.ref mm, .ref m1, .ref m2, .ref mo, .ref mr, .int (bI (rdG M (tn n) (tn a))), .int (bI (rdG M (tn m) (tn b))), .int (bI oo), .ref mw, .int (bI men)])), (mm, .inl (cI, 256, .inl (nf M))), (m1, .inl (cI, 200, .inl (nf (rdD M (tn n) (tn a))))), (m2, .inl (cI, 200, .inl (nf (rdD M (tn m) (tn b))))), (mo, .inl (cI, 200, .inl (nf (qmx (j + 1) (dvQ 200 (rdD M (tn m) (tn b)) (rdD M (tn n) (tn a))))))), (mr, .inl (cI, 200, .inl (nf (bdW 200 (dvR 200 (rdD M (tn m) (tn b)) (rdD M (tn n) (tn a)) (31 - (j + 1))) ((rdD M (tn m) (tn b)) j)))))]) 5 rfl (fun q hq9 => by rw [h85]; exact bdQ_e q) rfl ?_
                        refine xg_iconst hX (nI 0) dM_quotient_123 (by decide) ?_
                        refine xg_istore hX (lv' := [(9, .int (nI 0)), (0, .ref mq), (5, .int k), (6, .int c), (8, .int (nI j))]) dM_quotient_124 (by decide) rfl ?_
                        have lp15 : ∀ (fu16 : Nat) (t : Nat) (r : Nat → Nat), (t ≤ 9) → (∀ q, r q < 10) → (taF 200 (rdD M (tn n) (tn a)) 9 (bdW 200 (dvR 200 (rdD M (tn m) (tn b)) (rdD M (tn n) (tn a)) (31 - (j + 1))) ((rdD M (tn m) (tn b)) j)) = (t + (taF 200 (rdD M (tn n) (tn a)) (9 - t) r).1, (taF 200 (rdD M (tn n) (tn a)) (9 - t) r).2)) → 9 - t < fu16 → GG D X 0 0 126 [(mq, .inr (3, [.ref mm, .ref m1, .ref m2, .ref mo, .ref mr, .int (bI (rdG M (tn n) (tn a))), .int (bI (rdG M (tn m) (tn b))), .int (bI oo), .ref mw, .int (bI men)])), (mm, .inl (cI, 256, .inl (nf M))), (m1, .inl (cI, 200, .inl (nf (rdD M (tn n) (tn a))))), (m2, .inl (cI, 200, .inl (nf (rdD M (tn m) (tn b))))), (mo, .inl (cI, 200, .inl (nf (up (qmx (j + 1) (dvQ 200 (rdD M (tn m) (tn b)) (rdD M (tn n) (tn a)))) j t)))), (mr, .inl (cI, 200, .inl (nf r)))] [(0, .ref mq), (5, .int k), (6, .int c), (8, .int (nI j)), (9, .int (nI t))] [] := by
                          intro fu16
                          induction fu16 with
                          | zero => intro t r ht hr hq hm18; exact absurd hm18 (Nat.not_lt_zero _)
                          | succ fu16 ih17 =>
                            intro t r ht hr hq hm18
                            refine xg_iload hX 4 dM_quotient_126 rfl ?_
                            refine xg_bipush hX (nI 9) dM_quotient_128 (by decide) ?_
                            refine xg_icmp_geN hX 231 (by omega) (by omega) dM_quotient_130 (by decide) (fun h130 => ?_) (fun h130 => ?_)
                            ·
                              have hzz : taF 200 (rdD M (tn n) (tn a)) 9 (bdW 200 (dvR 200 (rdD M (tn m) (tn b)) (rdD M (tn n) (tn a)) (31 - (j + 1))) ((rdD M (tn m) (tn b)) j)) = (t, r) := hq.trans (by first | exact taF_end9 (by omega) | exact taF_lt0 (by omega) h144)
                              refine xg_iinc hX (lv' := [(8, .int (nI j - 1)), (0, .ref mq), (5, .int k), (6, .int c), (9, .int (nI t))]) (nI j - 1) 3 dM_quotient_231 rfl (xn_decZ _) (by decide) rfl ?_
                              refine xg_goto hX 73 dM_quotient_234 (by decide) ?_
                              refine xg_ext hX (g := qmx j (dvQ 200 (rdD M (tn m) (tn b)) (rdD M (tn n) (tn a)))) (ws' := [(mq, .inr (3, [.ref mm, .ref m1, .ref m2, .ref mo, .ref mr, .int (bI (rdG M (tn n) (tn a))), .int (bI (rdG M (tn m) (tn b))), .int (bI oo), .ref mw, .int (bI men)])), (mm, .inl (cI, 256, .inl (nf M))), (m1, .inl (cI, 200, .inl (nf (rdD M (tn n) (tn a))))), (m2, .inl (cI, 200, .inl (nf (rdD M (tn m) (tn b))))), (mo, .inl (cI, 200, .inl (nf (qmx j (dvQ 200 (rdD M (tn m) (tn b)) (rdD M (tn n) (tn a))))))), (mr, .inl (cI, 200, .inl (nf r)))]) 4 rfl (fun q hq9 => qmx_s (by omega) (by rw [← dv_q (by omega), hzz]) q) rfl ?_
                              refine xg_ext hX (g := dvR 200 (rdD M (tn m) (tn b)) (rdD M (tn n) (tn a)) (31 - j)) (ws' := [(mq, .inr (3, [.ref mm, .ref m1, .ref m2, .ref mo, .ref mr, .int (bI (rdG M (tn n) (tn a))), .int (bI (rdG M (tn m) (tn b))), .int (bI oo), .ref mw, .int (bI men)])), (mm, .inl (cI, 256, .inl (nf M))), (m1, .inl (cI, 200, .inl (nf (rdD M (tn n) (tn a))))), (m2, .inl (cI, 200, .inl (nf (rdD M (tn m) (tn b))))), (mo, .inl (cI, 200, .inl (nf (qmx j (dvQ 200 (rdD M (tn m) (tn b)) (rdD M (tn n) (tn a))))))), (mr, .inl (cI, 200, .inl (nf (dvR 200 (rdD M (tn m) (tn b)) (rdD M (tn n) (tn a)) (31 - j)))))]) 5 rfl (fun q hq9 => by rw [← dv_s (by omega), hzz]) rfl ?_
                              refine xg_lv hX (lv' := [(0, .ref mq), (5, .int k), (6, .int c), (8, .int (nI j - 1))]) [1, 2, 3, 0] rfl ?_
                              exact ih7 j (by omega) (by omega)
                            ·
                              refine xg_aload_n hX 0 dM_quotient_133 rfl rfl ?_
                              refine xg_get hX (ci := 3) rfl hinM 0 rfl 4 (by decide) mt_328 rfl dM_quotient_134 ?_
                              refine xg_aload_n hX 0 dM_quotient_137 rfl rfl ?_
                              refine xg_get hX (ci := 3) rfl hinM 0 rfl 1 (by decide) mt_325 rfl dM_quotient_138 ?_
                              refine xg_cS hX [.ref mr, .ref m1] (hM := yc_than l D cI mr r m1 (rdD M (tn n) (tn a)) (fun q => by have := hr q; omega) (fun q => by have := hx.1 q; omega)) (wr := [(mq, .inr (3, [.ref mm, .ref m1, .ref m2, .ref mo, .ref mr, .int (bI (rdG M (tn n) (tn a))), .int (bI (rdG M (tn m) (tn b))), .int (bI oo), .ref mw, .int (bI men)])), (mm, .inl (cI, 256, .inl (nf M))), (m2, .inl (cI, 200, .inl (nf (rdD M (tn m) (tn b))))), (mo, .inl (cI, 200, .inl (nf (up (qmx (j + 1) (dvQ 200 (rdD M (tn m) (tn b)) (rdD M (tn n) (tn a)))) j t))))]) (ws' := fun _ => [(mq, .inr (3, [.ref mm, .ref m1, .ref m2, .ref mo, .ref mr, .int (bI (rdG M (tn n) (tn a))), .int (bI (rdG M (tn m) (tn b))), .int (bI oo), .ref mw, .int (bI men)])), (mm, .inl (cI, 256, .inl (nf M))), (m1, .inl (cI, 200, .inl (nf (rdD M (tn n) (tn a))))), (m2, .inl (cI, 200, .inl (nf (rdD M (tn m) (tn b))))), (mo, .inl (cI, 200, .inl (nf (up (qmx (j + 1) (dvQ 200 (rdD M (tn m) (tn b)) (rdD M (tn n) (tn a)))) j t)))), (mr, .inl (cI, 200, .inl (nf r)))]) (st' := fun _ => [.int (cmpZ r (rdD M (tn n) (tn a)) 200)]) [5, 2] [0, 1, 3, 4] [0, 1, 5, 2, 3, 4] [] rfl mt_394 mt_392 mt_4 mt_393 hdM_than (by decide) ⟨rfl, rfl⟩ (by decide) rfl rfl (by decide) rfl (by decide) (by decide) (by decide) (fun u => rfl) (fun u => rfl) (fun u => rfl) rfl rfl (by simp [Value.category]) dM_quotient_141 (fun _ _ => ?_)
                              refine xg_if_lt hX 231 dM_quotient_144 (by decide) (fun h144 => ?_) (fun h144 => ?_)
                              ·
                                have hzz : taF 200 (rdD M (tn n) (tn a)) 9 (bdW 200 (dvR 200 (rdD M (tn m) (tn b)) (rdD M (tn n) (tn a)) (31 - (j + 1))) ((rdD M (tn m) (tn b)) j)) = (t, r) := hq.trans (by first | exact taF_end9 (by omega) | exact taF_lt0 (by omega) h144)
                                refine xg_iinc hX (lv' := [(8, .int (nI j - 1)), (0, .ref mq), (5, .int k), (6, .int c), (9, .int (nI t))]) (nI j - 1) 3 dM_quotient_231 rfl (xn_decZ _) (by decide) rfl ?_
                                refine xg_goto hX 73 dM_quotient_234 (by decide) ?_
                                refine xg_ext hX (g := qmx j (dvQ 200 (rdD M (tn m) (tn b)) (rdD M (tn n) (tn a)))) (ws' := [(mq, .inr (3, [.ref mm, .ref m1, .ref m2, .ref mo, .ref mr, .int (bI (rdG M (tn n) (tn a))), .int (bI (rdG M (tn m) (tn b))), .int (bI oo), .ref mw, .int (bI men)])), (mm, .inl (cI, 256, .inl (nf M))), (m1, .inl (cI, 200, .inl (nf (rdD M (tn n) (tn a))))), (m2, .inl (cI, 200, .inl (nf (rdD M (tn m) (tn b))))), (mo, .inl (cI, 200, .inl (nf (qmx j (dvQ 200 (rdD M (tn m) (tn b)) (rdD M (tn n) (tn a))))))), (mr, .inl (cI, 200, .inl (nf r)))]) 4 rfl (fun q hq9 => qmx_s (by omega) (by rw [← dv_q (by omega), hzz]) q) rfl ?_
                                refine xg_ext hX (g := dvR 200 (rdD M (tn m) (tn b)) (rdD M (tn n) (tn a)) (31 - j)) (ws' := [(mq, .inr (3, [.ref mm, .ref m1, .ref m2, .ref mo, .ref mr, .int (bI (rdG M (tn n) (tn a))), .int (bI (rdG M (tn m) (tn b))), .int (bI oo), .ref mw, .int (bI men)])), (mm, .inl (cI, 256, .inl (nf M))), (m1, .inl (cI, 200, .inl (nf (rdD M (tn n) (tn a))))), (m2, .inl (cI, 200, .inl (nf (rdD M (tn m) (tn b))))), (mo, .inl (cI, 200, .inl (nf (qmx j (dvQ 200 (rdD M (tn m) (tn b)) (rdD M (tn n) (tn a))))))), (mr, .inl (cI, 200, .inl (nf (dvR 200 (rdD M (tn m) (tn b)) (rdD M (tn n) (tn a)) (31 - j)))))]) 5 rfl (fun q hq9 => by rw [← dv_s (by omega), hzz]) rfl ?_
                                refine xg_lv hX (lv' := [(0, .ref mq), (5, .int k), (6, .int c), (8, .int (nI j - 1))]) [1, 2, 3, 0] rfl ?_
                                exact ih7 j (by omega) (by omega)
                              ·
                                refine xg_iconst hX (nI 0) dM_quotient_147 (by decide) ?_
                                refine xg_istore hX (lv' := [(10, .int (nI 0)), (0, .ref mq), (5, .int k), (6, .int c), (8, .int (nI j)), (9, .int (nI t))]) dM_quotient_148 (by decide) rfl ?_
                                refine xg_iconst hX (nI 0) dM_quotient_150 (by decide) ?_
                                refine xg_istore hX (lv' := [(11, .int (nI 0)), (10, .int (nI 0)), (0, .ref mq), (5, .int k), (6, .int c), (8, .int (nI j)), (9, .int (nI t))]) dM_quotient_151 (by decide) rfl ?_
                                have lp19 : ∀ (fu20 : Nat) (p : Nat), (p ≤ 200) → 200 - p < fu20 → GG D X 0 0 153 [(mq, .inr (3, [.ref mm, .ref m1, .ref m2, .ref mo, .ref mr, .int (bI (rdG M (tn n) (tn a))), .int (bI (rdG M (tn m) (tn b))), .int (bI oo), .ref mw, .int (bI men)])), (mm, .inl (cI, 256, .inl (nf M))), (m1, .inl (cI, 200, .inl (nf (rdD M (tn n) (tn a))))), (m2, .inl (cI, 200, .inl (nf (rdD M (tn m) (tn b))))), (mo, .inl (cI, 200, .inl (nf (up (qmx (j + 1) (dvQ 200 (rdD M (tn m) (tn b)) (rdD M (tn n) (tn a)))) j t)))), (mr, .inl (cI, 200, .inl (nf (mix p (suD r (rdD M (tn n) (tn a))) r))))] [(0, .ref mq), (5, .int k), (6, .int c), (8, .int (nI j)), (9, .int (nI t)), (10, .int (nI (suB r (rdD M (tn n) (tn a)) p))), (11, .int (nI p))] [] := by
                                  intro fu20
                                  induction fu20 with
                                  | zero => intro p hp hm22; exact absurd hm22 (Nat.not_lt_zero _)
                                  | succ fu20 ih21 =>
                                    intro p hp hm22
                                    have e1 := hr p
                                    have e2 := hx.1 p
                                    have e3 := suB_le r (rdD M (tn n) (tn a)) p
                                    have e4 : (nI (r p) - nI ((rdD M (tn n) (tn a)) p) - nI (suB r (rdD M (tn n) (tn a)) p)).toInt = (r p : Int) - ((rdD M (tn n) (tn a)) p : Int) - (suB r (rdD M (tn n) (tn a)) p : Int) := xn_s3 (by omega) (by omega) (by omega)
                                    refine xg_iload hX 6 dM_quotient_153 rfl ?_
                                    refine xg_sipush hX (nI 200) dM_quotient_155 (by decide) ?_
                                    refine xg_icmp_geN hX 214 (by omega) (by omega) dM_quotient_158 (by decide) (fun h158 => ?_) (fun h158 => ?_)
                                    ·
                                      have hie : p = 200 := by omega
                                      refine xg_ext hX (g := sbW 200 r (rdD M (tn n) (tn a))) (ws' := [(mq, .inr (3, [.ref mm, .ref m1, .ref m2, .ref mo, .ref mr, .int (bI (rdG M (tn n) (tn a))), .int (bI (rdG M (tn m) (tn b))), .int (bI oo), .ref mw, .int (bI men)])), (mm, .inl (cI, 256, .inl (nf M))), (m1, .inl (cI, 200, .inl (nf (rdD M (tn n) (tn a))))), (m2, .inl (cI, 200, .inl (nf (rdD M (tn m) (tn b))))), (mo, .inl (cI, 200, .inl (nf (up (qmx (j + 1) (dvQ 200 (rdD M (tn m) (tn b)) (rdD M (tn n) (tn a)))) j t)))), (mr, .inl (cI, 200, .inl (nf (sbW 200 r (rdD M (tn n) (tn a))))))]) 5 rfl (fun q hq9 => by rw [hie]; rfl) rfl ?_
                                      refine xg_aload_n hX 0 dM_quotient_214 rfl rfl ?_
                                      refine xg_get hX (ci := 3) rfl hinM 0 rfl 3 (by decide) mt_327 rfl dM_quotient_215 ?_
                                      refine xg_iload hX 3 dM_quotient_218 rfl ?_
                                      refine xg_dup2 hX dM_quotient_220 rfl rfl ?_
                                      refine xg_iald hX 4 j rfl (by omega) (by decide) dM_quotient_221 ?_
                                      refine xg_top (nI t) (by rw [up_s]) ?_
                                      refine xg_iconst hX (nI 1) dM_quotient_222 (by decide) ?_
                                      refine xg_iaddN hX dM_quotient_223 ?_
                                      refine xg_iast hX (ws' := [(mq, .inr (3, [.ref mm, .ref m1, .ref m2, .ref mo, .ref mr, .int (bI (rdG M (tn n) (tn a))), .int (bI (rdG M (tn m) (tn b))), .int (bI oo), .ref mw, .int (bI men)])), (mm, .inl (cI, 256, .inl (nf M))), (m1, .inl (cI, 200, .inl (nf (rdD M (tn n) (tn a))))), (m2, .inl (cI, 200, .inl (nf (rdD M (tn m) (tn b))))), (mo, .inl (cI, 200, .inl (nf (up (up (qmx (j + 1) (dvQ 200 (rdD M (tn m) (tn b)) (rdD M (tn n) (tn a)))) j t) j (t + 1))))), (mr, .inl (cI, 200, .inl (nf (sbW 200 r (rdD M (tn n) (tn a))))))]) 4 j (t + 1) rfl (by omega) (by decide) rfl dM_quotient_224 ?_
                                      refine xg_ext hX (g := up (qmx (j + 1) (dvQ 200 (rdD M (tn m) (tn b)) (rdD M (tn n) (tn a)))) j (t + 1)) (ws' := [(mq, .inr (3, [.ref mm, .ref m1, .ref m2, .ref mo, .ref mr, .int (bI (rdG M (tn n) (tn a))), .int (bI (rdG M (tn m) (tn b))), .int (bI oo), .ref mw, .int (bI men)])), (mm, .inl (cI, 256, .inl (nf M))), (m1, .inl (cI, 200, .inl (nf (rdD M (tn n) (tn a))))), (m2, .inl (cI, 200, .inl (nf (rdD M (tn m) (tn b))))), (mo, .inl (cI, 200, .inl (nf (up (qmx (j + 1) (dvQ 200 (rdD M (tn m) (tn b)) (rdD M (tn n) (tn a)))) j (t + 1))))), (mr, .inl (cI, 200, .inl (nf (sbW 200 r (rdD M (tn n) (tn a))))))]) 4 rfl (fun q hq9 => up_up q) rfl ?_
                                      refine xg_iincN hX (lv' := [(9, .int (nI (t + 1))), (0, .ref mq), (5, .int k), (6, .int c), (8, .int (nI j)), (10, .int (nI (suB r (rdD M (tn n) (tn a)) p))), (11, .int (nI p))]) (t + 1) 4 dM_quotient_225 rfl (xn_inc _) (by decide) rfl ?_
                                      refine xg_goto hX 126 dM_quotient_228 (by decide) ?_
                                      refine xg_lv hX (lv' := [(0, .ref mq), (5, .int k), (6, .int c), (8, .int (nI j)), (9, .int (nI (t + 1)))]) [1, 2, 3, 4, 0] rfl ?_
                                      exact ih17 (t + 1) (sbW 200 r (rdD M (tn n) (tn a))) (by omega) (sbW_lt hr hx.1) (hq.trans (taF_s (by omega) h144)) (by omega)
                                    ·
                                      refine xg_aload_n hX 0 dM_quotient_161 rfl rfl ?_
                                      refine xg_get hX (ci := 3) rfl hinM 0 rfl 4 (by decide) mt_328 rfl dM_quotient_162 ?_
                                      refine xg_iload hX 6 dM_quotient_165 rfl ?_
                                      refine xg_iald hX 5 p rfl (by omega) (by decide) dM_quotient_167 ?_
                                      refine xg_top (nI (r p)) (by rw [mix_hi (Nat.le_refl p)]) ?_
                                      refine xg_aload_n hX 0 dM_quotient_168 rfl rfl ?_
                                      refine xg_get hX (ci := 3) rfl hinM 0 rfl 1 (by decide) mt_325 rfl dM_quotient_169 ?_
                                      refine xg_iload hX 6 dM_quotient_172 rfl ?_
                                      refine xg_iald hX 2 p rfl (by omega) (by decide) dM_quotient_174 ?_
                                      refine xg_isub hX dM_quotient_175 ?_
                                      refine xg_iload hX 5 dM_quotient_176 rfl ?_
                                      refine xg_isub hX dM_quotient_178 ?_
                                      refine xg_istore hX (lv' := [(12, .int (((nI (r p)) - (nI ((rdD M (tn n) (tn a)) p))) - (nI (suB r (rdD M (tn n) (tn a)) p)))), (0, .ref mq), (5, .int k), (6, .int c), (8, .int (nI j)), (9, .int (nI t)), (10, .int (nI (suB r (rdD M (tn n) (tn a)) p))), (11, .int (nI p))]) dM_quotient_179 (by decide) rfl ?_
                                      refine xg_iload hX 0 dM_quotient_181 rfl ?_
                                      refine xg_if_geZ hX ((((nI (r p)) - (nI ((rdD M (tn n) (tn a)) p))) - (nI (suB r (rdD M (tn n) (tn a)) p))).toInt) rfl 190 dM_quotient_183 (by decide) (fun h183 => ?_) (fun h183 => ?_)
                                      ·
                                        rw [e4] at h183
                                        have e5 : suB r (rdD M (tn n) (tn a)) (p + 1) = 0 := if_neg (by omega)
                                        refine xg_iconst hX (nI 0) dM_quotient_190 (by decide) ?_
                                        refine xg_istore hX (lv' := [(10, .int (nI 0)), (12, .int (((nI (r p)) - (nI ((rdD M (tn n) (tn a)) p))) - (nI (suB r (rdD M (tn n) (tn a)) p)))), (0, .ref mq), (5, .int k), (6, .int c), (8, .int (nI j)), (9, .int (nI t)), (11, .int (nI p))]) dM_quotient_191 (by decide) rfl ?_
                                        refine xg_aload_n hX 2 dM_quotient_193 rfl rfl ?_
                                        refine xg_get hX (ci := 3) rfl hinM 0 rfl 4 (by decide) mt_328 rfl dM_quotient_194 ?_
                                        refine xg_iload hX 7 dM_quotient_197 rfl ?_
                                        refine xg_iload hX 1 dM_quotient_199 rfl ?_
                                        refine xg_bipush hX (nI 10) dM_quotient_201 (by decide) ?_
                                        refine xg_iload hX 0 dM_quotient_203 rfl ?_
                                        refine xg_imulN hX dM_quotient_205 ?_
                                        refine xg_iadd hX dM_quotient_206 ?_
                                        refine xg_top (nI (suD r (rdD M (tn n) (tn a)) p)) (by unfold suD; rw [e5]; exact xn_s4 (by omega)) ?_
                                        refine xg_iast hX (ws' := [(mq, .inr (3, [.ref mm, .ref m1, .ref m2, .ref mo, .ref mr, .int (bI (rdG M (tn n) (tn a))), .int (bI (rdG M (tn m) (tn b))), .int (bI oo), .ref mw, .int (bI men)])), (mm, .inl (cI, 256, .inl (nf M))), (m1, .inl (cI, 200, .inl (nf (rdD M (tn n) (tn a))))), (m2, .inl (cI, 200, .inl (nf (rdD M (tn m) (tn b))))), (mo, .inl (cI, 200, .inl (nf (up (qmx (j + 1) (dvQ 200 (rdD M (tn m) (tn b)) (rdD M (tn n) (tn a)))) j t)))), (mr, .inl (cI, 200, .inl (nf (up (mix p (suD r (rdD M (tn n) (tn a))) r) p (suD r (rdD M (tn n) (tn a)) p)))))]) 5 p (suD r (rdD M (tn n) (tn a)) p) rfl (by omega) (by decide) rfl dM_quotient_207 ?_
                                        refine xg_iincN hX (lv' := [(11, .int (nI (p + 1))), (10, .int (nI 0)), (12, .int (((nI (r p)) - (nI ((rdD M (tn n) (tn a)) p))) - (nI (suB r (rdD M (tn n) (tn a)) p)))), (0, .ref mq), (5, .int k), (6, .int c), (8, .int (nI j)), (9, .int (nI t))]) (p + 1) 7 dM_quotient_208 rfl (xn_inc _) (by decide) rfl ?_
                                        refine xg_goto hX 153 dM_quotient_211 (by decide) ?_
                                        refine xg_ext hX (g := mix (p + 1) (suD r (rdD M (tn n) (tn a))) r) (ws' := [(mq, .inr (3, [.ref mm, .ref m1, .ref m2, .ref mo, .ref mr, .int (bI (rdG M (tn n) (tn a))), .int (bI (rdG M (tn m) (tn b))), .int (bI oo), .ref mw, .int (bI men)])), (mm, .inl (cI, 256, .inl (nf M))), (m1, .inl (cI, 200, .inl (nf (rdD M (tn n) (tn a))))), (m2, .inl (cI, 200, .inl (nf (rdD M (tn m) (tn b))))), (mo, .inl (cI, 200, .inl (nf (up (qmx (j + 1) (dvQ 200 (rdD M (tn m) (tn b)) (rdD M (tn n) (tn a)))) j t)))), (mr, .inl (cI, 200, .inl (nf (mix (p + 1) (suD r (rdD M (tn n) (tn a))) r))))]) 5 rfl (fun q hq9 => mix_up rfl q) rfl ?_
                                        refine xg_lv hX (lv' := [(0, .ref mq), (5, .int k), (6, .int c), (8, .int (nI j)), (9, .int (nI t)), (10, .int (nI 0)), (11, .int (nI (p + 1)))]) [3, 4, 5, 6, 7, 1, 0] rfl ?_
                                        refine xg_lvE (lv' := [(0, .ref mq), (5, .int k), (6, .int c), (8, .int (nI j)), (9, .int (nI t)), (10, .int (nI (suB r (rdD M (tn n) (tn a)) (p + 1)))), (11, .int (nI (p + 1)))]) (by rw [← (show (nI 0 : Int32) = nI (suB r (rdD M (tn n) (tn a)) (p + 1)) from (by rw [e5]))]) ?_
                                        exact ih21 (p + 1) (by omega) (by omega)
                                      ·
                                        rw [e4] at h183
                                        have e5 : suB r (rdD M (tn n) (tn a)) (p + 1) = 1 := if_pos (by omega)
                                        refine xg_iconst hX (nI 1) dM_quotient_186 (by decide) ?_
                                        refine xg_goto hX 191 dM_quotient_187 (by decide) ?_
                                        refine xg_istore hX (lv' := [(10, .int (nI 1)), (12, .int (((nI (r p)) - (nI ((rdD M (tn n) (tn a)) p))) - (nI (suB r (rdD M (tn n) (tn a)) p)))), (0, .ref mq), (5, .int k), (6, .int c), (8, .int (nI j)), (9, .int (nI t)), (11, .int (nI p))]) dM_quotient_191 (by decide) rfl ?_
                                        refine xg_aload_n hX 2 dM_quotient_193 rfl rfl ?_
                                        refine xg_get hX (ci := 3) rfl hinM 0 rfl 4 (by decide) mt_328 rfl dM_quotient_194 ?_
                                        refine xg_iload hX 7 dM_quotient_197 rfl ?_
                                        refine xg_iload hX 1 dM_quotient_199 rfl ?_
                                        refine xg_bipush hX (nI 10) dM_quotient_201 (by decide) ?_
                                        refine xg_iload hX 0 dM_quotient_203 rfl ?_
                                        refine xg_imulN hX dM_quotient_205 ?_
                                        refine xg_iadd hX dM_quotient_206 ?_
                                        refine xg_top (nI (suD r (rdD M (tn n) (tn a)) p)) (by unfold suD; rw [e5]; exact xn_s4 (by omega)) ?_
                                        refine xg_iast hX (ws' := [(mq, .inr (3, [.ref mm, .ref m1, .ref m2, .ref mo, .ref mr, .int (bI (rdG M (tn n) (tn a))), .int (bI (rdG M (tn m) (tn b))), .int (bI oo), .ref mw, .int (bI men)])), (mm, .inl (cI, 256, .inl (nf M))), (m1, .inl (cI, 200, .inl (nf (rdD M (tn n) (tn a))))), (m2, .inl (cI, 200, .inl (nf (rdD M (tn m) (tn b))))), (mo, .inl (cI, 200, .inl (nf (up (qmx (j + 1) (dvQ 200 (rdD M (tn m) (tn b)) (rdD M (tn n) (tn a)))) j t)))), (mr, .inl (cI, 200, .inl (nf (up (mix p (suD r (rdD M (tn n) (tn a))) r) p (suD r (rdD M (tn n) (tn a)) p)))))]) 5 p (suD r (rdD M (tn n) (tn a)) p) rfl (by omega) (by decide) rfl dM_quotient_207 ?_
                                        refine xg_iincN hX (lv' := [(11, .int (nI (p + 1))), (10, .int (nI 1)), (12, .int (((nI (r p)) - (nI ((rdD M (tn n) (tn a)) p))) - (nI (suB r (rdD M (tn n) (tn a)) p)))), (0, .ref mq), (5, .int k), (6, .int c), (8, .int (nI j)), (9, .int (nI t))]) (p + 1) 7 dM_quotient_208 rfl (xn_inc _) (by decide) rfl ?_
                                        refine xg_goto hX 153 dM_quotient_211 (by decide) ?_
                                        refine xg_ext hX (g := mix (p + 1) (suD r (rdD M (tn n) (tn a))) r) (ws' := [(mq, .inr (3, [.ref mm, .ref m1, .ref m2, .ref mo, .ref mr, .int (bI (rdG M (tn n) (tn a))), .int (bI (rdG M (tn m) (tn b))), .int (bI oo), .ref mw, .int (bI men)])), (mm, .inl (cI, 256, .inl (nf M))), (m1, .inl (cI, 200, .inl (nf (rdD M (tn n) (tn a))))), (m2, .inl (cI, 200, .inl (nf (rdD M (tn m) (tn b))))), (mo, .inl (cI, 200, .inl (nf (up (qmx (j + 1) (dvQ 200 (rdD M (tn m) (tn b)) (rdD M (tn n) (tn a)))) j t)))), (mr, .inl (cI, 200, .inl (nf (mix (p + 1) (suD r (rdD M (tn n) (tn a))) r))))]) 5 rfl (fun q hq9 => mix_up rfl q) rfl ?_
                                        refine xg_lv hX (lv' := [(0, .ref mq), (5, .int k), (6, .int c), (8, .int (nI j)), (9, .int (nI t)), (10, .int (nI 1)), (11, .int (nI (p + 1)))]) [3, 4, 5, 6, 7, 1, 0] rfl ?_
                                        refine xg_lvE (lv' := [(0, .ref mq), (5, .int k), (6, .int c), (8, .int (nI j)), (9, .int (nI t)), (10, .int (nI (suB r (rdD M (tn n) (tn a)) (p + 1)))), (11, .int (nI (p + 1)))]) (by rw [← (show (nI 1 : Int32) = nI (suB r (rdD M (tn n) (tn a)) (p + 1)) from (by rw [e5]))]) ?_
                                        exact ih21 (p + 1) (by omega) (by omega)
                                refine xg_ext hX (g := mix 0 (suD r (rdD M (tn n) (tn a))) r) (ws' := [(mq, .inr (3, [.ref mm, .ref m1, .ref m2, .ref mo, .ref mr, .int (bI (rdG M (tn n) (tn a))), .int (bI (rdG M (tn m) (tn b))), .int (bI oo), .ref mw, .int (bI men)])), (mm, .inl (cI, 256, .inl (nf M))), (m1, .inl (cI, 200, .inl (nf (rdD M (tn n) (tn a))))), (m2, .inl (cI, 200, .inl (nf (rdD M (tn m) (tn b))))), (mo, .inl (cI, 200, .inl (nf (up (qmx (j + 1) (dvQ 200 (rdD M (tn m) (tn b)) (rdD M (tn n) (tn a)))) j t)))), (mr, .inl (cI, 200, .inl (nf (mix 0 (suD r (rdD M (tn n) (tn a))) r))))]) 5 rfl (fun q hq9 => mix_0 q) rfl ?_
                                refine xg_lv hX (lv' := [(0, .ref mq), (5, .int k), (6, .int c), (8, .int (nI j)), (9, .int (nI t)), (10, .int (nI 0)), (11, .int (nI 0))]) [2, 3, 4, 5, 6, 1, 0] rfl ?_
                                refine xg_lvE (lv' := [(0, .ref mq), (5, .int k), (6, .int c), (8, .int (nI j)), (9, .int (nI t)), (10, .int (nI (suB r (rdD M (tn n) (tn a)) 0))), (11, .int (nI 0))]) (by rw [← (show (nI 0 : Int32) = nI (suB r (rdD M (tn n) (tn a)) 0) from (by first | rfl | decide))]) ?_
                                exact lp19 (200 - 0 + 1) 0 (by omega) (Nat.lt_succ_self _)
                        refine xg_ext hX (g := up (qmx (j + 1) (dvQ 200 (rdD M (tn m) (tn b)) (rdD M (tn n) (tn a)))) j 0) (ws' := [(mq, .inr (3, [.ref mm, .ref m1, .ref m2, .ref mo, .ref mr, .int (bI (rdG M (tn n) (tn a))), .int (bI (rdG M (tn m) (tn b))), .int (bI oo), .ref mw, .int (bI men)])), (mm, .inl (cI, 256, .inl (nf M))), (m1, .inl (cI, 200, .inl (nf (rdD M (tn n) (tn a))))), (m2, .inl (cI, 200, .inl (nf (rdD M (tn m) (tn b))))), (mo, .inl (cI, 200, .inl (nf (up (qmx (j + 1) (dvQ 200 (rdD M (tn m) (tn b)) (rdD M (tn n) (tn a)))) j 0)))), (mr, .inl (cI, 200, .inl (nf (bdW 200 (dvR 200 (rdD M (tn m) (tn b)) (rdD M (tn n) (tn a)) (31 - (j + 1))) ((rdD M (tn m) (tn b)) j)))))]) 4 rfl (fun q hq9 => qmx_u q) rfl ?_
                        refine xg_lv hX (lv' := [(0, .ref mq), (5, .int k), (6, .int c), (8, .int (nI j)), (9, .int (nI 0))]) [1, 2, 3, 4, 0] rfl ?_
                        exact lp15 (9 - 0 + 1) 0 (bdW 200 (dvR 200 (rdD M (tn m) (tn b)) (rdD M (tn n) (tn a)) (31 - (j + 1))) ((rdD M (tn m) (tn b)) j)) (by omega) b2 (by simp) (Nat.lt_succ_self _)
                      ·
                        refine xg_aload_n hX 0 dM_quotient_88 rfl rfl ?_
                        refine xg_get hX (ci := 3) rfl hinM 0 rfl 4 (by decide) mt_328 rfl dM_quotient_89 ?_
                        refine xg_iload hX 4 dM_quotient_92 rfl ?_
                        refine xg_aload_n hX 0 dM_quotient_94 rfl rfl ?_
                        refine xg_get hX (ci := 3) rfl hinM 0 rfl 4 (by decide) mt_328 rfl dM_quotient_95 ?_
                        refine xg_iload hX 4 dM_quotient_98 rfl ?_
                        refine xg_iconst hX (nI 1) dM_quotient_100 (by decide) ?_
                        refine xg_isubN hX (by omega) dM_quotient_101 ?_
                        refine xg_iald hX 5 (p - 1) rfl (by omega) (by decide) dM_quotient_102 ?_
                        refine xg_top (nI ((dvR 200 (rdD M (tn m) (tn b)) (rdD M (tn n) (tn a)) (31 - (j + 1))) (p - 1))) (by rw [bdQ_at (by omega)]) ?_
                        refine xg_iast hX (ws' := [(mq, .inr (3, [.ref mm, .ref m1, .ref m2, .ref mo, .ref mr, .int (bI (rdG M (tn n) (tn a))), .int (bI (rdG M (tn m) (tn b))), .int (bI oo), .ref mw, .int (bI men)])), (mm, .inl (cI, 256, .inl (nf M))), (m1, .inl (cI, 200, .inl (nf (rdD M (tn n) (tn a))))), (m2, .inl (cI, 200, .inl (nf (rdD M (tn m) (tn b))))), (mo, .inl (cI, 200, .inl (nf (qmx (j + 1) (dvQ 200 (rdD M (tn m) (tn b)) (rdD M (tn n) (tn a))))))), (mr, .inl (cI, 200, .inl (nf (up (bdQ 200 (dvR 200 (rdD M (tn m) (tn b)) (rdD M (tn n) (tn a)) (31 - (j + 1))) p) p ((dvR 200 (rdD M (tn m) (tn b)) (rdD M (tn n) (tn a)) (31 - (j + 1))) (p - 1))))))]) 5 p ((dvR 200 (rdD M (tn m) (tn b)) (rdD M (tn n) (tn a)) (31 - (j + 1))) (p - 1)) rfl (by omega) (by decide) rfl dM_quotient_103 ?_
                        refine xg_iincN hX (lv' := [(9, .int (nI (p - 1))), (0, .ref mq), (5, .int k), (6, .int c), (8, .int (nI j))]) (p - 1) 4 dM_quotient_104 rfl (xn_dec _ (by omega)) (by decide) rfl ?_
                        refine xg_goto hX 83 dM_quotient_107 (by decide) ?_
                        refine xg_ext hX (g := bdQ 200 (dvR 200 (rdD M (tn m) (tn b)) (rdD M (tn n) (tn a)) (31 - (j + 1))) (p - 1)) (ws' := [(mq, .inr (3, [.ref mm, .ref m1, .ref m2, .ref mo, .ref mr, .int (bI (rdG M (tn n) (tn a))), .int (bI (rdG M (tn m) (tn b))), .int (bI oo), .ref mw, .int (bI men)])), (mm, .inl (cI, 256, .inl (nf M))), (m1, .inl (cI, 200, .inl (nf (rdD M (tn n) (tn a))))), (m2, .inl (cI, 200, .inl (nf (rdD M (tn m) (tn b))))), (mo, .inl (cI, 200, .inl (nf (qmx (j + 1) (dvQ 200 (rdD M (tn m) (tn b)) (rdD M (tn n) (tn a))))))), (mr, .inl (cI, 200, .inl (nf (bdQ 200 (dvR 200 (rdD M (tn m) (tn b)) (rdD M (tn n) (tn a)) (31 - (j + 1))) (p - 1)))))]) 5 rfl (fun q hq9 => bdQ_s (by omega) q) rfl ?_
                        refine xg_lv hX (lv' := [(0, .ref mq), (5, .int k), (6, .int c), (8, .int (nI j)), (9, .int (nI (p - 1)))]) [1, 2, 3, 4, 0] rfl ?_
                        exact ih13 (p - 1) (by omega) (by omega)
                  refine xg_ext hX (g := bdQ 200 (dvR 200 (rdD M (tn m) (tn b)) (rdD M (tn n) (tn a)) (31 - (j + 1))) 199) (ws' := [(mq, .inr (3, [.ref mm, .ref m1, .ref m2, .ref mo, .ref mr, .int (bI (rdG M (tn n) (tn a))), .int (bI (rdG M (tn m) (tn b))), .int (bI oo), .ref mw, .int (bI men)])), (mm, .inl (cI, 256, .inl (nf M))), (m1, .inl (cI, 200, .inl (nf (rdD M (tn n) (tn a))))), (m2, .inl (cI, 200, .inl (nf (rdD M (tn m) (tn b))))), (mo, .inl (cI, 200, .inl (nf (qmx (j + 1) (dvQ 200 (rdD M (tn m) (tn b)) (rdD M (tn n) (tn a))))))), (mr, .inl (cI, 200, .inl (nf (bdQ 200 (dvR 200 (rdD M (tn m) (tn b)) (rdD M (tn n) (tn a)) (31 - (j + 1))) 199))))]) 5 rfl (fun q hq9 => bdQ_0 q) rfl ?_
                  refine xg_lv hX (lv' := [(0, .ref mq), (5, .int k), (6, .int c), (8, .int (nI j)), (9, .int (nI 199))]) [1, 2, 3, 4, 0] rfl ?_
                  exact lp11 (199 + 1) 199 (by omega) (Nat.lt_succ_self _)
            refine xg_ext hX (g := qmx 31 (dvQ 200 (rdD M (tn m) (tn b)) (rdD M (tn n) (tn a)))) (ws' := [(mq, .inr (3, [.ref mm, .ref m1, .ref m2, .ref mo, .ref mr, .int (bI (rdG M (tn n) (tn a))), .int (bI (rdG M (tn m) (tn b))), .int (bI oo), .ref mw, .int (bI men)])), (mm, .inl (cI, 256, .inl (nf M))), (m1, .inl (cI, 200, .inl (nf (rdD M (tn n) (tn a))))), (m2, .inl (cI, 200, .inl (nf (rdD M (tn m) (tn b))))), (mo, .inl (cI, 200, .inl (nf (qmx 31 (dvQ 200 (rdD M (tn m) (tn b)) (rdD M (tn n) (tn a))))))), (mr, .inl (cI, 200, .inl (nf (mix i zf xr))))]) 4 rfl (fun j hj => by rw [mix_lo (show j < i from by omega)]; exact qmx_31 j hj) rfl ?_
            refine xg_ext hX (g := dvR 200 (rdD M (tn m) (tn b)) (rdD M (tn n) (tn a)) (31 - 31)) (ws' := [(mq, .inr (3, [.ref mm, .ref m1, .ref m2, .ref mo, .ref mr, .int (bI (rdG M (tn n) (tn a))), .int (bI (rdG M (tn m) (tn b))), .int (bI oo), .ref mw, .int (bI men)])), (mm, .inl (cI, 256, .inl (nf M))), (m1, .inl (cI, 200, .inl (nf (rdD M (tn n) (tn a))))), (m2, .inl (cI, 200, .inl (nf (rdD M (tn m) (tn b))))), (mo, .inl (cI, 200, .inl (nf (qmx 31 (dvQ 200 (rdD M (tn m) (tn b)) (rdD M (tn n) (tn a))))))), (mr, .inl (cI, 200, .inl (nf (dvR 200 (rdD M (tn m) (tn b)) (rdD M (tn n) (tn a)) (31 - 31)))))]) 5 rfl (fun j hj => by rw [mix_lo (show j < i from by omega)]; rfl) rfl ?_
            refine xg_lv hX (lv' := [(0, .ref mq), (5, .int k), (6, .int c), (8, .int (nI 30))]) [1, 2, 3, 0] rfl ?_
            refine xg_lvE (lv' := [(0, .ref mq), (5, .int k), (6, .int c), (8, .int (nI 31 - 1))]) (by rw [← (show (nI 30 : Int32) = nI 31 - 1 from (by first | rfl | decide))]) ?_
            exact lp5 (31 + 1) 31 (by omega) (Nat.lt_succ_self _)
          ·
            refine xg_aload_n hX 0 dM_quotient_47 rfl rfl ?_
            refine xg_get hX (ci := 3) rfl hinM 0 rfl 3 (by decide) mt_327 rfl dM_quotient_48 ?_
            refine xg_iload hX 3 dM_quotient_51 rfl ?_
            refine xg_iconst hX (nI 0) dM_quotient_53 (by decide) ?_
            refine xg_iast hX (ws' := [(mq, .inr (3, [.ref mm, .ref m1, .ref m2, .ref mo, .ref mr, .int (bI (rdG M (tn n) (tn a))), .int (bI (rdG M (tn m) (tn b))), .int (bI oo), .ref mw, .int (bI men)])), (mm, .inl (cI, 256, .inl (nf M))), (m1, .inl (cI, 200, .inl (nf (rdD M (tn n) (tn a))))), (m2, .inl (cI, 200, .inl (nf (rdD M (tn m) (tn b))))), (mo, .inl (cI, 200, .inl (nf (up (mix i zf xo) i 0)))), (mr, .inl (cI, 200, .inl (nf (mix i zf xr))))]) 4 i 0 rfl (by omega) (by decide) rfl dM_quotient_54 ?_
            refine xg_aload_n hX 0 dM_quotient_55 rfl rfl ?_
            refine xg_get hX (ci := 3) rfl hinM 0 rfl 4 (by decide) mt_328 rfl dM_quotient_56 ?_
            refine xg_iload hX 3 dM_quotient_59 rfl ?_
            refine xg_iconst hX (nI 0) dM_quotient_61 (by decide) ?_
            refine xg_iast hX (ws' := [(mq, .inr (3, [.ref mm, .ref m1, .ref m2, .ref mo, .ref mr, .int (bI (rdG M (tn n) (tn a))), .int (bI (rdG M (tn m) (tn b))), .int (bI oo), .ref mw, .int (bI men)])), (mm, .inl (cI, 256, .inl (nf M))), (m1, .inl (cI, 200, .inl (nf (rdD M (tn n) (tn a))))), (m2, .inl (cI, 200, .inl (nf (rdD M (tn m) (tn b))))), (mo, .inl (cI, 200, .inl (nf (up (mix i zf xo) i 0)))), (mr, .inl (cI, 200, .inl (nf (up (mix i zf xr) i 0))))]) 5 i 0 rfl (by omega) (by decide) rfl dM_quotient_62 ?_
            refine xg_iincN hX (lv' := [(8, .int (nI (i + 1))), (0, .ref mq), (5, .int k), (6, .int c)]) (i + 1) 3 dM_quotient_63 rfl (xn_inc _) (by decide) rfl ?_
            refine xg_goto hX 39 dM_quotient_66 (by decide) ?_
            refine xg_ext hX (g := mix (i + 1) zf xo) (ws' := [(mq, .inr (3, [.ref mm, .ref m1, .ref m2, .ref mo, .ref mr, .int (bI (rdG M (tn n) (tn a))), .int (bI (rdG M (tn m) (tn b))), .int (bI oo), .ref mw, .int (bI men)])), (mm, .inl (cI, 256, .inl (nf M))), (m1, .inl (cI, 200, .inl (nf (rdD M (tn n) (tn a))))), (m2, .inl (cI, 200, .inl (nf (rdD M (tn m) (tn b))))), (mo, .inl (cI, 200, .inl (nf (mix (i + 1) zf xo)))), (mr, .inl (cI, 200, .inl (nf (up (mix i zf xr) i 0))))]) 4 rfl (fun j hj => mix_up rfl j) rfl ?_
            refine xg_ext hX (g := mix (i + 1) zf xr) (ws' := [(mq, .inr (3, [.ref mm, .ref m1, .ref m2, .ref mo, .ref mr, .int (bI (rdG M (tn n) (tn a))), .int (bI (rdG M (tn m) (tn b))), .int (bI oo), .ref mw, .int (bI men)])), (mm, .inl (cI, 256, .inl (nf M))), (m1, .inl (cI, 200, .inl (nf (rdD M (tn n) (tn a))))), (m2, .inl (cI, 200, .inl (nf (rdD M (tn m) (tn b))))), (mo, .inl (cI, 200, .inl (nf (mix (i + 1) zf xo)))), (mr, .inl (cI, 200, .inl (nf (mix (i + 1) zf xr))))]) 5 rfl (fun j hj => mix_up rfl j) rfl ?_
            refine xg_lv hX (lv' := [(0, .ref mq), (5, .int k), (6, .int c), (8, .int (nI (i + 1)))]) [1, 2, 3, 0] rfl ?_
            exact ih3 (i + 1) (by omega) (by omega)
      refine xg_ext hX (g := mix 0 zf xo) (ws' := [(mq, .inr (3, [.ref mm, .ref m1, .ref m2, .ref mo, .ref mr, .int (bI (rdG M (tn n) (tn a))), .int (bI (rdG M (tn m) (tn b))), .int (bI oo), .ref mw, .int (bI men)])), (mm, .inl (cI, 256, .inl (nf M))), (m1, .inl (cI, 200, .inl (nf (rdD M (tn n) (tn a))))), (m2, .inl (cI, 200, .inl (nf (rdD M (tn m) (tn b))))), (mo, .inl (cI, 200, .inl (nf (mix 0 zf xo)))), (mr, .inl (cI, 200, .inl (nf xr)))]) 4 rfl (fun j hj => mix_0 j) rfl ?_
      refine xg_ext hX (g := mix 0 zf xr) (ws' := [(mq, .inr (3, [.ref mm, .ref m1, .ref m2, .ref mo, .ref mr, .int (bI (rdG M (tn n) (tn a))), .int (bI (rdG M (tn m) (tn b))), .int (bI oo), .ref mw, .int (bI men)])), (mm, .inl (cI, 256, .inl (nf M))), (m1, .inl (cI, 200, .inl (nf (rdD M (tn n) (tn a))))), (m2, .inl (cI, 200, .inl (nf (rdD M (tn m) (tn b))))), (mo, .inl (cI, 200, .inl (nf (mix 0 zf xo)))), (mr, .inl (cI, 200, .inl (nf (mix 0 zf xr))))]) 5 rfl (fun j hj => mix_0 j) rfl ?_
      refine xg_lv hX (lv' := [(0, .ref mq), (5, .int k), (6, .int c), (8, .int (nI 0))]) [2, 7, 8, 0] rfl ?_
      exact lp1 (200 - 0 + 1) 0 (by omega) (Nat.lt_succ_self _)
    ·
      refine xg_bipush hX ((-3)) dM_quotient_33 (by decide) ?_
      exact hret ((-3), M, rdD M (tn n) (tn a), rdD M (tn m) (tn b), xo, xr, rdG M (tn n) (tn a), rdG M (tn m) (tn b), oo) _ _ _ rfl (show ((-3), M) = quotM M n a m b k c from (by unfold quotM; rw [if_pos ho0, if_neg (fun q => by rw [q] at h30; exact absurd h30 (by decide))]; exact (arZ_no (by decide)).symm)) dM_quotient_35
  ·
    refine xg_iload hX 0 dM_quotient_20 rfl ?_
    exact hret (rO, M, z1, z2, xo, xr, w1, w2, oo) _ _ _ rfl (show (rO, M) = quotM M n a m b k c from (by unfold quotM; rw [← huO.1, if_neg (fun q => absurd h17 (by rw [q]; decide))]; exact (arZ_no (fun q => absurd h17 (by rw [q]; decide))).symm)) dM_quotient_22
set_option maxHeartbeats 4000000 in
set_option maxRecDepth 100000 in
theorem yc_shift (l : Launch) (D : va_G) (cI : ClassId) (mq : Nat) (mm : Nat) (m1 : Nat) (m2 : Nat) (mo : Nat) (mr : Nat) (mw : Nat) (o1 : Bool) (o2 : Bool) (oo : Bool) (men : Bool) (M : Nat → Nat) (x1 : Nat → Nat) (xo : Nat → Nat) (n : Int32) (a : Int32) (y : Int32) (up_ : Int32) (m : Int32) (b : Int32) (hM : ∀ j, M j < 256) : Ctr l D cI yM_shift cM_shift 11 (some .int) { frames := 3, cells := 0, slots := 0, locals := 70 } [.ref mq, .int n, .int a, .int y, .int up_, .int m, .int b] [(mq, .inr (3, [.ref mm, .ref m1, .ref m2, .ref mo, .ref mr, .int (bI o1), .int (bI o2), .int (bI oo), .ref mw, .int (bI men)])), (mm, .inl (cI, 256, .inl (nf M))), (m1, .inl (cI, 200, .inl (nf x1))), (mo, .inl (cI, 200, .inl (nf xo)))] (fun u : Int32 × (Nat → Nat) × (Nat → Nat) × (Nat → Nat) × Bool => match u with | (r, M2, y1, yo, qo) => some (.int r)) (fun u : Int32 × (Nat → Nat) × (Nat → Nat) × (Nat → Nat) × Bool => match u with | (r, M2, y1, yo, qo) => (r, M2) = shiftM M n a y up_ m b) (fun u : Int32 × (Nat → Nat) × (Nat → Nat) × (Nat → Nat) × Bool => match u with | (r, M2, y1, yo, qo) => [(mq, .inr (3, [.ref mm, .ref m1, .ref m2, .ref mo, .ref mr, .int (bI o1), .int (bI o2), .int (bI qo), .ref mw, .int (bI men)])), (mm, .inl (cI, 256, .inl (nf M2))), (m1, .inl (cI, 200, .inl (nf y1))), (mo, .inl (cI, 200, .inl (nf yo)))]) 0 0 := by
  refine xc_mkI (by decide +kernel) (Nat.le_of_ble_eq_true rfl) (fun X hX hret => ?_)
  show GG D X 0 0 0 [(mq, .inr (3, [.ref mm, .ref m1, .ref m2, .ref mo, .ref mr, .int (bI o1), .int (bI o2), .int (bI oo), .ref mw, .int (bI men)])), (mm, .inl (cI, 256, .inl (nf M))), (m1, .inl (cI, 200, .inl (nf x1))), (mo, .inl (cI, 200, .inl (nf xo)))] [(0, .ref mq), (1, .int n), (2, .int a), (3, .int y), (4, .int up_), (5, .int m), (6, .int b)] []
  refine xg_iload_n hX 1 dM_shift_0 rfl rfl ?_
  refine xg_iload_n hX 2 dM_shift_1 rfl rfl ?_
  refine xg_cS hX [.int n, .int a] (hM := yc_isThere l D cI n a) (wr := [(mq, .inr (3, [.ref mm, .ref m1, .ref m2, .ref mo, .ref mr, .int (bI o1), .int (bI o2), .int (bI oo), .ref mw, .int (bI men)])), (mm, .inl (cI, 256, .inl (nf M))), (m1, .inl (cI, 200, .inl (nf x1))), (mo, .inl (cI, 200, .inl (nf xo)))]) (ws' := fun _ => [(mq, .inr (3, [.ref mm, .ref m1, .ref m2, .ref mo, .ref mr, .int (bI o1), .int (bI o2), .int (bI oo), .ref mw, .int (bI men)])), (mm, .inl (cI, 256, .inl (nf M))), (m1, .inl (cI, 200, .inl (nf x1))), (mo, .inl (cI, 200, .inl (nf xo)))]) (st' := fun _ => [.int (bI (dfits n a))]) [] [0, 1, 2, 3] [0, 1, 2, 3] [] rfl mt_373 mt_371 mt_4 mt_372 hdM_isThere (by decide) ⟨rfl, rfl⟩ (by decide) rfl rfl (by decide) rfl (by decide) (by decide) (by decide) (fun u => rfl) (fun u => rfl) (fun u => rfl) rfl rfl (by simp [Value.category]) dM_shift_2 (fun _ _ => ?_)
  refine xg_if_eqB hX 42 dM_shift_5 (by decide) (fun h5 => ?_) (fun h5 => ?_)
  ·
    refine xg_iconst hX ((-1)) dM_shift_42 (by decide) ?_
    exact hret ((-1), M, x1, xo, oo) _ _ _ rfl (show ((-1), M) = shiftM M n a y up_ m b from (by have hz : shR M n a y up_ m b = -1 := (by unfold shR; by_cases q9 : (dfits n a && dfits m b) = true; (rw [if_pos q9]; first | (exact if_neg (show ¬ (-99 ≤ y.toInt ∧ y.toInt ≤ 99 ∧ 0 ≤ up_.toInt ∧ up_.toInt ≤ 9) by omega)) | (simp only [Bool.and_eq_true] at q9; first | exact absurd (h5.symm.trans q9.1) (by decide) | exact absurd (h15.symm.trans q9.2) (by decide))); (rw [if_neg q9])); rw [shiftM, hz]; exact (arZ_no (by decide)).symm)) dM_shift_43
  ·
    refine xg_iload hX 5 dM_shift_8 rfl ?_
    refine xg_iload hX 6 dM_shift_10 rfl ?_
    refine xg_cS hX [.int m, .int b] (hM := yc_isThere l D cI m b) (wr := [(mq, .inr (3, [.ref mm, .ref m1, .ref m2, .ref mo, .ref mr, .int (bI o1), .int (bI o2), .int (bI oo), .ref mw, .int (bI men)])), (mm, .inl (cI, 256, .inl (nf M))), (m1, .inl (cI, 200, .inl (nf x1))), (mo, .inl (cI, 200, .inl (nf xo)))]) (ws' := fun _ => [(mq, .inr (3, [.ref mm, .ref m1, .ref m2, .ref mo, .ref mr, .int (bI o1), .int (bI o2), .int (bI oo), .ref mw, .int (bI men)])), (mm, .inl (cI, 256, .inl (nf M))), (m1, .inl (cI, 200, .inl (nf x1))), (mo, .inl (cI, 200, .inl (nf xo)))]) (st' := fun _ => [.int (bI (dfits m b))]) [] [0, 1, 2, 3] [0, 1, 2, 3] [] rfl mt_373 mt_371 mt_4 mt_372 hdM_isThere (by decide) ⟨rfl, rfl⟩ (by decide) rfl rfl (by decide) rfl (by decide) (by decide) (by decide) (fun u => rfl) (fun u => rfl) (fun u => rfl) rfl rfl (by simp [Value.category]) dM_shift_12 (fun _ _ => ?_)
    refine xg_if_eqB hX 42 dM_shift_15 (by decide) (fun h15 => ?_) (fun h15 => ?_)
    ·
      refine xg_iconst hX ((-1)) dM_shift_42 (by decide) ?_
      exact hret ((-1), M, x1, xo, oo) _ _ _ rfl (show ((-1), M) = shiftM M n a y up_ m b from (by have hz : shR M n a y up_ m b = -1 := (by unfold shR; by_cases q9 : (dfits n a && dfits m b) = true; (rw [if_pos q9]; first | (exact if_neg (show ¬ (-99 ≤ y.toInt ∧ y.toInt ≤ 99 ∧ 0 ≤ up_.toInt ∧ up_.toInt ≤ 9) by omega)) | (simp only [Bool.and_eq_true] at q9; first | exact absurd (h5.symm.trans q9.1) (by decide) | exact absurd (h15.symm.trans q9.2) (by decide))); (rw [if_neg q9])); rw [shiftM, hz]; exact (arZ_no (by decide)).symm)) dM_shift_43
    ·
      refine xg_iload_n hX 3 dM_shift_18 rfl rfl ?_
      refine xg_bipush hX ((-99)) dM_shift_19 (by decide) ?_
      refine xg_icmp_ltZ hX y.toInt (-99) rfl rfl 42 dM_shift_21 (by decide) (fun h21 => ?_) (fun h21 => ?_)
      ·
        refine xg_iconst hX ((-1)) dM_shift_42 (by decide) ?_
        exact hret ((-1), M, x1, xo, oo) _ _ _ rfl (show ((-1), M) = shiftM M n a y up_ m b from (by have hz : shR M n a y up_ m b = -1 := (by unfold shR; by_cases q9 : (dfits n a && dfits m b) = true; (rw [if_pos q9]; first | (exact if_neg (show ¬ (-99 ≤ y.toInt ∧ y.toInt ≤ 99 ∧ 0 ≤ up_.toInt ∧ up_.toInt ≤ 9) by omega)) | (simp only [Bool.and_eq_true] at q9; first | exact absurd (h5.symm.trans q9.1) (by decide) | exact absurd (h15.symm.trans q9.2) (by decide))); (rw [if_neg q9])); rw [shiftM, hz]; exact (arZ_no (by decide)).symm)) dM_shift_43
      ·
        refine xg_iload_n hX 3 dM_shift_24 rfl rfl ?_
        refine xg_bipush hX (nI 99) dM_shift_25 (by decide) ?_
        refine xg_icmp_gtZ hX y.toInt (99 : Nat) rfl (xn_ti (by omega)) 42 dM_shift_27 (by decide) (fun h27 => ?_) (fun h27 => ?_)
        ·
          refine xg_iconst hX ((-1)) dM_shift_42 (by decide) ?_
          exact hret ((-1), M, x1, xo, oo) _ _ _ rfl (show ((-1), M) = shiftM M n a y up_ m b from (by have hz : shR M n a y up_ m b = -1 := (by unfold shR; by_cases q9 : (dfits n a && dfits m b) = true; (rw [if_pos q9]; first | (exact if_neg (show ¬ (-99 ≤ y.toInt ∧ y.toInt ≤ 99 ∧ 0 ≤ up_.toInt ∧ up_.toInt ≤ 9) by omega)) | (simp only [Bool.and_eq_true] at q9; first | exact absurd (h5.symm.trans q9.1) (by decide) | exact absurd (h15.symm.trans q9.2) (by decide))); (rw [if_neg q9])); rw [shiftM, hz]; exact (arZ_no (by decide)).symm)) dM_shift_43
        ·
          refine xg_iload hX 4 dM_shift_30 rfl ?_
          refine xg_if_ltZ hX up_.toInt rfl 42 dM_shift_32 (by decide) (fun h32 => ?_) (fun h32 => ?_)
          ·
            refine xg_iconst hX ((-1)) dM_shift_42 (by decide) ?_
            exact hret ((-1), M, x1, xo, oo) _ _ _ rfl (show ((-1), M) = shiftM M n a y up_ m b from (by have hz : shR M n a y up_ m b = -1 := (by unfold shR; by_cases q9 : (dfits n a && dfits m b) = true; (rw [if_pos q9]; first | (exact if_neg (show ¬ (-99 ≤ y.toInt ∧ y.toInt ≤ 99 ∧ 0 ≤ up_.toInt ∧ up_.toInt ≤ 9) by omega)) | (simp only [Bool.and_eq_true] at q9; first | exact absurd (h5.symm.trans q9.1) (by decide) | exact absurd (h15.symm.trans q9.2) (by decide))); (rw [if_neg q9])); rw [shiftM, hz]; exact (arZ_no (by decide)).symm)) dM_shift_43
          ·
            refine xg_iload hX 4 dM_shift_35 rfl ?_
            refine xg_bipush hX (nI 9) dM_shift_37 (by decide) ?_
            refine xg_icmp_leZ hX up_.toInt (9 : Nat) rfl (xn_ti (by omega)) 44 dM_shift_39 (by decide) (fun h39 => ?_) (fun h39 => ?_)
            ·
              refine xg_aload_n hX 0 dM_shift_44 rfl rfl ?_
              refine xg_iload_n hX 1 dM_shift_45 rfl rfl ?_
              refine xg_top (nI (tn n)) (df3 h5) ?_
              refine xg_iload_n hX 2 dM_shift_46 rfl rfl ?_
              refine xg_top (nI (tn a)) (df4 h5) ?_
              refine xg_aload_n hX 0 dM_shift_47 rfl rfl ?_
              refine xg_get hX (ci := 3) rfl hinM 0 rfl 1 (by decide) mt_325 rfl dM_shift_48 ?_
              refine xg_cV hX mq [.int (nI (tn n)), .int (nI (tn a)), .ref m1] (hM := yc_read l D cI mq mm m1 m2 mo mr mw o1 o2 oo men M m1 x1 (tn n) (tn a) (df1 h5) (df2 h5) hM) (wr := [(mo, .inl (cI, 200, .inl (nf xo)))]) (ws' := fun _ => [(mq, .inr (3, [.ref mm, .ref m1, .ref m2, .ref mo, .ref mr, .int (bI o1), .int (bI o2), .int (bI oo), .ref mw, .int (bI men)])), (mm, .inl (cI, 256, .inl (nf M))), (m1, .inl (cI, 200, .inl (nf (rdD M (tn n) (tn a))))), (mo, .inl (cI, 200, .inl (nf xo)))]) (st' := fun _ => [.int (nI (rdV M (tn n) (tn a)))]) [0, 1, 2] [3] [1, 2, 3, 0] [] rfl mt_387 mt_384 mt_4 mt_386 mp_19 0 rfl rfl hdM_read (by decide) ⟨rfl, rfl⟩ (by decide) rfl rfl (by decide) rfl (by decide) (by decide) (by decide) (fun u => rfl) (fun u => rfl) (fun u => rfl) rfl rfl (by simp [Value.category]) dM_shift_51 (fun _ _ => ?_)
              have e1 := rdV_lt M (tn n) (tn a)
              refine xg_istore hX (lv' := [(7, .int (nI (rdV M (tn n) (tn a)))), (0, .ref mq), (1, .int n), (2, .int a), (3, .int y), (4, .int up_), (5, .int m), (6, .int b)]) dM_shift_54 (by decide) rfl ?_
              refine xg_iload hX 0 dM_shift_56 rfl ?_
              refine xg_if_neN hX 64 (by omega) dM_shift_58 (by decide) (fun h58 => ?_) (fun h58 => ?_)
              ·
                have g1 := rdV_p h58
                have hs0 : shR M n a y up_ m b = 0 := by unfold shR; rw [if_pos (by rw [h5, h15] <;> rfl), if_pos ⟨h21, h27, h32, h39⟩, if_pos g1]
                have hx := sm_rd (df1 h5) g1
                refine xg_aload_n hX 1 dM_shift_64 rfl rfl ?_
                refine xg_iload hX 0 dM_shift_65 rfl ?_
                refine xg_iconst hX (nI 2) dM_shift_67 (by decide) ?_
                refine xg_icmp_neN hX 75 (by omega) (by omega) dM_shift_68 (by decide) (fun h68 => ?_) (fun h68 => ?_)
                ·
                  refine xg_iconst hX (nI 0) dM_shift_75 (by decide) ?_
                  refine xg_top (bI false) rfl ?_
                  refine xg_put hX tyM tyM_ok nmM (ci := 3) rfl hinM (ws' := [(mq, .inr (3, [.ref mm, .ref m1, .ref m2, .ref mo, .ref mr, .int (bI o1), .int (bI o2), .int (bI false), .ref mw, .int (bI men)])), (mm, .inl (cI, 256, .inl (nf M))), (m1, .inl (cI, 200, .inl (nf (rdD M (tn n) (tn a))))), (mo, .inl (cI, 200, .inl (nf xo)))]) 0 rfl 7 (by decide) mt_331 rfl (xn_narB _) (xn_fitB _) (Nat.le_of_ble_eq_true rfl) rfl dM_shift_76 ?_
                  refine xg_wsE (ws' := [(mq, .inr (3, [.ref mm, .ref m1, .ref m2, .ref mo, .ref mr, .int (bI o1), .int (bI o2), .int (bI (rdG M (tn n) (tn a))), .ref mw, .int (bI men)])), (mm, .inl (cI, 256, .inl (nf M))), (m1, .inl (cI, 200, .inl (nf (rdD M (tn n) (tn a))))), (mo, .inl (cI, 200, .inl (nf xo)))]) (by rw [← (show (bI false : Int32) = bI (rdG M (tn n) (tn a)) from (by rw [← rdV_2 g1]; first | (rw [decide_eq_true h68]; done) | (rw [decide_eq_false h68]; done)))]) ?_
                  refine xg_iconst hX (nI 0) dM_shift_79 (by decide) ?_
                  refine xg_istore hX (lv' := [(8, .int (nI 0)), (7, .int (nI (rdV M (tn n) (tn a)))), (0, .ref mq), (1, .int n), (2, .int a), (3, .int y), (4, .int up_), (5, .int m), (6, .int b)]) dM_shift_80 (by decide) rfl ?_
                  have lp1 : ∀ (fu2 : Nat) (i : Nat), (i ≤ 200) → 200 - i < fu2 → GG D X 0 0 82 [(mq, .inr (3, [.ref mm, .ref m1, .ref m2, .ref mo, .ref mr, .int (bI o1), .int (bI o2), .int (bI (rdG M (tn n) (tn a))), .ref mw, .int (bI men)])), (mm, .inl (cI, 256, .inl (nf M))), (m1, .inl (cI, 200, .inl (nf (rdD M (tn n) (tn a))))), (mo, .inl (cI, 200, .inl (nf (mix i zf xo))))] [(0, .ref mq), (3, .int y), (4, .int up_), (5, .int m), (6, .int b), (8, .int (nI i))] [] := by
                    intro fu2
                    induction fu2 with
                    | zero => intro i hi hm4; exact absurd hm4 (Nat.not_lt_zero _)
                    | succ fu2 ih3 =>
                      intro i hi hm4
                      refine xg_iload hX 5 dM_shift_82 rfl ?_
                      refine xg_sipush hX (nI 200) dM_shift_84 (by decide) ?_
                      refine xg_icmp_geN hX 104 (by omega) (by omega) dM_shift_87 (by decide) (fun hh_5 => ?_) (fun hh_5 => ?_)
                      ·
                        refine xg_iload_n hX 1 dM_shift_104 rfl rfl ?_
                        refine xg_if_ltZ hX y.toInt rfl 143 dM_shift_105 (by decide) (fun h105 => ?_) (fun h105 => ?_)
                        ·
                          refine xg_aload_n hX 0 dM_shift_143 rfl rfl ?_
                          refine xg_get hX (ci := 3) rfl hinM 0 rfl 1 (by decide) mt_325 rfl dM_shift_144 ?_
                          refine xg_iload_n hX 1 dM_shift_147 rfl rfl ?_
                          refine xg_ineg hX dM_shift_148 ?_
                          refine xg_iconst hX (nI 1) dM_shift_149 (by decide) ?_
                          refine xg_isub hX dM_shift_150 ?_
                          refine xg_top (nI ((-y.toInt - 1).toNat)) (xn_negm1 h21 h105) ?_
                          have e9 := hx.1 ((-y.toInt - 1).toNat)
                          have e8 : tn up_ ≤ 9 := tn_le h39
                          refine xg_iald hX 2 ((-y.toInt - 1).toNat) rfl (by omega) (by decide) dM_shift_151 ?_
                          refine xg_iload hX 2 dM_shift_152 rfl ?_
                          refine xg_top (nI (tn up_)) (xn_tn h32) ?_
                          refine xg_iaddN hX dM_shift_154 ?_
                          refine xg_bipush hX (nI 10) dM_shift_155 (by decide) ?_
                          refine xg_idivN hX (by omega) (by omega) (by omega) dM_shift_157 ?_
                          refine xg_istore hX (lv' := [(8, .int (nI ((((rdD M (tn n) (tn a)) ((-y.toInt - 1).toNat)) + (tn up_)) / 10))), (0, .ref mq), (3, .int y), (4, .int up_), (5, .int m), (6, .int b)]) dM_shift_158 (by decide) rfl ?_
                          refine xg_iconst hX (nI 0) dM_shift_160 (by decide) ?_
                          refine xg_istore hX (lv' := [(9, .int (nI 0)), (8, .int (nI ((((rdD M (tn n) (tn a)) ((-y.toInt - 1).toNat)) + (tn up_)) / 10))), (0, .ref mq), (3, .int y), (4, .int up_), (5, .int m), (6, .int b)]) dM_shift_161 (by decide) rfl ?_
                          have lp6 : ∀ (fu7 : Nat) (i : Nat), (i ≤ 40) → 40 - i < fu7 → GG D X 0 0 163 [(mq, .inr (3, [.ref mm, .ref m1, .ref m2, .ref mo, .ref mr, .int (bI o1), .int (bI o2), .int (bI (rdG M (tn n) (tn a))), .ref mw, .int (bI men)])), (mm, .inl (cI, 256, .inl (nf M))), (m1, .inl (cI, 200, .inl (nf (rdD M (tn n) (tn a))))), (mo, .inl (cI, 200, .inl (nf (mix i (srD (rdD M (tn n) (tn a)) ((-y.toInt).toNat) (((rdD M (tn n) (tn a)) ((-y.toInt - 1).toNat) + tn up_) / 10)) zf))))] [(0, .ref mq), (3, .int y), (4, .int up_), (5, .int m), (6, .int b), (8, .int (nI (srC (rdD M (tn n) (tn a)) ((-y.toInt).toNat) (((rdD M (tn n) (tn a)) ((-y.toInt - 1).toNat) + tn up_) / 10) i))), (9, .int (nI i))] [] := by
                            intro fu7
                            induction fu7 with
                            | zero => intro i hi hm9; exact absurd hm9 (Nat.not_lt_zero _)
                            | succ fu7 ih8 =>
                              intro i hi hm9
                              have e7 := hx.1 (i + ((-y.toInt).toNat))
                              have e6 : srC (rdD M (tn n) (tn a)) ((-y.toInt).toNat) (((rdD M (tn n) (tn a)) ((-y.toInt - 1).toNat) + tn up_) / 10) i ≤ 1 := srC_le hx.1 (by omega) i
                              refine xg_iload hX 6 dM_shift_163 rfl ?_
                              refine xg_bipush hX (nI 40) dM_shift_165 (by decide) ?_
                              refine xg_icmp_geN hX 209 (by omega) (by omega) dM_shift_167 (by decide) (fun hh_10 => ?_) (fun hh_10 => ?_)
                              ·
                                refine xg_ext hX (g := shDM (rdD M (tn n) (tn a)) y up_) (ws' := [(mq, .inr (3, [.ref mm, .ref m1, .ref m2, .ref mo, .ref mr, .int (bI o1), .int (bI o2), .int (bI (rdG M (tn n) (tn a))), .ref mw, .int (bI men)])), (mm, .inl (cI, 256, .inl (nf M))), (m1, .inl (cI, 200, .inl (nf (rdD M (tn n) (tn a))))), (mo, .inl (cI, 200, .inl (nf (shDM (rdD M (tn n) (tn a)) y up_))))]) 3 rfl (fun j hj => by unfold shDM; rw [if_pos h105, show i = 40 by omega]) rfl ?_
                                refine xg_aload_n hX 0 dM_shift_209 rfl rfl ?_
                                refine xg_iload hX 3 dM_shift_210 rfl ?_
                                refine xg_top (nI (tn m)) (df3 h15) ?_
                                refine xg_iload hX 4 dM_shift_212 rfl ?_
                                refine xg_top (nI (tn b)) (df4 h15) ?_
                                refine xg_cV hX mq [.int (nI (tn m)), .int (nI (tn b))] (hM := yc_write l D cI mq mm m1 m2 mo mr mw o1 o2 (rdG M (tn n) (tn a)) men M (shDM (rdD M (tn n) (tn a)) y up_) (tn m) (tn b) (df1 h15) (df2 h15) hM (shDM_lt hx.1) (shDM_z h27)) (wr := [(m1, .inl (cI, 200, .inl (nf (rdD M (tn n) (tn a)))))]) (ws' := fun _ => [(mq, .inr (3, [.ref mm, .ref m1, .ref m2, .ref mo, .ref mr, .int (bI o1), .int (bI o2), .int (bI (rdG M (tn n) (tn a))), .ref mw, .int (bI men)])), (mm, .inl (cI, 256, .inl (nf (wrM M (shDM (rdD M (tn n) (tn a)) y up_) (rdG M (tn n) (tn a)) (tn m) (tn b))))), (m1, .inl (cI, 200, .inl (nf (rdD M (tn n) (tn a))))), (mo, .inl (cI, 200, .inl (nf (mix (tn m) (shDM (rdD M (tn n) (tn a)) y up_) zf))))]) (st' := fun _ => [.int (nI (flg (shDM (rdD M (tn n) (tn a)) y up_) (rdG M (tn n) (tn a)) (tn m)))]) [0, 1, 3] [2] [1, 2, 0, 3] [] rfl mt_398 mt_395 mt_4 mt_397 mp_21 0 rfl rfl hdM_write (by decide) ⟨rfl, rfl⟩ (by decide) rfl rfl (by decide) rfl (by decide) (by decide) (by decide) (fun u => rfl) (fun u => rfl) (fun u => rfl) rfl rfl (by simp [Value.category]) dM_shift_214 (fun _ _ => ?_)
                                exact hret (nI (flg (shDM (rdD M (tn n) (tn a)) y up_) (rdG M (tn n) (tn a)) (tn m)), wrM M (shDM (rdD M (tn n) (tn a)) y up_) (rdG M (tn n) (tn a)) (tn m) (tn b), rdD M (tn n) (tn a), mix (tn m) (shDM (rdD M (tn n) (tn a)) y up_) zf, rdG M (tn n) (tn a)) _ _ _ rfl (show ((nI (flg (shDM (rdD M (tn n) (tn a)) y up_) (rdG M (tn n) (tn a)) (tn m))), (wrM M (shDM (rdD M (tn n) (tn a)) y up_) (rdG M (tn n) (tn a)) (tn m) (tn b))) = shiftM M n a y up_ m b from (by rw [shiftM, hs0]; exact arZ_ys.symm)) dM_shift_217
                              ·
                                refine xg_aload_n hX 0 dM_shift_170 rfl rfl ?_
                                refine xg_get hX (ci := 3) rfl hinM 0 rfl 1 (by decide) mt_325 rfl dM_shift_171 ?_
                                refine xg_iload hX 6 dM_shift_174 rfl ?_
                                refine xg_iload_n hX 1 dM_shift_176 rfl rfl ?_
                                refine xg_isub hX dM_shift_177 ?_
                                refine xg_top (nI (i + ((-y.toInt).toNat))) (xn_subneg (by omega) h21 h105) ?_
                                refine xg_iald hX 2 (i + ((-y.toInt).toNat)) rfl (by omega) (by decide) dM_shift_178 ?_
                                refine xg_iload hX 5 dM_shift_179 rfl ?_
                                refine xg_iaddN hX dM_shift_181 ?_
                                refine xg_istore hX (lv' := [(10, .int (nI (((rdD M (tn n) (tn a)) (i + ((-y.toInt).toNat))) + (srC (rdD M (tn n) (tn a)) ((-y.toInt).toNat) (((rdD M (tn n) (tn a)) ((-y.toInt - 1).toNat) + tn up_) / 10) i)))), (0, .ref mq), (3, .int y), (4, .int up_), (5, .int m), (6, .int b), (8, .int (nI (srC (rdD M (tn n) (tn a)) ((-y.toInt).toNat) (((rdD M (tn n) (tn a)) ((-y.toInt - 1).toNat) + tn up_) / 10) i))), (9, .int (nI i))]) dM_shift_182 (by decide) rfl ?_
                                refine xg_aload_n hX 1 dM_shift_184 rfl rfl ?_
                                refine xg_get hX (ci := 3) rfl hinM 0 rfl 3 (by decide) mt_327 rfl dM_shift_185 ?_
                                refine xg_iload hX 7 dM_shift_188 rfl ?_
                                refine xg_iload hX 0 dM_shift_190 rfl ?_
                                refine xg_bipush hX (nI 10) dM_shift_192 (by decide) ?_
                                refine xg_iremN hX (by omega) (by omega) (by omega) dM_shift_194 ?_
                                refine xg_iast hX (ws' := [(mq, .inr (3, [.ref mm, .ref m1, .ref m2, .ref mo, .ref mr, .int (bI o1), .int (bI o2), .int (bI (rdG M (tn n) (tn a))), .ref mw, .int (bI men)])), (mm, .inl (cI, 256, .inl (nf M))), (m1, .inl (cI, 200, .inl (nf (rdD M (tn n) (tn a))))), (mo, .inl (cI, 200, .inl (nf (up (mix i (srD (rdD M (tn n) (tn a)) ((-y.toInt).toNat) (((rdD M (tn n) (tn a)) ((-y.toInt - 1).toNat) + tn up_) / 10)) zf) i ((((rdD M (tn n) (tn a)) (i + ((-y.toInt).toNat))) + (srC (rdD M (tn n) (tn a)) ((-y.toInt).toNat) (((rdD M (tn n) (tn a)) ((-y.toInt - 1).toNat) + tn up_) / 10) i)) % 10)))))]) 3 i ((((rdD M (tn n) (tn a)) (i + ((-y.toInt).toNat))) + (srC (rdD M (tn n) (tn a)) ((-y.toInt).toNat) (((rdD M (tn n) (tn a)) ((-y.toInt - 1).toNat) + tn up_) / 10) i)) % 10) rfl (by omega) (by decide) rfl dM_shift_195 ?_
                                refine xg_iload hX 0 dM_shift_196 rfl ?_
                                refine xg_bipush hX (nI 10) dM_shift_198 (by decide) ?_
                                refine xg_idivN hX (by omega) (by omega) (by omega) dM_shift_200 ?_
                                refine xg_istore hX (lv' := [(8, .int (nI ((((rdD M (tn n) (tn a)) (i + ((-y.toInt).toNat))) + (srC (rdD M (tn n) (tn a)) ((-y.toInt).toNat) (((rdD M (tn n) (tn a)) ((-y.toInt - 1).toNat) + tn up_) / 10) i)) / 10))), (10, .int (nI (((rdD M (tn n) (tn a)) (i + ((-y.toInt).toNat))) + (srC (rdD M (tn n) (tn a)) ((-y.toInt).toNat) (((rdD M (tn n) (tn a)) ((-y.toInt - 1).toNat) + tn up_) / 10) i)))), (0, .ref mq), (3, .int y), (4, .int up_), (5, .int m), (6, .int b), (9, .int (nI i))]) dM_shift_201 (by decide) rfl ?_
                                refine xg_iincN hX (lv' := [(9, .int (nI (i + 1))), (8, .int (nI ((((rdD M (tn n) (tn a)) (i + ((-y.toInt).toNat))) + (srC (rdD M (tn n) (tn a)) ((-y.toInt).toNat) (((rdD M (tn n) (tn a)) ((-y.toInt - 1).toNat) + tn up_) / 10) i)) / 10))), (10, .int (nI (((rdD M (tn n) (tn a)) (i + ((-y.toInt).toNat))) + (srC (rdD M (tn n) (tn a)) ((-y.toInt).toNat) (((rdD M (tn n) (tn a)) ((-y.toInt - 1).toNat) + tn up_) / 10) i)))), (0, .ref mq), (3, .int y), (4, .int up_), (5, .int m), (6, .int b)]) (i + 1) 7 dM_shift_203 rfl (xn_inc _) (by decide) rfl ?_
                                refine xg_goto hX 163 dM_shift_206 (by decide) ?_
                                refine xg_ext hX (g := mix (i + 1) (srD (rdD M (tn n) (tn a)) ((-y.toInt).toNat) (((rdD M (tn n) (tn a)) ((-y.toInt - 1).toNat) + tn up_) / 10)) zf) (ws' := [(mq, .inr (3, [.ref mm, .ref m1, .ref m2, .ref mo, .ref mr, .int (bI o1), .int (bI o2), .int (bI (rdG M (tn n) (tn a))), .ref mw, .int (bI men)])), (mm, .inl (cI, 256, .inl (nf M))), (m1, .inl (cI, 200, .inl (nf (rdD M (tn n) (tn a))))), (mo, .inl (cI, 200, .inl (nf (mix (i + 1) (srD (rdD M (tn n) (tn a)) ((-y.toInt).toNat) (((rdD M (tn n) (tn a)) ((-y.toInt - 1).toNat) + tn up_) / 10)) zf))))]) 3 rfl (fun j hj => mix_up rfl j) rfl ?_
                                refine xg_lv hX (lv' := [(0, .ref mq), (3, .int y), (4, .int up_), (5, .int m), (6, .int b), (8, .int (nI ((((rdD M (tn n) (tn a)) (i + ((-y.toInt).toNat))) + (srC (rdD M (tn n) (tn a)) ((-y.toInt).toNat) (((rdD M (tn n) (tn a)) ((-y.toInt - 1).toNat) + tn up_) / 10) i)) / 10))), (9, .int (nI (i + 1)))]) [3, 4, 5, 6, 7, 1, 0] rfl ?_
                                refine xg_lvE (lv' := [(0, .ref mq), (3, .int y), (4, .int up_), (5, .int m), (6, .int b), (8, .int (nI (srC (rdD M (tn n) (tn a)) ((-y.toInt).toNat) (((rdD M (tn n) (tn a)) ((-y.toInt - 1).toNat) + tn up_) / 10) (i + 1)))), (9, .int (nI (i + 1)))]) (by rw [← (show (nI ((((rdD M (tn n) (tn a)) (i + ((-y.toInt).toNat))) + (srC (rdD M (tn n) (tn a)) ((-y.toInt).toNat) (((rdD M (tn n) (tn a)) ((-y.toInt - 1).toNat) + tn up_) / 10) i)) / 10) : Int32) = nI (srC (rdD M (tn n) (tn a)) ((-y.toInt).toNat) (((rdD M (tn n) (tn a)) ((-y.toInt - 1).toNat) + tn up_) / 10) (i + 1)) from (by first | rfl | decide))]) ?_
                                exact ih8 (i + 1) (by omega) (by omega)
                          refine xg_ext hX (g := mix 0 (srD (rdD M (tn n) (tn a)) ((-y.toInt).toNat) (((rdD M (tn n) (tn a)) ((-y.toInt - 1).toNat) + tn up_) / 10)) zf) (ws' := [(mq, .inr (3, [.ref mm, .ref m1, .ref m2, .ref mo, .ref mr, .int (bI o1), .int (bI o2), .int (bI (rdG M (tn n) (tn a))), .ref mw, .int (bI men)])), (mm, .inl (cI, 256, .inl (nf M))), (m1, .inl (cI, 200, .inl (nf (rdD M (tn n) (tn a))))), (mo, .inl (cI, 200, .inl (nf (mix 0 (srD (rdD M (tn n) (tn a)) ((-y.toInt).toNat) (((rdD M (tn n) (tn a)) ((-y.toInt - 1).toNat) + tn up_) / 10)) zf))))]) 3 rfl (fun j hj => by rw [mix_lo (show j < i from by omega)]; exact mix_0 j) rfl ?_
                          refine xg_lv hX (lv' := [(0, .ref mq), (3, .int y), (4, .int up_), (5, .int m), (6, .int b), (8, .int (nI ((((rdD M (tn n) (tn a)) ((-y.toInt - 1).toNat)) + (tn up_)) / 10))), (9, .int (nI 0))]) [2, 3, 4, 5, 6, 1, 0] rfl ?_
                          refine xg_lvE (lv' := [(0, .ref mq), (3, .int y), (4, .int up_), (5, .int m), (6, .int b), (8, .int (nI (srC (rdD M (tn n) (tn a)) ((-y.toInt).toNat) (((rdD M (tn n) (tn a)) ((-y.toInt - 1).toNat) + tn up_) / 10) 0))), (9, .int (nI 0))]) (by rw [← (show (nI ((((rdD M (tn n) (tn a)) ((-y.toInt - 1).toNat)) + (tn up_)) / 10) : Int32) = nI (srC (rdD M (tn n) (tn a)) ((-y.toInt).toNat) (((rdD M (tn n) (tn a)) ((-y.toInt - 1).toNat) + tn up_) / 10) 0) from (by first | rfl | decide))]) ?_
                          exact lp6 (40 - 0 + 1) 0 (by omega) (Nat.lt_succ_self _)
                        ·
                          have e8 : tn y ≤ 99 := tn_le h27
                          refine xg_iconst hX (nI 0) dM_shift_108 (by decide) ?_
                          refine xg_istore hX (lv' := [(8, .int (nI 0)), (0, .ref mq), (3, .int y), (4, .int up_), (5, .int m), (6, .int b)]) dM_shift_109 (by decide) rfl ?_
                          have lp11 : ∀ (fu12 : Nat) (i : Nat), (i ≤ 31) → 31 - i < fu12 → GG D X 0 0 111 [(mq, .inr (3, [.ref mm, .ref m1, .ref m2, .ref mo, .ref mr, .int (bI o1), .int (bI o2), .int (bI (rdG M (tn n) (tn a))), .ref mw, .int (bI men)])), (mm, .inl (cI, 256, .inl (nf M))), (m1, .inl (cI, 200, .inl (nf (rdD M (tn n) (tn a))))), (mo, .inl (cI, 200, .inl (nf (mvI (rdD M (tn n) (tn a)) y.toInt i))))] [(0, .ref mq), (3, .int y), (4, .int up_), (5, .int m), (6, .int b), (8, .int (nI i))] [] := by
                            intro fu12
                            induction fu12 with
                            | zero => intro i hi hm14; exact absurd hm14 (Nat.not_lt_zero _)
                            | succ fu12 ih13 =>
                              intro i hi hm14
                              refine xg_iload hX 5 dM_shift_111 rfl ?_
                              refine xg_bipush hX (nI 31) dM_shift_113 (by decide) ?_
                              refine xg_icmp_geN hX 140 (by omega) (by omega) dM_shift_115 (by decide) (fun hh_15 => ?_) (fun hh_15 => ?_)
                              ·
                                refine xg_goto hX 209 dM_shift_140 (by decide) ?_
                                refine xg_ext hX (g := shDM (rdD M (tn n) (tn a)) y up_) (ws' := [(mq, .inr (3, [.ref mm, .ref m1, .ref m2, .ref mo, .ref mr, .int (bI o1), .int (bI o2), .int (bI (rdG M (tn n) (tn a))), .ref mw, .int (bI men)])), (mm, .inl (cI, 256, .inl (nf M))), (m1, .inl (cI, 200, .inl (nf (rdD M (tn n) (tn a))))), (mo, .inl (cI, 200, .inl (nf (shDM (rdD M (tn n) (tn a)) y up_))))]) 3 rfl (fun j hj => by unfold shDM; rw [if_neg (by omega), show i = 31 by omega]) rfl ?_
                                refine xg_aload_n hX 0 dM_shift_209 rfl rfl ?_
                                refine xg_iload hX 3 dM_shift_210 rfl ?_
                                refine xg_top (nI (tn m)) (df3 h15) ?_
                                refine xg_iload hX 4 dM_shift_212 rfl ?_
                                refine xg_top (nI (tn b)) (df4 h15) ?_
                                refine xg_cV hX mq [.int (nI (tn m)), .int (nI (tn b))] (hM := yc_write l D cI mq mm m1 m2 mo mr mw o1 o2 (rdG M (tn n) (tn a)) men M (shDM (rdD M (tn n) (tn a)) y up_) (tn m) (tn b) (df1 h15) (df2 h15) hM (shDM_lt hx.1) (shDM_z h27)) (wr := [(m1, .inl (cI, 200, .inl (nf (rdD M (tn n) (tn a)))))]) (ws' := fun _ => [(mq, .inr (3, [.ref mm, .ref m1, .ref m2, .ref mo, .ref mr, .int (bI o1), .int (bI o2), .int (bI (rdG M (tn n) (tn a))), .ref mw, .int (bI men)])), (mm, .inl (cI, 256, .inl (nf (wrM M (shDM (rdD M (tn n) (tn a)) y up_) (rdG M (tn n) (tn a)) (tn m) (tn b))))), (m1, .inl (cI, 200, .inl (nf (rdD M (tn n) (tn a))))), (mo, .inl (cI, 200, .inl (nf (mix (tn m) (shDM (rdD M (tn n) (tn a)) y up_) zf))))]) (st' := fun _ => [.int (nI (flg (shDM (rdD M (tn n) (tn a)) y up_) (rdG M (tn n) (tn a)) (tn m)))]) [0, 1, 3] [2] [1, 2, 0, 3] [] rfl mt_398 mt_395 mt_4 mt_397 mp_21 0 rfl rfl hdM_write (by decide) ⟨rfl, rfl⟩ (by decide) rfl rfl (by decide) rfl (by decide) (by decide) (by decide) (fun u => rfl) (fun u => rfl) (fun u => rfl) rfl rfl (by simp [Value.category]) dM_shift_214 (fun _ _ => ?_)
                                exact hret (nI (flg (shDM (rdD M (tn n) (tn a)) y up_) (rdG M (tn n) (tn a)) (tn m)), wrM M (shDM (rdD M (tn n) (tn a)) y up_) (rdG M (tn n) (tn a)) (tn m) (tn b), rdD M (tn n) (tn a), mix (tn m) (shDM (rdD M (tn n) (tn a)) y up_) zf, rdG M (tn n) (tn a)) _ _ _ rfl (show ((nI (flg (shDM (rdD M (tn n) (tn a)) y up_) (rdG M (tn n) (tn a)) (tn m))), (wrM M (shDM (rdD M (tn n) (tn a)) y up_) (rdG M (tn n) (tn a)) (tn m) (tn b))) = shiftM M n a y up_ m b from (by rw [shiftM, hs0]; exact arZ_ys.symm)) dM_shift_217
                              ·
                                refine xg_aload_n hX 0 dM_shift_118 rfl rfl ?_
                                refine xg_get hX (ci := 3) rfl hinM 0 rfl 3 (by decide) mt_327 rfl dM_shift_119 ?_
                                refine xg_iload hX 5 dM_shift_122 rfl ?_
                                refine xg_iload_n hX 1 dM_shift_124 rfl rfl ?_
                                refine xg_top (nI (tn y)) (xn_tn h105) ?_
                                refine xg_iaddN hX dM_shift_125 ?_
                                refine xg_aload_n hX 0 dM_shift_126 rfl rfl ?_
                                refine xg_get hX (ci := 3) rfl hinM 0 rfl 1 (by decide) mt_325 rfl dM_shift_127 ?_
                                refine xg_iload hX 5 dM_shift_130 rfl ?_
                                refine xg_iald hX 2 i rfl (by omega) (by decide) dM_shift_132 ?_
                                refine xg_iast hX (ws' := [(mq, .inr (3, [.ref mm, .ref m1, .ref m2, .ref mo, .ref mr, .int (bI o1), .int (bI o2), .int (bI (rdG M (tn n) (tn a))), .ref mw, .int (bI men)])), (mm, .inl (cI, 256, .inl (nf M))), (m1, .inl (cI, 200, .inl (nf (rdD M (tn n) (tn a))))), (mo, .inl (cI, 200, .inl (nf (up (mvI (rdD M (tn n) (tn a)) y.toInt i) (i + (tn y)) ((rdD M (tn n) (tn a)) i)))))]) 3 (i + (tn y)) ((rdD M (tn n) (tn a)) i) rfl (by omega) (by decide) rfl dM_shift_133 ?_
                                refine xg_iincN hX (lv' := [(8, .int (nI (i + 1))), (0, .ref mq), (3, .int y), (4, .int up_), (5, .int m), (6, .int b)]) (i + 1) 5 dM_shift_134 rfl (xn_inc _) (by decide) rfl ?_
                                refine xg_goto hX 111 dM_shift_137 (by decide) ?_
                                refine xg_ext hX (g := mvI (rdD M (tn n) (tn a)) y.toInt (i + 1)) (ws' := [(mq, .inr (3, [.ref mm, .ref m1, .ref m2, .ref mo, .ref mr, .int (bI o1), .int (bI o2), .int (bI (rdG M (tn n) (tn a))), .ref mw, .int (bI men)])), (mm, .inl (cI, 256, .inl (nf M))), (m1, .inl (cI, 200, .inl (nf (rdD M (tn n) (tn a))))), (mo, .inl (cI, 200, .inl (nf (mvI (rdD M (tn n) (tn a)) y.toInt (i + 1)))))]) 3 rfl (fun j hj => mvI_s (by unfold tn; omega) j) rfl ?_
                                refine xg_lv hX (lv' := [(0, .ref mq), (3, .int y), (4, .int up_), (5, .int m), (6, .int b), (8, .int (nI (i + 1)))]) [1, 2, 3, 4, 5, 0] rfl ?_
                                exact ih13 (i + 1) (by omega) (by omega)
                          refine xg_ext hX (g := mvI (rdD M (tn n) (tn a)) y.toInt 0) (ws' := [(mq, .inr (3, [.ref mm, .ref m1, .ref m2, .ref mo, .ref mr, .int (bI o1), .int (bI o2), .int (bI (rdG M (tn n) (tn a))), .ref mw, .int (bI men)])), (mm, .inl (cI, 256, .inl (nf M))), (m1, .inl (cI, 200, .inl (nf (rdD M (tn n) (tn a))))), (mo, .inl (cI, 200, .inl (nf (mvI (rdD M (tn n) (tn a)) y.toInt 0))))]) 3 rfl (fun j hj => by rw [mix_lo (show j < i from by omega)]; exact mvI_0 j) rfl ?_
                          refine xg_lv hX (lv' := [(0, .ref mq), (3, .int y), (4, .int up_), (5, .int m), (6, .int b), (8, .int (nI 0))]) [1, 2, 3, 4, 5, 0] rfl ?_
                          exact lp11 (31 - 0 + 1) 0 (by omega) (Nat.lt_succ_self _)
                      ·
                        refine xg_aload_n hX 0 dM_shift_90 rfl rfl ?_
                        refine xg_get hX (ci := 3) rfl hinM 0 rfl 3 (by decide) mt_327 rfl dM_shift_91 ?_
                        refine xg_iload hX 5 dM_shift_94 rfl ?_
                        refine xg_iconst hX (nI 0) dM_shift_96 (by decide) ?_
                        refine xg_iast hX (ws' := [(mq, .inr (3, [.ref mm, .ref m1, .ref m2, .ref mo, .ref mr, .int (bI o1), .int (bI o2), .int (bI (rdG M (tn n) (tn a))), .ref mw, .int (bI men)])), (mm, .inl (cI, 256, .inl (nf M))), (m1, .inl (cI, 200, .inl (nf (rdD M (tn n) (tn a))))), (mo, .inl (cI, 200, .inl (nf (up (mix i zf xo) i 0))))]) 3 i 0 rfl (by omega) (by decide) rfl dM_shift_97 ?_
                        refine xg_iincN hX (lv' := [(8, .int (nI (i + 1))), (0, .ref mq), (3, .int y), (4, .int up_), (5, .int m), (6, .int b)]) (i + 1) 5 dM_shift_98 rfl (xn_inc _) (by decide) rfl ?_
                        refine xg_goto hX 82 dM_shift_101 (by decide) ?_
                        refine xg_ext hX (g := mix (i + 1) zf xo) (ws' := [(mq, .inr (3, [.ref mm, .ref m1, .ref m2, .ref mo, .ref mr, .int (bI o1), .int (bI o2), .int (bI (rdG M (tn n) (tn a))), .ref mw, .int (bI men)])), (mm, .inl (cI, 256, .inl (nf M))), (m1, .inl (cI, 200, .inl (nf (rdD M (tn n) (tn a))))), (mo, .inl (cI, 200, .inl (nf (mix (i + 1) zf xo))))]) 3 rfl (fun j hj => mix_up rfl j) rfl ?_
                        refine xg_lv hX (lv' := [(0, .ref mq), (3, .int y), (4, .int up_), (5, .int m), (6, .int b), (8, .int (nI (i + 1)))]) [1, 2, 3, 4, 5, 0] rfl ?_
                        exact ih3 (i + 1) (by omega) (by omega)
                  refine xg_ext hX (g := mix 0 zf xo) (ws' := [(mq, .inr (3, [.ref mm, .ref m1, .ref m2, .ref mo, .ref mr, .int (bI o1), .int (bI o2), .int (bI (rdG M (tn n) (tn a))), .ref mw, .int (bI men)])), (mm, .inl (cI, 256, .inl (nf M))), (m1, .inl (cI, 200, .inl (nf (rdD M (tn n) (tn a))))), (mo, .inl (cI, 200, .inl (nf (mix 0 zf xo))))]) 3 rfl (fun j hj => mix_0 j) rfl ?_
                  refine xg_lv hX (lv' := [(0, .ref mq), (3, .int y), (4, .int up_), (5, .int m), (6, .int b), (8, .int (nI 0))]) [2, 5, 6, 7, 8, 0] rfl ?_
                  exact lp1 (200 - 0 + 1) 0 (by omega) (Nat.lt_succ_self _)
                ·
                  refine xg_iconst hX (nI 1) dM_shift_71 (by decide) ?_
                  refine xg_goto hX 76 dM_shift_72 (by decide) ?_
                  refine xg_top (bI true) rfl ?_
                  refine xg_put hX tyM tyM_ok nmM (ci := 3) rfl hinM (ws' := [(mq, .inr (3, [.ref mm, .ref m1, .ref m2, .ref mo, .ref mr, .int (bI o1), .int (bI o2), .int (bI true), .ref mw, .int (bI men)])), (mm, .inl (cI, 256, .inl (nf M))), (m1, .inl (cI, 200, .inl (nf (rdD M (tn n) (tn a))))), (mo, .inl (cI, 200, .inl (nf xo)))]) 0 rfl 7 (by decide) mt_331 rfl (xn_narB _) (xn_fitB _) (Nat.le_of_ble_eq_true rfl) rfl dM_shift_76 ?_
                  refine xg_wsE (ws' := [(mq, .inr (3, [.ref mm, .ref m1, .ref m2, .ref mo, .ref mr, .int (bI o1), .int (bI o2), .int (bI (rdG M (tn n) (tn a))), .ref mw, .int (bI men)])), (mm, .inl (cI, 256, .inl (nf M))), (m1, .inl (cI, 200, .inl (nf (rdD M (tn n) (tn a))))), (mo, .inl (cI, 200, .inl (nf xo)))]) (by rw [← (show (bI true : Int32) = bI (rdG M (tn n) (tn a)) from (by rw [← rdV_2 g1]; first | (rw [decide_eq_true h68]; done) | (rw [decide_eq_false h68]; done)))]) ?_
                  refine xg_iconst hX (nI 0) dM_shift_79 (by decide) ?_
                  refine xg_istore hX (lv' := [(8, .int (nI 0)), (7, .int (nI (rdV M (tn n) (tn a)))), (0, .ref mq), (1, .int n), (2, .int a), (3, .int y), (4, .int up_), (5, .int m), (6, .int b)]) dM_shift_80 (by decide) rfl ?_
                  have lp16 : ∀ (fu17 : Nat) (i : Nat), (i ≤ 200) → 200 - i < fu17 → GG D X 0 0 82 [(mq, .inr (3, [.ref mm, .ref m1, .ref m2, .ref mo, .ref mr, .int (bI o1), .int (bI o2), .int (bI (rdG M (tn n) (tn a))), .ref mw, .int (bI men)])), (mm, .inl (cI, 256, .inl (nf M))), (m1, .inl (cI, 200, .inl (nf (rdD M (tn n) (tn a))))), (mo, .inl (cI, 200, .inl (nf (mix i zf xo))))] [(0, .ref mq), (3, .int y), (4, .int up_), (5, .int m), (6, .int b), (8, .int (nI i))] [] := by
                    intro fu17
                    induction fu17 with
                    | zero => intro i hi hm19; exact absurd hm19 (Nat.not_lt_zero _)
                    | succ fu17 ih18 =>
                      intro i hi hm19
                      refine xg_iload hX 5 dM_shift_82 rfl ?_
                      refine xg_sipush hX (nI 200) dM_shift_84 (by decide) ?_
                      refine xg_icmp_geN hX 104 (by omega) (by omega) dM_shift_87 (by decide) (fun hh_20 => ?_) (fun hh_20 => ?_)
                      ·
                        refine xg_iload_n hX 1 dM_shift_104 rfl rfl ?_
                        refine xg_if_ltZ hX y.toInt rfl 143 dM_shift_105 (by decide) (fun h105 => ?_) (fun h105 => ?_)
                        ·
                          refine xg_aload_n hX 0 dM_shift_143 rfl rfl ?_
                          refine xg_get hX (ci := 3) rfl hinM 0 rfl 1 (by decide) mt_325 rfl dM_shift_144 ?_
                          refine xg_iload_n hX 1 dM_shift_147 rfl rfl ?_
                          refine xg_ineg hX dM_shift_148 ?_
                          refine xg_iconst hX (nI 1) dM_shift_149 (by decide) ?_
                          refine xg_isub hX dM_shift_150 ?_
                          refine xg_top (nI ((-y.toInt - 1).toNat)) (xn_negm1 h21 h105) ?_
                          have e9 := hx.1 ((-y.toInt - 1).toNat)
                          have e8 : tn up_ ≤ 9 := tn_le h39
                          refine xg_iald hX 2 ((-y.toInt - 1).toNat) rfl (by omega) (by decide) dM_shift_151 ?_
                          refine xg_iload hX 2 dM_shift_152 rfl ?_
                          refine xg_top (nI (tn up_)) (xn_tn h32) ?_
                          refine xg_iaddN hX dM_shift_154 ?_
                          refine xg_bipush hX (nI 10) dM_shift_155 (by decide) ?_
                          refine xg_idivN hX (by omega) (by omega) (by omega) dM_shift_157 ?_
                          refine xg_istore hX (lv' := [(8, .int (nI ((((rdD M (tn n) (tn a)) ((-y.toInt - 1).toNat)) + (tn up_)) / 10))), (0, .ref mq), (3, .int y), (4, .int up_), (5, .int m), (6, .int b)]) dM_shift_158 (by decide) rfl ?_
                          refine xg_iconst hX (nI 0) dM_shift_160 (by decide) ?_
                          refine xg_istore hX (lv' := [(9, .int (nI 0)), (8, .int (nI ((((rdD M (tn n) (tn a)) ((-y.toInt - 1).toNat)) + (tn up_)) / 10))), (0, .ref mq), (3, .int y), (4, .int up_), (5, .int m), (6, .int b)]) dM_shift_161 (by decide) rfl ?_
                          have lp21 : ∀ (fu22 : Nat) (i : Nat), (i ≤ 40) → 40 - i < fu22 → GG D X 0 0 163 [(mq, .inr (3, [.ref mm, .ref m1, .ref m2, .ref mo, .ref mr, .int (bI o1), .int (bI o2), .int (bI (rdG M (tn n) (tn a))), .ref mw, .int (bI men)])), (mm, .inl (cI, 256, .inl (nf M))), (m1, .inl (cI, 200, .inl (nf (rdD M (tn n) (tn a))))), (mo, .inl (cI, 200, .inl (nf (mix i (srD (rdD M (tn n) (tn a)) ((-y.toInt).toNat) (((rdD M (tn n) (tn a)) ((-y.toInt - 1).toNat) + tn up_) / 10)) zf))))] [(0, .ref mq), (3, .int y), (4, .int up_), (5, .int m), (6, .int b), (8, .int (nI (srC (rdD M (tn n) (tn a)) ((-y.toInt).toNat) (((rdD M (tn n) (tn a)) ((-y.toInt - 1).toNat) + tn up_) / 10) i))), (9, .int (nI i))] [] := by
                            intro fu22
                            induction fu22 with
                            | zero => intro i hi hm24; exact absurd hm24 (Nat.not_lt_zero _)
                            | succ fu22 ih23 =>
                              intro i hi hm24
                              have e7 := hx.1 (i + ((-y.toInt).toNat))
                              have e6 : srC (rdD M (tn n) (tn a)) ((-y.toInt).toNat) (((rdD M (tn n) (tn a)) ((-y.toInt - 1).toNat) + tn up_) / 10) i ≤ 1 := srC_le hx.1 (by omega) i
                              refine xg_iload hX 6 dM_shift_163 rfl ?_
                              refine xg_bipush hX (nI 40) dM_shift_165 (by decide) ?_
                              refine xg_icmp_geN hX 209 (by omega) (by omega) dM_shift_167 (by decide) (fun hh_25 => ?_) (fun hh_25 => ?_)
                              ·
                                refine xg_ext hX (g := shDM (rdD M (tn n) (tn a)) y up_) (ws' := [(mq, .inr (3, [.ref mm, .ref m1, .ref m2, .ref mo, .ref mr, .int (bI o1), .int (bI o2), .int (bI (rdG M (tn n) (tn a))), .ref mw, .int (bI men)])), (mm, .inl (cI, 256, .inl (nf M))), (m1, .inl (cI, 200, .inl (nf (rdD M (tn n) (tn a))))), (mo, .inl (cI, 200, .inl (nf (shDM (rdD M (tn n) (tn a)) y up_))))]) 3 rfl (fun j hj => by unfold shDM; rw [if_pos h105, show i = 40 by omega]) rfl ?_
                                refine xg_aload_n hX 0 dM_shift_209 rfl rfl ?_
                                refine xg_iload hX 3 dM_shift_210 rfl ?_
                                refine xg_top (nI (tn m)) (df3 h15) ?_
                                refine xg_iload hX 4 dM_shift_212 rfl ?_
                                refine xg_top (nI (tn b)) (df4 h15) ?_
                                refine xg_cV hX mq [.int (nI (tn m)), .int (nI (tn b))] (hM := yc_write l D cI mq mm m1 m2 mo mr mw o1 o2 (rdG M (tn n) (tn a)) men M (shDM (rdD M (tn n) (tn a)) y up_) (tn m) (tn b) (df1 h15) (df2 h15) hM (shDM_lt hx.1) (shDM_z h27)) (wr := [(m1, .inl (cI, 200, .inl (nf (rdD M (tn n) (tn a)))))]) (ws' := fun _ => [(mq, .inr (3, [.ref mm, .ref m1, .ref m2, .ref mo, .ref mr, .int (bI o1), .int (bI o2), .int (bI (rdG M (tn n) (tn a))), .ref mw, .int (bI men)])), (mm, .inl (cI, 256, .inl (nf (wrM M (shDM (rdD M (tn n) (tn a)) y up_) (rdG M (tn n) (tn a)) (tn m) (tn b))))), (m1, .inl (cI, 200, .inl (nf (rdD M (tn n) (tn a))))), (mo, .inl (cI, 200, .inl (nf (mix (tn m) (shDM (rdD M (tn n) (tn a)) y up_) zf))))]) (st' := fun _ => [.int (nI (flg (shDM (rdD M (tn n) (tn a)) y up_) (rdG M (tn n) (tn a)) (tn m)))]) [0, 1, 3] [2] [1, 2, 0, 3] [] rfl mt_398 mt_395 mt_4 mt_397 mp_21 0 rfl rfl hdM_write (by decide) ⟨rfl, rfl⟩ (by decide) rfl rfl (by decide) rfl (by decide) (by decide) (by decide) (fun u => rfl) (fun u => rfl) (fun u => rfl) rfl rfl (by simp [Value.category]) dM_shift_214 (fun _ _ => ?_)
                                exact hret (nI (flg (shDM (rdD M (tn n) (tn a)) y up_) (rdG M (tn n) (tn a)) (tn m)), wrM M (shDM (rdD M (tn n) (tn a)) y up_) (rdG M (tn n) (tn a)) (tn m) (tn b), rdD M (tn n) (tn a), mix (tn m) (shDM (rdD M (tn n) (tn a)) y up_) zf, rdG M (tn n) (tn a)) _ _ _ rfl (show ((nI (flg (shDM (rdD M (tn n) (tn a)) y up_) (rdG M (tn n) (tn a)) (tn m))), (wrM M (shDM (rdD M (tn n) (tn a)) y up_) (rdG M (tn n) (tn a)) (tn m) (tn b))) = shiftM M n a y up_ m b from (by rw [shiftM, hs0]; exact arZ_ys.symm)) dM_shift_217
                              ·
                                refine xg_aload_n hX 0 dM_shift_170 rfl rfl ?_
                                refine xg_get hX (ci := 3) rfl hinM 0 rfl 1 (by decide) mt_325 rfl dM_shift_171 ?_
                                refine xg_iload hX 6 dM_shift_174 rfl ?_
                                refine xg_iload_n hX 1 dM_shift_176 rfl rfl ?_
                                refine xg_isub hX dM_shift_177 ?_
                                refine xg_top (nI (i + ((-y.toInt).toNat))) (xn_subneg (by omega) h21 h105) ?_
                                refine xg_iald hX 2 (i + ((-y.toInt).toNat)) rfl (by omega) (by decide) dM_shift_178 ?_
                                refine xg_iload hX 5 dM_shift_179 rfl ?_
                                refine xg_iaddN hX dM_shift_181 ?_
                                refine xg_istore hX (lv' := [(10, .int (nI (((rdD M (tn n) (tn a)) (i + ((-y.toInt).toNat))) + (srC (rdD M (tn n) (tn a)) ((-y.toInt).toNat) (((rdD M (tn n) (tn a)) ((-y.toInt - 1).toNat) + tn up_) / 10) i)))), (0, .ref mq), (3, .int y), (4, .int up_), (5, .int m), (6, .int b), (8, .int (nI (srC (rdD M (tn n) (tn a)) ((-y.toInt).toNat) (((rdD M (tn n) (tn a)) ((-y.toInt - 1).toNat) + tn up_) / 10) i))), (9, .int (nI i))]) dM_shift_182 (by decide) rfl ?_
                                refine xg_aload_n hX 1 dM_shift_184 rfl rfl ?_
                                refine xg_get hX (ci := 3) rfl hinM 0 rfl 3 (by decide) mt_327 rfl dM_shift_185 ?_
                                refine xg_iload hX 7 dM_shift_188 rfl ?_
                                refine xg_iload hX 0 dM_shift_190 rfl ?_
                                refine xg_bipush hX (nI 10) dM_shift_192 (by decide) ?_
                                refine xg_iremN hX (by omega) (by omega) (by omega) dM_shift_194 ?_
                                refine xg_iast hX (ws' := [(mq, .inr (3, [.ref mm, .ref m1, .ref m2, .ref mo, .ref mr, .int (bI o1), .int (bI o2), .int (bI (rdG M (tn n) (tn a))), .ref mw, .int (bI men)])), (mm, .inl (cI, 256, .inl (nf M))), (m1, .inl (cI, 200, .inl (nf (rdD M (tn n) (tn a))))), (mo, .inl (cI, 200, .inl (nf (up (mix i (srD (rdD M (tn n) (tn a)) ((-y.toInt).toNat) (((rdD M (tn n) (tn a)) ((-y.toInt - 1).toNat) + tn up_) / 10)) zf) i ((((rdD M (tn n) (tn a)) (i + ((-y.toInt).toNat))) + (srC (rdD M (tn n) (tn a)) ((-y.toInt).toNat) (((rdD M (tn n) (tn a)) ((-y.toInt - 1).toNat) + tn up_) / 10) i)) % 10)))))]) 3 i ((((rdD M (tn n) (tn a)) (i + ((-y.toInt).toNat))) + (srC (rdD M (tn n) (tn a)) ((-y.toInt).toNat) (((rdD M (tn n) (tn a)) ((-y.toInt - 1).toNat) + tn up_) / 10) i)) % 10) rfl (by omega) (by decide) rfl dM_shift_195 ?_
                                refine xg_iload hX 0 dM_shift_196 rfl ?_
                                refine xg_bipush hX (nI 10) dM_shift_198 (by decide) ?_
                                refine xg_idivN hX (by omega) (by omega) (by omega) dM_shift_200 ?_
                                refine xg_istore hX (lv' := [(8, .int (nI ((((rdD M (tn n) (tn a)) (i + ((-y.toInt).toNat))) + (srC (rdD M (tn n) (tn a)) ((-y.toInt).toNat) (((rdD M (tn n) (tn a)) ((-y.toInt - 1).toNat) + tn up_) / 10) i)) / 10))), (10, .int (nI (((rdD M (tn n) (tn a)) (i + ((-y.toInt).toNat))) + (srC (rdD M (tn n) (tn a)) ((-y.toInt).toNat) (((rdD M (tn n) (tn a)) ((-y.toInt - 1).toNat) + tn up_) / 10) i)))), (0, .ref mq), (3, .int y), (4, .int up_), (5, .int m), (6, .int b), (9, .int (nI i))]) dM_shift_201 (by decide) rfl ?_
                                refine xg_iincN hX (lv' := [(9, .int (nI (i + 1))), (8, .int (nI ((((rdD M (tn n) (tn a)) (i + ((-y.toInt).toNat))) + (srC (rdD M (tn n) (tn a)) ((-y.toInt).toNat) (((rdD M (tn n) (tn a)) ((-y.toInt - 1).toNat) + tn up_) / 10) i)) / 10))), (10, .int (nI (((rdD M (tn n) (tn a)) (i + ((-y.toInt).toNat))) + (srC (rdD M (tn n) (tn a)) ((-y.toInt).toNat) (((rdD M (tn n) (tn a)) ((-y.toInt - 1).toNat) + tn up_) / 10) i)))), (0, .ref mq), (3, .int y), (4, .int up_), (5, .int m), (6, .int b)]) (i + 1) 7 dM_shift_203 rfl (xn_inc _) (by decide) rfl ?_
                                refine xg_goto hX 163 dM_shift_206 (by decide) ?_
                                refine xg_ext hX (g := mix (i + 1) (srD (rdD M (tn n) (tn a)) ((-y.toInt).toNat) (((rdD M (tn n) (tn a)) ((-y.toInt - 1).toNat) + tn up_) / 10)) zf) (ws' := [(mq, .inr (3, [.ref mm, .ref m1, .ref m2, .ref mo, .ref mr, .int (bI o1), .int (bI o2), .int (bI (rdG M (tn n) (tn a))), .ref mw, .int (bI men)])), (mm, .inl (cI, 256, .inl (nf M))), (m1, .inl (cI, 200, .inl (nf (rdD M (tn n) (tn a))))), (mo, .inl (cI, 200, .inl (nf (mix (i + 1) (srD (rdD M (tn n) (tn a)) ((-y.toInt).toNat) (((rdD M (tn n) (tn a)) ((-y.toInt - 1).toNat) + tn up_) / 10)) zf))))]) 3 rfl (fun j hj => mix_up rfl j) rfl ?_
                                refine xg_lv hX (lv' := [(0, .ref mq), (3, .int y), (4, .int up_), (5, .int m), (6, .int b), (8, .int (nI ((((rdD M (tn n) (tn a)) (i + ((-y.toInt).toNat))) + (srC (rdD M (tn n) (tn a)) ((-y.toInt).toNat) (((rdD M (tn n) (tn a)) ((-y.toInt - 1).toNat) + tn up_) / 10) i)) / 10))), (9, .int (nI (i + 1)))]) [3, 4, 5, 6, 7, 1, 0] rfl ?_
                                refine xg_lvE (lv' := [(0, .ref mq), (3, .int y), (4, .int up_), (5, .int m), (6, .int b), (8, .int (nI (srC (rdD M (tn n) (tn a)) ((-y.toInt).toNat) (((rdD M (tn n) (tn a)) ((-y.toInt - 1).toNat) + tn up_) / 10) (i + 1)))), (9, .int (nI (i + 1)))]) (by rw [← (show (nI ((((rdD M (tn n) (tn a)) (i + ((-y.toInt).toNat))) + (srC (rdD M (tn n) (tn a)) ((-y.toInt).toNat) (((rdD M (tn n) (tn a)) ((-y.toInt - 1).toNat) + tn up_) / 10) i)) / 10) : Int32) = nI (srC (rdD M (tn n) (tn a)) ((-y.toInt).toNat) (((rdD M (tn n) (tn a)) ((-y.toInt - 1).toNat) + tn up_) / 10) (i + 1)) from (by first | rfl | decide))]) ?_
                                exact ih23 (i + 1) (by omega) (by omega)
                          refine xg_ext hX (g := mix 0 (srD (rdD M (tn n) (tn a)) ((-y.toInt).toNat) (((rdD M (tn n) (tn a)) ((-y.toInt - 1).toNat) + tn up_) / 10)) zf) (ws' := [(mq, .inr (3, [.ref mm, .ref m1, .ref m2, .ref mo, .ref mr, .int (bI o1), .int (bI o2), .int (bI (rdG M (tn n) (tn a))), .ref mw, .int (bI men)])), (mm, .inl (cI, 256, .inl (nf M))), (m1, .inl (cI, 200, .inl (nf (rdD M (tn n) (tn a))))), (mo, .inl (cI, 200, .inl (nf (mix 0 (srD (rdD M (tn n) (tn a)) ((-y.toInt).toNat) (((rdD M (tn n) (tn a)) ((-y.toInt - 1).toNat) + tn up_) / 10)) zf))))]) 3 rfl (fun j hj => by rw [mix_lo (show j < i from by omega)]; exact mix_0 j) rfl ?_
                          refine xg_lv hX (lv' := [(0, .ref mq), (3, .int y), (4, .int up_), (5, .int m), (6, .int b), (8, .int (nI ((((rdD M (tn n) (tn a)) ((-y.toInt - 1).toNat)) + (tn up_)) / 10))), (9, .int (nI 0))]) [2, 3, 4, 5, 6, 1, 0] rfl ?_
                          refine xg_lvE (lv' := [(0, .ref mq), (3, .int y), (4, .int up_), (5, .int m), (6, .int b), (8, .int (nI (srC (rdD M (tn n) (tn a)) ((-y.toInt).toNat) (((rdD M (tn n) (tn a)) ((-y.toInt - 1).toNat) + tn up_) / 10) 0))), (9, .int (nI 0))]) (by rw [← (show (nI ((((rdD M (tn n) (tn a)) ((-y.toInt - 1).toNat)) + (tn up_)) / 10) : Int32) = nI (srC (rdD M (tn n) (tn a)) ((-y.toInt).toNat) (((rdD M (tn n) (tn a)) ((-y.toInt - 1).toNat) + tn up_) / 10) 0) from (by first | rfl | decide))]) ?_
                          exact lp21 (40 - 0 + 1) 0 (by omega) (Nat.lt_succ_self _)
                        ·
                          have e8 : tn y ≤ 99 := tn_le h27
                          refine xg_iconst hX (nI 0) dM_shift_108 (by decide) ?_
                          refine xg_istore hX (lv' := [(8, .int (nI 0)), (0, .ref mq), (3, .int y), (4, .int up_), (5, .int m), (6, .int b)]) dM_shift_109 (by decide) rfl ?_
                          have lp26 : ∀ (fu27 : Nat) (i : Nat), (i ≤ 31) → 31 - i < fu27 → GG D X 0 0 111 [(mq, .inr (3, [.ref mm, .ref m1, .ref m2, .ref mo, .ref mr, .int (bI o1), .int (bI o2), .int (bI (rdG M (tn n) (tn a))), .ref mw, .int (bI men)])), (mm, .inl (cI, 256, .inl (nf M))), (m1, .inl (cI, 200, .inl (nf (rdD M (tn n) (tn a))))), (mo, .inl (cI, 200, .inl (nf (mvI (rdD M (tn n) (tn a)) y.toInt i))))] [(0, .ref mq), (3, .int y), (4, .int up_), (5, .int m), (6, .int b), (8, .int (nI i))] [] := by
                            intro fu27
                            induction fu27 with
                            | zero => intro i hi hm29; exact absurd hm29 (Nat.not_lt_zero _)
                            | succ fu27 ih28 =>
                              intro i hi hm29
                              refine xg_iload hX 5 dM_shift_111 rfl ?_
                              refine xg_bipush hX (nI 31) dM_shift_113 (by decide) ?_
                              refine xg_icmp_geN hX 140 (by omega) (by omega) dM_shift_115 (by decide) (fun hh_30 => ?_) (fun hh_30 => ?_)
                              ·
                                refine xg_goto hX 209 dM_shift_140 (by decide) ?_
                                refine xg_ext hX (g := shDM (rdD M (tn n) (tn a)) y up_) (ws' := [(mq, .inr (3, [.ref mm, .ref m1, .ref m2, .ref mo, .ref mr, .int (bI o1), .int (bI o2), .int (bI (rdG M (tn n) (tn a))), .ref mw, .int (bI men)])), (mm, .inl (cI, 256, .inl (nf M))), (m1, .inl (cI, 200, .inl (nf (rdD M (tn n) (tn a))))), (mo, .inl (cI, 200, .inl (nf (shDM (rdD M (tn n) (tn a)) y up_))))]) 3 rfl (fun j hj => by unfold shDM; rw [if_neg (by omega), show i = 31 by omega]) rfl ?_
                                refine xg_aload_n hX 0 dM_shift_209 rfl rfl ?_
                                refine xg_iload hX 3 dM_shift_210 rfl ?_
                                refine xg_top (nI (tn m)) (df3 h15) ?_
                                refine xg_iload hX 4 dM_shift_212 rfl ?_
                                refine xg_top (nI (tn b)) (df4 h15) ?_
                                refine xg_cV hX mq [.int (nI (tn m)), .int (nI (tn b))] (hM := yc_write l D cI mq mm m1 m2 mo mr mw o1 o2 (rdG M (tn n) (tn a)) men M (shDM (rdD M (tn n) (tn a)) y up_) (tn m) (tn b) (df1 h15) (df2 h15) hM (shDM_lt hx.1) (shDM_z h27)) (wr := [(m1, .inl (cI, 200, .inl (nf (rdD M (tn n) (tn a)))))]) (ws' := fun _ => [(mq, .inr (3, [.ref mm, .ref m1, .ref m2, .ref mo, .ref mr, .int (bI o1), .int (bI o2), .int (bI (rdG M (tn n) (tn a))), .ref mw, .int (bI men)])), (mm, .inl (cI, 256, .inl (nf (wrM M (shDM (rdD M (tn n) (tn a)) y up_) (rdG M (tn n) (tn a)) (tn m) (tn b))))), (m1, .inl (cI, 200, .inl (nf (rdD M (tn n) (tn a))))), (mo, .inl (cI, 200, .inl (nf (mix (tn m) (shDM (rdD M (tn n) (tn a)) y up_) zf))))]) (st' := fun _ => [.int (nI (flg (shDM (rdD M (tn n) (tn a)) y up_) (rdG M (tn n) (tn a)) (tn m)))]) [0, 1, 3] [2] [1, 2, 0, 3] [] rfl mt_398 mt_395 mt_4 mt_397 mp_21 0 rfl rfl hdM_write (by decide) ⟨rfl, rfl⟩ (by decide) rfl rfl (by decide) rfl (by decide) (by decide) (by decide) (fun u => rfl) (fun u => rfl) (fun u => rfl) rfl rfl (by simp [Value.category]) dM_shift_214 (fun _ _ => ?_)
                                exact hret (nI (flg (shDM (rdD M (tn n) (tn a)) y up_) (rdG M (tn n) (tn a)) (tn m)), wrM M (shDM (rdD M (tn n) (tn a)) y up_) (rdG M (tn n) (tn a)) (tn m) (tn b), rdD M (tn n) (tn a), mix (tn m) (shDM (rdD M (tn n) (tn a)) y up_) zf, rdG M (tn n) (tn a)) _ _ _ rfl (show ((nI (flg (shDM (rdD M (tn n) (tn a)) y up_) (rdG M (tn n) (tn a)) (tn m))), (wrM M (shDM (rdD M (tn n) (tn a)) y up_) (rdG M (tn n) (tn a)) (tn m) (tn b))) = shiftM M n a y up_ m b from (by rw [shiftM, hs0]; exact arZ_ys.symm)) dM_shift_217
                              ·
                                refine xg_aload_n hX 0 dM_shift_118 rfl rfl ?_
                                refine xg_get hX (ci := 3) rfl hinM 0 rfl 3 (by decide) mt_327 rfl dM_shift_119 ?_
                                refine xg_iload hX 5 dM_shift_122 rfl ?_
                                refine xg_iload_n hX 1 dM_shift_124 rfl rfl ?_
                                refine xg_top (nI (tn y)) (xn_tn h105) ?_
                                refine xg_iaddN hX dM_shift_125 ?_
                                refine xg_aload_n hX 0 dM_shift_126 rfl rfl ?_
                                refine xg_get hX (ci := 3) rfl hinM 0 rfl 1 (by decide) mt_325 rfl dM_shift_127 ?_
                                refine xg_iload hX 5 dM_shift_130 rfl ?_
                                refine xg_iald hX 2 i rfl (by omega) (by decide) dM_shift_132 ?_
                                refine xg_iast hX (ws' := [(mq, .inr (3, [.ref mm, .ref m1, .ref m2, .ref mo, .ref mr, .int (bI o1), .int (bI o2), .int (bI (rdG M (tn n) (tn a))), .ref mw, .int (bI men)])), (mm, .inl (cI, 256, .inl (nf M))), (m1, .inl (cI, 200, .inl (nf (rdD M (tn n) (tn a))))), (mo, .inl (cI, 200, .inl (nf (up (mvI (rdD M (tn n) (tn a)) y.toInt i) (i + (tn y)) ((rdD M (tn n) (tn a)) i)))))]) 3 (i + (tn y)) ((rdD M (tn n) (tn a)) i) rfl (by omega) (by decide) rfl dM_shift_133 ?_
                                refine xg_iincN hX (lv' := [(8, .int (nI (i + 1))), (0, .ref mq), (3, .int y), (4, .int up_), (5, .int m), (6, .int b)]) (i + 1) 5 dM_shift_134 rfl (xn_inc _) (by decide) rfl ?_
                                refine xg_goto hX 111 dM_shift_137 (by decide) ?_
                                refine xg_ext hX (g := mvI (rdD M (tn n) (tn a)) y.toInt (i + 1)) (ws' := [(mq, .inr (3, [.ref mm, .ref m1, .ref m2, .ref mo, .ref mr, .int (bI o1), .int (bI o2), .int (bI (rdG M (tn n) (tn a))), .ref mw, .int (bI men)])), (mm, .inl (cI, 256, .inl (nf M))), (m1, .inl (cI, 200, .inl (nf (rdD M (tn n) (tn a))))), (mo, .inl (cI, 200, .inl (nf (mvI (rdD M (tn n) (tn a)) y.toInt (i + 1)))))]) 3 rfl (fun j hj => mvI_s (by unfold tn; omega) j) rfl ?_
                                refine xg_lv hX (lv' := [(0, .ref mq), (3, .int y), (4, .int up_), (5, .int m), (6, .int b), (8, .int (nI (i + 1)))]) [1, 2, 3, 4, 5, 0] rfl ?_
                                exact ih28 (i + 1) (by omega) (by omega)
                          refine xg_ext hX (g := mvI (rdD M (tn n) (tn a)) y.toInt 0) (ws' := [(mq, .inr (3, [.ref mm, .ref m1, .ref m2, .ref mo, .ref mr, .int (bI o1), .int (bI o2), .int (bI (rdG M (tn n) (tn a))), .ref mw, .int (bI men)])), (mm, .inl (cI, 256, .inl (nf M))), (m1, .inl (cI, 200, .inl (nf (rdD M (tn n) (tn a))))), (mo, .inl (cI, 200, .inl (nf (mvI (rdD M (tn n) (tn a)) y.toInt 0))))]) 3 rfl (fun j hj => by rw [mix_lo (show j < i from by omega)]; exact mvI_0 j) rfl ?_
                          refine xg_lv hX (lv' := [(0, .ref mq), (3, .int y), (4, .int up_), (5, .int m), (6, .int b), (8, .int (nI 0))]) [1, 2, 3, 4, 5, 0] rfl ?_
                          exact lp26 (31 - 0 + 1) 0 (by omega) (Nat.lt_succ_self _)
                      ·
                        refine xg_aload_n hX 0 dM_shift_90 rfl rfl ?_
                        refine xg_get hX (ci := 3) rfl hinM 0 rfl 3 (by decide) mt_327 rfl dM_shift_91 ?_
                        refine xg_iload hX 5 dM_shift_94 rfl ?_
                        refine xg_iconst hX (nI 0) dM_shift_96 (by decide) ?_
                        refine xg_iast hX (ws' := [(mq, .inr (3, [.ref mm, .ref m1, .ref m2, .ref mo, .ref mr, .int (bI o1), .int (bI o2), .int (bI (rdG M (tn n) (tn a))), .ref mw, .int (bI men)])), (mm, .inl (cI, 256, .inl (nf M))), (m1, .inl (cI, 200, .inl (nf (rdD M (tn n) (tn a))))), (mo, .inl (cI, 200, .inl (nf (up (mix i zf xo) i 0))))]) 3 i 0 rfl (by omega) (by decide) rfl dM_shift_97 ?_
                        refine xg_iincN hX (lv' := [(8, .int (nI (i + 1))), (0, .ref mq), (3, .int y), (4, .int up_), (5, .int m), (6, .int b)]) (i + 1) 5 dM_shift_98 rfl (xn_inc _) (by decide) rfl ?_
                        refine xg_goto hX 82 dM_shift_101 (by decide) ?_
                        refine xg_ext hX (g := mix (i + 1) zf xo) (ws' := [(mq, .inr (3, [.ref mm, .ref m1, .ref m2, .ref mo, .ref mr, .int (bI o1), .int (bI o2), .int (bI (rdG M (tn n) (tn a))), .ref mw, .int (bI men)])), (mm, .inl (cI, 256, .inl (nf M))), (m1, .inl (cI, 200, .inl (nf (rdD M (tn n) (tn a))))), (mo, .inl (cI, 200, .inl (nf (mix (i + 1) zf xo))))]) 3 rfl (fun j hj => mix_up rfl j) rfl ?_
                        refine xg_lv hX (lv' := [(0, .ref mq), (3, .int y), (4, .int up_), (5, .int m), (6, .int b), (8, .int (nI (i + 1)))]) [1, 2, 3, 4, 5, 0] rfl ?_
                        exact ih18 (i + 1) (by omega) (by omega)
                  refine xg_ext hX (g := mix 0 zf xo) (ws' := [(mq, .inr (3, [.ref mm, .ref m1, .ref m2, .ref mo, .ref mr, .int (bI o1), .int (bI o2), .int (bI (rdG M (tn n) (tn a))), .ref mw, .int (bI men)])), (mm, .inl (cI, 256, .inl (nf M))), (m1, .inl (cI, 200, .inl (nf (rdD M (tn n) (tn a))))), (mo, .inl (cI, 200, .inl (nf (mix 0 zf xo))))]) 3 rfl (fun j hj => mix_0 j) rfl ?_
                  refine xg_lv hX (lv' := [(0, .ref mq), (3, .int y), (4, .int up_), (5, .int m), (6, .int b), (8, .int (nI 0))]) [2, 5, 6, 7, 8, 0] rfl ?_
                  exact lp16 (200 - 0 + 1) 0 (by omega) (Nat.lt_succ_self _)
              ·
                refine xg_bipush hX ((-2)) dM_shift_61 (by decide) ?_
                exact hret ((-2), M, rdD M (tn n) (tn a), xo, oo) _ _ _ rfl (show ((-2), M) = shiftM M n a y up_ m b from (by have hz : shR M n a y up_ m b = -2 := (by unfold shR; rw [if_pos (by rw [h5, h15] <;> rfl), if_pos ⟨h21, h27, h32, h39⟩, if_neg (fun q => absurd ((rdV_0 h58).symm.trans q) (by decide))]); rw [shiftM, hz]; exact (arZ_no (by decide)).symm)) dM_shift_63
            ·
              refine xg_iconst hX ((-1)) dM_shift_42 (by decide) ?_
              exact hret ((-1), M, x1, xo, oo) _ _ _ rfl (show ((-1), M) = shiftM M n a y up_ m b from (by have hz : shR M n a y up_ m b = -1 := (by unfold shR; by_cases q9 : (dfits n a && dfits m b) = true; (rw [if_pos q9]; first | (exact if_neg (show ¬ (-99 ≤ y.toInt ∧ y.toInt ≤ 99 ∧ 0 ≤ up_.toInt ∧ up_.toInt ≤ 9) by omega)) | (simp only [Bool.and_eq_true] at q9; first | exact absurd (h5.symm.trans q9.1) (by decide) | exact absurd (h15.symm.trans q9.2) (by decide))); (rw [if_neg q9])); rw [shiftM, hz]; exact (arZ_no (by decide)).symm)) dM_shift_43
set_option maxHeartbeats 4000000 in
set_option maxRecDepth 100000 in
theorem yc_number (l : Launch) (D : va_G) (cI : ClassId) (mq : Nat) (mm : Nat) (m1 : Nat) (m2 : Nat) (mo : Nat) (mr : Nat) (mw : Nat) (o1 : Bool) (o2 : Bool) (oo : Bool) (men : Bool) (M : Nat → Nat) (xo : Nat → Nat) (v : Int32) (n : Int32) (a : Int32) (hM : ∀ j, M j < 256) : Ctr l D cI yM_number cM_number 7 (some .int) { frames := 3, cells := 0, slots := 0, locals := 70 } [.ref mq, .int v, .int n, .int a] [(mq, .inr (3, [.ref mm, .ref m1, .ref m2, .ref mo, .ref mr, .int (bI o1), .int (bI o2), .int (bI oo), .ref mw, .int (bI men)])), (mm, .inl (cI, 256, .inl (nf M))), (mo, .inl (cI, 200, .inl (nf xo)))] (fun u : Int32 × (Nat → Nat) × (Nat → Nat) × Bool => match u with | (r, M2, yo, qo) => some (.int r)) (fun u : Int32 × (Nat → Nat) × (Nat → Nat) × Bool => match u with | (r, M2, yo, qo) => (r, M2) = numM M v n a) (fun u : Int32 × (Nat → Nat) × (Nat → Nat) × Bool => match u with | (r, M2, yo, qo) => [(mq, .inr (3, [.ref mm, .ref m1, .ref m2, .ref mo, .ref mr, .int (bI o1), .int (bI o2), .int (bI qo), .ref mw, .int (bI men)])), (mm, .inl (cI, 256, .inl (nf M2))), (mo, .inl (cI, 200, .inl (nf yo)))]) 0 0 := by
  refine xc_mkI (by decide +kernel) (Nat.le_of_ble_eq_true rfl) (fun X hX hret => ?_)
  show GG D X 0 0 0 [(mq, .inr (3, [.ref mm, .ref m1, .ref m2, .ref mo, .ref mr, .int (bI o1), .int (bI o2), .int (bI oo), .ref mw, .int (bI men)])), (mm, .inl (cI, 256, .inl (nf M))), (mo, .inl (cI, 200, .inl (nf xo)))] [(0, .ref mq), (1, .int v), (2, .int n), (3, .int a)] []
  refine xg_iload_n hX 2 dM_number_0 rfl rfl ?_
  refine xg_iload_n hX 3 dM_number_1 rfl rfl ?_
  refine xg_cS hX [.int n, .int a] (hM := yc_isThere l D cI n a) (wr := [(mq, .inr (3, [.ref mm, .ref m1, .ref m2, .ref mo, .ref mr, .int (bI o1), .int (bI o2), .int (bI oo), .ref mw, .int (bI men)])), (mm, .inl (cI, 256, .inl (nf M))), (mo, .inl (cI, 200, .inl (nf xo)))]) (ws' := fun _ => [(mq, .inr (3, [.ref mm, .ref m1, .ref m2, .ref mo, .ref mr, .int (bI o1), .int (bI o2), .int (bI oo), .ref mw, .int (bI men)])), (mm, .inl (cI, 256, .inl (nf M))), (mo, .inl (cI, 200, .inl (nf xo)))]) (st' := fun _ => [.int (bI (dfits n a))]) [] [0, 1, 2] [0, 1, 2] [] rfl mt_373 mt_371 mt_4 mt_372 hdM_isThere (by decide) ⟨rfl, rfl⟩ (by decide) rfl rfl (by decide) rfl (by decide) (by decide) (by decide) (fun u => rfl) (fun u => rfl) (fun u => rfl) rfl rfl (by simp [Value.category]) dM_number_2 (fun _ _ => ?_)
  refine xg_if_neB hX 10 dM_number_5 (by decide) (fun h5 => ?_) (fun h5 => ?_)
  ·
    refine xg_iload_n hX 1 dM_number_10 rfl rfl ?_
    have jn1 : GG D X 0 0 22 [(mq, .inr (3, [.ref mm, .ref m1, .ref m2, .ref mo, .ref mr, .int (bI o1), .int (bI o2), .int (bI oo), .ref mw, .int (bI men)])), (mm, .inl (cI, 256, .inl (nf M))), (mo, .inl (cI, 200, .inl (nf xo)))] [(0, .ref mq), (1, .int v), (2, .int n), (3, .int a)] [.long (lN (absN v))] := by
      refine xg_lstore hX (lv' := [(4, .long (lN (absN v))), (0, .ref mq), (1, .int v), (2, .int n), (3, .int a)]) dM_number_22 (by decide) rfl ?_
      refine xg_iconst hX (nI 0) dM_number_24 (by decide) ?_
      refine xg_istore hX (lv' := [(6, .int (nI 0)), (4, .long (lN (absN v))), (0, .ref mq), (1, .int v), (2, .int n), (3, .int a)]) dM_number_25 (by decide) rfl ?_
      have lp2 : ∀ (fu3 : Nat) (i : Nat), (i ≤ 200) → 200 - i < fu3 → GG D X 0 0 27 [(mq, .inr (3, [.ref mm, .ref m1, .ref m2, .ref mo, .ref mr, .int (bI o1), .int (bI o2), .int (bI oo), .ref mw, .int (bI men)])), (mm, .inl (cI, 256, .inl (nf M))), (mo, .inl (cI, 200, .inl (nf (mix i (dig (absN v)) xo))))] [(0, .ref mq), (1, .int v), (2, .int n), (3, .int a), (4, .long (lN (absN v / 10 ^ i))), (6, .int (nI i))] [] := by
        intro fu3
        induction fu3 with
        | zero => intro i hi hm5; exact absurd hm5 (Nat.not_lt_zero _)
        | succ fu3 ih4 =>
          intro i hi hm5
          have hb := absN_lt v
          have hb2 : absN v / 10 ^ i < 2 ^ 63 := Nat.lt_of_le_of_lt (Nat.div_le_self _ _) (by omega)
          refine xg_iload hX 5 dM_number_27 rfl ?_
          refine xg_sipush hX (nI 200) dM_number_29 (by decide) ?_
          refine xg_icmp_geN hX 63 (by omega) (by omega) dM_number_32 (by decide) (fun h32 => ?_) (fun h32 => ?_)
          ·
            refine xg_ext hX (g := dig (absN v)) (ws' := [(mq, .inr (3, [.ref mm, .ref m1, .ref m2, .ref mo, .ref mr, .int (bI o1), .int (bI o2), .int (bI oo), .ref mw, .int (bI men)])), (mm, .inl (cI, 256, .inl (nf M))), (mo, .inl (cI, 200, .inl (nf (dig (absN v)))))]) 2 rfl (fun j hj => mix_lo (by omega)) rfl ?_
            refine xg_aload_n hX 0 dM_number_63 rfl rfl ?_
            refine xg_iload_n hX 1 dM_number_64 rfl rfl ?_
            refine xg_if_geZ hX v.toInt rfl 72 dM_number_65 (by decide) (fun h65 => ?_) (fun h65 => ?_)
            ·
              refine xg_iconst hX (nI 0) dM_number_72 (by decide) ?_
              refine xg_top (bI false) rfl ?_
              refine xg_put hX tyM tyM_ok nmM (ci := 3) rfl hinM (ws' := [(mq, .inr (3, [.ref mm, .ref m1, .ref m2, .ref mo, .ref mr, .int (bI o1), .int (bI o2), .int (bI false), .ref mw, .int (bI men)])), (mm, .inl (cI, 256, .inl (nf M))), (mo, .inl (cI, 200, .inl (nf (dig (absN v)))))]) 0 rfl 7 (by decide) mt_331 rfl (xn_narB _) (xn_fitB _) (Nat.le_of_ble_eq_true rfl) rfl dM_number_73 ?_
              refine xg_wsE (ws' := [(mq, .inr (3, [.ref mm, .ref m1, .ref m2, .ref mo, .ref mr, .int (bI o1), .int (bI o2), .int (bI (decide (v.toInt < 0))), .ref mw, .int (bI men)])), (mm, .inl (cI, 256, .inl (nf M))), (mo, .inl (cI, 200, .inl (nf (dig (absN v)))))]) (by rw [← (show (bI false : Int32) = bI (decide (v.toInt < 0)) from (by first | (rw [decide_eq_true (show v.toInt < 0 by omega)]; done) | (rw [decide_eq_false (show ¬ v.toInt < 0 by omega)]; done)))]) ?_
              refine xg_aload_n hX 0 dM_number_76 rfl rfl ?_
              refine xg_iload_n hX 2 dM_number_77 rfl rfl ?_
              refine xg_top (nI (tn n)) (df3 h5) ?_
              refine xg_iload_n hX 3 dM_number_78 rfl rfl ?_
              refine xg_top (nI (tn a)) (df4 h5) ?_
              refine xg_cV hX mq [.int (nI (tn n)), .int (nI (tn a))] (hM := yc_write l D cI mq mm m1 m2 mo mr mw o1 o2 (decide (v.toInt < 0)) men M (dig (absN v)) (tn n) (tn a) (df1 h5) (df2 h5) hM (dig_lt _) (fun j hj => dig_z (absN_lt v) j (by omega))) (wr := []) (ws' := fun _ => [(mq, .inr (3, [.ref mm, .ref m1, .ref m2, .ref mo, .ref mr, .int (bI o1), .int (bI o2), .int (bI (decide (v.toInt < 0))), .ref mw, .int (bI men)])), (mm, .inl (cI, 256, .inl (nf (wrM M (dig (absN v)) (decide (v.toInt < 0)) (tn n) (tn a))))), (mo, .inl (cI, 200, .inl (nf (mix (tn n) (dig (absN v)) zf))))]) (st' := fun _ => [.int (nI (flg (dig (absN v)) (decide (v.toInt < 0)) (tn n)))]) [0, 1, 2] [] [0, 1, 2] [] rfl mt_398 mt_395 mt_4 mt_397 mp_21 0 rfl rfl hdM_write (by decide) ⟨rfl, rfl⟩ (by decide) rfl rfl (by decide) rfl (by decide) (by decide) (by decide) (fun u => rfl) (fun u => rfl) (fun u => rfl) rfl rfl (by simp [Value.category]) dM_number_79 (fun _ _ => ?_)
              exact hret (nI (flg (dig (absN v)) (decide (v.toInt < 0)) (tn n)), wrM M (dig (absN v)) (decide (v.toInt < 0)) (tn n) (tn a), mix (tn n) (dig (absN v)) zf, decide (v.toInt < 0)) _ _ _ rfl (show ((nI (flg (dig (absN v)) (decide (v.toInt < 0)) (tn n))), (wrM M (dig (absN v)) (decide (v.toInt < 0)) (tn n) (tn a))) = numM M v n a from (by unfold numM; rw [if_pos h5]; exact arZ_ys.symm)) dM_number_82
            ·
              refine xg_iconst hX (nI 1) dM_number_68 (by decide) ?_
              refine xg_goto hX 73 dM_number_69 (by decide) ?_
              refine xg_top (bI true) rfl ?_
              refine xg_put hX tyM tyM_ok nmM (ci := 3) rfl hinM (ws' := [(mq, .inr (3, [.ref mm, .ref m1, .ref m2, .ref mo, .ref mr, .int (bI o1), .int (bI o2), .int (bI true), .ref mw, .int (bI men)])), (mm, .inl (cI, 256, .inl (nf M))), (mo, .inl (cI, 200, .inl (nf (dig (absN v)))))]) 0 rfl 7 (by decide) mt_331 rfl (xn_narB _) (xn_fitB _) (Nat.le_of_ble_eq_true rfl) rfl dM_number_73 ?_
              refine xg_wsE (ws' := [(mq, .inr (3, [.ref mm, .ref m1, .ref m2, .ref mo, .ref mr, .int (bI o1), .int (bI o2), .int (bI (decide (v.toInt < 0))), .ref mw, .int (bI men)])), (mm, .inl (cI, 256, .inl (nf M))), (mo, .inl (cI, 200, .inl (nf (dig (absN v)))))]) (by rw [← (show (bI true : Int32) = bI (decide (v.toInt < 0)) from (by first | (rw [decide_eq_true (show v.toInt < 0 by omega)]; done) | (rw [decide_eq_false (show ¬ v.toInt < 0 by omega)]; done)))]) ?_
              refine xg_aload_n hX 0 dM_number_76 rfl rfl ?_
              refine xg_iload_n hX 2 dM_number_77 rfl rfl ?_
              refine xg_top (nI (tn n)) (df3 h5) ?_
              refine xg_iload_n hX 3 dM_number_78 rfl rfl ?_
              refine xg_top (nI (tn a)) (df4 h5) ?_
              refine xg_cV hX mq [.int (nI (tn n)), .int (nI (tn a))] (hM := yc_write l D cI mq mm m1 m2 mo mr mw o1 o2 (decide (v.toInt < 0)) men M (dig (absN v)) (tn n) (tn a) (df1 h5) (df2 h5) hM (dig_lt _) (fun j hj => dig_z (absN_lt v) j (by omega))) (wr := []) (ws' := fun _ => [(mq, .inr (3, [.ref mm, .ref m1, .ref m2, .ref mo, .ref mr, .int (bI o1), .int (bI o2), .int (bI (decide (v.toInt < 0))), .ref mw, .int (bI men)])), (mm, .inl (cI, 256, .inl (nf (wrM M (dig (absN v)) (decide (v.toInt < 0)) (tn n) (tn a))))), (mo, .inl (cI, 200, .inl (nf (mix (tn n) (dig (absN v)) zf))))]) (st' := fun _ => [.int (nI (flg (dig (absN v)) (decide (v.toInt < 0)) (tn n)))]) [0, 1, 2] [] [0, 1, 2] [] rfl mt_398 mt_395 mt_4 mt_397 mp_21 0 rfl rfl hdM_write (by decide) ⟨rfl, rfl⟩ (by decide) rfl rfl (by decide) rfl (by decide) (by decide) (by decide) (fun u => rfl) (fun u => rfl) (fun u => rfl) rfl rfl (by simp [Value.category]) dM_number_79 (fun _ _ => ?_)
              exact hret (nI (flg (dig (absN v)) (decide (v.toInt < 0)) (tn n)), wrM M (dig (absN v)) (decide (v.toInt < 0)) (tn n) (tn a), mix (tn n) (dig (absN v)) zf, decide (v.toInt < 0)) _ _ _ rfl (show ((nI (flg (dig (absN v)) (decide (v.toInt < 0)) (tn n))), (wrM M (dig (absN v)) (decide (v.toInt < 0)) (tn n) (tn a))) = numM M v n a from (by unfold numM; rw [if_pos h5]; exact arZ_ys.symm)) dM_number_82
          ·
            refine xg_aload_n hX 0 dM_number_35 rfl rfl ?_
            refine xg_get hX (ci := 3) rfl hinM 0 rfl 3 (by decide) mt_327 rfl dM_number_36 ?_
            refine xg_iload hX 5 dM_number_39 rfl ?_
            refine xg_lload hX 4 dM_number_41 rfl ?_
            refine xg_ldc2 hX 10 mt_434 dM_number_43 ?_
            refine xg_lrem hX dM_number_46 (by decide) ?_
            refine xg_topl (lN (absN v / 10 ^ i % 10)) (pk_lRem hb2 (by decide) (by decide)) ?_
            refine xg_l2i hX ((lN (absN v / 10 ^ i % 10)).toInt32) dM_number_47 rfl ?_
            refine xg_top (nI (absN v / 10 ^ i % 10)) (lN_i _) ?_
            refine xg_iast hX (ws' := [(mq, .inr (3, [.ref mm, .ref m1, .ref m2, .ref mo, .ref mr, .int (bI o1), .int (bI o2), .int (bI oo), .ref mw, .int (bI men)])), (mm, .inl (cI, 256, .inl (nf M))), (mo, .inl (cI, 200, .inl (nf (up (mix i (dig (absN v)) xo) i (absN v / 10 ^ i % 10)))))]) 2 i (absN v / 10 ^ i % 10) rfl (by omega) (by decide) rfl dM_number_48 ?_
            refine xg_lload hX 4 dM_number_49 rfl ?_
            refine xg_ldc2 hX 10 mt_434 dM_number_51 ?_
            refine xg_ldiv hX dM_number_54 (by decide) ?_
            refine xg_topl (lN (absN v / 10 ^ i / 10)) (pk_lDiv hb2 (by decide) (by decide)) ?_
            refine xg_lstore hX (lv' := [(4, .long (lN (absN v / 10 ^ i / 10))), (0, .ref mq), (1, .int v), (2, .int n), (3, .int a), (6, .int (nI i))]) dM_number_55 (by decide) rfl ?_
            refine xg_iincN hX (lv' := [(6, .int (nI (i + 1))), (4, .long (lN (absN v / 10 ^ i / 10))), (0, .ref mq), (1, .int v), (2, .int n), (3, .int a)]) (i + 1) 5 dM_number_57 rfl (xn_inc _) (by decide) rfl ?_
            refine xg_goto hX 27 dM_number_60 (by decide) ?_
            refine xg_ext hX (g := mix (i + 1) (dig (absN v)) xo) (ws' := [(mq, .inr (3, [.ref mm, .ref m1, .ref m2, .ref mo, .ref mr, .int (bI o1), .int (bI o2), .int (bI oo), .ref mw, .int (bI men)])), (mm, .inl (cI, 256, .inl (nf M))), (mo, .inl (cI, 200, .inl (nf (mix (i + 1) (dig (absN v)) xo))))]) 2 rfl (fun j hj => mix_up rfl j) rfl ?_
            refine xg_lv hX (lv' := [(0, .ref mq), (1, .int v), (2, .int n), (3, .int a), (4, .long (lN (absN v / 10 ^ i / 10))), (6, .int (nI (i + 1)))]) [2, 3, 4, 5, 1, 0] rfl ?_
            refine xg_lvE (lv' := [(0, .ref mq), (1, .int v), (2, .int n), (3, .int a), (4, .long (lN (absN v / 10 ^ (i + 1)))), (6, .int (nI (i + 1)))]) (by rw [← (show (lN (absN v / 10 ^ i / 10) : Int64) = lN (absN v / 10 ^ (i + 1)) from (by rw [dig_s]))]) ?_
            exact ih4 (i + 1) (by omega) (by omega)
      refine xg_ext hX (g := mix 0 (dig (absN v)) xo) (ws' := [(mq, .inr (3, [.ref mm, .ref m1, .ref m2, .ref mo, .ref mr, .int (bI o1), .int (bI o2), .int (bI oo), .ref mw, .int (bI men)])), (mm, .inl (cI, 256, .inl (nf M))), (mo, .inl (cI, 200, .inl (nf (mix 0 (dig (absN v)) xo))))]) 2 rfl (fun j hj => mix_0 j) rfl ?_
      refine xg_lv hX (lv' := [(0, .ref mq), (1, .int v), (2, .int n), (3, .int a), (4, .long (lN (absN v))), (6, .int (nI 0))]) [2, 3, 4, 5, 1, 0] rfl ?_
      refine xg_lvE (lv' := [(0, .ref mq), (1, .int v), (2, .int n), (3, .int a), (4, .long (lN (absN v / 10 ^ 0))), (6, .int (nI 0))]) (by rw [← (show (lN (absN v) : Int64) = lN (absN v / 10 ^ 0) from (by rw [Nat.pow_zero, Nat.div_one]))]) ?_
      exact lp2 (200 - 0 + 1) 0 (by omega) (Nat.lt_succ_self _)
    refine xg_if_geZ hX v.toInt rfl 20 dM_number_11 (by decide) (fun h11 => ?_) (fun h11 => ?_)
    ·
      refine xg_iload_n hX 1 dM_number_20 rfl rfl ?_
      refine xg_i2l hX ((v).toInt64) dM_number_21 rfl ?_
      refine xg_topl (lN (absN v)) (xn_l1 h11) ?_
      exact jn1  
    ·
      refine xg_iload_n hX 1 dM_number_14 rfl rfl ?_
      refine xg_i2l hX ((v).toInt64) dM_number_15 rfl ?_
      refine xg_lneg hX dM_number_16 ?_
      refine xg_topl (lN (absN v)) (xn_l2 h11) ?_
      refine xg_goto hX 22 dM_number_17 (by decide) ?_
      exact jn1  
  ·
    refine xg_iconst hX ((-1)) dM_number_8 (by decide) ?_
    exact hret ((-1), M, xo, oo) _ _ _ rfl (show ((-1), M) = numM M v n a from (by unfold numM; rw [if_neg (fun q => absurd (h5.symm.trans q) (by decide))]; exact (arZ_no (by decide)).symm)) dM_number_9
set_option maxHeartbeats 4000000 in
set_option maxRecDepth 100000 in
theorem yc_value (l : Launch) (D : va_G) (cI : ClassId) (mq : Nat) (mm : Nat) (m1 : Nat) (m2 : Nat) (mo : Nat) (mr : Nat) (mw : Nat) (o1 : Bool) (o2 : Bool) (oo : Bool) (men : Bool) (M : Nat → Nat) (x1 : Nat → Nat) (n : Int32) (a : Int32) (hM : ∀ j, M j < 256) : Ctr l D cI yM_value cM_value 7 (some .long) { frames := 2, cells := 0, slots := 0, locals := 42 } [.ref mq, .int n, .int a] [(mq, .inr (3, [.ref mm, .ref m1, .ref m2, .ref mo, .ref mr, .int (bI o1), .int (bI o2), .int (bI oo), .ref mw, .int (bI men)])), (mm, .inl (cI, 256, .inl (nf M))), (m1, .inl (cI, 200, .inl (nf x1)))] (fun u : Int64 × (Nat → Nat) => match u with | (r, y1) => some (.long r)) (fun u : Int64 × (Nat → Nat) => match u with | (r, y1) => r = valM M n a) (fun u : Int64 × (Nat → Nat) => match u with | (r, y1) => [(mq, .inr (3, [.ref mm, .ref m1, .ref m2, .ref mo, .ref mr, .int (bI o1), .int (bI o2), .int (bI oo), .ref mw, .int (bI men)])), (mm, .inl (cI, 256, .inl (nf M))), (m1, .inl (cI, 200, .inl (nf y1)))]) 0 0 := by
  refine xc_mkL (by decide +kernel) (Nat.le_of_ble_eq_true rfl) (fun X hX hret => ?_)
  show GG D X 0 0 0 [(mq, .inr (3, [.ref mm, .ref m1, .ref m2, .ref mo, .ref mr, .int (bI o1), .int (bI o2), .int (bI oo), .ref mw, .int (bI men)])), (mm, .inl (cI, 256, .inl (nf M))), (m1, .inl (cI, 200, .inl (nf x1)))] [(0, .ref mq), (1, .int n), (2, .int a)] []
  refine xg_iload_n hX 1 dM_value_0 rfl rfl ?_
  refine xg_iload_n hX 2 dM_value_1 rfl rfl ?_
  refine xg_cS hX [.int n, .int a] (hM := yc_isThere l D cI n a) (wr := [(mq, .inr (3, [.ref mm, .ref m1, .ref m2, .ref mo, .ref mr, .int (bI o1), .int (bI o2), .int (bI oo), .ref mw, .int (bI men)])), (mm, .inl (cI, 256, .inl (nf M))), (m1, .inl (cI, 200, .inl (nf x1)))]) (ws' := fun _ => [(mq, .inr (3, [.ref mm, .ref m1, .ref m2, .ref mo, .ref mr, .int (bI o1), .int (bI o2), .int (bI oo), .ref mw, .int (bI men)])), (mm, .inl (cI, 256, .inl (nf M))), (m1, .inl (cI, 200, .inl (nf x1)))]) (st' := fun _ => [.int (bI (dfits n a))]) [] [0, 1, 2] [0, 1, 2] [] rfl mt_373 mt_371 mt_4 mt_372 hdM_isThere (by decide) ⟨rfl, rfl⟩ (by decide) rfl rfl (by decide) rfl (by decide) (by decide) (by decide) (fun u => rfl) (fun u => rfl) (fun u => rfl) rfl rfl (by simp [Value.category]) dM_value_2 (fun _ _ => ?_)
  refine xg_if_neB hX 10 dM_value_5 (by decide) (fun h5 => ?_) (fun h5 => ?_)
  ·
    refine xg_aload_n hX 0 dM_value_10 rfl rfl ?_
    refine xg_iload_n hX 1 dM_value_11 rfl rfl ?_
    refine xg_top (nI (tn n)) (df3 h5) ?_
    refine xg_iload_n hX 2 dM_value_12 rfl rfl ?_
    refine xg_top (nI (tn a)) (df4 h5) ?_
    refine xg_aload_n hX 0 dM_value_13 rfl rfl ?_
    refine xg_get hX (ci := 3) rfl hinM 0 rfl 1 (by decide) mt_325 rfl dM_value_14 ?_
    refine xg_cV hX mq [.int (nI (tn n)), .int (nI (tn a)), .ref m1] (hM := yc_read l D cI mq mm m1 m2 mo mr mw o1 o2 oo men M m1 x1 (tn n) (tn a) (df1 h5) (df2 h5) hM) (wr := []) (ws' := fun _ => [(mq, .inr (3, [.ref mm, .ref m1, .ref m2, .ref mo, .ref mr, .int (bI o1), .int (bI o2), .int (bI oo), .ref mw, .int (bI men)])), (mm, .inl (cI, 256, .inl (nf M))), (m1, .inl (cI, 200, .inl (nf (rdD M (tn n) (tn a)))))]) (st' := fun _ => [.int (nI (rdV M (tn n) (tn a)))]) [0, 1, 2] [] [0, 1, 2] [] rfl mt_387 mt_384 mt_4 mt_386 mp_19 0 rfl rfl hdM_read (by decide) ⟨rfl, rfl⟩ (by decide) rfl rfl (by decide) rfl (by decide) (by decide) (by decide) (fun u => rfl) (fun u => rfl) (fun u => rfl) rfl rfl (by simp [Value.category]) dM_value_17 (fun _ _ => ?_)
    have e1 := rdV_lt M (tn n) (tn a)
    refine xg_istore_n hX (lv' := [(3, .int (nI (rdV M (tn n) (tn a)))), (0, .ref mq), (1, .int n), (2, .int a)]) dM_value_20 rfl (by decide) rfl ?_
    refine xg_iload_n hX 0 dM_value_21 rfl rfl ?_
    refine xg_if_neN hX 27 (by omega) dM_value_22 (by decide) (fun h22 => ?_) (fun h22 => ?_)
    ·
      have g1 := rdV_p h22
      have hx := sm_rd (df1 h5) g1
      refine xg_lconst hX 0 dM_value_27 (by decide) ?_
      refine xg_lstore hX (lv' := [(4, .long 0), (3, .int (nI (rdV M (tn n) (tn a)))), (0, .ref mq), (1, .int n), (2, .int a)]) dM_value_28 (by decide) rfl ?_
      refine xg_bipush hX (nI 30) dM_value_30 (by decide) ?_
      refine xg_istore hX (lv' := [(6, .int (nI 30)), (4, .long 0), (3, .int (nI (rdV M (tn n) (tn a)))), (0, .ref mq), (1, .int n), (2, .int a)]) dM_value_32 (by decide) rfl ?_
      have lp1 : ∀ (fu2 : Nat) (dd : Nat), (dd ≤ 31) → dd < fu2 → GG D X 0 0 34 [(mq, .inr (3, [.ref mm, .ref m1, .ref m2, .ref mo, .ref mr, .int (bI o1), .int (bI o2), .int (bI oo), .ref mw, .int (bI men)])), (mm, .inl (cI, 256, .inl (nf M))), (m1, .inl (cI, 200, .inl (nf (rdD M (tn n) (tn a)))))] [(0, .ref mq), (3, .int (nI (rdV M (tn n) (tn a)))), (4, .long (lbF (rdD M (tn n) (tn a)) (31 - dd))), (6, .int (nI dd - 1))] [] := by
        intro fu2
        induction fu2 with
        | zero => intro dd hdd hm4; exact absurd hm4 (Nat.not_lt_zero _)
        | succ fu2 ih3 =>
          intro dd hdd hm4
          cases dd with
          | zero =>
            rw [show nI 0 - 1 = (-1 : Int32) from by decide]
            refine xg_iload hX 3 dM_value_34 rfl ?_
            refine xg_if_lt hX 62 dM_value_36 (by decide) (fun _ => ?_) (fun h => absurd (by decide) h)
            refine xg_iload_n hX 1 dM_value_62 rfl rfl ?_
            refine xg_iconst hX (nI 2) dM_value_63 (by decide) ?_
            refine xg_icmp_neN hX 73 (by omega) (by omega) dM_value_64 (by decide) (fun h64 => ?_) (fun h64 => ?_)
            ·
              refine xg_lload hX 2 dM_value_73 rfl ?_
              exact hret (lbF (rdD M (tn n) (tn a)) (31 - 0), rdD M (tn n) (tn a)) _ _ _ rfl (show (lbF (rdD M (tn n) (tn a)) (31 - 0)) = valM M n a from (by unfold valM; rw [if_pos ⟨h5, g1⟩, ← rdV_2 g1]; first | (rw [decide_eq_true h64]; rfl) | (rw [decide_eq_false h64]; rfl))) dM_value_75
            ·
              refine xg_lload hX 2 dM_value_67 rfl ?_
              refine xg_lneg hX dM_value_69 ?_
              refine xg_goto hX 75 dM_value_70 (by decide) ?_
              exact hret (-(lbF (rdD M (tn n) (tn a)) (31 - 0)), rdD M (tn n) (tn a)) _ _ _ rfl (show (-(lbF (rdD M (tn n) (tn a)) (31 - 0))) = valM M n a from (by unfold valM; rw [if_pos ⟨h5, g1⟩, ← rdV_2 g1]; first | (rw [decide_eq_true h64]; rfl) | (rw [decide_eq_false h64]; rfl))) dM_value_75
          | succ j =>
            rw [nI_pred]
            have e9 := hx.1 j
            refine xg_iload hX 3 dM_value_34 rfl ?_
            refine xg_if_ltN hX 62 (by omega) dM_value_36 (by decide) ?_
            refine xg_ldc2 hX 10 mt_434 dM_value_39 ?_
            refine xg_lload hX 2 dM_value_42 rfl ?_
            refine xg_lmul hX dM_value_44 ?_
            refine xg_aload_n hX 0 dM_value_45 rfl rfl ?_
            refine xg_get hX (ci := 3) rfl hinM 0 rfl 1 (by decide) mt_325 rfl dM_value_46 ?_
            refine xg_iload hX 3 dM_value_49 rfl ?_
            refine xg_iald hX 2 j rfl (by omega) (by decide) dM_value_51 ?_
            refine xg_i2l hX ((nI ((rdD M (tn n) (tn a)) j)).toInt64) dM_value_52 rfl ?_
            refine xg_topl (lN ((rdD M (tn n) (tn a)) j)) (nI_l (by omega)) ?_
            refine xg_ladd hX dM_value_53 ?_
            refine xg_lstore hX (lv' := [(4, .long ((10 * (lbF (rdD M (tn n) (tn a)) (31 - (j + 1)))) + (lN ((rdD M (tn n) (tn a)) j)))), (0, .ref mq), (3, .int (nI (rdV M (tn n) (tn a)))), (6, .int (nI j))]) dM_value_54 (by decide) rfl ?_
            refine xg_iinc hX (lv' := [(6, .int (nI j - 1)), (4, .long ((10 * (lbF (rdD M (tn n) (tn a)) (31 - (j + 1)))) + (lN ((rdD M (tn n) (tn a)) j)))), (0, .ref mq), (3, .int (nI (rdV M (tn n) (tn a))))]) (nI j - 1) 3 dM_value_56 rfl (xn_decZ _) (by decide) rfl ?_
            refine xg_goto hX 34 dM_value_59 (by decide) ?_
            refine xg_lv hX (lv' := [(0, .ref mq), (3, .int (nI (rdV M (tn n) (tn a)))), (4, .long ((10 * (lbF (rdD M (tn n) (tn a)) (31 - (j + 1)))) + (lN ((rdD M (tn n) (tn a)) j)))), (6, .int (nI j - 1))]) [2, 3, 1, 0] rfl ?_
            refine xg_lvE (lv' := [(0, .ref mq), (3, .int (nI (rdV M (tn n) (tn a)))), (4, .long (lbF (rdD M (tn n) (tn a)) (31 - j))), (6, .int (nI j - 1))]) (by rw [← (show ((10 * (lbF (rdD M (tn n) (tn a)) (31 - (j + 1)))) + (lN ((rdD M (tn n) (tn a)) j)) : Int64) = lbF (rdD M (tn n) (tn a)) (31 - j) from (lb_s2 (by omega)))]) ?_
            exact ih3 j (by omega) (by omega)
      refine xg_lv hX (lv' := [(0, .ref mq), (3, .int (nI (rdV M (tn n) (tn a)))), (4, .long 0), (6, .int (nI 30))]) [3, 2, 1, 0] rfl ?_
      refine xg_lvE (lv' := [(0, .ref mq), (3, .int (nI (rdV M (tn n) (tn a)))), (4, .long (lbF (rdD M (tn n) (tn a)) (31 - 31))), (6, .int (nI 30))]) (by rw [← (show (0 : Int64) = lbF (rdD M (tn n) (tn a)) (31 - 31) from (by first | rfl | decide))]) ?_
      refine xg_lvE (lv' := [(0, .ref mq), (3, .int (nI (rdV M (tn n) (tn a)))), (4, .long (lbF (rdD M (tn n) (tn a)) (31 - 31))), (6, .int (nI 31 - 1))]) (by rw [← (show (nI 30 : Int32) = nI 31 - 1 from (by first | rfl | decide))]) ?_
      exact lp1 (31 + 1) 31 (by omega) (Nat.lt_succ_self _)
    ·
      refine xg_lconst hX 0 dM_value_25 (by decide) ?_
      exact hret (0, rdD M (tn n) (tn a)) _ _ _ rfl (show 0 = valM M n a from (by unfold valM; rw [if_neg (fun q => absurd ((rdV_0 h22).symm.trans q.2) (by decide))])) dM_value_26
  ·
    refine xg_lconst hX 0 dM_value_8 (by decide) ?_
    exact hret (0, x1) _ _ _ rfl (show 0 = valM M n a from (by unfold valM; rw [if_neg (fun q => absurd (h5.symm.trans q.1) (by decide))])) dM_value_9
