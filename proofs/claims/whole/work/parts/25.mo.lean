set_option maxHeartbeats 4000000 in
set_option maxRecDepth 100000 in
theorem yc_compare (l : Launch) (D : va_G) (cI : ClassId) (mq : Nat) (mm : Nat) (m1 : Nat) (m2 : Nat) (mo : Nat) (mr : Nat) (mw : Nat) (o1 : Bool) (o2 : Bool) (oo : Bool) (men : Bool) (M : Nat → Nat) (x1 : Nat → Nat) (x2 : Nat → Nat) (n : Int32) (a : Int32) (m : Int32) (b : Int32) (hM : ∀ j, M j < 256) : Ctr l D cI yM_compare cM_compare 9 (some .int) { frames := 2, cells := 0, slots := 0, locals := 55 } [.ref mq, .int n, .int a, .int m, .int b] [(mq, .inr (3, [.ref mm, .ref m1, .ref m2, .ref mo, .ref mr, .int (bI o1), .int (bI o2), .int (bI oo), .ref mw, .int (bI men)])), (mm, .inl (cI, 256, .inl (nf M))), (m1, .inl (cI, 200, .inl (nf x1))), (m2, .inl (cI, 200, .inl (nf x2)))] (fun u : Int32 × (Nat → Nat) × (Nat → Nat) × Bool × Bool => match u with | (r, y1, y2, q1, q2) => some (.int r)) (fun u : Int32 × (Nat → Nat) × (Nat → Nat) × Bool × Bool => match u with | (r, y1, y2, q1, q2) => r = cmpM M n a m b) (fun u : Int32 × (Nat → Nat) × (Nat → Nat) × Bool × Bool => match u with | (r, y1, y2, q1, q2) => [(mq, .inr (3, [.ref mm, .ref m1, .ref m2, .ref mo, .ref mr, .int (bI q1), .int (bI q2), .int (bI oo), .ref mw, .int (bI men)])), (mm, .inl (cI, 256, .inl (nf M))), (m1, .inl (cI, 200, .inl (nf y1))), (m2, .inl (cI, 200, .inl (nf y2)))]) 0 0 := by
  refine xc_mkI (by decide +kernel) (Nat.le_of_ble_eq_true rfl) (fun X hX hret => ?_)
  show GG D X 0 0 0 [(mq, .inr (3, [.ref mm, .ref m1, .ref m2, .ref mo, .ref mr, .int (bI o1), .int (bI o2), .int (bI oo), .ref mw, .int (bI men)])), (mm, .inl (cI, 256, .inl (nf M))), (m1, .inl (cI, 200, .inl (nf x1))), (m2, .inl (cI, 200, .inl (nf x2)))] [(0, .ref mq), (1, .int n), (2, .int a), (3, .int m), (4, .int b)] []
  refine xg_iload_n hX 1 dM_compare_0 rfl rfl ?_
  refine xg_iload_n hX 2 dM_compare_1 rfl rfl ?_
  refine xg_cS hX [.int n, .int a] (hM := yc_isThere l D cI n a) (wr := [(mq, .inr (3, [.ref mm, .ref m1, .ref m2, .ref mo, .ref mr, .int (bI o1), .int (bI o2), .int (bI oo), .ref mw, .int (bI men)])), (mm, .inl (cI, 256, .inl (nf M))), (m1, .inl (cI, 200, .inl (nf x1))), (m2, .inl (cI, 200, .inl (nf x2)))]) (ws' := fun _ => [(mq, .inr (3, [.ref mm, .ref m1, .ref m2, .ref mo, .ref mr, .int (bI o1), .int (bI o2), .int (bI oo), .ref mw, .int (bI men)])), (mm, .inl (cI, 256, .inl (nf M))), (m1, .inl (cI, 200, .inl (nf x1))), (m2, .inl (cI, 200, .inl (nf x2)))]) (st' := fun _ => [.int (bI (dfits n a))]) [] [0, 1, 2, 3] [0, 1, 2, 3] [] rfl mt_373 mt_371 mt_4 mt_372 hdM_isThere (by decide) ⟨rfl, rfl⟩ (by decide) rfl rfl (by decide) rfl (by decide) (by decide) (by decide) (fun u => rfl) (fun u => rfl) (fun u => rfl) rfl rfl (by simp [Value.category]) dM_compare_2 (fun _ _ => ?_)
  refine xg_if_eqB hX 17 dM_compare_5 (by decide) (fun h5 => ?_) (fun h5 => ?_)
  ·
    refine xg_iconst hX ((-1)) dM_compare_17 (by decide) ?_
    exact hret ((-1), x1, x2, o1, o2) _ _ _ rfl (show (-1) = cmpM M n a m b from (by unfold cmpM; rw [if_neg (fun q => by simp only [Bool.and_eq_true] at q; first | exact absurd (h5.symm.trans q.1) (by decide) | exact absurd (h14.symm.trans q.2) (by decide))])) dM_compare_18
  ·
    refine xg_iload_n hX 3 dM_compare_8 rfl rfl ?_
    refine xg_iload hX 4 dM_compare_9 rfl ?_
    refine xg_cS hX [.int m, .int b] (hM := yc_isThere l D cI m b) (wr := [(mq, .inr (3, [.ref mm, .ref m1, .ref m2, .ref mo, .ref mr, .int (bI o1), .int (bI o2), .int (bI oo), .ref mw, .int (bI men)])), (mm, .inl (cI, 256, .inl (nf M))), (m1, .inl (cI, 200, .inl (nf x1))), (m2, .inl (cI, 200, .inl (nf x2)))]) (ws' := fun _ => [(mq, .inr (3, [.ref mm, .ref m1, .ref m2, .ref mo, .ref mr, .int (bI o1), .int (bI o2), .int (bI oo), .ref mw, .int (bI men)])), (mm, .inl (cI, 256, .inl (nf M))), (m1, .inl (cI, 200, .inl (nf x1))), (m2, .inl (cI, 200, .inl (nf x2)))]) (st' := fun _ => [.int (bI (dfits m b))]) [] [0, 1, 2, 3] [0, 1, 2, 3] [] rfl mt_373 mt_371 mt_4 mt_372 hdM_isThere (by decide) ⟨rfl, rfl⟩ (by decide) rfl rfl (by decide) rfl (by decide) (by decide) (by decide) (fun u => rfl) (fun u => rfl) (fun u => rfl) rfl rfl (by simp [Value.category]) dM_compare_11 (fun _ _ => ?_)
    refine xg_if_neB hX 19 dM_compare_14 (by decide) (fun h14 => ?_) (fun h14 => ?_)
    ·
      refine xg_aload_n hX 0 dM_compare_19 rfl rfl ?_
      refine xg_iload_n hX 1 dM_compare_20 rfl rfl ?_
      refine xg_top (nI (tn n)) (df3 h5) ?_
      refine xg_iload_n hX 2 dM_compare_21 rfl rfl ?_
      refine xg_top (nI (tn a)) (df4 h5) ?_
      refine xg_iload_n hX 3 dM_compare_22 rfl rfl ?_
      refine xg_top (nI (tn m)) (df3 h14) ?_
      refine xg_iload hX 4 dM_compare_23 rfl ?_
      refine xg_top (nI (tn b)) (df4 h14) ?_
      refine xg_cV hX mq [.int (nI (tn n)), .int (nI (tn a)), .int (nI (tn m)), .int (nI (tn b))] (hM := yc_reads l D cI mq mm m1 m2 mo mr mw o1 o2 oo men M x1 x2 (tn n) (tn a) (tn m) (tn b) (df1 h5) (df2 h5) (df1 h14) (df2 h14) hM) (wr := []) (ws' := fun _ => [(mq, .inr (3, [.ref mm, .ref m1, .ref m2, .ref mo, .ref mr, .int (bI (decide (rdV M (tn n) (tn a) = 2))), .int (bI (decide (rdV M (tn m) (tn b) = 2))), .int (bI oo), .ref mw, .int (bI men)])), (mm, .inl (cI, 256, .inl (nf M))), (m1, .inl (cI, 200, .inl (nf (rdD M (tn n) (tn a))))), (m2, .inl (cI, 200, .inl (nf (rdD M (tn m) (tn b)))))]) (st' := fun _ => [.int (if (rdb M (tn n) (tn a) && rdb M (tn m) (tn b)) = true then (0 : Int32) else -2)]) [0, 1, 2, 3] [] [0, 1, 2, 3] [] rfl mt_383 mt_380 mt_4 mt_382 mp_18 0 rfl rfl hdM_reads (by decide) ⟨rfl, rfl⟩ (by decide) rfl rfl (by decide) rfl (by decide) (by decide) (by decide) (fun u => rfl) (fun u => rfl) (fun u => rfl) rfl rfl (by simp [Value.category]) dM_compare_25 (fun _ _ => ?_)
      refine xg_istore hX (lv' := [(5, .int (if (rdb M (tn n) (tn a) && rdb M (tn m) (tn b)) = true then (0 : Int32) else -2)), (0, .ref mq), (1, .int n), (2, .int a), (3, .int m), (4, .int b)]) dM_compare_28 (by decide) rfl ?_
      refine xg_iload hX 0 dM_compare_30 rfl ?_
      refine xg_if_ge hX 38 dM_compare_32 (by decide) (fun h32 => ?_) (fun h32 => ?_)
      ·
        have hb2 : (rdb M (tn n) (tn a) && rdb M (tn m) (tn b)) = true := by by_cases q9 : (rdb M (tn n) (tn a) && rdb M (tn m) (tn b)) = true; exact q9; rw [if_neg q9] at h32; exact absurd h32 (by decide)
        have hb3 := hb2
        simp only [Bool.and_eq_true] at hb3
        have hx := sm_rd (df1 h5) hb3.1
        have hy := sm_rd (df1 h14) hb3.2
        have hcm : cmpM M n a m b = cmW (rdD M (tn n) (tn a)) (rdD M (tn m) (tn b)) (rdG M (tn n) (tn a)) (rdG M (tn m) (tn b)) := by unfold cmpM; rw [if_pos (by rw [h5, h14] <;> rfl), if_pos hb2]
        refine xg_wsE (ws' := [(mq, .inr (3, [.ref mm, .ref m1, .ref m2, .ref mo, .ref mr, .int (bI (rdG M (tn n) (tn a))), .int (bI (decide (rdV M (tn m) (tn b) = 2))), .int (bI oo), .ref mw, .int (bI men)])), (mm, .inl (cI, 256, .inl (nf M))), (m1, .inl (cI, 200, .inl (nf (rdD M (tn n) (tn a))))), (m2, .inl (cI, 200, .inl (nf (rdD M (tn m) (tn b)))))]) (by rw [← (show (bI (decide (rdV M (tn n) (tn a) = 2)) : Int32) = bI (rdG M (tn n) (tn a)) from (by rw [rdV_2 hb3.1]))]) ?_
        refine xg_wsE (ws' := [(mq, .inr (3, [.ref mm, .ref m1, .ref m2, .ref mo, .ref mr, .int (bI (rdG M (tn n) (tn a))), .int (bI (rdG M (tn m) (tn b))), .int (bI oo), .ref mw, .int (bI men)])), (mm, .inl (cI, 256, .inl (nf M))), (m1, .inl (cI, 200, .inl (nf (rdD M (tn n) (tn a))))), (m2, .inl (cI, 200, .inl (nf (rdD M (tn m) (tn b)))))]) (by rw [← (show (bI (decide (rdV M (tn m) (tn b) = 2)) : Int32) = bI (rdG M (tn m) (tn b)) from (by rw [rdV_2 hb3.2]))]) ?_
        refine xg_aload_n hX 1 dM_compare_38 rfl rfl ?_
        refine xg_get hX (ci := 3) rfl hinM 0 rfl 1 (by decide) mt_325 rfl dM_compare_39 ?_
        refine xg_cS hX [.ref m1] (hM := yc_isZero l D cI m1 (rdD M (tn n) (tn a)) (fun j => by have := hx.1 j; omega)) (wr := [(mq, .inr (3, [.ref mm, .ref m1, .ref m2, .ref mo, .ref mr, .int (bI (rdG M (tn n) (tn a))), .int (bI (rdG M (tn m) (tn b))), .int (bI oo), .ref mw, .int (bI men)])), (mm, .inl (cI, 256, .inl (nf M))), (m2, .inl (cI, 200, .inl (nf (rdD M (tn m) (tn b)))))]) (ws' := fun _ => [(mq, .inr (3, [.ref mm, .ref m1, .ref m2, .ref mo, .ref mr, .int (bI (rdG M (tn n) (tn a))), .int (bI (rdG M (tn m) (tn b))), .int (bI oo), .ref mw, .int (bI men)])), (mm, .inl (cI, 256, .inl (nf M))), (m1, .inl (cI, 200, .inl (nf (rdD M (tn n) (tn a))))), (m2, .inl (cI, 200, .inl (nf (rdD M (tn m) (tn b)))))]) (st' := fun _ => [.int (bI (!hasD (rdD M (tn n) (tn a)) 0 200))]) [2] [0, 1, 3] [0, 1, 3, 2] [] rfl mt_409 mt_407 mt_4 mt_408 hdM_isZero (by decide) ⟨rfl, rfl⟩ (by decide) rfl rfl (by decide) rfl (by decide) (by decide) (by decide) (fun u => rfl) (fun u => rfl) (fun u => rfl) rfl rfl (by simp [Value.category]) dM_compare_42 (fun _ _ => ?_)
        have jn1 : GG D X 0 0 63 [(mq, .inr (3, [.ref mm, .ref m1, .ref m2, .ref mo, .ref mr, .int (bI (rdG M (tn n) (tn a))), .int (bI (rdG M (tn m) (tn b))), .int (bI oo), .ref mw, .int (bI men)])), (mm, .inl (cI, 256, .inl (nf M))), (m1, .inl (cI, 200, .inl (nf (rdD M (tn n) (tn a))))), (m2, .inl (cI, 200, .inl (nf (rdD M (tn m) (tn b)))))] [(0, .ref mq)] [.int (bI (!hasD (rdD M (tn n) (tn a)) 0 200 && !hasD (rdD M (tn m) (tn b)) 0 200))] := by
          refine xg_istore hX (lv' := [(6, .int (bI (!hasD (rdD M (tn n) (tn a)) 0 200 && !hasD (rdD M (tn m) (tn b)) 0 200))), (0, .ref mq)]) dM_compare_63 (by decide) rfl ?_
          refine xg_aload_n hX 1 dM_compare_65 rfl rfl ?_
          refine xg_get hX (ci := 3) rfl hinM 0 rfl 1 (by decide) mt_325 rfl dM_compare_66 ?_
          refine xg_aload_n hX 1 dM_compare_69 rfl rfl ?_
          refine xg_get hX (ci := 3) rfl hinM 0 rfl 2 (by decide) mt_326 rfl dM_compare_70 ?_
          refine xg_cS hX [.ref m1, .ref m2] (hM := yc_than l D cI m1 (rdD M (tn n) (tn a)) m2 (rdD M (tn m) (tn b)) (fun j => by have := hx.1 j; omega) (fun j => by have := hy.1 j; omega)) (wr := [(mq, .inr (3, [.ref mm, .ref m1, .ref m2, .ref mo, .ref mr, .int (bI (rdG M (tn n) (tn a))), .int (bI (rdG M (tn m) (tn b))), .int (bI oo), .ref mw, .int (bI men)])), (mm, .inl (cI, 256, .inl (nf M)))]) (ws' := fun _ => [(mq, .inr (3, [.ref mm, .ref m1, .ref m2, .ref mo, .ref mr, .int (bI (rdG M (tn n) (tn a))), .int (bI (rdG M (tn m) (tn b))), .int (bI oo), .ref mw, .int (bI men)])), (mm, .inl (cI, 256, .inl (nf M))), (m1, .inl (cI, 200, .inl (nf (rdD M (tn n) (tn a))))), (m2, .inl (cI, 200, .inl (nf (rdD M (tn m) (tn b)))))]) (st' := fun _ => [.int (cmpZ (rdD M (tn n) (tn a)) (rdD M (tn m) (tn b)) 200)]) [2, 3] [0, 1] [0, 1, 2, 3] [] rfl mt_394 mt_392 mt_4 mt_393 hdM_than (by decide) ⟨rfl, rfl⟩ (by decide) rfl rfl (by decide) rfl (by decide) (by decide) (by decide) (fun u => rfl) (fun u => rfl) (fun u => rfl) rfl rfl (by simp [Value.category]) dM_compare_73 (fun _ _ => ?_)
          refine xg_istore hX (lv' := [(7, .int (cmpZ (rdD M (tn n) (tn a)) (rdD M (tn m) (tn b)) 200)), (6, .int (bI (!hasD (rdD M (tn n) (tn a)) 0 200 && !hasD (rdD M (tn m) (tn b)) 0 200))), (0, .ref mq)]) dM_compare_76 (by decide) rfl ?_
          refine xg_iload hX 1 dM_compare_78 rfl ?_
          have jn2 : ((!hasD (rdD M (tn n) (tn a)) 0 200 && !hasD (rdD M (tn m) (tn b)) 0 200) = false) → (¬ (cmpZ (rdD M (tn n) (tn a)) (rdD M (tn m) (tn b)) 200 = 0 ∧ rdG M (tn n) (tn a) = rdG M (tn m) (tn b))) → GG D X 0 0 101 [(mq, .inr (3, [.ref mm, .ref m1, .ref m2, .ref mo, .ref mr, .int (bI (rdG M (tn n) (tn a))), .int (bI (rdG M (tn m) (tn b))), .int (bI oo), .ref mw, .int (bI men)])), (mm, .inl (cI, 256, .inl (nf M))), (m1, .inl (cI, 200, .inl (nf (rdD M (tn n) (tn a))))), (m2, .inl (cI, 200, .inl (nf (rdD M (tn m) (tn b)))))] [(0, .ref mq), (6, .int (bI (!hasD (rdD M (tn n) (tn a)) 0 200 && !hasD (rdD M (tn m) (tn b)) 0 200))), (7, .int (cmpZ (rdD M (tn n) (tn a)) (rdD M (tn m) (tn b)) 200))] [] := by
            intro hz1 hn1
            refine xg_aload_n hX 0 dM_compare_101 rfl rfl ?_
            refine xg_get hX (ci := 3) rfl hinM 0 rfl 5 (by decide) mt_329 rfl dM_compare_102 ?_
            refine xg_aload_n hX 0 dM_compare_105 rfl rfl ?_
            refine xg_get hX (ci := 3) rfl hinM 0 rfl 6 (by decide) mt_330 rfl dM_compare_106 ?_
            have jn3 : GG D X 0 0 184 [(mq, .inr (3, [.ref mm, .ref m1, .ref m2, .ref mo, .ref mr, .int (bI (rdG M (tn n) (tn a))), .int (bI (rdG M (tn m) (tn b))), .int (bI oo), .ref mw, .int (bI men)])), (mm, .inl (cI, 256, .inl (nf M))), (m1, .inl (cI, 200, .inl (nf (rdD M (tn n) (tn a))))), (m2, .inl (cI, 200, .inl (nf (rdD M (tn m) (tn b)))))] [(0, .ref mq)] [.int (bI (bel (hasD (rdD M (tn n) (tn a)) 0 200) (rdG M (tn n) (tn a)) (rdG M (tn m) (tn b)) (cmpZ (rdD M (tn n) (tn a)) (rdD M (tn m) (tn b)) 200)))] := by
              refine xg_istore hX (lv' := [(8, .int (bI (bel (hasD (rdD M (tn n) (tn a)) 0 200) (rdG M (tn n) (tn a)) (rdG M (tn m) (tn b)) (cmpZ (rdD M (tn n) (tn a)) (rdD M (tn m) (tn b)) 200)))), (0, .ref mq)]) dM_compare_184 (by decide) rfl ?_
              refine xg_iload hX 0 dM_compare_186 rfl ?_
              refine xg_if_eqB hX 196 dM_compare_188 (by decide) (fun h188 => ?_) (fun h188 => ?_)
              ·
                refine xg_iconst hX (nI 0) dM_compare_196 (by decide) ?_
                exact hret (nI 0, rdD M (tn n) (tn a), rdD M (tn m) (tn b), rdG M (tn n) (tn a), rdG M (tn m) (tn b)) _ _ _ rfl (show (nI 0) = cmpM M n a m b from (by rw [hcm]; unfold cmW; rw [if_neg (fun q => by rcases q with q | q; exact absurd (hz1.symm.trans q) (by decide); exact hn1 q)]; first | exact (if_pos h188).symm | exact (if_neg (by rw [h188]; decide)).symm)) dM_compare_197
              ·
                refine xg_bipush hX (nI 8) dM_compare_191 (by decide) ?_
                refine xg_goto hX 197 dM_compare_193 (by decide) ?_
                exact hret (nI 8, rdD M (tn n) (tn a), rdD M (tn m) (tn b), rdG M (tn n) (tn a), rdG M (tn m) (tn b)) _ _ _ rfl (show (nI 8) = cmpM M n a m b from (by rw [hcm]; unfold cmW; rw [if_neg (fun q => by rcases q with q | q; exact absurd (hz1.symm.trans q) (by decide); exact hn1 q)]; first | exact (if_pos h188).symm | exact (if_neg (by rw [h188]; decide)).symm)) dM_compare_197
            refine xg_icmp_eqB hX 154 dM_compare_109 (by decide) (fun h109 => ?_) (fun h109 => ?_)
            ·
              refine xg_aload_n hX 0 dM_compare_154 rfl rfl ?_
              refine xg_get hX (ci := 3) rfl hinM 0 rfl 5 (by decide) mt_329 rfl dM_compare_155 ?_
              refine xg_if_eqB hX 174 dM_compare_158 (by decide) (fun h158 => ?_) (fun h158 => ?_)
              ·
                refine xg_iload hX 2 dM_compare_174 rfl ?_
                refine xg_if_ge hX 183 dM_compare_176 (by decide) (fun h176 => ?_) (fun h176 => ?_)
                ·
                  refine xg_iconst hX (nI 0) dM_compare_183 (by decide) ?_
                  refine xg_top (bI (bel (hasD (rdD M (tn n) (tn a)) 0 200) (rdG M (tn n) (tn a)) (rdG M (tn m) (tn b)) (cmpZ (rdD M (tn n) (tn a)) (rdD M (tn m) (tn b)) 200))) (by first | (rw [bel_1 h109 h116 h126] <;> rfl) | (rw [bel_2 h109 h116 h136] <;> rfl) | (rw [bel_3 h109 h136 h143] <;> rfl) | (rw [bel_4 h109 h136 h143] <;> rfl) | (rw [bel_5 h109 h158 h163] <;> rfl) | (rw [bel_6 h109 h158 h163] <;> rfl) | (rw [bel_7 h109 h158 h176] <;> rfl) | (rw [bel_8 h109 h158 h176] <;> rfl) | exact absurd (h126.symm.trans h136) (by decide)) ?_
                  refine xg_lv hX (lv' := [(0, .ref mq)]) [0] rfl ?_
                  exact jn3  
                ·
                  refine xg_iconst hX (nI 1) dM_compare_179 (by decide) ?_
                  refine xg_goto hX 184 dM_compare_180 (by decide) ?_
                  refine xg_top (bI (bel (hasD (rdD M (tn n) (tn a)) 0 200) (rdG M (tn n) (tn a)) (rdG M (tn m) (tn b)) (cmpZ (rdD M (tn n) (tn a)) (rdD M (tn m) (tn b)) 200))) (by first | (rw [bel_1 h109 h116 h126] <;> rfl) | (rw [bel_2 h109 h116 h136] <;> rfl) | (rw [bel_3 h109 h136 h143] <;> rfl) | (rw [bel_4 h109 h136 h143] <;> rfl) | (rw [bel_5 h109 h158 h163] <;> rfl) | (rw [bel_6 h109 h158 h163] <;> rfl) | (rw [bel_7 h109 h158 h176] <;> rfl) | (rw [bel_8 h109 h158 h176] <;> rfl) | exact absurd (h126.symm.trans h136) (by decide)) ?_
                  refine xg_lv hX (lv' := [(0, .ref mq)]) [0] rfl ?_
                  exact jn3  
              ·
                refine xg_iload hX 2 dM_compare_161 rfl ?_
                refine xg_if_le hX 170 dM_compare_163 (by decide) (fun h163 => ?_) (fun h163 => ?_)
                ·
                  refine xg_iconst hX (nI 0) dM_compare_170 (by decide) ?_
                  refine xg_goto hX 184 dM_compare_171 (by decide) ?_
                  refine xg_top (bI (bel (hasD (rdD M (tn n) (tn a)) 0 200) (rdG M (tn n) (tn a)) (rdG M (tn m) (tn b)) (cmpZ (rdD M (tn n) (tn a)) (rdD M (tn m) (tn b)) 200))) (by first | (rw [bel_1 h109 h116 h126] <;> rfl) | (rw [bel_2 h109 h116 h136] <;> rfl) | (rw [bel_3 h109 h136 h143] <;> rfl) | (rw [bel_4 h109 h136 h143] <;> rfl) | (rw [bel_5 h109 h158 h163] <;> rfl) | (rw [bel_6 h109 h158 h163] <;> rfl) | (rw [bel_7 h109 h158 h176] <;> rfl) | (rw [bel_8 h109 h158 h176] <;> rfl) | exact absurd (h126.symm.trans h136) (by decide)) ?_
                  refine xg_lv hX (lv' := [(0, .ref mq)]) [0] rfl ?_
                  exact jn3  
                ·
                  refine xg_iconst hX (nI 1) dM_compare_166 (by decide) ?_
                  refine xg_goto hX 184 dM_compare_167 (by decide) ?_
                  refine xg_top (bI (bel (hasD (rdD M (tn n) (tn a)) 0 200) (rdG M (tn n) (tn a)) (rdG M (tn m) (tn b)) (cmpZ (rdD M (tn n) (tn a)) (rdD M (tn m) (tn b)) 200))) (by first | (rw [bel_1 h109 h116 h126] <;> rfl) | (rw [bel_2 h109 h116 h136] <;> rfl) | (rw [bel_3 h109 h136 h143] <;> rfl) | (rw [bel_4 h109 h136 h143] <;> rfl) | (rw [bel_5 h109 h158 h163] <;> rfl) | (rw [bel_6 h109 h158 h163] <;> rfl) | (rw [bel_7 h109 h158 h176] <;> rfl) | (rw [bel_8 h109 h158 h176] <;> rfl) | exact absurd (h126.symm.trans h136) (by decide)) ?_
                  refine xg_lv hX (lv' := [(0, .ref mq)]) [0] rfl ?_
                  exact jn3  
            ·
              refine xg_aload_n hX 0 dM_compare_112 rfl rfl ?_
              refine xg_get hX (ci := 3) rfl hinM 0 rfl 5 (by decide) mt_329 rfl dM_compare_113 ?_
              refine xg_if_eqB hX 129 dM_compare_116 (by decide) (fun h116 => ?_) (fun h116 => ?_)
              ·
                refine xg_aload_n hX 0 dM_compare_129 rfl rfl ?_
                refine xg_get hX (ci := 3) rfl hinM 0 rfl 1 (by decide) mt_325 rfl dM_compare_130 ?_
                refine xg_cS hX [.ref m1] (hM := yc_isZero l D cI m1 (rdD M (tn n) (tn a)) (fun j => by have := hx.1 j; omega)) (wr := [(mq, .inr (3, [.ref mm, .ref m1, .ref m2, .ref mo, .ref mr, .int (bI (rdG M (tn n) (tn a))), .int (bI (rdG M (tn m) (tn b))), .int (bI oo), .ref mw, .int (bI men)])), (mm, .inl (cI, 256, .inl (nf M))), (m2, .inl (cI, 200, .inl (nf (rdD M (tn m) (tn b)))))]) (ws' := fun _ => [(mq, .inr (3, [.ref mm, .ref m1, .ref m2, .ref mo, .ref mr, .int (bI (rdG M (tn n) (tn a))), .int (bI (rdG M (tn m) (tn b))), .int (bI oo), .ref mw, .int (bI men)])), (mm, .inl (cI, 256, .inl (nf M))), (m1, .inl (cI, 200, .inl (nf (rdD M (tn n) (tn a))))), (m2, .inl (cI, 200, .inl (nf (rdD M (tn m) (tn b)))))]) (st' := fun _ => [.int (bI (!hasD (rdD M (tn n) (tn a)) 0 200))]) [2] [0, 1, 3] [0, 1, 3, 2] [] rfl mt_409 mt_407 mt_4 mt_408 hdM_isZero (by decide) ⟨rfl, rfl⟩ (by decide) rfl rfl (by decide) rfl (by decide) (by decide) (by decide) (fun u => rfl) (fun u => rfl) (fun u => rfl) rfl rfl (by simp [Value.category]) dM_compare_133 (fun _ _ => ?_)
                refine xg_if_eqB hX 150 dM_compare_136 (by decide) (fun h136 => ?_) (fun h136 => ?_)
                ·
                  refine xg_iconst hX (nI 0) dM_compare_150 (by decide) ?_
                  refine xg_goto hX 184 dM_compare_151 (by decide) ?_
                  refine xg_top (bI (bel (hasD (rdD M (tn n) (tn a)) 0 200) (rdG M (tn n) (tn a)) (rdG M (tn m) (tn b)) (cmpZ (rdD M (tn n) (tn a)) (rdD M (tn m) (tn b)) 200))) (by first | (rw [bel_1 h109 h116 h126] <;> rfl) | (rw [bel_2 h109 h116 h136] <;> rfl) | (rw [bel_3 h109 h136 h143] <;> rfl) | (rw [bel_4 h109 h136 h143] <;> rfl) | (rw [bel_5 h109 h158 h163] <;> rfl) | (rw [bel_6 h109 h158 h163] <;> rfl) | (rw [bel_7 h109 h158 h176] <;> rfl) | (rw [bel_8 h109 h158 h176] <;> rfl) | exact absurd (h126.symm.trans h136) (by decide)) ?_
                  refine xg_lv hX (lv' := [(0, .ref mq)]) [0] rfl ?_
                  exact jn3  
                ·
                  refine xg_aload_n hX 0 dM_compare_139 rfl rfl ?_
                  refine xg_get hX (ci := 3) rfl hinM 0 rfl 6 (by decide) mt_330 rfl dM_compare_140 ?_
                  refine xg_if_neB hX 150 dM_compare_143 (by decide) (fun h143 => ?_) (fun h143 => ?_)
                  ·
                    refine xg_iconst hX (nI 0) dM_compare_150 (by decide) ?_
                    refine xg_goto hX 184 dM_compare_151 (by decide) ?_
                    refine xg_top (bI (bel (hasD (rdD M (tn n) (tn a)) 0 200) (rdG M (tn n) (tn a)) (rdG M (tn m) (tn b)) (cmpZ (rdD M (tn n) (tn a)) (rdD M (tn m) (tn b)) 200))) (by first | (rw [bel_1 h109 h116 h126] <;> rfl) | (rw [bel_2 h109 h116 h136] <;> rfl) | (rw [bel_3 h109 h136 h143] <;> rfl) | (rw [bel_4 h109 h136 h143] <;> rfl) | (rw [bel_5 h109 h158 h163] <;> rfl) | (rw [bel_6 h109 h158 h163] <;> rfl) | (rw [bel_7 h109 h158 h176] <;> rfl) | (rw [bel_8 h109 h158 h176] <;> rfl) | exact absurd (h126.symm.trans h136) (by decide)) ?_
                    refine xg_lv hX (lv' := [(0, .ref mq)]) [0] rfl ?_
                    exact jn3  
                  ·
                    refine xg_iconst hX (nI 1) dM_compare_146 (by decide) ?_
                    refine xg_goto hX 184 dM_compare_147 (by decide) ?_
                    refine xg_top (bI (bel (hasD (rdD M (tn n) (tn a)) 0 200) (rdG M (tn n) (tn a)) (rdG M (tn m) (tn b)) (cmpZ (rdD M (tn n) (tn a)) (rdD M (tn m) (tn b)) 200))) (by first | (rw [bel_1 h109 h116 h126] <;> rfl) | (rw [bel_2 h109 h116 h136] <;> rfl) | (rw [bel_3 h109 h136 h143] <;> rfl) | (rw [bel_4 h109 h136 h143] <;> rfl) | (rw [bel_5 h109 h158 h163] <;> rfl) | (rw [bel_6 h109 h158 h163] <;> rfl) | (rw [bel_7 h109 h158 h176] <;> rfl) | (rw [bel_8 h109 h158 h176] <;> rfl) | exact absurd (h126.symm.trans h136) (by decide)) ?_
                    refine xg_lv hX (lv' := [(0, .ref mq)]) [0] rfl ?_
                    exact jn3  
              ·
                refine xg_aload_n hX 0 dM_compare_119 rfl rfl ?_
                refine xg_get hX (ci := 3) rfl hinM 0 rfl 1 (by decide) mt_325 rfl dM_compare_120 ?_
                refine xg_cS hX [.ref m1] (hM := yc_isZero l D cI m1 (rdD M (tn n) (tn a)) (fun j => by have := hx.1 j; omega)) (wr := [(mq, .inr (3, [.ref mm, .ref m1, .ref m2, .ref mo, .ref mr, .int (bI (rdG M (tn n) (tn a))), .int (bI (rdG M (tn m) (tn b))), .int (bI oo), .ref mw, .int (bI men)])), (mm, .inl (cI, 256, .inl (nf M))), (m2, .inl (cI, 200, .inl (nf (rdD M (tn m) (tn b)))))]) (ws' := fun _ => [(mq, .inr (3, [.ref mm, .ref m1, .ref m2, .ref mo, .ref mr, .int (bI (rdG M (tn n) (tn a))), .int (bI (rdG M (tn m) (tn b))), .int (bI oo), .ref mw, .int (bI men)])), (mm, .inl (cI, 256, .inl (nf M))), (m1, .inl (cI, 200, .inl (nf (rdD M (tn n) (tn a))))), (m2, .inl (cI, 200, .inl (nf (rdD M (tn m) (tn b)))))]) (st' := fun _ => [.int (bI (!hasD (rdD M (tn n) (tn a)) 0 200))]) [2] [0, 1, 3] [0, 1, 3, 2] [] rfl mt_409 mt_407 mt_4 mt_408 hdM_isZero (by decide) ⟨rfl, rfl⟩ (by decide) rfl rfl (by decide) rfl (by decide) (by decide) (by decide) (fun u => rfl) (fun u => rfl) (fun u => rfl) rfl rfl (by simp [Value.category]) dM_compare_123 (fun _ _ => ?_)
                refine xg_if_eqB hX 146 dM_compare_126 (by decide) (fun h126 => ?_) (fun h126 => ?_)
                ·
                  refine xg_iconst hX (nI 1) dM_compare_146 (by decide) ?_
                  refine xg_goto hX 184 dM_compare_147 (by decide) ?_
                  refine xg_top (bI (bel (hasD (rdD M (tn n) (tn a)) 0 200) (rdG M (tn n) (tn a)) (rdG M (tn m) (tn b)) (cmpZ (rdD M (tn n) (tn a)) (rdD M (tn m) (tn b)) 200))) (by first | (rw [bel_1 h109 h116 h126] <;> rfl) | (rw [bel_2 h109 h116 h136] <;> rfl) | (rw [bel_3 h109 h136 h143] <;> rfl) | (rw [bel_4 h109 h136 h143] <;> rfl) | (rw [bel_5 h109 h158 h163] <;> rfl) | (rw [bel_6 h109 h158 h163] <;> rfl) | (rw [bel_7 h109 h158 h176] <;> rfl) | (rw [bel_8 h109 h158 h176] <;> rfl) | exact absurd (h126.symm.trans h136) (by decide)) ?_
                  refine xg_lv hX (lv' := [(0, .ref mq)]) [0] rfl ?_
                  exact jn3  
                ·
                  refine xg_aload_n hX 0 dM_compare_129 rfl rfl ?_
                  refine xg_get hX (ci := 3) rfl hinM 0 rfl 1 (by decide) mt_325 rfl dM_compare_130 ?_
                  refine xg_cS hX [.ref m1] (hM := yc_isZero l D cI m1 (rdD M (tn n) (tn a)) (fun j => by have := hx.1 j; omega)) (wr := [(mq, .inr (3, [.ref mm, .ref m1, .ref m2, .ref mo, .ref mr, .int (bI (rdG M (tn n) (tn a))), .int (bI (rdG M (tn m) (tn b))), .int (bI oo), .ref mw, .int (bI men)])), (mm, .inl (cI, 256, .inl (nf M))), (m2, .inl (cI, 200, .inl (nf (rdD M (tn m) (tn b)))))]) (ws' := fun _ => [(mq, .inr (3, [.ref mm, .ref m1, .ref m2, .ref mo, .ref mr, .int (bI (rdG M (tn n) (tn a))), .int (bI (rdG M (tn m) (tn b))), .int (bI oo), .ref mw, .int (bI men)])), (mm, .inl (cI, 256, .inl (nf M))), (m1, .inl (cI, 200, .inl (nf (rdD M (tn n) (tn a))))), (m2, .inl (cI, 200, .inl (nf (rdD M (tn m) (tn b)))))]) (st' := fun _ => [.int (bI (!hasD (rdD M (tn n) (tn a)) 0 200))]) [2] [0, 1, 3] [0, 1, 3, 2] [] rfl mt_409 mt_407 mt_4 mt_408 hdM_isZero (by decide) ⟨rfl, rfl⟩ (by decide) rfl rfl (by decide) rfl (by decide) (by decide) (by decide) (fun u => rfl) (fun u => rfl) (fun u => rfl) rfl rfl (by simp [Value.category]) dM_compare_133 (fun _ _ => ?_)
                  refine xg_if_eqB hX 150 dM_compare_136 (by decide) (fun h136 => ?_) (fun h136 => ?_)
                  ·
                    refine xg_iconst hX (nI 0) dM_compare_150 (by decide) ?_
                    refine xg_goto hX 184 dM_compare_151 (by decide) ?_
                    refine xg_top (bI (bel (hasD (rdD M (tn n) (tn a)) 0 200) (rdG M (tn n) (tn a)) (rdG M (tn m) (tn b)) (cmpZ (rdD M (tn n) (tn a)) (rdD M (tn m) (tn b)) 200))) (by first | (rw [bel_1 h109 h116 h126] <;> rfl) | (rw [bel_2 h109 h116 h136] <;> rfl) | (rw [bel_3 h109 h136 h143] <;> rfl) | (rw [bel_4 h109 h136 h143] <;> rfl) | (rw [bel_5 h109 h158 h163] <;> rfl) | (rw [bel_6 h109 h158 h163] <;> rfl) | (rw [bel_7 h109 h158 h176] <;> rfl) | (rw [bel_8 h109 h158 h176] <;> rfl) | exact absurd (h126.symm.trans h136) (by decide)) ?_
                    refine xg_lv hX (lv' := [(0, .ref mq)]) [0] rfl ?_
                    exact jn3  
                  ·
                    refine xg_aload_n hX 0 dM_compare_139 rfl rfl ?_
                    refine xg_get hX (ci := 3) rfl hinM 0 rfl 6 (by decide) mt_330 rfl dM_compare_140 ?_
                    refine xg_if_neB hX 150 dM_compare_143 (by decide) (fun h143 => ?_) (fun h143 => ?_)
                    ·
                      refine xg_iconst hX (nI 0) dM_compare_150 (by decide) ?_
                      refine xg_goto hX 184 dM_compare_151 (by decide) ?_
                      refine xg_top (bI (bel (hasD (rdD M (tn n) (tn a)) 0 200) (rdG M (tn n) (tn a)) (rdG M (tn m) (tn b)) (cmpZ (rdD M (tn n) (tn a)) (rdD M (tn m) (tn b)) 200))) (by first | (rw [bel_1 h109 h116 h126] <;> rfl) | (rw [bel_2 h109 h116 h136] <;> rfl) | (rw [bel_3 h109 h136 h143] <;> rfl) | (rw [bel_4 h109 h136 h143] <;> rfl) | (rw [bel_5 h109 h158 h163] <;> rfl) | (rw [bel_6 h109 h158 h163] <;> rfl) | (rw [bel_7 h109 h158 h176] <;> rfl) | (rw [bel_8 h109 h158 h176] <;> rfl) | exact absurd (h126.symm.trans h136) (by decide)) ?_
                      refine xg_lv hX (lv' := [(0, .ref mq)]) [0] rfl ?_
                      exact jn3  
                    ·
                      refine xg_iconst hX (nI 1) dM_compare_146 (by decide) ?_
                      refine xg_goto hX 184 dM_compare_147 (by decide) ?_
                      refine xg_top (bI (bel (hasD (rdD M (tn n) (tn a)) 0 200) (rdG M (tn n) (tn a)) (rdG M (tn m) (tn b)) (cmpZ (rdD M (tn n) (tn a)) (rdD M (tn m) (tn b)) 200))) (by first | (rw [bel_1 h109 h116 h126] <;> rfl) | (rw [bel_2 h109 h116 h136] <;> rfl) | (rw [bel_3 h109 h136 h143] <;> rfl) | (rw [bel_4 h109 h136 h143] <;> rfl) | (rw [bel_5 h109 h158 h163] <;> rfl) | (rw [bel_6 h109 h158 h163] <;> rfl) | (rw [bel_7 h109 h158 h176] <;> rfl) | (rw [bel_8 h109 h158 h176] <;> rfl) | exact absurd (h126.symm.trans h136) (by decide)) ?_
                      refine xg_lv hX (lv' := [(0, .ref mq)]) [0] rfl ?_
                      exact jn3  
          refine xg_if_neB hX 99 dM_compare_80 (by decide) (fun h80 => ?_) (fun h80 => ?_)
          ·
            refine xg_iconst hX (nI 4) dM_compare_99 (by decide) ?_
            exact hret (nI 4, rdD M (tn n) (tn a), rdD M (tn m) (tn b), rdG M (tn n) (tn a), rdG M (tn m) (tn b)) _ _ _ rfl (show (nI 4) = cmpM M n a m b from (by rw [hcm]; unfold cmW; first | exact (if_pos (Or.inl h80)).symm | exact (if_pos (Or.inr ⟨h85, h96⟩)).symm)) dM_compare_100
          ·
            refine xg_iload hX 0 dM_compare_83 rfl ?_
            refine xg_if_ne hX 101 dM_compare_85 (by decide) (fun h85 => ?_) (fun h85 => ?_)
            ·
              refine xg_lv hX (lv' := [(0, .ref mq), (6, .int (bI (!hasD (rdD M (tn n) (tn a)) 0 200 && !hasD (rdD M (tn m) (tn b)) 0 200))), (7, .int (cmpZ (rdD M (tn n) (tn a)) (rdD M (tn m) (tn b)) 200))]) [2, 1, 0] rfl ?_
              exact jn2  h80 (fun q => by first | exact h85 q.1 | exact h96 q.2)
            ·
              refine xg_aload_n hX 2 dM_compare_88 rfl rfl ?_
              refine xg_get hX (ci := 3) rfl hinM 0 rfl 5 (by decide) mt_329 rfl dM_compare_89 ?_
              refine xg_aload_n hX 2 dM_compare_92 rfl rfl ?_
              refine xg_get hX (ci := 3) rfl hinM 0 rfl 6 (by decide) mt_330 rfl dM_compare_93 ?_
              refine xg_icmp_neB hX 101 dM_compare_96 (by decide) (fun h96 => ?_) (fun h96 => ?_)
              ·
                refine xg_lv hX (lv' := [(0, .ref mq), (6, .int (bI (!hasD (rdD M (tn n) (tn a)) 0 200 && !hasD (rdD M (tn m) (tn b)) 0 200))), (7, .int (cmpZ (rdD M (tn n) (tn a)) (rdD M (tn m) (tn b)) 200))]) [2, 1, 0] rfl ?_
                exact jn2  h80 (fun q => by first | exact h85 q.1 | exact h96 q.2)
              ·
                refine xg_iconst hX (nI 4) dM_compare_99 (by decide) ?_
                exact hret (nI 4, rdD M (tn n) (tn a), rdD M (tn m) (tn b), rdG M (tn n) (tn a), rdG M (tn m) (tn b)) _ _ _ rfl (show (nI 4) = cmpM M n a m b from (by rw [hcm]; unfold cmW; first | exact (if_pos (Or.inl h80)).symm | exact (if_pos (Or.inr ⟨h85, h96⟩)).symm)) dM_compare_100
        refine xg_if_eqB hX 62 dM_compare_45 (by decide) (fun h45 => ?_) (fun h45 => ?_)
        ·
          refine xg_iconst hX (nI 0) dM_compare_62 (by decide) ?_
          refine xg_top (bI (!hasD (rdD M (tn n) (tn a)) 0 200 && !hasD (rdD M (tn m) (tn b)) 0 200)) (by first | (rw [h45, h55] <;> rfl) | (rw [h45] <;> rfl)) ?_
          refine xg_lv hX (lv' := [(0, .ref mq)]) [1] rfl ?_
          exact jn1  
        ·
          refine xg_aload_n hX 1 dM_compare_48 rfl rfl ?_
          refine xg_get hX (ci := 3) rfl hinM 0 rfl 2 (by decide) mt_326 rfl dM_compare_49 ?_
          refine xg_cS hX [.ref m2] (hM := yc_isZero l D cI m2 (rdD M (tn m) (tn b)) (fun j => by have := hy.1 j; omega)) (wr := [(mq, .inr (3, [.ref mm, .ref m1, .ref m2, .ref mo, .ref mr, .int (bI (rdG M (tn n) (tn a))), .int (bI (rdG M (tn m) (tn b))), .int (bI oo), .ref mw, .int (bI men)])), (mm, .inl (cI, 256, .inl (nf M))), (m1, .inl (cI, 200, .inl (nf (rdD M (tn n) (tn a)))))]) (ws' := fun _ => [(mq, .inr (3, [.ref mm, .ref m1, .ref m2, .ref mo, .ref mr, .int (bI (rdG M (tn n) (tn a))), .int (bI (rdG M (tn m) (tn b))), .int (bI oo), .ref mw, .int (bI men)])), (mm, .inl (cI, 256, .inl (nf M))), (m1, .inl (cI, 200, .inl (nf (rdD M (tn n) (tn a))))), (m2, .inl (cI, 200, .inl (nf (rdD M (tn m) (tn b)))))]) (st' := fun _ => [.int (bI (!hasD (rdD M (tn m) (tn b)) 0 200))]) [3] [0, 1, 2] [0, 1, 2, 3] [] rfl mt_409 mt_407 mt_4 mt_408 hdM_isZero (by decide) ⟨rfl, rfl⟩ (by decide) rfl rfl (by decide) rfl (by decide) (by decide) (by decide) (fun u => rfl) (fun u => rfl) (fun u => rfl) rfl rfl (by simp [Value.category]) dM_compare_52 (fun _ _ => ?_)
          refine xg_if_eqB hX 62 dM_compare_55 (by decide) (fun h55 => ?_) (fun h55 => ?_)
          ·
            refine xg_iconst hX (nI 0) dM_compare_62 (by decide) ?_
            refine xg_top (bI (!hasD (rdD M (tn n) (tn a)) 0 200 && !hasD (rdD M (tn m) (tn b)) 0 200)) (by first | (rw [h45, h55] <;> rfl) | (rw [h45] <;> rfl)) ?_
            refine xg_lv hX (lv' := [(0, .ref mq)]) [1] rfl ?_
            exact jn1  
          ·
            refine xg_iconst hX (nI 1) dM_compare_58 (by decide) ?_
            refine xg_goto hX 63 dM_compare_59 (by decide) ?_
            refine xg_top (bI (!hasD (rdD M (tn n) (tn a)) 0 200 && !hasD (rdD M (tn m) (tn b)) 0 200)) (by first | (rw [h45, h55] <;> rfl) | (rw [h45] <;> rfl)) ?_
            refine xg_lv hX (lv' := [(0, .ref mq)]) [1] rfl ?_
            exact jn1  
      ·
        refine xg_iload hX 0 dM_compare_35 rfl ?_
        exact hret (if (rdb M (tn n) (tn a) && rdb M (tn m) (tn b)) = true then (0 : Int32) else -2, rdD M (tn n) (tn a), rdD M (tn m) (tn b), decide (rdV M (tn n) (tn a) = 2), decide (rdV M (tn m) (tn b) = 2)) _ _ _ rfl (show (if (rdb M (tn n) (tn a) && rdb M (tn m) (tn b)) = true then (0 : Int32) else -2) = cmpM M n a m b from (by unfold cmpM; rw [if_pos (show (dfits n a && dfits m b) = true by rw [h5, h14] <;> rfl)]; by_cases q9 : (rdb M (tn n) (tn a) && rdb M (tn m) (tn b)) = true; (rw [if_pos q9] at h32; exact absurd (by decide) h32); (rw [if_neg q9, if_neg q9]))) dM_compare_37
    ·
      refine xg_iconst hX ((-1)) dM_compare_17 (by decide) ?_
      exact hret ((-1), x1, x2, o1, o2) _ _ _ rfl (show (-1) = cmpM M n a m b from (by unfold cmpM; rw [if_neg (fun q => by simp only [Bool.and_eq_true] at q; first | exact absurd (h5.symm.trans q.1) (by decide) | exact absurd (h14.symm.trans q.2) (by decide))])) dM_compare_18
set_option maxHeartbeats 4000000 in
set_option maxRecDepth 100000 in
theorem yc_characters (l : Launch) (D : va_G) (cI : ClassId) (mq : Nat) (mm : Nat) (m1 : Nat) (m2 : Nat) (mo : Nat) (mr : Nat) (mw : Nat) (o1 : Bool) (o2 : Bool) (oo : Bool) (men : Bool) (M : Nat → Nat) (xo : Nat → Nat) (n : Int32) (a : Int32) (m : Int32) (b : Int32) (hM : ∀ j, M j < 256) : Ctr l D cI yM_characters cM_characters 9 (some .int) { frames := 2, cells := 0, slots := 0, locals := 44 } [.ref mq, .int n, .int a, .int m, .int b] [(mq, .inr (3, [.ref mm, .ref m1, .ref m2, .ref mo, .ref mr, .int (bI o1), .int (bI o2), .int (bI oo), .ref mw, .int (bI men)])), (mm, .inl (cI, 256, .inl (nf M))), (mo, .inl (cI, 200, .inl (nf xo)))] (fun u : Int32 × (Nat → Nat) × (Nat → Nat) × Bool => match u with | (r, M2, yo, qo) => some (.int r)) (fun u : Int32 × (Nat → Nat) × (Nat → Nat) × Bool => match u with | (r, M2, yo, qo) => (r, M2) = charM M n a m b) (fun u : Int32 × (Nat → Nat) × (Nat → Nat) × Bool => match u with | (r, M2, yo, qo) => [(mq, .inr (3, [.ref mm, .ref m1, .ref m2, .ref mo, .ref mr, .int (bI o1), .int (bI o2), .int (bI qo), .ref mw, .int (bI men)])), (mm, .inl (cI, 256, .inl (nf M2))), (mo, .inl (cI, 200, .inl (nf yo)))]) 0 0 := by
  refine xc_mkI (by decide +kernel) (Nat.le_of_ble_eq_true rfl) (fun X hX hret => ?_)
  show GG D X 0 0 0 [(mq, .inr (3, [.ref mm, .ref m1, .ref m2, .ref mo, .ref mr, .int (bI o1), .int (bI o2), .int (bI oo), .ref mw, .int (bI men)])), (mm, .inl (cI, 256, .inl (nf M))), (mo, .inl (cI, 200, .inl (nf xo)))] [(0, .ref mq), (1, .int n), (2, .int a), (3, .int m), (4, .int b)] []
  refine xg_iload_n hX 1 dM_characters_0 rfl rfl ?_
  refine xg_iload_n hX 2 dM_characters_1 rfl rfl ?_
  refine xg_cS hX [.int n, .int a] (hM := yc_isThere l D cI n a) (wr := [(mq, .inr (3, [.ref mm, .ref m1, .ref m2, .ref mo, .ref mr, .int (bI o1), .int (bI o2), .int (bI oo), .ref mw, .int (bI men)])), (mm, .inl (cI, 256, .inl (nf M))), (mo, .inl (cI, 200, .inl (nf xo)))]) (ws' := fun _ => [(mq, .inr (3, [.ref mm, .ref m1, .ref m2, .ref mo, .ref mr, .int (bI o1), .int (bI o2), .int (bI oo), .ref mw, .int (bI men)])), (mm, .inl (cI, 256, .inl (nf M))), (mo, .inl (cI, 200, .inl (nf xo)))]) (st' := fun _ => [.int (bI (dfits n a))]) [] [0, 1, 2] [0, 1, 2] [] rfl mt_373 mt_371 mt_4 mt_372 hdM_isThere (by decide) ⟨rfl, rfl⟩ (by decide) rfl rfl (by decide) rfl (by decide) (by decide) (by decide) (fun u => rfl) (fun u => rfl) (fun u => rfl) rfl rfl (by simp [Value.category]) dM_characters_2 (fun _ _ => ?_)
  refine xg_if_eqB hX 26 dM_characters_5 (by decide) (fun h5 => ?_) (fun h5 => ?_)
  ·
    refine xg_iconst hX ((-1)) dM_characters_26 (by decide) ?_
    exact hret ((-1), M, xo, oo) _ _ _ rfl (show ((-1), M) = charM M n a m b from (by have hz : chO M n a m b = -1 := (by unfold chO; by_cases q9 : (dfits n a && cfits m b) = true; (simp only [Bool.and_eq_true] at q9; first | exact absurd (h5.symm.trans q9.1) (by decide) | exact absurd ((cf_n1 h12).symm.trans q9.2) (by decide) | exact absurd ((cf_n2 h12 h23).symm.trans q9.2) (by decide)); (rw [if_neg q9])); rw [charM, hz]; exact (if_neg (by decide)).symm)) dM_characters_27
  ·
    refine xg_iload_n hX 3 dM_characters_8 rfl rfl ?_
    refine xg_cS hX [.int m] (hM := yc_isCount l D cI m) (wr := [(mq, .inr (3, [.ref mm, .ref m1, .ref m2, .ref mo, .ref mr, .int (bI o1), .int (bI o2), .int (bI oo), .ref mw, .int (bI men)])), (mm, .inl (cI, 256, .inl (nf M))), (mo, .inl (cI, 200, .inl (nf xo)))]) (ws' := fun _ => [(mq, .inr (3, [.ref mm, .ref m1, .ref m2, .ref mo, .ref mr, .int (bI o1), .int (bI o2), .int (bI oo), .ref mw, .int (bI men)])), (mm, .inl (cI, 256, .inl (nf M))), (mo, .inl (cI, 200, .inl (nf xo)))]) (st' := fun _ => [.int (bI (icnt m))]) [] [0, 1, 2] [0, 1, 2] [] rfl mt_376 mt_374 mt_4 mt_375 hdM_isCount (by decide) ⟨rfl, rfl⟩ (by decide) rfl rfl (by decide) rfl (by decide) (by decide) (by decide) (fun u => rfl) (fun u => rfl) (fun u => rfl) rfl rfl (by simp [Value.category]) dM_characters_9 (fun _ _ => ?_)
    refine xg_if_eqB hX 26 dM_characters_12 (by decide) (fun h12 => ?_) (fun h12 => ?_)
    ·
      refine xg_iconst hX ((-1)) dM_characters_26 (by decide) ?_
      exact hret ((-1), M, xo, oo) _ _ _ rfl (show ((-1), M) = charM M n a m b from (by have hz : chO M n a m b = -1 := (by unfold chO; by_cases q9 : (dfits n a && cfits m b) = true; (simp only [Bool.and_eq_true] at q9; first | exact absurd (h5.symm.trans q9.1) (by decide) | exact absurd ((cf_n1 h12).symm.trans q9.2) (by decide) | exact absurd ((cf_n2 h12 h23).symm.trans q9.2) (by decide)); (rw [if_neg q9])); rw [charM, hz]; exact (if_neg (by decide)).symm)) dM_characters_27
    ·
      refine xg_iload hX 4 dM_characters_15 rfl ?_
      refine xg_iload_n hX 3 dM_characters_17 rfl rfl ?_
      refine xg_top (nI (tn m)) (xn_tn (ic_sp h12).1) ?_
      refine xg_iconst hX (nI 1) dM_characters_18 (by decide) ?_
      refine xg_iaddN hX dM_characters_19 ?_
      refine xg_cS hX [.int b, .int (nI ((tn m) + 1))] (hM := yc_are l D cI b ((tn m) + 1) (by have := tn_le (c := 31) (ic_sp h12).2; omega)) (wr := [(mq, .inr (3, [.ref mm, .ref m1, .ref m2, .ref mo, .ref mr, .int (bI o1), .int (bI o2), .int (bI oo), .ref mw, .int (bI men)])), (mm, .inl (cI, 256, .inl (nf M))), (mo, .inl (cI, 200, .inl (nf xo)))]) (ws' := fun _ => [(mq, .inr (3, [.ref mm, .ref m1, .ref m2, .ref mo, .ref mr, .int (bI o1), .int (bI o2), .int (bI oo), .ref mw, .int (bI men)])), (mm, .inl (cI, 256, .inl (nf M))), (mo, .inl (cI, 200, .inl (nf xo)))]) (st' := fun _ => [.int (bI (arB b ((tn m) + 1)))]) [] [0, 1, 2] [0, 1, 2] [] rfl mt_379 mt_377 mt_4 mt_378 hdM_are (by decide) ⟨rfl, rfl⟩ (by decide) rfl rfl (by decide) rfl (by decide) (by decide) (by decide) (fun u => rfl) (fun u => rfl) (fun u => rfl) rfl rfl (by simp [Value.category]) dM_characters_20 (fun _ _ => ?_)
      refine xg_if_neB hX 28 dM_characters_23 (by decide) (fun h23 => ?_) (fun h23 => ?_)
      ·
        refine xg_aload_n hX 0 dM_characters_28 rfl rfl ?_
        refine xg_iload_n hX 1 dM_characters_29 rfl rfl ?_
        refine xg_top (nI (tn n)) (df3 h5) ?_
        refine xg_iload_n hX 2 dM_characters_30 rfl rfl ?_
        refine xg_top (nI (tn a)) (df4 h5) ?_
        refine xg_aload_n hX 0 dM_characters_31 rfl rfl ?_
        refine xg_get hX (ci := 3) rfl hinM 0 rfl 3 (by decide) mt_327 rfl dM_characters_32 ?_
        refine xg_cV hX mq [.int (nI (tn n)), .int (nI (tn a)), .ref mo] (hM := yc_read l D cI mq mm m1 m2 mo mr mw o1 o2 oo men M mo xo (tn n) (tn a) (df1 h5) (df2 h5) hM) (wr := []) (ws' := fun _ => [(mq, .inr (3, [.ref mm, .ref m1, .ref m2, .ref mo, .ref mr, .int (bI o1), .int (bI o2), .int (bI oo), .ref mw, .int (bI men)])), (mm, .inl (cI, 256, .inl (nf M))), (mo, .inl (cI, 200, .inl (nf (rdD M (tn n) (tn a)))))]) (st' := fun _ => [.int (nI (rdV M (tn n) (tn a)))]) [0, 1, 2] [] [0, 1, 2] [] rfl mt_387 mt_384 mt_4 mt_386 mp_19 0 rfl rfl hdM_read (by decide) ⟨rfl, rfl⟩ (by decide) rfl rfl (by decide) rfl (by decide) (by decide) (by decide) (fun u => rfl) (fun u => rfl) (fun u => rfl) rfl rfl (by simp [Value.category]) dM_characters_35 (fun _ _ => ?_)
        have e1 := rdV_lt M (tn n) (tn a)
        refine xg_istore hX (lv' := [(5, .int (nI (rdV M (tn n) (tn a)))), (0, .ref mq), (1, .int n), (2, .int a), (3, .int m), (4, .int b)]) dM_characters_38 (by decide) rfl ?_
        refine xg_iload hX 0 dM_characters_40 rfl ?_
        refine xg_if_neN hX 48 (by omega) dM_characters_42 (by decide) (fun h42 => ?_) (fun h42 => ?_)
        ·
          have g1 := rdV_p h42
          have hx := sm_rd (df1 h5) g1
          have hcf := cf_mk h12 h23
          have hc0 : chO M n a m b = 0 := by unfold chO; rw [if_pos (by rw [h5, hcf] <;> rfl), if_pos g1]
          have q1 := cf1 hcf
          have q2 := cf2 hcf
          refine xg_aload_n hX 1 dM_characters_48 rfl rfl ?_
          refine xg_iload hX 0 dM_characters_49 rfl ?_
          refine xg_iconst hX (nI 2) dM_characters_51 (by decide) ?_
          refine xg_icmp_neN hX 59 (by omega) (by omega) dM_characters_52 (by decide) (fun h52 => ?_) (fun h52 => ?_)
          ·
            refine xg_iconst hX (nI 0) dM_characters_59 (by decide) ?_
            refine xg_top (bI false) rfl ?_
            refine xg_put hX tyM tyM_ok nmM (ci := 3) rfl hinM (ws' := [(mq, .inr (3, [.ref mm, .ref m1, .ref m2, .ref mo, .ref mr, .int (bI o1), .int (bI o2), .int (bI false), .ref mw, .int (bI men)])), (mm, .inl (cI, 256, .inl (nf M))), (mo, .inl (cI, 200, .inl (nf (rdD M (tn n) (tn a)))))]) 0 rfl 7 (by decide) mt_331 rfl (xn_narB _) (xn_fitB _) (Nat.le_of_ble_eq_true rfl) rfl dM_characters_60 ?_
            refine xg_wsE (ws' := [(mq, .inr (3, [.ref mm, .ref m1, .ref m2, .ref mo, .ref mr, .int (bI o1), .int (bI o2), .int (bI (rdG M (tn n) (tn a))), .ref mw, .int (bI men)])), (mm, .inl (cI, 256, .inl (nf M))), (mo, .inl (cI, 200, .inl (nf (rdD M (tn n) (tn a)))))]) (by rw [← (show (bI false : Int32) = bI (rdG M (tn n) (tn a)) from (by rw [← rdV_2 g1]; first | (rw [decide_eq_true h52]; done) | (rw [decide_eq_false h52]; done)))]) ?_
            refine xg_aload_n hX 1 dM_characters_63 rfl rfl ?_
            refine xg_iload_n hX 4 dM_characters_64 rfl rfl ?_
            refine xg_top (nI (tn m)) (cf3 hcf) ?_
            refine xg_cV hX mq [.int (nI (tn m))] (hM := yc_cuts l D cI mq mm m1 m2 mo mr mw o1 o2 (rdG M (tn n) (tn a)) men (rdD M (tn n) (tn a)) (tn m) (by omega) (fun j => by have := hx.1 j; omega)) (wr := [(mm, .inl (cI, 256, .inl (nf M)))]) (ws' := fun _ => [(mq, .inr (3, [.ref mm, .ref m1, .ref m2, .ref mo, .ref mr, .int (bI o1), .int (bI o2), .int (bI (rdG M (tn n) (tn a))), .ref mw, .int (bI men)])), (mm, .inl (cI, 256, .inl (nf M))), (mo, .inl (cI, 200, .inl (nf (mix (tn m) (rdD M (tn n) (tn a)) zf))))]) (st' := fun _ => [.int (bI (hasD (rdD M (tn n) (tn a)) (tn m) 200))]) [0, 2] [1] [1, 0, 2] [] rfl mt_402 mt_399 mt_4 mt_401 mp_22 0 rfl rfl hdM_cuts (by decide) ⟨rfl, rfl⟩ (by decide) rfl rfl (by decide) rfl (by decide) (by decide) (by decide) (fun u => rfl) (fun u => rfl) (fun u => rfl) rfl rfl (by simp [Value.category]) dM_characters_65 (fun _ _ => ?_)
            refine xg_istore hX (lv' := [(6, .int (bI (hasD (rdD M (tn n) (tn a)) (tn m) 200))), (5, .int (nI (rdV M (tn n) (tn a)))), (0, .ref mq), (1, .int n), (2, .int a), (3, .int m), (4, .int b)]) dM_characters_68 (by decide) rfl ?_
            refine xg_aload_n hX 2 dM_characters_70 rfl rfl ?_
            refine xg_iload hX 0 dM_characters_71 rfl ?_
            refine xg_cV hX mq [.int (bI (hasD (rdD M (tn n) (tn a)) (tn m) 200))] (hM := yc_flags l D cI mq mm m1 m2 mo mr mw o1 o2 (rdG M (tn n) (tn a)) men (mix (tn m) (rdD M (tn n) (tn a)) zf) (hasD (rdD M (tn n) (tn a)) (tn m) 200) (mix_lt hx.1)) (wr := [(mm, .inl (cI, 256, .inl (nf M)))]) (ws' := fun _ => [(mq, .inr (3, [.ref mm, .ref m1, .ref m2, .ref mo, .ref mr, .int (bI o1), .int (bI o2), .int (bI (rdG M (tn n) (tn a))), .ref mw, .int (bI men)])), (mm, .inl (cI, 256, .inl (nf M))), (mo, .inl (cI, 200, .inl (nf (mix (tn m) (rdD M (tn n) (tn a)) zf))))]) (st' := fun _ => [.int (nI (flgM (rdG M (tn n) (tn a)) (!hasD (mix (tn m) (rdD M (tn n) (tn a)) zf) 0 200) (hasD (rdD M (tn n) (tn a)) (tn m) 200)))]) [0, 2] [1] [1, 0, 2] [] rfl mt_406 mt_403 mt_4 mt_405 mp_23 0 rfl rfl hdM_flags (by decide) ⟨rfl, rfl⟩ (by decide) rfl rfl (by decide) rfl (by decide) (by decide) (by decide) (fun u => rfl) (fun u => rfl) (fun u => rfl) rfl rfl (by simp [Value.category]) dM_characters_73 (fun _ _ => ?_)
            refine xg_top (nI (flg (rdD M (tn n) (tn a)) (rdG M (tn n) (tn a)) (tn m))) (by rw [flgM_eq (by omega) (rdD_z (df1 h5))]) ?_
            refine xg_istore hX (lv' := [(7, .int (nI (flg (rdD M (tn n) (tn a)) (rdG M (tn n) (tn a)) (tn m)))), (6, .int (bI (hasD (rdD M (tn n) (tn a)) (tn m) 200))), (5, .int (nI (rdV M (tn n) (tn a)))), (0, .ref mq), (1, .int n), (2, .int a), (3, .int m), (4, .int b)]) dM_characters_76 (by decide) rfl ?_
            refine xg_aload_n hX 3 dM_characters_78 rfl rfl ?_
            refine xg_get hX (ci := 3) rfl hinM 0 rfl 0 (by decide) mt_324 rfl dM_characters_79 ?_
            refine xg_iload hX 7 dM_characters_82 rfl ?_
            refine xg_top (nI (tn b)) (cf4 hcf) ?_
            refine xg_iload hX 0 dM_characters_84 rfl ?_
            refine xg_bipush hX (nI 8) dM_characters_86 (by decide) ?_
            refine xg_iand hX dM_characters_88 ?_
            refine xg_top (nI (if ng (rdD M (tn n) (tn a)) (rdG M (tn n) (tn a)) (tn m) = true then 8 else 0)) (xn_f8 _ _ _) ?_
            refine xg_if_eqN hX 97 (by split <;> decide) dM_characters_89 (by decide) (fun h89 => ?_) (fun h89 => ?_)
            ·
              have hsg : (43 : Nat) = (if ng (rdD M (tn n) (tn a)) (rdG M (tn n) (tn a)) (tn m) = true then 45 else 43) := by cases hq : ng (rdD M (tn n) (tn a)) (rdG M (tn n) (tn a)) (tn m) with | false => rfl | true => rw [hq] at h89; cases h89
              refine xg_bipush hX (nI 43) dM_characters_97 (by decide) ?_
              refine xg_iast hX (ws' := [(mq, .inr (3, [.ref mm, .ref m1, .ref m2, .ref mo, .ref mr, .int (bI o1), .int (bI o2), .int (bI (rdG M (tn n) (tn a))), .ref mw, .int (bI men)])), (mm, .inl (cI, 256, .inl (nf (up M (tn b) 43)))), (mo, .inl (cI, 200, .inl (nf (mix (tn m) (rdD M (tn n) (tn a)) zf))))]) 1 (tn b) 43 rfl (by omega) (by decide) rfl dM_characters_99 ?_
              refine xg_ext hX (g := chP M (rdD M (tn n) (tn a)) (if ng (rdD M (tn n) (tn a)) (rdG M (tn n) (tn a)) (tn m) = true then 45 else 43) (tn m) (tn b) 0) (ws' := [(mq, .inr (3, [.ref mm, .ref m1, .ref m2, .ref mo, .ref mr, .int (bI o1), .int (bI o2), .int (bI (rdG M (tn n) (tn a))), .ref mw, .int (bI men)])), (mm, .inl (cI, 256, .inl (nf (chP M (rdD M (tn n) (tn a)) (if ng (rdD M (tn n) (tn a)) (rdG M (tn n) (tn a)) (tn m) = true then 45 else 43) (tn m) (tn b) 0)))), (mo, .inl (cI, 200, .inl (nf (mix (tn m) (rdD M (tn n) (tn a)) zf))))]) 1 rfl (fun j hj => by rw [← hsg]; exact chP_0 j) rfl ?_
              refine xg_iconst hX (nI 0) dM_characters_100 (by decide) ?_
              refine xg_istore hX (lv' := [(8, .int (nI 0)), (7, .int (nI (flg (rdD M (tn n) (tn a)) (rdG M (tn n) (tn a)) (tn m)))), (6, .int (bI (hasD (rdD M (tn n) (tn a)) (tn m) 200))), (5, .int (nI (rdV M (tn n) (tn a)))), (0, .ref mq), (1, .int n), (2, .int a), (3, .int m), (4, .int b)]) dM_characters_101 (by decide) rfl ?_
              have lp1 : ∀ (fu2 : Nat) (i : Nat), (i ≤ tn m) → tn m - i < fu2 → GG D X 0 0 103 [(mq, .inr (3, [.ref mm, .ref m1, .ref m2, .ref mo, .ref mr, .int (bI o1), .int (bI o2), .int (bI (rdG M (tn n) (tn a))), .ref mw, .int (bI men)])), (mm, .inl (cI, 256, .inl (nf (chP M (rdD M (tn n) (tn a)) (if ng (rdD M (tn n) (tn a)) (rdG M (tn n) (tn a)) (tn m) = true then 45 else 43) (tn m) (tn b) i)))), (mo, .inl (cI, 200, .inl (nf (mix (tn m) (rdD M (tn n) (tn a)) zf))))] [(0, .ref mq), (3, .int m), (4, .int b), (7, .int (nI (flg (rdD M (tn n) (tn a)) (rdG M (tn n) (tn a)) (tn m)))), (8, .int (nI i))] [] := by
                intro fu2
                induction fu2 with
                | zero => intro i hi hm4; exact absurd hm4 (Nat.not_lt_zero _)
                | succ fu2 ih3 =>
                  intro i hi hm4
                  refine xg_iload hX 4 dM_characters_103 rfl ?_
                  refine xg_iload_n hX 1 dM_characters_105 rfl rfl ?_
                  refine xg_top (nI (tn m)) (cf3 hcf) ?_
                  refine xg_icmp_geN hX 137 (by omega) (by omega) dM_characters_106 (by decide) (fun h106 => ?_) (fun h106 => ?_)
                  ·
                    refine xg_iload hX 3 dM_characters_137 rfl ?_
                    exact hret (nI (flg (rdD M (tn n) (tn a)) (rdG M (tn n) (tn a)) (tn m)), chP M (rdD M (tn n) (tn a)) (if ng (rdD M (tn n) (tn a)) (rdG M (tn n) (tn a)) (tn m) = true then 45 else 43) (tn m) (tn b) i, mix (tn m) (rdD M (tn n) (tn a)) zf, rdG M (tn n) (tn a)) _ _ _ rfl (show ((nI (flg (rdD M (tn n) (tn a)) (rdG M (tn n) (tn a)) (tn m))), (chP M (rdD M (tn n) (tn a)) (if ng (rdD M (tn n) (tn a)) (rdG M (tn n) (tn a)) (tn m) = true then 45 else 43) (tn m) (tn b) i)) = charM M n a m b from (by unfold charM; rw [if_pos hc0, show i = tn m by omega])) dM_characters_139
                  ·
                    refine xg_aload_n hX 0 dM_characters_109 rfl rfl ?_
                    refine xg_get hX (ci := 3) rfl hinM 0 rfl 0 (by decide) mt_324 rfl dM_characters_110 ?_
                    refine xg_iload hX 2 dM_characters_113 rfl ?_
                    refine xg_top (nI (tn b)) (cf4 hcf) ?_
                    refine xg_iload_n hX 1 dM_characters_115 rfl rfl ?_
                    refine xg_top (nI (tn m)) (cf3 hcf) ?_
                    refine xg_iaddN hX dM_characters_116 ?_
                    refine xg_iload hX 4 dM_characters_117 rfl ?_
                    refine xg_isubN hX (by omega) dM_characters_119 ?_
                    refine xg_bipush hX (nI 48) dM_characters_120 (by decide) ?_
                    refine xg_aload_n hX 0 dM_characters_122 rfl rfl ?_
                    refine xg_get hX (ci := 3) rfl hinM 0 rfl 3 (by decide) mt_327 rfl dM_characters_123 ?_
                    refine xg_iload hX 4 dM_characters_126 rfl ?_
                    refine xg_iald hX 2 i rfl (by omega) (by decide) dM_characters_128 ?_
                    refine xg_top (nI ((rdD M (tn n) (tn a)) i)) (by rw [mix_lo h106]) ?_
                    have e9 := hx.1 i
                    refine xg_iaddN hX dM_characters_129 ?_
                    refine xg_iast hX (ws' := [(mq, .inr (3, [.ref mm, .ref m1, .ref m2, .ref mo, .ref mr, .int (bI o1), .int (bI o2), .int (bI (rdG M (tn n) (tn a))), .ref mw, .int (bI men)])), (mm, .inl (cI, 256, .inl (nf (up (chP M (rdD M (tn n) (tn a)) (if ng (rdD M (tn n) (tn a)) (rdG M (tn n) (tn a)) (tn m) = true then 45 else 43) (tn m) (tn b) i) (((tn b) + (tn m)) - i) (48 + ((rdD M (tn n) (tn a)) i)))))), (mo, .inl (cI, 200, .inl (nf (mix (tn m) (rdD M (tn n) (tn a)) zf))))]) 1 (((tn b) + (tn m)) - i) (48 + ((rdD M (tn n) (tn a)) i)) rfl (by omega) (by decide) rfl dM_characters_130 ?_
                    refine xg_iincN hX (lv' := [(8, .int (nI (i + 1))), (0, .ref mq), (3, .int m), (4, .int b), (7, .int (nI (flg (rdD M (tn n) (tn a)) (rdG M (tn n) (tn a)) (tn m))))]) (i + 1) 4 dM_characters_131 rfl (xn_inc _) (by decide) rfl ?_
                    refine xg_goto hX 103 dM_characters_134 (by decide) ?_
                    refine xg_ext hX (g := chP M (rdD M (tn n) (tn a)) (if ng (rdD M (tn n) (tn a)) (rdG M (tn n) (tn a)) (tn m) = true then 45 else 43) (tn m) (tn b) (i + 1)) (ws' := [(mq, .inr (3, [.ref mm, .ref m1, .ref m2, .ref mo, .ref mr, .int (bI o1), .int (bI o2), .int (bI (rdG M (tn n) (tn a))), .ref mw, .int (bI men)])), (mm, .inl (cI, 256, .inl (nf (chP M (rdD M (tn n) (tn a)) (if ng (rdD M (tn n) (tn a)) (rdG M (tn n) (tn a)) (tn m) = true then 45 else 43) (tn m) (tn b) (i + 1))))), (mo, .inl (cI, 200, .inl (nf (mix (tn m) (rdD M (tn n) (tn a)) zf))))]) 1 rfl (fun j hj => chP_s h106 j) rfl ?_
                    refine xg_lv hX (lv' := [(0, .ref mq), (3, .int m), (4, .int b), (7, .int (nI (flg (rdD M (tn n) (tn a)) (rdG M (tn n) (tn a)) (tn m)))), (8, .int (nI (i + 1)))]) [1, 2, 3, 4, 0] rfl ?_
                    exact ih3 (i + 1) (by omega) (by omega)
              refine xg_lv hX (lv' := [(0, .ref mq), (3, .int m), (4, .int b), (7, .int (nI (flg (rdD M (tn n) (tn a)) (rdG M (tn n) (tn a)) (tn m)))), (8, .int (nI 0))]) [4, 7, 8, 1, 0] rfl ?_
              exact lp1 (tn m - 0 + 1) 0 (by omega) (Nat.lt_succ_self _)
            ·
              have hsg : (45 : Nat) = (if ng (rdD M (tn n) (tn a)) (rdG M (tn n) (tn a)) (tn m) = true then 45 else 43) := by cases hq : ng (rdD M (tn n) (tn a)) (rdG M (tn n) (tn a)) (tn m) with | true => rfl | false => rw [hq] at h89; cases h89
              refine xg_bipush hX (nI 45) dM_characters_92 (by decide) ?_
              refine xg_goto hX 99 dM_characters_94 (by decide) ?_
              refine xg_iast hX (ws' := [(mq, .inr (3, [.ref mm, .ref m1, .ref m2, .ref mo, .ref mr, .int (bI o1), .int (bI o2), .int (bI (rdG M (tn n) (tn a))), .ref mw, .int (bI men)])), (mm, .inl (cI, 256, .inl (nf (up M (tn b) 45)))), (mo, .inl (cI, 200, .inl (nf (mix (tn m) (rdD M (tn n) (tn a)) zf))))]) 1 (tn b) 45 rfl (by omega) (by decide) rfl dM_characters_99 ?_
              refine xg_ext hX (g := chP M (rdD M (tn n) (tn a)) (if ng (rdD M (tn n) (tn a)) (rdG M (tn n) (tn a)) (tn m) = true then 45 else 43) (tn m) (tn b) 0) (ws' := [(mq, .inr (3, [.ref mm, .ref m1, .ref m2, .ref mo, .ref mr, .int (bI o1), .int (bI o2), .int (bI (rdG M (tn n) (tn a))), .ref mw, .int (bI men)])), (mm, .inl (cI, 256, .inl (nf (chP M (rdD M (tn n) (tn a)) (if ng (rdD M (tn n) (tn a)) (rdG M (tn n) (tn a)) (tn m) = true then 45 else 43) (tn m) (tn b) 0)))), (mo, .inl (cI, 200, .inl (nf (mix (tn m) (rdD M (tn n) (tn a)) zf))))]) 1 rfl (fun j hj => by rw [← hsg]; exact chP_0 j) rfl ?_
              refine xg_iconst hX (nI 0) dM_characters_100 (by decide) ?_
              refine xg_istore hX (lv' := [(8, .int (nI 0)), (7, .int (nI (flg (rdD M (tn n) (tn a)) (rdG M (tn n) (tn a)) (tn m)))), (6, .int (bI (hasD (rdD M (tn n) (tn a)) (tn m) 200))), (5, .int (nI (rdV M (tn n) (tn a)))), (0, .ref mq), (1, .int n), (2, .int a), (3, .int m), (4, .int b)]) dM_characters_101 (by decide) rfl ?_
              have lp5 : ∀ (fu6 : Nat) (i : Nat), (i ≤ tn m) → tn m - i < fu6 → GG D X 0 0 103 [(mq, .inr (3, [.ref mm, .ref m1, .ref m2, .ref mo, .ref mr, .int (bI o1), .int (bI o2), .int (bI (rdG M (tn n) (tn a))), .ref mw, .int (bI men)])), (mm, .inl (cI, 256, .inl (nf (chP M (rdD M (tn n) (tn a)) (if ng (rdD M (tn n) (tn a)) (rdG M (tn n) (tn a)) (tn m) = true then 45 else 43) (tn m) (tn b) i)))), (mo, .inl (cI, 200, .inl (nf (mix (tn m) (rdD M (tn n) (tn a)) zf))))] [(0, .ref mq), (3, .int m), (4, .int b), (7, .int (nI (flg (rdD M (tn n) (tn a)) (rdG M (tn n) (tn a)) (tn m)))), (8, .int (nI i))] [] := by
                intro fu6
                induction fu6 with
                | zero => intro i hi hm8; exact absurd hm8 (Nat.not_lt_zero _)
                | succ fu6 ih7 =>
                  intro i hi hm8
                  refine xg_iload hX 4 dM_characters_103 rfl ?_
                  refine xg_iload_n hX 1 dM_characters_105 rfl rfl ?_
                  refine xg_top (nI (tn m)) (cf3 hcf) ?_
                  refine xg_icmp_geN hX 137 (by omega) (by omega) dM_characters_106 (by decide) (fun h106 => ?_) (fun h106 => ?_)
                  ·
                    refine xg_iload hX 3 dM_characters_137 rfl ?_
                    exact hret (nI (flg (rdD M (tn n) (tn a)) (rdG M (tn n) (tn a)) (tn m)), chP M (rdD M (tn n) (tn a)) (if ng (rdD M (tn n) (tn a)) (rdG M (tn n) (tn a)) (tn m) = true then 45 else 43) (tn m) (tn b) i, mix (tn m) (rdD M (tn n) (tn a)) zf, rdG M (tn n) (tn a)) _ _ _ rfl (show ((nI (flg (rdD M (tn n) (tn a)) (rdG M (tn n) (tn a)) (tn m))), (chP M (rdD M (tn n) (tn a)) (if ng (rdD M (tn n) (tn a)) (rdG M (tn n) (tn a)) (tn m) = true then 45 else 43) (tn m) (tn b) i)) = charM M n a m b from (by unfold charM; rw [if_pos hc0, show i = tn m by omega])) dM_characters_139
                  ·
                    refine xg_aload_n hX 0 dM_characters_109 rfl rfl ?_
                    refine xg_get hX (ci := 3) rfl hinM 0 rfl 0 (by decide) mt_324 rfl dM_characters_110 ?_
                    refine xg_iload hX 2 dM_characters_113 rfl ?_
                    refine xg_top (nI (tn b)) (cf4 hcf) ?_
                    refine xg_iload_n hX 1 dM_characters_115 rfl rfl ?_
                    refine xg_top (nI (tn m)) (cf3 hcf) ?_
                    refine xg_iaddN hX dM_characters_116 ?_
                    refine xg_iload hX 4 dM_characters_117 rfl ?_
                    refine xg_isubN hX (by omega) dM_characters_119 ?_
                    refine xg_bipush hX (nI 48) dM_characters_120 (by decide) ?_
                    refine xg_aload_n hX 0 dM_characters_122 rfl rfl ?_
                    refine xg_get hX (ci := 3) rfl hinM 0 rfl 3 (by decide) mt_327 rfl dM_characters_123 ?_
                    refine xg_iload hX 4 dM_characters_126 rfl ?_
                    refine xg_iald hX 2 i rfl (by omega) (by decide) dM_characters_128 ?_
                    refine xg_top (nI ((rdD M (tn n) (tn a)) i)) (by rw [mix_lo h106]) ?_
                    have e9 := hx.1 i
                    refine xg_iaddN hX dM_characters_129 ?_
                    refine xg_iast hX (ws' := [(mq, .inr (3, [.ref mm, .ref m1, .ref m2, .ref mo, .ref mr, .int (bI o1), .int (bI o2), .int (bI (rdG M (tn n) (tn a))), .ref mw, .int (bI men)])), (mm, .inl (cI, 256, .inl (nf (up (chP M (rdD M (tn n) (tn a)) (if ng (rdD M (tn n) (tn a)) (rdG M (tn n) (tn a)) (tn m) = true then 45 else 43) (tn m) (tn b) i) (((tn b) + (tn m)) - i) (48 + ((rdD M (tn n) (tn a)) i)))))), (mo, .inl (cI, 200, .inl (nf (mix (tn m) (rdD M (tn n) (tn a)) zf))))]) 1 (((tn b) + (tn m)) - i) (48 + ((rdD M (tn n) (tn a)) i)) rfl (by omega) (by decide) rfl dM_characters_130 ?_
                    refine xg_iincN hX (lv' := [(8, .int (nI (i + 1))), (0, .ref mq), (3, .int m), (4, .int b), (7, .int (nI (flg (rdD M (tn n) (tn a)) (rdG M (tn n) (tn a)) (tn m))))]) (i + 1) 4 dM_characters_131 rfl (xn_inc _) (by decide) rfl ?_
                    refine xg_goto hX 103 dM_characters_134 (by decide) ?_
                    refine xg_ext hX (g := chP M (rdD M (tn n) (tn a)) (if ng (rdD M (tn n) (tn a)) (rdG M (tn n) (tn a)) (tn m) = true then 45 else 43) (tn m) (tn b) (i + 1)) (ws' := [(mq, .inr (3, [.ref mm, .ref m1, .ref m2, .ref mo, .ref mr, .int (bI o1), .int (bI o2), .int (bI (rdG M (tn n) (tn a))), .ref mw, .int (bI men)])), (mm, .inl (cI, 256, .inl (nf (chP M (rdD M (tn n) (tn a)) (if ng (rdD M (tn n) (tn a)) (rdG M (tn n) (tn a)) (tn m) = true then 45 else 43) (tn m) (tn b) (i + 1))))), (mo, .inl (cI, 200, .inl (nf (mix (tn m) (rdD M (tn n) (tn a)) zf))))]) 1 rfl (fun j hj => chP_s h106 j) rfl ?_
                    refine xg_lv hX (lv' := [(0, .ref mq), (3, .int m), (4, .int b), (7, .int (nI (flg (rdD M (tn n) (tn a)) (rdG M (tn n) (tn a)) (tn m)))), (8, .int (nI (i + 1)))]) [1, 2, 3, 4, 0] rfl ?_
                    exact ih7 (i + 1) (by omega) (by omega)
              refine xg_lv hX (lv' := [(0, .ref mq), (3, .int m), (4, .int b), (7, .int (nI (flg (rdD M (tn n) (tn a)) (rdG M (tn n) (tn a)) (tn m)))), (8, .int (nI 0))]) [4, 7, 8, 1, 0] rfl ?_
              exact lp5 (tn m - 0 + 1) 0 (by omega) (Nat.lt_succ_self _)
          ·
            refine xg_iconst hX (nI 1) dM_characters_55 (by decide) ?_
            refine xg_goto hX 60 dM_characters_56 (by decide) ?_
            refine xg_top (bI true) rfl ?_
            refine xg_put hX tyM tyM_ok nmM (ci := 3) rfl hinM (ws' := [(mq, .inr (3, [.ref mm, .ref m1, .ref m2, .ref mo, .ref mr, .int (bI o1), .int (bI o2), .int (bI true), .ref mw, .int (bI men)])), (mm, .inl (cI, 256, .inl (nf M))), (mo, .inl (cI, 200, .inl (nf (rdD M (tn n) (tn a)))))]) 0 rfl 7 (by decide) mt_331 rfl (xn_narB _) (xn_fitB _) (Nat.le_of_ble_eq_true rfl) rfl dM_characters_60 ?_
            refine xg_wsE (ws' := [(mq, .inr (3, [.ref mm, .ref m1, .ref m2, .ref mo, .ref mr, .int (bI o1), .int (bI o2), .int (bI (rdG M (tn n) (tn a))), .ref mw, .int (bI men)])), (mm, .inl (cI, 256, .inl (nf M))), (mo, .inl (cI, 200, .inl (nf (rdD M (tn n) (tn a)))))]) (by rw [← (show (bI true : Int32) = bI (rdG M (tn n) (tn a)) from (by rw [← rdV_2 g1]; first | (rw [decide_eq_true h52]; done) | (rw [decide_eq_false h52]; done)))]) ?_
            refine xg_aload_n hX 1 dM_characters_63 rfl rfl ?_
            refine xg_iload_n hX 4 dM_characters_64 rfl rfl ?_
            refine xg_top (nI (tn m)) (cf3 hcf) ?_
            refine xg_cV hX mq [.int (nI (tn m))] (hM := yc_cuts l D cI mq mm m1 m2 mo mr mw o1 o2 (rdG M (tn n) (tn a)) men (rdD M (tn n) (tn a)) (tn m) (by omega) (fun j => by have := hx.1 j; omega)) (wr := [(mm, .inl (cI, 256, .inl (nf M)))]) (ws' := fun _ => [(mq, .inr (3, [.ref mm, .ref m1, .ref m2, .ref mo, .ref mr, .int (bI o1), .int (bI o2), .int (bI (rdG M (tn n) (tn a))), .ref mw, .int (bI men)])), (mm, .inl (cI, 256, .inl (nf M))), (mo, .inl (cI, 200, .inl (nf (mix (tn m) (rdD M (tn n) (tn a)) zf))))]) (st' := fun _ => [.int (bI (hasD (rdD M (tn n) (tn a)) (tn m) 200))]) [0, 2] [1] [1, 0, 2] [] rfl mt_402 mt_399 mt_4 mt_401 mp_22 0 rfl rfl hdM_cuts (by decide) ⟨rfl, rfl⟩ (by decide) rfl rfl (by decide) rfl (by decide) (by decide) (by decide) (fun u => rfl) (fun u => rfl) (fun u => rfl) rfl rfl (by simp [Value.category]) dM_characters_65 (fun _ _ => ?_)
            refine xg_istore hX (lv' := [(6, .int (bI (hasD (rdD M (tn n) (tn a)) (tn m) 200))), (5, .int (nI (rdV M (tn n) (tn a)))), (0, .ref mq), (1, .int n), (2, .int a), (3, .int m), (4, .int b)]) dM_characters_68 (by decide) rfl ?_
            refine xg_aload_n hX 2 dM_characters_70 rfl rfl ?_
            refine xg_iload hX 0 dM_characters_71 rfl ?_
            refine xg_cV hX mq [.int (bI (hasD (rdD M (tn n) (tn a)) (tn m) 200))] (hM := yc_flags l D cI mq mm m1 m2 mo mr mw o1 o2 (rdG M (tn n) (tn a)) men (mix (tn m) (rdD M (tn n) (tn a)) zf) (hasD (rdD M (tn n) (tn a)) (tn m) 200) (mix_lt hx.1)) (wr := [(mm, .inl (cI, 256, .inl (nf M)))]) (ws' := fun _ => [(mq, .inr (3, [.ref mm, .ref m1, .ref m2, .ref mo, .ref mr, .int (bI o1), .int (bI o2), .int (bI (rdG M (tn n) (tn a))), .ref mw, .int (bI men)])), (mm, .inl (cI, 256, .inl (nf M))), (mo, .inl (cI, 200, .inl (nf (mix (tn m) (rdD M (tn n) (tn a)) zf))))]) (st' := fun _ => [.int (nI (flgM (rdG M (tn n) (tn a)) (!hasD (mix (tn m) (rdD M (tn n) (tn a)) zf) 0 200) (hasD (rdD M (tn n) (tn a)) (tn m) 200)))]) [0, 2] [1] [1, 0, 2] [] rfl mt_406 mt_403 mt_4 mt_405 mp_23 0 rfl rfl hdM_flags (by decide) ⟨rfl, rfl⟩ (by decide) rfl rfl (by decide) rfl (by decide) (by decide) (by decide) (fun u => rfl) (fun u => rfl) (fun u => rfl) rfl rfl (by simp [Value.category]) dM_characters_73 (fun _ _ => ?_)
            refine xg_top (nI (flg (rdD M (tn n) (tn a)) (rdG M (tn n) (tn a)) (tn m))) (by rw [flgM_eq (by omega) (rdD_z (df1 h5))]) ?_
            refine xg_istore hX (lv' := [(7, .int (nI (flg (rdD M (tn n) (tn a)) (rdG M (tn n) (tn a)) (tn m)))), (6, .int (bI (hasD (rdD M (tn n) (tn a)) (tn m) 200))), (5, .int (nI (rdV M (tn n) (tn a)))), (0, .ref mq), (1, .int n), (2, .int a), (3, .int m), (4, .int b)]) dM_characters_76 (by decide) rfl ?_
            refine xg_aload_n hX 3 dM_characters_78 rfl rfl ?_
            refine xg_get hX (ci := 3) rfl hinM 0 rfl 0 (by decide) mt_324 rfl dM_characters_79 ?_
            refine xg_iload hX 7 dM_characters_82 rfl ?_
            refine xg_top (nI (tn b)) (cf4 hcf) ?_
            refine xg_iload hX 0 dM_characters_84 rfl ?_
            refine xg_bipush hX (nI 8) dM_characters_86 (by decide) ?_
            refine xg_iand hX dM_characters_88 ?_
            refine xg_top (nI (if ng (rdD M (tn n) (tn a)) (rdG M (tn n) (tn a)) (tn m) = true then 8 else 0)) (xn_f8 _ _ _) ?_
            refine xg_if_eqN hX 97 (by split <;> decide) dM_characters_89 (by decide) (fun h89 => ?_) (fun h89 => ?_)
            ·
              have hsg : (43 : Nat) = (if ng (rdD M (tn n) (tn a)) (rdG M (tn n) (tn a)) (tn m) = true then 45 else 43) := by cases hq : ng (rdD M (tn n) (tn a)) (rdG M (tn n) (tn a)) (tn m) with | false => rfl | true => rw [hq] at h89; cases h89
              refine xg_bipush hX (nI 43) dM_characters_97 (by decide) ?_
              refine xg_iast hX (ws' := [(mq, .inr (3, [.ref mm, .ref m1, .ref m2, .ref mo, .ref mr, .int (bI o1), .int (bI o2), .int (bI (rdG M (tn n) (tn a))), .ref mw, .int (bI men)])), (mm, .inl (cI, 256, .inl (nf (up M (tn b) 43)))), (mo, .inl (cI, 200, .inl (nf (mix (tn m) (rdD M (tn n) (tn a)) zf))))]) 1 (tn b) 43 rfl (by omega) (by decide) rfl dM_characters_99 ?_
              refine xg_ext hX (g := chP M (rdD M (tn n) (tn a)) (if ng (rdD M (tn n) (tn a)) (rdG M (tn n) (tn a)) (tn m) = true then 45 else 43) (tn m) (tn b) 0) (ws' := [(mq, .inr (3, [.ref mm, .ref m1, .ref m2, .ref mo, .ref mr, .int (bI o1), .int (bI o2), .int (bI (rdG M (tn n) (tn a))), .ref mw, .int (bI men)])), (mm, .inl (cI, 256, .inl (nf (chP M (rdD M (tn n) (tn a)) (if ng (rdD M (tn n) (tn a)) (rdG M (tn n) (tn a)) (tn m) = true then 45 else 43) (tn m) (tn b) 0)))), (mo, .inl (cI, 200, .inl (nf (mix (tn m) (rdD M (tn n) (tn a)) zf))))]) 1 rfl (fun j hj => by rw [← hsg]; exact chP_0 j) rfl ?_
              refine xg_iconst hX (nI 0) dM_characters_100 (by decide) ?_
              refine xg_istore hX (lv' := [(8, .int (nI 0)), (7, .int (nI (flg (rdD M (tn n) (tn a)) (rdG M (tn n) (tn a)) (tn m)))), (6, .int (bI (hasD (rdD M (tn n) (tn a)) (tn m) 200))), (5, .int (nI (rdV M (tn n) (tn a)))), (0, .ref mq), (1, .int n), (2, .int a), (3, .int m), (4, .int b)]) dM_characters_101 (by decide) rfl ?_
              have lp9 : ∀ (fu10 : Nat) (i : Nat), (i ≤ tn m) → tn m - i < fu10 → GG D X 0 0 103 [(mq, .inr (3, [.ref mm, .ref m1, .ref m2, .ref mo, .ref mr, .int (bI o1), .int (bI o2), .int (bI (rdG M (tn n) (tn a))), .ref mw, .int (bI men)])), (mm, .inl (cI, 256, .inl (nf (chP M (rdD M (tn n) (tn a)) (if ng (rdD M (tn n) (tn a)) (rdG M (tn n) (tn a)) (tn m) = true then 45 else 43) (tn m) (tn b) i)))), (mo, .inl (cI, 200, .inl (nf (mix (tn m) (rdD M (tn n) (tn a)) zf))))] [(0, .ref mq), (3, .int m), (4, .int b), (7, .int (nI (flg (rdD M (tn n) (tn a)) (rdG M (tn n) (tn a)) (tn m)))), (8, .int (nI i))] [] := by
                intro fu10
                induction fu10 with
                | zero => intro i hi hm12; exact absurd hm12 (Nat.not_lt_zero _)
                | succ fu10 ih11 =>
                  intro i hi hm12
                  refine xg_iload hX 4 dM_characters_103 rfl ?_
                  refine xg_iload_n hX 1 dM_characters_105 rfl rfl ?_
                  refine xg_top (nI (tn m)) (cf3 hcf) ?_
                  refine xg_icmp_geN hX 137 (by omega) (by omega) dM_characters_106 (by decide) (fun h106 => ?_) (fun h106 => ?_)
                  ·
                    refine xg_iload hX 3 dM_characters_137 rfl ?_
                    exact hret (nI (flg (rdD M (tn n) (tn a)) (rdG M (tn n) (tn a)) (tn m)), chP M (rdD M (tn n) (tn a)) (if ng (rdD M (tn n) (tn a)) (rdG M (tn n) (tn a)) (tn m) = true then 45 else 43) (tn m) (tn b) i, mix (tn m) (rdD M (tn n) (tn a)) zf, rdG M (tn n) (tn a)) _ _ _ rfl (show ((nI (flg (rdD M (tn n) (tn a)) (rdG M (tn n) (tn a)) (tn m))), (chP M (rdD M (tn n) (tn a)) (if ng (rdD M (tn n) (tn a)) (rdG M (tn n) (tn a)) (tn m) = true then 45 else 43) (tn m) (tn b) i)) = charM M n a m b from (by unfold charM; rw [if_pos hc0, show i = tn m by omega])) dM_characters_139
                  ·
                    refine xg_aload_n hX 0 dM_characters_109 rfl rfl ?_
                    refine xg_get hX (ci := 3) rfl hinM 0 rfl 0 (by decide) mt_324 rfl dM_characters_110 ?_
                    refine xg_iload hX 2 dM_characters_113 rfl ?_
                    refine xg_top (nI (tn b)) (cf4 hcf) ?_
                    refine xg_iload_n hX 1 dM_characters_115 rfl rfl ?_
                    refine xg_top (nI (tn m)) (cf3 hcf) ?_
                    refine xg_iaddN hX dM_characters_116 ?_
                    refine xg_iload hX 4 dM_characters_117 rfl ?_
                    refine xg_isubN hX (by omega) dM_characters_119 ?_
                    refine xg_bipush hX (nI 48) dM_characters_120 (by decide) ?_
                    refine xg_aload_n hX 0 dM_characters_122 rfl rfl ?_
                    refine xg_get hX (ci := 3) rfl hinM 0 rfl 3 (by decide) mt_327 rfl dM_characters_123 ?_
                    refine xg_iload hX 4 dM_characters_126 rfl ?_
                    refine xg_iald hX 2 i rfl (by omega) (by decide) dM_characters_128 ?_
                    refine xg_top (nI ((rdD M (tn n) (tn a)) i)) (by rw [mix_lo h106]) ?_
                    have e9 := hx.1 i
                    refine xg_iaddN hX dM_characters_129 ?_
                    refine xg_iast hX (ws' := [(mq, .inr (3, [.ref mm, .ref m1, .ref m2, .ref mo, .ref mr, .int (bI o1), .int (bI o2), .int (bI (rdG M (tn n) (tn a))), .ref mw, .int (bI men)])), (mm, .inl (cI, 256, .inl (nf (up (chP M (rdD M (tn n) (tn a)) (if ng (rdD M (tn n) (tn a)) (rdG M (tn n) (tn a)) (tn m) = true then 45 else 43) (tn m) (tn b) i) (((tn b) + (tn m)) - i) (48 + ((rdD M (tn n) (tn a)) i)))))), (mo, .inl (cI, 200, .inl (nf (mix (tn m) (rdD M (tn n) (tn a)) zf))))]) 1 (((tn b) + (tn m)) - i) (48 + ((rdD M (tn n) (tn a)) i)) rfl (by omega) (by decide) rfl dM_characters_130 ?_
                    refine xg_iincN hX (lv' := [(8, .int (nI (i + 1))), (0, .ref mq), (3, .int m), (4, .int b), (7, .int (nI (flg (rdD M (tn n) (tn a)) (rdG M (tn n) (tn a)) (tn m))))]) (i + 1) 4 dM_characters_131 rfl (xn_inc _) (by decide) rfl ?_
                    refine xg_goto hX 103 dM_characters_134 (by decide) ?_
                    refine xg_ext hX (g := chP M (rdD M (tn n) (tn a)) (if ng (rdD M (tn n) (tn a)) (rdG M (tn n) (tn a)) (tn m) = true then 45 else 43) (tn m) (tn b) (i + 1)) (ws' := [(mq, .inr (3, [.ref mm, .ref m1, .ref m2, .ref mo, .ref mr, .int (bI o1), .int (bI o2), .int (bI (rdG M (tn n) (tn a))), .ref mw, .int (bI men)])), (mm, .inl (cI, 256, .inl (nf (chP M (rdD M (tn n) (tn a)) (if ng (rdD M (tn n) (tn a)) (rdG M (tn n) (tn a)) (tn m) = true then 45 else 43) (tn m) (tn b) (i + 1))))), (mo, .inl (cI, 200, .inl (nf (mix (tn m) (rdD M (tn n) (tn a)) zf))))]) 1 rfl (fun j hj => chP_s h106 j) rfl ?_
                    refine xg_lv hX (lv' := [(0, .ref mq), (3, .int m), (4, .int b), (7, .int (nI (flg (rdD M (tn n) (tn a)) (rdG M (tn n) (tn a)) (tn m)))), (8, .int (nI (i + 1)))]) [1, 2, 3, 4, 0] rfl ?_
                    exact ih11 (i + 1) (by omega) (by omega)
              refine xg_lv hX (lv' := [(0, .ref mq), (3, .int m), (4, .int b), (7, .int (nI (flg (rdD M (tn n) (tn a)) (rdG M (tn n) (tn a)) (tn m)))), (8, .int (nI 0))]) [4, 7, 8, 1, 0] rfl ?_
              exact lp9 (tn m - 0 + 1) 0 (by omega) (Nat.lt_succ_self _)
            ·
              have hsg : (45 : Nat) = (if ng (rdD M (tn n) (tn a)) (rdG M (tn n) (tn a)) (tn m) = true then 45 else 43) := by cases hq : ng (rdD M (tn n) (tn a)) (rdG M (tn n) (tn a)) (tn m) with | true => rfl | false => rw [hq] at h89; cases h89
              refine xg_bipush hX (nI 45) dM_characters_92 (by decide) ?_
              refine xg_goto hX 99 dM_characters_94 (by decide) ?_
              refine xg_iast hX (ws' := [(mq, .inr (3, [.ref mm, .ref m1, .ref m2, .ref mo, .ref mr, .int (bI o1), .int (bI o2), .int (bI (rdG M (tn n) (tn a))), .ref mw, .int (bI men)])), (mm, .inl (cI, 256, .inl (nf (up M (tn b) 45)))), (mo, .inl (cI, 200, .inl (nf (mix (tn m) (rdD M (tn n) (tn a)) zf))))]) 1 (tn b) 45 rfl (by omega) (by decide) rfl dM_characters_99 ?_
              refine xg_ext hX (g := chP M (rdD M (tn n) (tn a)) (if ng (rdD M (tn n) (tn a)) (rdG M (tn n) (tn a)) (tn m) = true then 45 else 43) (tn m) (tn b) 0) (ws' := [(mq, .inr (3, [.ref mm, .ref m1, .ref m2, .ref mo, .ref mr, .int (bI o1), .int (bI o2), .int (bI (rdG M (tn n) (tn a))), .ref mw, .int (bI men)])), (mm, .inl (cI, 256, .inl (nf (chP M (rdD M (tn n) (tn a)) (if ng (rdD M (tn n) (tn a)) (rdG M (tn n) (tn a)) (tn m) = true then 45 else 43) (tn m) (tn b) 0)))), (mo, .inl (cI, 200, .inl (nf (mix (tn m) (rdD M (tn n) (tn a)) zf))))]) 1 rfl (fun j hj => by rw [← hsg]; exact chP_0 j) rfl ?_
              refine xg_iconst hX (nI 0) dM_characters_100 (by decide) ?_
              refine xg_istore hX (lv' := [(8, .int (nI 0)), (7, .int (nI (flg (rdD M (tn n) (tn a)) (rdG M (tn n) (tn a)) (tn m)))), (6, .int (bI (hasD (rdD M (tn n) (tn a)) (tn m) 200))), (5, .int (nI (rdV M (tn n) (tn a)))), (0, .ref mq), (1, .int n), (2, .int a), (3, .int m), (4, .int b)]) dM_characters_101 (by decide) rfl ?_
              have lp13 : ∀ (fu14 : Nat) (i : Nat), (i ≤ tn m) → tn m - i < fu14 → GG D X 0 0 103 [(mq, .inr (3, [.ref mm, .ref m1, .ref m2, .ref mo, .ref mr, .int (bI o1), .int (bI o2), .int (bI (rdG M (tn n) (tn a))), .ref mw, .int (bI men)])), (mm, .inl (cI, 256, .inl (nf (chP M (rdD M (tn n) (tn a)) (if ng (rdD M (tn n) (tn a)) (rdG M (tn n) (tn a)) (tn m) = true then 45 else 43) (tn m) (tn b) i)))), (mo, .inl (cI, 200, .inl (nf (mix (tn m) (rdD M (tn n) (tn a)) zf))))] [(0, .ref mq), (3, .int m), (4, .int b), (7, .int (nI (flg (rdD M (tn n) (tn a)) (rdG M (tn n) (tn a)) (tn m)))), (8, .int (nI i))] [] := by
                intro fu14
                induction fu14 with
                | zero => intro i hi hm16; exact absurd hm16 (Nat.not_lt_zero _)
                | succ fu14 ih15 =>
                  intro i hi hm16
                  refine xg_iload hX 4 dM_characters_103 rfl ?_
                  refine xg_iload_n hX 1 dM_characters_105 rfl rfl ?_
                  refine xg_top (nI (tn m)) (cf3 hcf) ?_
                  refine xg_icmp_geN hX 137 (by omega) (by omega) dM_characters_106 (by decide) (fun h106 => ?_) (fun h106 => ?_)
                  ·
                    refine xg_iload hX 3 dM_characters_137 rfl ?_
                    exact hret (nI (flg (rdD M (tn n) (tn a)) (rdG M (tn n) (tn a)) (tn m)), chP M (rdD M (tn n) (tn a)) (if ng (rdD M (tn n) (tn a)) (rdG M (tn n) (tn a)) (tn m) = true then 45 else 43) (tn m) (tn b) i, mix (tn m) (rdD M (tn n) (tn a)) zf, rdG M (tn n) (tn a)) _ _ _ rfl (show ((nI (flg (rdD M (tn n) (tn a)) (rdG M (tn n) (tn a)) (tn m))), (chP M (rdD M (tn n) (tn a)) (if ng (rdD M (tn n) (tn a)) (rdG M (tn n) (tn a)) (tn m) = true then 45 else 43) (tn m) (tn b) i)) = charM M n a m b from (by unfold charM; rw [if_pos hc0, show i = tn m by omega])) dM_characters_139
                  ·
                    refine xg_aload_n hX 0 dM_characters_109 rfl rfl ?_
                    refine xg_get hX (ci := 3) rfl hinM 0 rfl 0 (by decide) mt_324 rfl dM_characters_110 ?_
                    refine xg_iload hX 2 dM_characters_113 rfl ?_
                    refine xg_top (nI (tn b)) (cf4 hcf) ?_
                    refine xg_iload_n hX 1 dM_characters_115 rfl rfl ?_
                    refine xg_top (nI (tn m)) (cf3 hcf) ?_
                    refine xg_iaddN hX dM_characters_116 ?_
                    refine xg_iload hX 4 dM_characters_117 rfl ?_
                    refine xg_isubN hX (by omega) dM_characters_119 ?_
                    refine xg_bipush hX (nI 48) dM_characters_120 (by decide) ?_
                    refine xg_aload_n hX 0 dM_characters_122 rfl rfl ?_
                    refine xg_get hX (ci := 3) rfl hinM 0 rfl 3 (by decide) mt_327 rfl dM_characters_123 ?_
                    refine xg_iload hX 4 dM_characters_126 rfl ?_
                    refine xg_iald hX 2 i rfl (by omega) (by decide) dM_characters_128 ?_
                    refine xg_top (nI ((rdD M (tn n) (tn a)) i)) (by rw [mix_lo h106]) ?_
                    have e9 := hx.1 i
                    refine xg_iaddN hX dM_characters_129 ?_
                    refine xg_iast hX (ws' := [(mq, .inr (3, [.ref mm, .ref m1, .ref m2, .ref mo, .ref mr, .int (bI o1), .int (bI o2), .int (bI (rdG M (tn n) (tn a))), .ref mw, .int (bI men)])), (mm, .inl (cI, 256, .inl (nf (up (chP M (rdD M (tn n) (tn a)) (if ng (rdD M (tn n) (tn a)) (rdG M (tn n) (tn a)) (tn m) = true then 45 else 43) (tn m) (tn b) i) (((tn b) + (tn m)) - i) (48 + ((rdD M (tn n) (tn a)) i)))))), (mo, .inl (cI, 200, .inl (nf (mix (tn m) (rdD M (tn n) (tn a)) zf))))]) 1 (((tn b) + (tn m)) - i) (48 + ((rdD M (tn n) (tn a)) i)) rfl (by omega) (by decide) rfl dM_characters_130 ?_
                    refine xg_iincN hX (lv' := [(8, .int (nI (i + 1))), (0, .ref mq), (3, .int m), (4, .int b), (7, .int (nI (flg (rdD M (tn n) (tn a)) (rdG M (tn n) (tn a)) (tn m))))]) (i + 1) 4 dM_characters_131 rfl (xn_inc _) (by decide) rfl ?_
                    refine xg_goto hX 103 dM_characters_134 (by decide) ?_
                    refine xg_ext hX (g := chP M (rdD M (tn n) (tn a)) (if ng (rdD M (tn n) (tn a)) (rdG M (tn n) (tn a)) (tn m) = true then 45 else 43) (tn m) (tn b) (i + 1)) (ws' := [(mq, .inr (3, [.ref mm, .ref m1, .ref m2, .ref mo, .ref mr, .int (bI o1), .int (bI o2), .int (bI (rdG M (tn n) (tn a))), .ref mw, .int (bI men)])), (mm, .inl (cI, 256, .inl (nf (chP M (rdD M (tn n) (tn a)) (if ng (rdD M (tn n) (tn a)) (rdG M (tn n) (tn a)) (tn m) = true then 45 else 43) (tn m) (tn b) (i + 1))))), (mo, .inl (cI, 200, .inl (nf (mix (tn m) (rdD M (tn n) (tn a)) zf))))]) 1 rfl (fun j hj => chP_s h106 j) rfl ?_
                    refine xg_lv hX (lv' := [(0, .ref mq), (3, .int m), (4, .int b), (7, .int (nI (flg (rdD M (tn n) (tn a)) (rdG M (tn n) (tn a)) (tn m)))), (8, .int (nI (i + 1)))]) [1, 2, 3, 4, 0] rfl ?_
                    exact ih15 (i + 1) (by omega) (by omega)
              refine xg_lv hX (lv' := [(0, .ref mq), (3, .int m), (4, .int b), (7, .int (nI (flg (rdD M (tn n) (tn a)) (rdG M (tn n) (tn a)) (tn m)))), (8, .int (nI 0))]) [4, 7, 8, 1, 0] rfl ?_
              exact lp13 (tn m - 0 + 1) 0 (by omega) (Nat.lt_succ_self _)
        ·
          refine xg_bipush hX ((-2)) dM_characters_45 (by decide) ?_
          exact hret ((-2), M, rdD M (tn n) (tn a), oo) _ _ _ rfl (show ((-2), M) = charM M n a m b from (by have hz : chO M n a m b = -2 := (by unfold chO; rw [if_pos (by rw [h5, cf_mk h12 h23] <;> rfl), if_neg (fun q => absurd ((rdV_0 h42).symm.trans q) (by decide))]); rw [charM, hz]; exact (if_neg (by decide)).symm)) dM_characters_47
      ·
        refine xg_iconst hX ((-1)) dM_characters_26 (by decide) ?_
        exact hret ((-1), M, xo, oo) _ _ _ rfl (show ((-1), M) = charM M n a m b from (by have hz : chO M n a m b = -1 := (by unfold chO; by_cases q9 : (dfits n a && cfits m b) = true; (simp only [Bool.and_eq_true] at q9; first | exact absurd (h5.symm.trans q9.1) (by decide) | exact absurd ((cf_n1 h12).symm.trans q9.2) (by decide) | exact absurd ((cf_n2 h12 h23).symm.trans q9.2) (by decide)); (rw [if_neg q9])); rw [charM, hz]; exact (if_neg (by decide)).symm)) dM_characters_27
set_option maxHeartbeats 4000000 in
set_option maxRecDepth 100000 in
theorem yc_digits (l : Launch) (D : va_G) (cI : ClassId) (mq : Nat) (mm : Nat) (m1 : Nat) (m2 : Nat) (mo : Nat) (mr : Nat) (mw : Nat) (o1 : Bool) (o2 : Bool) (oo : Bool) (men : Bool) (M : Nat → Nat) (xo : Nat → Nat) (n : Int32) (a : Int32) (m : Int32) (b : Int32) (hM : ∀ j, M j < 256) : Ctr l D cI yM_digits cM_digits 9 (some .int) { frames := 3, cells := 0, slots := 0, locals := 70 } [.ref mq, .int n, .int a, .int m, .int b] [(mq, .inr (3, [.ref mm, .ref m1, .ref m2, .ref mo, .ref mr, .int (bI o1), .int (bI o2), .int (bI oo), .ref mw, .int (bI men)])), (mm, .inl (cI, 256, .inl (nf M))), (mo, .inl (cI, 200, .inl (nf xo)))] (fun u : Int32 × (Nat → Nat) × (Nat → Nat) × Bool => match u with | (r, M2, yo, qo) => some (.int r)) (fun u : Int32 × (Nat → Nat) × (Nat → Nat) × Bool => match u with | (r, M2, yo, qo) => (r, M2) = digM M n a m b) (fun u : Int32 × (Nat → Nat) × (Nat → Nat) × Bool => match u with | (r, M2, yo, qo) => [(mq, .inr (3, [.ref mm, .ref m1, .ref m2, .ref mo, .ref mr, .int (bI o1), .int (bI o2), .int (bI qo), .ref mw, .int (bI men)])), (mm, .inl (cI, 256, .inl (nf M2))), (mo, .inl (cI, 200, .inl (nf yo)))]) 0 0 := by
  refine xc_mkI (by decide +kernel) (Nat.le_of_ble_eq_true rfl) (fun X hX hret => ?_)
  show GG D X 0 0 0 [(mq, .inr (3, [.ref mm, .ref m1, .ref m2, .ref mo, .ref mr, .int (bI o1), .int (bI o2), .int (bI oo), .ref mw, .int (bI men)])), (mm, .inl (cI, 256, .inl (nf M))), (mo, .inl (cI, 200, .inl (nf xo)))] [(0, .ref mq), (1, .int n), (2, .int a), (3, .int m), (4, .int b)] []
  refine xg_iload_n hX 1 dM_digits_0 rfl rfl ?_
  refine xg_cS hX [.int n] (hM := yc_isCount l D cI n) (wr := [(mq, .inr (3, [.ref mm, .ref m1, .ref m2, .ref mo, .ref mr, .int (bI o1), .int (bI o2), .int (bI oo), .ref mw, .int (bI men)])), (mm, .inl (cI, 256, .inl (nf M))), (mo, .inl (cI, 200, .inl (nf xo)))]) (ws' := fun _ => [(mq, .inr (3, [.ref mm, .ref m1, .ref m2, .ref mo, .ref mr, .int (bI o1), .int (bI o2), .int (bI oo), .ref mw, .int (bI men)])), (mm, .inl (cI, 256, .inl (nf M))), (mo, .inl (cI, 200, .inl (nf xo)))]) (st' := fun _ => [.int (bI (icnt n))]) [] [0, 1, 2] [0, 1, 2] [] rfl mt_376 mt_374 mt_4 mt_375 hdM_isCount (by decide) ⟨rfl, rfl⟩ (by decide) rfl rfl (by decide) rfl (by decide) (by decide) (by decide) (fun u => rfl) (fun u => rfl) (fun u => rfl) rfl rfl (by simp [Value.category]) dM_digits_1 (fun _ _ => ?_)
  refine xg_if_eqB hX 26 dM_digits_4 (by decide) (fun h4 => ?_) (fun h4 => ?_)
  ·
    refine xg_iconst hX ((-1)) dM_digits_26 (by decide) ?_
    exact hret ((-1), M, xo, oo) _ _ _ rfl (show ((-1), M) = digM M n a m b from (by have hz : (if (cfits n a && dfits m b) = true then (if chb M (tn n) (tn a) = true then 0 else -2) else -1 : Int32) = -1 := (by by_cases q9 : (cfits n a && dfits m b) = true; (simp only [Bool.and_eq_true] at q9; first | exact absurd ((cf_n1 h4).symm.trans q9.1) (by decide) | exact absurd ((cf_n2 h4 h14).symm.trans q9.1) (by decide) | exact absurd (h23.symm.trans q9.2) (by decide)); (rw [if_neg q9])); rw [digM, hz]; exact (arZ_no (by decide)).symm)) dM_digits_27
  ·
    refine xg_iload_n hX 2 dM_digits_7 rfl rfl ?_
    refine xg_iload_n hX 1 dM_digits_8 rfl rfl ?_
    refine xg_top (nI (tn n)) (xn_tn (ic_sp h4).1) ?_
    refine xg_iconst hX (nI 1) dM_digits_9 (by decide) ?_
    refine xg_iaddN hX dM_digits_10 ?_
    refine xg_cS hX [.int a, .int (nI ((tn n) + 1))] (hM := yc_are l D cI a ((tn n) + 1) (by have := tn_le (c := 31) (ic_sp h4).2; omega)) (wr := [(mq, .inr (3, [.ref mm, .ref m1, .ref m2, .ref mo, .ref mr, .int (bI o1), .int (bI o2), .int (bI oo), .ref mw, .int (bI men)])), (mm, .inl (cI, 256, .inl (nf M))), (mo, .inl (cI, 200, .inl (nf xo)))]) (ws' := fun _ => [(mq, .inr (3, [.ref mm, .ref m1, .ref m2, .ref mo, .ref mr, .int (bI o1), .int (bI o2), .int (bI oo), .ref mw, .int (bI men)])), (mm, .inl (cI, 256, .inl (nf M))), (mo, .inl (cI, 200, .inl (nf xo)))]) (st' := fun _ => [.int (bI (arB a ((tn n) + 1)))]) [] [0, 1, 2] [0, 1, 2] [] rfl mt_379 mt_377 mt_4 mt_378 hdM_are (by decide) ⟨rfl, rfl⟩ (by decide) rfl rfl (by decide) rfl (by decide) (by decide) (by decide) (fun u => rfl) (fun u => rfl) (fun u => rfl) rfl rfl (by simp [Value.category]) dM_digits_11 (fun _ _ => ?_)
    refine xg_if_eqB hX 26 dM_digits_14 (by decide) (fun h14 => ?_) (fun h14 => ?_)
    ·
      refine xg_iconst hX ((-1)) dM_digits_26 (by decide) ?_
      exact hret ((-1), M, xo, oo) _ _ _ rfl (show ((-1), M) = digM M n a m b from (by have hz : (if (cfits n a && dfits m b) = true then (if chb M (tn n) (tn a) = true then 0 else -2) else -1 : Int32) = -1 := (by by_cases q9 : (cfits n a && dfits m b) = true; (simp only [Bool.and_eq_true] at q9; first | exact absurd ((cf_n1 h4).symm.trans q9.1) (by decide) | exact absurd ((cf_n2 h4 h14).symm.trans q9.1) (by decide) | exact absurd (h23.symm.trans q9.2) (by decide)); (rw [if_neg q9])); rw [digM, hz]; exact (arZ_no (by decide)).symm)) dM_digits_27
    ·
      refine xg_iload_n hX 3 dM_digits_17 rfl rfl ?_
      refine xg_iload hX 4 dM_digits_18 rfl ?_
      refine xg_cS hX [.int m, .int b] (hM := yc_isThere l D cI m b) (wr := [(mq, .inr (3, [.ref mm, .ref m1, .ref m2, .ref mo, .ref mr, .int (bI o1), .int (bI o2), .int (bI oo), .ref mw, .int (bI men)])), (mm, .inl (cI, 256, .inl (nf M))), (mo, .inl (cI, 200, .inl (nf xo)))]) (ws' := fun _ => [(mq, .inr (3, [.ref mm, .ref m1, .ref m2, .ref mo, .ref mr, .int (bI o1), .int (bI o2), .int (bI oo), .ref mw, .int (bI men)])), (mm, .inl (cI, 256, .inl (nf M))), (mo, .inl (cI, 200, .inl (nf xo)))]) (st' := fun _ => [.int (bI (dfits m b))]) [] [0, 1, 2] [0, 1, 2] [] rfl mt_373 mt_371 mt_4 mt_372 hdM_isThere (by decide) ⟨rfl, rfl⟩ (by decide) rfl rfl (by decide) rfl (by decide) (by decide) (by decide) (fun u => rfl) (fun u => rfl) (fun u => rfl) rfl rfl (by simp [Value.category]) dM_digits_20 (fun _ _ => ?_)
      refine xg_if_neB hX 28 dM_digits_23 (by decide) (fun h23 => ?_) (fun h23 => ?_)
      ·
        have hcf := cf_mk h4 h14
        have q1 := cf1 hcf
        have q2 := cf2 hcf
        refine xg_aload_n hX 0 dM_digits_28 rfl rfl ?_
        refine xg_get hX (ci := 3) rfl hinM 0 rfl 0 (by decide) mt_324 rfl dM_digits_29 ?_
        refine xg_iload_n hX 2 dM_digits_32 rfl rfl ?_
        refine xg_top (nI (tn a)) (cf4 hcf) ?_
        refine xg_iald hX 1 (tn a) rfl (by omega) (by decide) dM_digits_33 ?_
        have e0 := hM (tn a)
        refine xg_istore hX (lv' := [(5, .int (nI (M (tn a)))), (0, .ref mq), (1, .int n), (2, .int a), (3, .int m), (4, .int b)]) dM_digits_34 (by decide) rfl ?_
        have jn1 : GG D X 0 0 62 [(mq, .inr (3, [.ref mm, .ref m1, .ref m2, .ref mo, .ref mr, .int (bI o1), .int (bI o2), .int (bI oo), .ref mw, .int (bI men)])), (mm, .inl (cI, 256, .inl (nf M))), (mo, .inl (cI, 200, .inl (nf xo)))] [(0, .ref mq), (1, .int n), (2, .int a), (3, .int m), (4, .int b), (5, .int (nI (M (tn a))))] [.int (bI (chQ M (tn n) (tn a) 0))] := by
          refine xg_istore hX (lv' := [(6, .int (bI (chQ M (tn n) (tn a) 0))), (0, .ref mq), (1, .int n), (2, .int a), (3, .int m), (4, .int b), (5, .int (nI (M (tn a))))]) dM_digits_62 (by decide) rfl ?_
          refine xg_iconst hX (nI 0) dM_digits_64 (by decide) ?_
          refine xg_istore hX (lv' := [(7, .int (nI 0)), (6, .int (bI (chQ M (tn n) (tn a) 0))), (0, .ref mq), (1, .int n), (2, .int a), (3, .int m), (4, .int b), (5, .int (nI (M (tn a))))]) dM_digits_65 (by decide) rfl ?_
          have lp2 : ∀ (fu3 : Nat) (i : Nat) (gd : Bool) (f : Nat → Nat), (i ≤ 200) → (gd = chQ M (tn n) (tn a) i) → (gd = true → ∀ j, j < i → f j = chD M (tn n) (tn a) j) → 200 - i < fu3 → GG D X 0 0 67 [(mq, .inr (3, [.ref mm, .ref m1, .ref m2, .ref mo, .ref mr, .int (bI o1), .int (bI o2), .int (bI oo), .ref mw, .int (bI men)])), (mm, .inl (cI, 256, .inl (nf M))), (mo, .inl (cI, 200, .inl (nf f)))] [(0, .ref mq), (1, .int n), (2, .int a), (3, .int m), (4, .int b), (5, .int (nI (M (tn a)))), (6, .int (bI gd)), (7, .int (nI i))] [] := by
            intro fu3
            induction fu3 with
            | zero => intro i gd f hi hgd hf hm5; exact absurd hm5 (Nat.not_lt_zero _)
            | succ fu3 ih4 =>
              intro i gd f hi hgd hf hm5
              refine xg_iload hX 7 dM_digits_67 rfl ?_
              refine xg_sipush hX (nI 200) dM_digits_69 (by decide) ?_
              refine xg_icmp_geN hX 143 (by omega) (by omega) dM_digits_72 (by decide) (fun h72 => ?_) (fun h72 => ?_)
              ·
                refine xg_iload hX 6 dM_digits_143 rfl ?_
                refine xg_if_neB hX 151 dM_digits_145 (by decide) (fun h145 => ?_) (fun h145 => ?_)
                ·
                  have g1 : chb M (tn n) (tn a) = true := by rw [← chQ_n (show tn n ≤ i by omega), ← hgd]; exact h145
                  refine xg_ext hX (g := chD M (tn n) (tn a)) (ws' := [(mq, .inr (3, [.ref mm, .ref m1, .ref m2, .ref mo, .ref mr, .int (bI o1), .int (bI o2), .int (bI oo), .ref mw, .int (bI men)])), (mm, .inl (cI, 256, .inl (nf M))), (mo, .inl (cI, 200, .inl (nf (chD M (tn n) (tn a)))))]) 2 rfl (fun j hj => hf h145 j (by omega)) rfl ?_
                  refine xg_aload_n hX 0 dM_digits_151 rfl rfl ?_
                  refine xg_iload hX 5 dM_digits_152 rfl ?_
                  refine xg_bipush hX (nI 45) dM_digits_154 (by decide) ?_
                  refine xg_icmp_neN hX 163 (by omega) (by omega) dM_digits_156 (by decide) (fun h156 => ?_) (fun h156 => ?_)
                  ·
                    refine xg_iconst hX (nI 0) dM_digits_163 (by decide) ?_
                    refine xg_top (bI false) rfl ?_
                    refine xg_put hX tyM tyM_ok nmM (ci := 3) rfl hinM (ws' := [(mq, .inr (3, [.ref mm, .ref m1, .ref m2, .ref mo, .ref mr, .int (bI o1), .int (bI o2), .int (bI false), .ref mw, .int (bI men)])), (mm, .inl (cI, 256, .inl (nf M))), (mo, .inl (cI, 200, .inl (nf (chD M (tn n) (tn a)))))]) 0 rfl 7 (by decide) mt_331 rfl (xn_narB _) (xn_fitB _) (Nat.le_of_ble_eq_true rfl) rfl dM_digits_164 ?_
                    refine xg_wsE (ws' := [(mq, .inr (3, [.ref mm, .ref m1, .ref m2, .ref mo, .ref mr, .int (bI o1), .int (bI o2), .int (bI (decide (M (tn a) = 45))), .ref mw, .int (bI men)])), (mm, .inl (cI, 256, .inl (nf M))), (mo, .inl (cI, 200, .inl (nf (chD M (tn n) (tn a)))))]) (by rw [← (show (bI false : Int32) = bI (decide (M (tn a) = 45)) from (by first | (rw [decide_eq_true h156]; done) | (rw [decide_eq_false h156]; done)))]) ?_
                    refine xg_aload_n hX 0 dM_digits_167 rfl rfl ?_
                    refine xg_iload_n hX 3 dM_digits_168 rfl rfl ?_
                    refine xg_top (nI (tn m)) (df3 h23) ?_
                    refine xg_iload hX 4 dM_digits_169 rfl ?_
                    refine xg_top (nI (tn b)) (df4 h23) ?_
                    refine xg_cV hX mq [.int (nI (tn m)), .int (nI (tn b))] (hM := yc_write l D cI mq mm m1 m2 mo mr mw o1 o2 (decide (M (tn a) = 45)) men M (chD M (tn n) (tn a)) (tn m) (tn b) (df1 h23) (df2 h23) hM (chD_lt (chb_iff.mp g1).2) (chD_z q1)) (wr := []) (ws' := fun _ => [(mq, .inr (3, [.ref mm, .ref m1, .ref m2, .ref mo, .ref mr, .int (bI o1), .int (bI o2), .int (bI (decide (M (tn a) = 45))), .ref mw, .int (bI men)])), (mm, .inl (cI, 256, .inl (nf (wrM M (chD M (tn n) (tn a)) (decide (M (tn a) = 45)) (tn m) (tn b))))), (mo, .inl (cI, 200, .inl (nf (mix (tn m) (chD M (tn n) (tn a)) zf))))]) (st' := fun _ => [.int (nI (flg (chD M (tn n) (tn a)) (decide (M (tn a) = 45)) (tn m)))]) [0, 1, 2] [] [0, 1, 2] [] rfl mt_398 mt_395 mt_4 mt_397 mp_21 0 rfl rfl hdM_write (by decide) ⟨rfl, rfl⟩ (by decide) rfl rfl (by decide) rfl (by decide) (by decide) (by decide) (fun u => rfl) (fun u => rfl) (fun u => rfl) rfl rfl (by simp [Value.category]) dM_digits_171 (fun _ _ => ?_)
                    exact hret (nI (flg (chD M (tn n) (tn a)) (decide (M (tn a) = 45)) (tn m)), wrM M (chD M (tn n) (tn a)) (decide (M (tn a) = 45)) (tn m) (tn b), mix (tn m) (chD M (tn n) (tn a)) zf, decide (M (tn a) = 45)) _ _ _ rfl (show ((nI (flg (chD M (tn n) (tn a)) (decide (M (tn a) = 45)) (tn m))), (wrM M (chD M (tn n) (tn a)) (decide (M (tn a) = 45)) (tn m) (tn b))) = digM M n a m b from (by have hz : (if (cfits n a && dfits m b) = true then (if chb M (tn n) (tn a) = true then 0 else -2) else -1 : Int32) = 0 := (by rw [if_pos (by rw [hcf, h23] <;> rfl), if_pos g1]); rw [digM, hz]; exact arZ_ys.symm)) dM_digits_174
                  ·
                    refine xg_iconst hX (nI 1) dM_digits_159 (by decide) ?_
                    refine xg_goto hX 164 dM_digits_160 (by decide) ?_
                    refine xg_top (bI true) rfl ?_
                    refine xg_put hX tyM tyM_ok nmM (ci := 3) rfl hinM (ws' := [(mq, .inr (3, [.ref mm, .ref m1, .ref m2, .ref mo, .ref mr, .int (bI o1), .int (bI o2), .int (bI true), .ref mw, .int (bI men)])), (mm, .inl (cI, 256, .inl (nf M))), (mo, .inl (cI, 200, .inl (nf (chD M (tn n) (tn a)))))]) 0 rfl 7 (by decide) mt_331 rfl (xn_narB _) (xn_fitB _) (Nat.le_of_ble_eq_true rfl) rfl dM_digits_164 ?_
                    refine xg_wsE (ws' := [(mq, .inr (3, [.ref mm, .ref m1, .ref m2, .ref mo, .ref mr, .int (bI o1), .int (bI o2), .int (bI (decide (M (tn a) = 45))), .ref mw, .int (bI men)])), (mm, .inl (cI, 256, .inl (nf M))), (mo, .inl (cI, 200, .inl (nf (chD M (tn n) (tn a)))))]) (by rw [← (show (bI true : Int32) = bI (decide (M (tn a) = 45)) from (by first | (rw [decide_eq_true h156]; done) | (rw [decide_eq_false h156]; done)))]) ?_
                    refine xg_aload_n hX 0 dM_digits_167 rfl rfl ?_
                    refine xg_iload_n hX 3 dM_digits_168 rfl rfl ?_
                    refine xg_top (nI (tn m)) (df3 h23) ?_
                    refine xg_iload hX 4 dM_digits_169 rfl ?_
                    refine xg_top (nI (tn b)) (df4 h23) ?_
                    refine xg_cV hX mq [.int (nI (tn m)), .int (nI (tn b))] (hM := yc_write l D cI mq mm m1 m2 mo mr mw o1 o2 (decide (M (tn a) = 45)) men M (chD M (tn n) (tn a)) (tn m) (tn b) (df1 h23) (df2 h23) hM (chD_lt (chb_iff.mp g1).2) (chD_z q1)) (wr := []) (ws' := fun _ => [(mq, .inr (3, [.ref mm, .ref m1, .ref m2, .ref mo, .ref mr, .int (bI o1), .int (bI o2), .int (bI (decide (M (tn a) = 45))), .ref mw, .int (bI men)])), (mm, .inl (cI, 256, .inl (nf (wrM M (chD M (tn n) (tn a)) (decide (M (tn a) = 45)) (tn m) (tn b))))), (mo, .inl (cI, 200, .inl (nf (mix (tn m) (chD M (tn n) (tn a)) zf))))]) (st' := fun _ => [.int (nI (flg (chD M (tn n) (tn a)) (decide (M (tn a) = 45)) (tn m)))]) [0, 1, 2] [] [0, 1, 2] [] rfl mt_398 mt_395 mt_4 mt_397 mp_21 0 rfl rfl hdM_write (by decide) ⟨rfl, rfl⟩ (by decide) rfl rfl (by decide) rfl (by decide) (by decide) (by decide) (fun u => rfl) (fun u => rfl) (fun u => rfl) rfl rfl (by simp [Value.category]) dM_digits_171 (fun _ _ => ?_)
                    exact hret (nI (flg (chD M (tn n) (tn a)) (decide (M (tn a) = 45)) (tn m)), wrM M (chD M (tn n) (tn a)) (decide (M (tn a) = 45)) (tn m) (tn b), mix (tn m) (chD M (tn n) (tn a)) zf, decide (M (tn a) = 45)) _ _ _ rfl (show ((nI (flg (chD M (tn n) (tn a)) (decide (M (tn a) = 45)) (tn m))), (wrM M (chD M (tn n) (tn a)) (decide (M (tn a) = 45)) (tn m) (tn b))) = digM M n a m b from (by have hz : (if (cfits n a && dfits m b) = true then (if chb M (tn n) (tn a) = true then 0 else -2) else -1 : Int32) = 0 := (by rw [if_pos (by rw [hcf, h23] <;> rfl), if_pos g1]); rw [digM, hz]; exact arZ_ys.symm)) dM_digits_174
                ·
                  refine xg_bipush hX ((-2)) dM_digits_148 (by decide) ?_
                  exact hret ((-2), M, f, oo) _ _ _ rfl (show ((-2), M) = digM M n a m b from (by have hz : (if (cfits n a && dfits m b) = true then (if chb M (tn n) (tn a) = true then 0 else -2) else -1 : Int32) = -2 := (by rw [if_pos (by rw [hcf, h23] <;> rfl), if_neg (fun q => by rw [← chQ_n (show tn n ≤ i by omega), ← hgd, h145] at q; cases q)]); rw [digM, hz]; exact (arZ_no (by decide)).symm)) dM_digits_150
              ·
                refine xg_iload hX 7 dM_digits_75 rfl ?_
                refine xg_iload_n hX 1 dM_digits_77 rfl rfl ?_
                refine xg_top (nI (tn n)) (cf3 hcf) ?_
                refine xg_icmp_geN hX 95 (by omega) (by omega) dM_digits_78 (by decide) (fun h78 => ?_) (fun h78 => ?_)
                ·
                  refine xg_bipush hX (nI 48) dM_digits_95 (by decide) ?_
                  refine xg_istore hX (lv' := [(8, .int (nI 48)), (0, .ref mq), (1, .int n), (2, .int a), (3, .int m), (4, .int b), (5, .int (nI (M (tn a)))), (6, .int (bI gd)), (7, .int (nI i))]) dM_digits_97 (by decide) rfl ?_
                  refine xg_iload hX 7 dM_digits_99 rfl ?_
                  refine xg_if_eqB hX 122 dM_digits_101 (by decide) (fun h101 => ?_) (fun h101 => ?_)
                  ·
                    refine xg_iconst hX (nI 0) dM_digits_122 (by decide) ?_
                    refine xg_istore hX (lv' := [(6, .int (nI 0)), (8, .int (nI 48)), (0, .ref mq), (1, .int n), (2, .int a), (3, .int m), (4, .int b), (5, .int (nI (M (tn a)))), (7, .int (nI i))]) dM_digits_123 (by decide) rfl ?_
                    refine xg_aload_n hX 2 dM_digits_125 rfl rfl ?_
                    refine xg_get hX (ci := 3) rfl hinM 0 rfl 3 (by decide) mt_327 rfl dM_digits_126 ?_
                    refine xg_iload hX 8 dM_digits_129 rfl ?_
                    refine xg_iload hX 1 dM_digits_131 rfl ?_
                    refine xg_bipush hX (nI 48) dM_digits_133 (by decide) ?_
                    refine xg_isub hX dM_digits_135 ?_
                    rcases Nat.lt_or_ge (48) 48 with hs | hs
                    ·
                      obtain ⟨ww, hww⟩ := xn_ex (nI (48) - nI 48)
                      refine xg_top (nI ww) hww ?_
                      refine xg_iast hX (ws' := [(mq, .inr (3, [.ref mm, .ref m1, .ref m2, .ref mo, .ref mr, .int (bI o1), .int (bI o2), .int (bI oo), .ref mw, .int (bI men)])), (mm, .inl (cI, 256, .inl (nf M))), (mo, .inl (cI, 200, .inl (nf (up f i ww))))]) 2 i ww rfl (by omega) (by decide) rfl dM_digits_136 ?_
                      refine xg_iincN hX (lv' := [(7, .int (nI (i + 1))), (6, .int (nI 0)), (8, .int (nI 48)), (0, .ref mq), (1, .int n), (2, .int a), (3, .int m), (4, .int b), (5, .int (nI (M (tn a))))]) (i + 1) 8 dM_digits_137 rfl (xn_inc _) (by decide) rfl ?_
                      refine xg_goto hX 67 dM_digits_140 (by decide) ?_
                      refine xg_lv hX (lv' := [(0, .ref mq), (1, .int n), (2, .int a), (3, .int m), (4, .int b), (5, .int (nI (M (tn a)))), (6, .int (nI 0)), (7, .int (nI (i + 1)))]) [3, 4, 5, 6, 7, 8, 1, 0] rfl ?_
                      refine xg_lvE (lv' := [(0, .ref mq), (1, .int n), (2, .int a), (3, .int m), (4, .int b), (5, .int (nI (M (tn a)))), (6, .int (bI false)), (7, .int (nI (i + 1)))]) (by rw [← (show (nI 0 : Int32) = bI false from (by first | rfl | decide))]) ?_
                      exact ih4 (i + 1) false (up f i ww) (by omega) (by first | exact (chQ_s1 (by rw [← hgd]; exact h101)).symm | exact (chQ_s3 h78 (by omega)).symm | omega) (fun q => by cases q) (by omega)
                    ·
                      refine xg_top (nI (48 - 48)) (pk_sub hs) ?_
                      refine xg_iast hX (ws' := [(mq, .inr (3, [.ref mm, .ref m1, .ref m2, .ref mo, .ref mr, .int (bI o1), .int (bI o2), .int (bI oo), .ref mw, .int (bI men)])), (mm, .inl (cI, 256, .inl (nf M))), (mo, .inl (cI, 200, .inl (nf (up f i (48 - 48)))))]) 2 i (48 - 48) rfl (by omega) (by decide) rfl dM_digits_136 ?_
                      refine xg_iincN hX (lv' := [(7, .int (nI (i + 1))), (6, .int (nI 0)), (8, .int (nI 48)), (0, .ref mq), (1, .int n), (2, .int a), (3, .int m), (4, .int b), (5, .int (nI (M (tn a))))]) (i + 1) 8 dM_digits_137 rfl (xn_inc _) (by decide) rfl ?_
                      refine xg_goto hX 67 dM_digits_140 (by decide) ?_
                      refine xg_lv hX (lv' := [(0, .ref mq), (1, .int n), (2, .int a), (3, .int m), (4, .int b), (5, .int (nI (M (tn a)))), (6, .int (nI 0)), (7, .int (nI (i + 1)))]) [3, 4, 5, 6, 7, 8, 1, 0] rfl ?_
                      refine xg_lvE (lv' := [(0, .ref mq), (1, .int n), (2, .int a), (3, .int m), (4, .int b), (5, .int (nI (M (tn a)))), (6, .int (bI false)), (7, .int (nI (i + 1)))]) (by rw [← (show (nI 0 : Int32) = bI false from (by first | rfl | decide))]) ?_
                      exact ih4 (i + 1) false (up f i (48 - 48)) (by omega) (by first | exact (chQ_s1 (by rw [← hgd]; exact h101)).symm | exact (chQ_s3 h78 (by omega)).symm | omega) (fun q => by cases q) (by omega)
                  ·
                    refine xg_iload hX 0 dM_digits_104 rfl ?_
                    refine xg_bipush hX (nI 48) dM_digits_106 (by decide) ?_
                    refine xg_icmp_ltN hX 122 (by omega) (by omega) dM_digits_108 (by decide) (fun h108 => absurd h108 (by omega)) (fun h108 => ?_)
                    refine xg_iload hX 0 dM_digits_111 rfl ?_
                    refine xg_bipush hX (nI 57) dM_digits_113 (by decide) ?_
                    refine xg_icmp_gtN hX 122 (by omega) (by omega) dM_digits_115 (by decide) (fun h115 => absurd h115 (by omega)) (fun h115 => ?_)
                    refine xg_iconst hX (nI 1) dM_digits_118 (by decide) ?_
                    refine xg_goto hX 123 dM_digits_119 (by decide) ?_
                    refine xg_istore hX (lv' := [(6, .int (nI 1)), (8, .int (nI 48)), (0, .ref mq), (1, .int n), (2, .int a), (3, .int m), (4, .int b), (5, .int (nI (M (tn a)))), (7, .int (nI i))]) dM_digits_123 (by decide) rfl ?_
                    refine xg_aload_n hX 2 dM_digits_125 rfl rfl ?_
                    refine xg_get hX (ci := 3) rfl hinM 0 rfl 3 (by decide) mt_327 rfl dM_digits_126 ?_
                    refine xg_iload hX 8 dM_digits_129 rfl ?_
                    refine xg_iload hX 1 dM_digits_131 rfl ?_
                    refine xg_bipush hX (nI 48) dM_digits_133 (by decide) ?_
                    refine xg_isub hX dM_digits_135 ?_
                    rcases Nat.lt_or_ge (48) 48 with hs | hs
                    ·
                      obtain ⟨ww, hww⟩ := xn_ex (nI (48) - nI 48)
                      refine xg_top (nI ww) hww ?_
                      refine xg_iast hX (ws' := [(mq, .inr (3, [.ref mm, .ref m1, .ref m2, .ref mo, .ref mr, .int (bI o1), .int (bI o2), .int (bI oo), .ref mw, .int (bI men)])), (mm, .inl (cI, 256, .inl (nf M))), (mo, .inl (cI, 200, .inl (nf (up f i ww))))]) 2 i ww rfl (by omega) (by decide) rfl dM_digits_136 ?_
                      refine xg_iincN hX (lv' := [(7, .int (nI (i + 1))), (6, .int (nI 1)), (8, .int (nI 48)), (0, .ref mq), (1, .int n), (2, .int a), (3, .int m), (4, .int b), (5, .int (nI (M (tn a))))]) (i + 1) 8 dM_digits_137 rfl (xn_inc _) (by decide) rfl ?_
                      refine xg_goto hX 67 dM_digits_140 (by decide) ?_
                      refine xg_lv hX (lv' := [(0, .ref mq), (1, .int n), (2, .int a), (3, .int m), (4, .int b), (5, .int (nI (M (tn a)))), (6, .int (nI 1)), (7, .int (nI (i + 1)))]) [3, 4, 5, 6, 7, 8, 1, 0] rfl ?_
                      refine xg_lvE (lv' := [(0, .ref mq), (1, .int n), (2, .int a), (3, .int m), (4, .int b), (5, .int (nI (M (tn a)))), (6, .int (bI true)), (7, .int (nI (i + 1)))]) (by rw [← (show (nI 1 : Int32) = bI true from (by first | rfl | decide))]) ?_
                      exact ih4 (i + 1) true (up f i ww) (by omega) (chQ_s2 (by rw [← hgd]; exact h101) (fun hin => by first | exact ⟨h108, h115⟩ | omega)).symm (fun _ j hj => by rcases Nat.lt_or_ge j i with q | q; (rw [up_n (by omega)]; exact hf h101 j q); (obtain rfl : j = i := (by omega); rw [up_s]; first | exact chD_at h78 | exact (chD_hi h78).symm | omega)) (by omega)
                    ·
                      refine xg_top (nI (48 - 48)) (pk_sub hs) ?_
                      refine xg_iast hX (ws' := [(mq, .inr (3, [.ref mm, .ref m1, .ref m2, .ref mo, .ref mr, .int (bI o1), .int (bI o2), .int (bI oo), .ref mw, .int (bI men)])), (mm, .inl (cI, 256, .inl (nf M))), (mo, .inl (cI, 200, .inl (nf (up f i (48 - 48)))))]) 2 i (48 - 48) rfl (by omega) (by decide) rfl dM_digits_136 ?_
                      refine xg_iincN hX (lv' := [(7, .int (nI (i + 1))), (6, .int (nI 1)), (8, .int (nI 48)), (0, .ref mq), (1, .int n), (2, .int a), (3, .int m), (4, .int b), (5, .int (nI (M (tn a))))]) (i + 1) 8 dM_digits_137 rfl (xn_inc _) (by decide) rfl ?_
                      refine xg_goto hX 67 dM_digits_140 (by decide) ?_
                      refine xg_lv hX (lv' := [(0, .ref mq), (1, .int n), (2, .int a), (3, .int m), (4, .int b), (5, .int (nI (M (tn a)))), (6, .int (nI 1)), (7, .int (nI (i + 1)))]) [3, 4, 5, 6, 7, 8, 1, 0] rfl ?_
                      refine xg_lvE (lv' := [(0, .ref mq), (1, .int n), (2, .int a), (3, .int m), (4, .int b), (5, .int (nI (M (tn a)))), (6, .int (bI true)), (7, .int (nI (i + 1)))]) (by rw [← (show (nI 1 : Int32) = bI true from (by first | rfl | decide))]) ?_
                      exact ih4 (i + 1) true (up f i (48 - 48)) (by omega) (chQ_s2 (by rw [← hgd]; exact h101) (fun hin => by first | exact ⟨h108, h115⟩ | omega)).symm (fun _ j hj => by rcases Nat.lt_or_ge j i with q | q; (rw [up_n (by omega)]; exact hf h101 j q); (obtain rfl : j = i := (by omega); rw [up_s]; first | exact chD_at h78 | exact (chD_hi h78).symm | omega)) (by omega)
                ·
                  refine xg_aload_n hX 0 dM_digits_81 rfl rfl ?_
                  refine xg_get hX (ci := 3) rfl hinM 0 rfl 0 (by decide) mt_324 rfl dM_digits_82 ?_
                  refine xg_iload_n hX 2 dM_digits_85 rfl rfl ?_
                  refine xg_top (nI (tn a)) (cf4 hcf) ?_
                  refine xg_iload_n hX 1 dM_digits_86 rfl rfl ?_
                  refine xg_top (nI (tn n)) (cf3 hcf) ?_
                  refine xg_iaddN hX dM_digits_87 ?_
                  refine xg_iload hX 7 dM_digits_88 rfl ?_
                  refine xg_isubN hX (by omega) dM_digits_90 ?_
                  have e1 := hM ((tn a + tn n) - i)
                  refine xg_iald hX 1 (((tn a) + (tn n)) - i) rfl (by omega) (by decide) dM_digits_91 ?_
                  refine xg_goto hX 97 dM_digits_92 (by decide) ?_
                  refine xg_istore hX (lv' := [(8, .int (nI (M (((tn a) + (tn n)) - i)))), (0, .ref mq), (1, .int n), (2, .int a), (3, .int m), (4, .int b), (5, .int (nI (M (tn a)))), (6, .int (bI gd)), (7, .int (nI i))]) dM_digits_97 (by decide) rfl ?_
                  refine xg_iload hX 7 dM_digits_99 rfl ?_
                  refine xg_if_eqB hX 122 dM_digits_101 (by decide) (fun h101 => ?_) (fun h101 => ?_)
                  ·
                    refine xg_iconst hX (nI 0) dM_digits_122 (by decide) ?_
                    refine xg_istore hX (lv' := [(6, .int (nI 0)), (8, .int (nI (M (((tn a) + (tn n)) - i)))), (0, .ref mq), (1, .int n), (2, .int a), (3, .int m), (4, .int b), (5, .int (nI (M (tn a)))), (7, .int (nI i))]) dM_digits_123 (by decide) rfl ?_
                    refine xg_aload_n hX 2 dM_digits_125 rfl rfl ?_
                    refine xg_get hX (ci := 3) rfl hinM 0 rfl 3 (by decide) mt_327 rfl dM_digits_126 ?_
                    refine xg_iload hX 8 dM_digits_129 rfl ?_
                    refine xg_iload hX 1 dM_digits_131 rfl ?_
                    refine xg_bipush hX (nI 48) dM_digits_133 (by decide) ?_
                    refine xg_isub hX dM_digits_135 ?_
                    rcases Nat.lt_or_ge (M (((tn a) + (tn n)) - i)) 48 with hs | hs
                    ·
                      obtain ⟨ww, hww⟩ := xn_ex (nI (M (((tn a) + (tn n)) - i)) - nI 48)
                      refine xg_top (nI ww) hww ?_
                      refine xg_iast hX (ws' := [(mq, .inr (3, [.ref mm, .ref m1, .ref m2, .ref mo, .ref mr, .int (bI o1), .int (bI o2), .int (bI oo), .ref mw, .int (bI men)])), (mm, .inl (cI, 256, .inl (nf M))), (mo, .inl (cI, 200, .inl (nf (up f i ww))))]) 2 i ww rfl (by omega) (by decide) rfl dM_digits_136 ?_
                      refine xg_iincN hX (lv' := [(7, .int (nI (i + 1))), (6, .int (nI 0)), (8, .int (nI (M (((tn a) + (tn n)) - i)))), (0, .ref mq), (1, .int n), (2, .int a), (3, .int m), (4, .int b), (5, .int (nI (M (tn a))))]) (i + 1) 8 dM_digits_137 rfl (xn_inc _) (by decide) rfl ?_
                      refine xg_goto hX 67 dM_digits_140 (by decide) ?_
                      refine xg_lv hX (lv' := [(0, .ref mq), (1, .int n), (2, .int a), (3, .int m), (4, .int b), (5, .int (nI (M (tn a)))), (6, .int (nI 0)), (7, .int (nI (i + 1)))]) [3, 4, 5, 6, 7, 8, 1, 0] rfl ?_
                      refine xg_lvE (lv' := [(0, .ref mq), (1, .int n), (2, .int a), (3, .int m), (4, .int b), (5, .int (nI (M (tn a)))), (6, .int (bI false)), (7, .int (nI (i + 1)))]) (by rw [← (show (nI 0 : Int32) = bI false from (by first | rfl | decide))]) ?_
                      exact ih4 (i + 1) false (up f i ww) (by omega) (by first | exact (chQ_s1 (by rw [← hgd]; exact h101)).symm | exact (chQ_s3 h78 (by omega)).symm | omega) (fun q => by cases q) (by omega)
                    ·
                      refine xg_top (nI ((M (((tn a) + (tn n)) - i)) - 48)) (pk_sub hs) ?_
                      refine xg_iast hX (ws' := [(mq, .inr (3, [.ref mm, .ref m1, .ref m2, .ref mo, .ref mr, .int (bI o1), .int (bI o2), .int (bI oo), .ref mw, .int (bI men)])), (mm, .inl (cI, 256, .inl (nf M))), (mo, .inl (cI, 200, .inl (nf (up f i ((M (((tn a) + (tn n)) - i)) - 48)))))]) 2 i ((M (((tn a) + (tn n)) - i)) - 48) rfl (by omega) (by decide) rfl dM_digits_136 ?_
                      refine xg_iincN hX (lv' := [(7, .int (nI (i + 1))), (6, .int (nI 0)), (8, .int (nI (M (((tn a) + (tn n)) - i)))), (0, .ref mq), (1, .int n), (2, .int a), (3, .int m), (4, .int b), (5, .int (nI (M (tn a))))]) (i + 1) 8 dM_digits_137 rfl (xn_inc _) (by decide) rfl ?_
                      refine xg_goto hX 67 dM_digits_140 (by decide) ?_
                      refine xg_lv hX (lv' := [(0, .ref mq), (1, .int n), (2, .int a), (3, .int m), (4, .int b), (5, .int (nI (M (tn a)))), (6, .int (nI 0)), (7, .int (nI (i + 1)))]) [3, 4, 5, 6, 7, 8, 1, 0] rfl ?_
                      refine xg_lvE (lv' := [(0, .ref mq), (1, .int n), (2, .int a), (3, .int m), (4, .int b), (5, .int (nI (M (tn a)))), (6, .int (bI false)), (7, .int (nI (i + 1)))]) (by rw [← (show (nI 0 : Int32) = bI false from (by first | rfl | decide))]) ?_
                      exact ih4 (i + 1) false (up f i ((M (((tn a) + (tn n)) - i)) - 48)) (by omega) (by first | exact (chQ_s1 (by rw [← hgd]; exact h101)).symm | exact (chQ_s3 h78 (by omega)).symm | omega) (fun q => by cases q) (by omega)
                  ·
                    refine xg_iload hX 0 dM_digits_104 rfl ?_
                    refine xg_bipush hX (nI 48) dM_digits_106 (by decide) ?_
                    refine xg_icmp_ltN hX 122 (by omega) (by omega) dM_digits_108 (by decide) (fun h108 => ?_) (fun h108 => ?_)
                    ·
                      refine xg_iconst hX (nI 0) dM_digits_122 (by decide) ?_
                      refine xg_istore hX (lv' := [(6, .int (nI 0)), (8, .int (nI (M (((tn a) + (tn n)) - i)))), (0, .ref mq), (1, .int n), (2, .int a), (3, .int m), (4, .int b), (5, .int (nI (M (tn a)))), (7, .int (nI i))]) dM_digits_123 (by decide) rfl ?_
                      refine xg_aload_n hX 2 dM_digits_125 rfl rfl ?_
                      refine xg_get hX (ci := 3) rfl hinM 0 rfl 3 (by decide) mt_327 rfl dM_digits_126 ?_
                      refine xg_iload hX 8 dM_digits_129 rfl ?_
                      refine xg_iload hX 1 dM_digits_131 rfl ?_
                      refine xg_bipush hX (nI 48) dM_digits_133 (by decide) ?_
                      refine xg_isub hX dM_digits_135 ?_
                      rcases Nat.lt_or_ge (M (((tn a) + (tn n)) - i)) 48 with hs | hs
                      ·
                        obtain ⟨ww, hww⟩ := xn_ex (nI (M (((tn a) + (tn n)) - i)) - nI 48)
                        refine xg_top (nI ww) hww ?_
                        refine xg_iast hX (ws' := [(mq, .inr (3, [.ref mm, .ref m1, .ref m2, .ref mo, .ref mr, .int (bI o1), .int (bI o2), .int (bI oo), .ref mw, .int (bI men)])), (mm, .inl (cI, 256, .inl (nf M))), (mo, .inl (cI, 200, .inl (nf (up f i ww))))]) 2 i ww rfl (by omega) (by decide) rfl dM_digits_136 ?_
                        refine xg_iincN hX (lv' := [(7, .int (nI (i + 1))), (6, .int (nI 0)), (8, .int (nI (M (((tn a) + (tn n)) - i)))), (0, .ref mq), (1, .int n), (2, .int a), (3, .int m), (4, .int b), (5, .int (nI (M (tn a))))]) (i + 1) 8 dM_digits_137 rfl (xn_inc _) (by decide) rfl ?_
                        refine xg_goto hX 67 dM_digits_140 (by decide) ?_
                        refine xg_lv hX (lv' := [(0, .ref mq), (1, .int n), (2, .int a), (3, .int m), (4, .int b), (5, .int (nI (M (tn a)))), (6, .int (nI 0)), (7, .int (nI (i + 1)))]) [3, 4, 5, 6, 7, 8, 1, 0] rfl ?_
                        refine xg_lvE (lv' := [(0, .ref mq), (1, .int n), (2, .int a), (3, .int m), (4, .int b), (5, .int (nI (M (tn a)))), (6, .int (bI false)), (7, .int (nI (i + 1)))]) (by rw [← (show (nI 0 : Int32) = bI false from (by first | rfl | decide))]) ?_
                        exact ih4 (i + 1) false (up f i ww) (by omega) (by first | exact (chQ_s1 (by rw [← hgd]; exact h101)).symm | exact (chQ_s3 h78 (by omega)).symm | omega) (fun q => by cases q) (by omega)
                      ·
                        refine xg_top (nI ((M (((tn a) + (tn n)) - i)) - 48)) (pk_sub hs) ?_
                        refine xg_iast hX (ws' := [(mq, .inr (3, [.ref mm, .ref m1, .ref m2, .ref mo, .ref mr, .int (bI o1), .int (bI o2), .int (bI oo), .ref mw, .int (bI men)])), (mm, .inl (cI, 256, .inl (nf M))), (mo, .inl (cI, 200, .inl (nf (up f i ((M (((tn a) + (tn n)) - i)) - 48)))))]) 2 i ((M (((tn a) + (tn n)) - i)) - 48) rfl (by omega) (by decide) rfl dM_digits_136 ?_
                        refine xg_iincN hX (lv' := [(7, .int (nI (i + 1))), (6, .int (nI 0)), (8, .int (nI (M (((tn a) + (tn n)) - i)))), (0, .ref mq), (1, .int n), (2, .int a), (3, .int m), (4, .int b), (5, .int (nI (M (tn a))))]) (i + 1) 8 dM_digits_137 rfl (xn_inc _) (by decide) rfl ?_
                        refine xg_goto hX 67 dM_digits_140 (by decide) ?_
                        refine xg_lv hX (lv' := [(0, .ref mq), (1, .int n), (2, .int a), (3, .int m), (4, .int b), (5, .int (nI (M (tn a)))), (6, .int (nI 0)), (7, .int (nI (i + 1)))]) [3, 4, 5, 6, 7, 8, 1, 0] rfl ?_
                        refine xg_lvE (lv' := [(0, .ref mq), (1, .int n), (2, .int a), (3, .int m), (4, .int b), (5, .int (nI (M (tn a)))), (6, .int (bI false)), (7, .int (nI (i + 1)))]) (by rw [← (show (nI 0 : Int32) = bI false from (by first | rfl | decide))]) ?_
                        exact ih4 (i + 1) false (up f i ((M (((tn a) + (tn n)) - i)) - 48)) (by omega) (by first | exact (chQ_s1 (by rw [← hgd]; exact h101)).symm | exact (chQ_s3 h78 (by omega)).symm | omega) (fun q => by cases q) (by omega)
                    ·
                      refine xg_iload hX 0 dM_digits_111 rfl ?_
                      refine xg_bipush hX (nI 57) dM_digits_113 (by decide) ?_
                      refine xg_icmp_gtN hX 122 (by omega) (by omega) dM_digits_115 (by decide) (fun h115 => ?_) (fun h115 => ?_)
                      ·
                        refine xg_iconst hX (nI 0) dM_digits_122 (by decide) ?_
                        refine xg_istore hX (lv' := [(6, .int (nI 0)), (8, .int (nI (M (((tn a) + (tn n)) - i)))), (0, .ref mq), (1, .int n), (2, .int a), (3, .int m), (4, .int b), (5, .int (nI (M (tn a)))), (7, .int (nI i))]) dM_digits_123 (by decide) rfl ?_
                        refine xg_aload_n hX 2 dM_digits_125 rfl rfl ?_
                        refine xg_get hX (ci := 3) rfl hinM 0 rfl 3 (by decide) mt_327 rfl dM_digits_126 ?_
                        refine xg_iload hX 8 dM_digits_129 rfl ?_
                        refine xg_iload hX 1 dM_digits_131 rfl ?_
                        refine xg_bipush hX (nI 48) dM_digits_133 (by decide) ?_
                        refine xg_isub hX dM_digits_135 ?_
                        rcases Nat.lt_or_ge (M (((tn a) + (tn n)) - i)) 48 with hs | hs
                        ·
                          obtain ⟨ww, hww⟩ := xn_ex (nI (M (((tn a) + (tn n)) - i)) - nI 48)
                          refine xg_top (nI ww) hww ?_
                          refine xg_iast hX (ws' := [(mq, .inr (3, [.ref mm, .ref m1, .ref m2, .ref mo, .ref mr, .int (bI o1), .int (bI o2), .int (bI oo), .ref mw, .int (bI men)])), (mm, .inl (cI, 256, .inl (nf M))), (mo, .inl (cI, 200, .inl (nf (up f i ww))))]) 2 i ww rfl (by omega) (by decide) rfl dM_digits_136 ?_
                          refine xg_iincN hX (lv' := [(7, .int (nI (i + 1))), (6, .int (nI 0)), (8, .int (nI (M (((tn a) + (tn n)) - i)))), (0, .ref mq), (1, .int n), (2, .int a), (3, .int m), (4, .int b), (5, .int (nI (M (tn a))))]) (i + 1) 8 dM_digits_137 rfl (xn_inc _) (by decide) rfl ?_
                          refine xg_goto hX 67 dM_digits_140 (by decide) ?_
                          refine xg_lv hX (lv' := [(0, .ref mq), (1, .int n), (2, .int a), (3, .int m), (4, .int b), (5, .int (nI (M (tn a)))), (6, .int (nI 0)), (7, .int (nI (i + 1)))]) [3, 4, 5, 6, 7, 8, 1, 0] rfl ?_
                          refine xg_lvE (lv' := [(0, .ref mq), (1, .int n), (2, .int a), (3, .int m), (4, .int b), (5, .int (nI (M (tn a)))), (6, .int (bI false)), (7, .int (nI (i + 1)))]) (by rw [← (show (nI 0 : Int32) = bI false from (by first | rfl | decide))]) ?_
                          exact ih4 (i + 1) false (up f i ww) (by omega) (by first | exact (chQ_s1 (by rw [← hgd]; exact h101)).symm | exact (chQ_s3 h78 (by omega)).symm | omega) (fun q => by cases q) (by omega)
                        ·
                          refine xg_top (nI ((M (((tn a) + (tn n)) - i)) - 48)) (pk_sub hs) ?_
                          refine xg_iast hX (ws' := [(mq, .inr (3, [.ref mm, .ref m1, .ref m2, .ref mo, .ref mr, .int (bI o1), .int (bI o2), .int (bI oo), .ref mw, .int (bI men)])), (mm, .inl (cI, 256, .inl (nf M))), (mo, .inl (cI, 200, .inl (nf (up f i ((M (((tn a) + (tn n)) - i)) - 48)))))]) 2 i ((M (((tn a) + (tn n)) - i)) - 48) rfl (by omega) (by decide) rfl dM_digits_136 ?_
                          refine xg_iincN hX (lv' := [(7, .int (nI (i + 1))), (6, .int (nI 0)), (8, .int (nI (M (((tn a) + (tn n)) - i)))), (0, .ref mq), (1, .int n), (2, .int a), (3, .int m), (4, .int b), (5, .int (nI (M (tn a))))]) (i + 1) 8 dM_digits_137 rfl (xn_inc _) (by decide) rfl ?_
                          refine xg_goto hX 67 dM_digits_140 (by decide) ?_
                          refine xg_lv hX (lv' := [(0, .ref mq), (1, .int n), (2, .int a), (3, .int m), (4, .int b), (5, .int (nI (M (tn a)))), (6, .int (nI 0)), (7, .int (nI (i + 1)))]) [3, 4, 5, 6, 7, 8, 1, 0] rfl ?_
                          refine xg_lvE (lv' := [(0, .ref mq), (1, .int n), (2, .int a), (3, .int m), (4, .int b), (5, .int (nI (M (tn a)))), (6, .int (bI false)), (7, .int (nI (i + 1)))]) (by rw [← (show (nI 0 : Int32) = bI false from (by first | rfl | decide))]) ?_
                          exact ih4 (i + 1) false (up f i ((M (((tn a) + (tn n)) - i)) - 48)) (by omega) (by first | exact (chQ_s1 (by rw [← hgd]; exact h101)).symm | exact (chQ_s3 h78 (by omega)).symm | omega) (fun q => by cases q) (by omega)
                      ·
                        refine xg_iconst hX (nI 1) dM_digits_118 (by decide) ?_
                        refine xg_goto hX 123 dM_digits_119 (by decide) ?_
                        refine xg_istore hX (lv' := [(6, .int (nI 1)), (8, .int (nI (M (((tn a) + (tn n)) - i)))), (0, .ref mq), (1, .int n), (2, .int a), (3, .int m), (4, .int b), (5, .int (nI (M (tn a)))), (7, .int (nI i))]) dM_digits_123 (by decide) rfl ?_
                        refine xg_aload_n hX 2 dM_digits_125 rfl rfl ?_
                        refine xg_get hX (ci := 3) rfl hinM 0 rfl 3 (by decide) mt_327 rfl dM_digits_126 ?_
                        refine xg_iload hX 8 dM_digits_129 rfl ?_
                        refine xg_iload hX 1 dM_digits_131 rfl ?_
                        refine xg_bipush hX (nI 48) dM_digits_133 (by decide) ?_
                        refine xg_isub hX dM_digits_135 ?_
                        rcases Nat.lt_or_ge (M (((tn a) + (tn n)) - i)) 48 with hs | hs
                        ·
                          obtain ⟨ww, hww⟩ := xn_ex (nI (M (((tn a) + (tn n)) - i)) - nI 48)
                          refine xg_top (nI ww) hww ?_
                          refine xg_iast hX (ws' := [(mq, .inr (3, [.ref mm, .ref m1, .ref m2, .ref mo, .ref mr, .int (bI o1), .int (bI o2), .int (bI oo), .ref mw, .int (bI men)])), (mm, .inl (cI, 256, .inl (nf M))), (mo, .inl (cI, 200, .inl (nf (up f i ww))))]) 2 i ww rfl (by omega) (by decide) rfl dM_digits_136 ?_
                          refine xg_iincN hX (lv' := [(7, .int (nI (i + 1))), (6, .int (nI 1)), (8, .int (nI (M (((tn a) + (tn n)) - i)))), (0, .ref mq), (1, .int n), (2, .int a), (3, .int m), (4, .int b), (5, .int (nI (M (tn a))))]) (i + 1) 8 dM_digits_137 rfl (xn_inc _) (by decide) rfl ?_
                          refine xg_goto hX 67 dM_digits_140 (by decide) ?_
                          refine xg_lv hX (lv' := [(0, .ref mq), (1, .int n), (2, .int a), (3, .int m), (4, .int b), (5, .int (nI (M (tn a)))), (6, .int (nI 1)), (7, .int (nI (i + 1)))]) [3, 4, 5, 6, 7, 8, 1, 0] rfl ?_
                          refine xg_lvE (lv' := [(0, .ref mq), (1, .int n), (2, .int a), (3, .int m), (4, .int b), (5, .int (nI (M (tn a)))), (6, .int (bI true)), (7, .int (nI (i + 1)))]) (by rw [← (show (nI 1 : Int32) = bI true from (by first | rfl | decide))]) ?_
                          exact ih4 (i + 1) true (up f i ww) (by omega) (chQ_s2 (by rw [← hgd]; exact h101) (fun hin => by first | exact ⟨h108, h115⟩ | omega)).symm (fun _ j hj => by rcases Nat.lt_or_ge j i with q | q; (rw [up_n (by omega)]; exact hf h101 j q); (obtain rfl : j = i := (by omega); rw [up_s]; first | exact chD_at h78 | exact (chD_hi h78).symm | omega)) (by omega)
                        ·
                          refine xg_top (nI ((M (((tn a) + (tn n)) - i)) - 48)) (pk_sub hs) ?_
                          refine xg_iast hX (ws' := [(mq, .inr (3, [.ref mm, .ref m1, .ref m2, .ref mo, .ref mr, .int (bI o1), .int (bI o2), .int (bI oo), .ref mw, .int (bI men)])), (mm, .inl (cI, 256, .inl (nf M))), (mo, .inl (cI, 200, .inl (nf (up f i ((M (((tn a) + (tn n)) - i)) - 48)))))]) 2 i ((M (((tn a) + (tn n)) - i)) - 48) rfl (by omega) (by decide) rfl dM_digits_136 ?_
                          refine xg_iincN hX (lv' := [(7, .int (nI (i + 1))), (6, .int (nI 1)), (8, .int (nI (M (((tn a) + (tn n)) - i)))), (0, .ref mq), (1, .int n), (2, .int a), (3, .int m), (4, .int b), (5, .int (nI (M (tn a))))]) (i + 1) 8 dM_digits_137 rfl (xn_inc _) (by decide) rfl ?_
                          refine xg_goto hX 67 dM_digits_140 (by decide) ?_
                          refine xg_lv hX (lv' := [(0, .ref mq), (1, .int n), (2, .int a), (3, .int m), (4, .int b), (5, .int (nI (M (tn a)))), (6, .int (nI 1)), (7, .int (nI (i + 1)))]) [3, 4, 5, 6, 7, 8, 1, 0] rfl ?_
                          refine xg_lvE (lv' := [(0, .ref mq), (1, .int n), (2, .int a), (3, .int m), (4, .int b), (5, .int (nI (M (tn a)))), (6, .int (bI true)), (7, .int (nI (i + 1)))]) (by rw [← (show (nI 1 : Int32) = bI true from (by first | rfl | decide))]) ?_
                          exact ih4 (i + 1) true (up f i ((M (((tn a) + (tn n)) - i)) - 48)) (by omega) (chQ_s2 (by rw [← hgd]; exact h101) (fun hin => by first | exact ⟨h108, h115⟩ | omega)).symm (fun _ j hj => by rcases Nat.lt_or_ge j i with q | q; (rw [up_n (by omega)]; exact hf h101 j q); (obtain rfl : j = i := (by omega); rw [up_s]; first | exact chD_at h78 | exact (chD_hi h78).symm | omega)) (by omega)
          refine xg_lv hX (lv' := [(0, .ref mq), (1, .int n), (2, .int a), (3, .int m), (4, .int b), (5, .int (nI (M (tn a)))), (6, .int (bI (chQ M (tn n) (tn a) 0))), (7, .int (nI 0))]) [2, 3, 4, 5, 6, 7, 1, 0] rfl ?_
          exact lp2 (200 - 0 + 1) 0 (chQ M (tn n) (tn a) 0) xo (by omega) rfl (fun _ j hj => absurd hj (Nat.not_lt_zero _)) (Nat.lt_succ_self _)
        refine xg_iload hX 0 dM_digits_36 rfl ?_
        refine xg_bipush hX (nI 43) dM_digits_38 (by decide) ?_
        refine xg_icmp_eqN hX 57 (by omega) (by omega) dM_digits_40 (by decide) (fun h40 => ?_) (fun h40 => ?_)
        ·
          refine xg_iconst hX (nI 1) dM_digits_57 (by decide) ?_
          refine xg_goto hX 62 dM_digits_58 (by decide) ?_
          refine xg_top (bI (chQ M (tn n) (tn a) 0)) (by first | (rw [show chQ M (tn n) (tn a) 0 = true from decide_eq_true (by omega)] <;> rfl) | (rw [show chQ M (tn n) (tn a) 0 = false from decide_eq_false (by omega)] <;> rfl)) ?_
          refine xg_lv hX (lv' := [(0, .ref mq), (1, .int n), (2, .int a), (3, .int m), (4, .int b), (5, .int (nI (M (tn a))))]) [1, 2, 3, 4, 5, 0] rfl ?_
          exact jn1  
        ·
          refine xg_iload hX 0 dM_digits_43 rfl ?_
          refine xg_bipush hX (nI 45) dM_digits_45 (by decide) ?_
          refine xg_icmp_eqN hX 57 (by omega) (by omega) dM_digits_47 (by decide) (fun h47 => ?_) (fun h47 => ?_)
          ·
            refine xg_iconst hX (nI 1) dM_digits_57 (by decide) ?_
            refine xg_goto hX 62 dM_digits_58 (by decide) ?_
            refine xg_top (bI (chQ M (tn n) (tn a) 0)) (by first | (rw [show chQ M (tn n) (tn a) 0 = true from decide_eq_true (by omega)] <;> rfl) | (rw [show chQ M (tn n) (tn a) 0 = false from decide_eq_false (by omega)] <;> rfl)) ?_
            refine xg_lv hX (lv' := [(0, .ref mq), (1, .int n), (2, .int a), (3, .int m), (4, .int b), (5, .int (nI (M (tn a))))]) [1, 2, 3, 4, 5, 0] rfl ?_
            exact jn1  
          ·
            refine xg_iload hX 0 dM_digits_50 rfl ?_
            refine xg_bipush hX (nI 32) dM_digits_52 (by decide) ?_
            refine xg_icmp_neN hX 61 (by omega) (by omega) dM_digits_54 (by decide) (fun h54 => ?_) (fun h54 => ?_)
            ·
              refine xg_iconst hX (nI 0) dM_digits_61 (by decide) ?_
              refine xg_top (bI (chQ M (tn n) (tn a) 0)) (by first | (rw [show chQ M (tn n) (tn a) 0 = true from decide_eq_true (by omega)] <;> rfl) | (rw [show chQ M (tn n) (tn a) 0 = false from decide_eq_false (by omega)] <;> rfl)) ?_
              refine xg_lv hX (lv' := [(0, .ref mq), (1, .int n), (2, .int a), (3, .int m), (4, .int b), (5, .int (nI (M (tn a))))]) [1, 2, 3, 4, 5, 0] rfl ?_
              exact jn1  
            ·
              refine xg_iconst hX (nI 1) dM_digits_57 (by decide) ?_
              refine xg_goto hX 62 dM_digits_58 (by decide) ?_
              refine xg_top (bI (chQ M (tn n) (tn a) 0)) (by first | (rw [show chQ M (tn n) (tn a) 0 = true from decide_eq_true (by omega)] <;> rfl) | (rw [show chQ M (tn n) (tn a) 0 = false from decide_eq_false (by omega)] <;> rfl)) ?_
              refine xg_lv hX (lv' := [(0, .ref mq), (1, .int n), (2, .int a), (3, .int m), (4, .int b), (5, .int (nI (M (tn a))))]) [1, 2, 3, 4, 5, 0] rfl ?_
              exact jn1  
      ·
        refine xg_iconst hX ((-1)) dM_digits_26 (by decide) ?_
        exact hret ((-1), M, xo, oo) _ _ _ rfl (show ((-1), M) = digM M n a m b from (by have hz : (if (cfits n a && dfits m b) = true then (if chb M (tn n) (tn a) = true then 0 else -2) else -1 : Int32) = -1 := (by by_cases q9 : (cfits n a && dfits m b) = true; (simp only [Bool.and_eq_true] at q9; first | exact absurd ((cf_n1 h4).symm.trans q9.1) (by decide) | exact absurd ((cf_n2 h4 h14).symm.trans q9.1) (by decide) | exact absurd (h23.symm.trans q9.2) (by decide)); (rw [if_neg q9])); rw [digM, hz]; exact (arZ_no (by decide)).symm)) dM_digits_27
