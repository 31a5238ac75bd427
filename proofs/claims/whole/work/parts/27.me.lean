set_option maxHeartbeats 4000000 in
set_option maxRecDepth 100000 in
theorem yc_edit (l : Launch) (D : va_G) (cI : ClassId) (mq : Nat) (mm : Nat) (m1 : Nat) (m2 : Nat) (mo : Nat) (mr : Nat) (mw : Nat) (o1 : Bool) (o2 : Bool) (oo : Bool) (men : Bool) (M : Nat → Nat) (x1 : Nat → Nat) (xw : Nat → Nat) (n : Int32) (a : Int32) (p : Int32) (b : Int32) (hM : ∀ j, M j < 256) : Ctr l D cI yM_edit cM_edit 25 (some .int) { frames := 2, cells := 0, slots := 0, locals := 42 } [.ref mq, .int n, .int a, .int p, .int b] [(mq, .inr (3, [.ref mm, .ref m1, .ref m2, .ref mo, .ref mr, .int (bI o1), .int (bI o2), .int (bI oo), .ref mw, .int (bI men)])), (mm, .inl (cI, 256, .inl (nf M))), (m1, .inl (cI, 200, .inl (nf x1))), (mw, .inl (cI, 80, .inl (nf xw)))] (fun u : Int32 × (Nat → Nat) × (Nat → Nat) × (Nat → Nat) × Bool => match u with | (r, M2, y1, yw, qe) => some (.int r)) (fun u : Int32 × (Nat → Nat) × (Nat → Nat) × (Nat → Nat) × Bool => match u with | (r, M2, y1, yw, qe) => (r, M2, qe) = editM M men xw n a p b) (fun u : Int32 × (Nat → Nat) × (Nat → Nat) × (Nat → Nat) × Bool => match u with | (r, M2, y1, yw, qe) => [(mq, .inr (3, [.ref mm, .ref m1, .ref m2, .ref mo, .ref mr, .int (bI o1), .int (bI o2), .int (bI oo), .ref mw, .int (bI qe)])), (mm, .inl (cI, 256, .inl (nf M2))), (m1, .inl (cI, 200, .inl (nf y1))), (mw, .inl (cI, 80, .inl (nf yw)))]) 0 0 := by
  refine xc_mkI (by decide +kernel) (Nat.le_of_ble_eq_true rfl) (fun X hX hret => ?_)
  show GG D X 0 0 0 [(mq, .inr (3, [.ref mm, .ref m1, .ref m2, .ref mo, .ref mr, .int (bI o1), .int (bI o2), .int (bI oo), .ref mw, .int (bI men)])), (mm, .inl (cI, 256, .inl (nf M))), (m1, .inl (cI, 200, .inl (nf x1))), (mw, .inl (cI, 80, .inl (nf xw)))] [(0, .ref mq), (1, .int n), (2, .int a), (3, .int p), (4, .int b)] []
  refine xg_iload_n hX 1 dM_edit_0 rfl rfl ?_
  refine xg_iload_n hX 2 dM_edit_1 rfl rfl ?_
  refine xg_cS hX [.int n, .int a] (hM := yc_isThere l D cI n a) (wr := [(mq, .inr (3, [.ref mm, .ref m1, .ref m2, .ref mo, .ref mr, .int (bI o1), .int (bI o2), .int (bI oo), .ref mw, .int (bI men)])), (mm, .inl (cI, 256, .inl (nf M))), (m1, .inl (cI, 200, .inl (nf x1))), (mw, .inl (cI, 80, .inl (nf xw)))]) (ws' := fun _ => [(mq, .inr (3, [.ref mm, .ref m1, .ref m2, .ref mo, .ref mr, .int (bI o1), .int (bI o2), .int (bI oo), .ref mw, .int (bI men)])), (mm, .inl (cI, 256, .inl (nf M))), (m1, .inl (cI, 200, .inl (nf x1))), (mw, .inl (cI, 80, .inl (nf xw)))]) (st' := fun _ => [.int (bI (dfits n a))]) [] [0, 1, 2, 3] [0, 1, 2, 3] [] rfl mt_373 mt_371 mt_4 mt_372 hdM_isThere (by decide) ⟨rfl, rfl⟩ (by decide) rfl rfl (by decide) rfl (by decide) (by decide) (by decide) (fun u => rfl) (fun u => rfl) (fun u => rfl) rfl rfl (by simp [Value.category]) dM_edit_2 (fun _ _ => ?_)
  refine xg_if_neB hX 10 dM_edit_5 (by decide) (fun h5 => ?_) (fun h5 => ?_)
  ·
    refine xg_aload_n hX 0 dM_edit_10 rfl rfl ?_
    refine xg_iload_n hX 1 dM_edit_11 rfl rfl ?_
    refine xg_top (nI (tn n)) (df3 h5) ?_
    refine xg_iload_n hX 2 dM_edit_12 rfl rfl ?_
    refine xg_top (nI (tn a)) (df4 h5) ?_
    refine xg_aload_n hX 0 dM_edit_13 rfl rfl ?_
    refine xg_get hX (ci := 3) rfl hinM 0 rfl 1 (by decide) mt_325 rfl dM_edit_14 ?_
    refine xg_cV hX mq [.int (nI (tn n)), .int (nI (tn a)), .ref m1] (hM := yc_read l D cI mq mm m1 m2 mo mr mw o1 o2 oo men M m1 x1 (tn n) (tn a) (df1 h5) (df2 h5) hM) (wr := [(mw, .inl (cI, 80, .inl (nf xw)))]) (ws' := fun _ => [(mq, .inr (3, [.ref mm, .ref m1, .ref m2, .ref mo, .ref mr, .int (bI o1), .int (bI o2), .int (bI oo), .ref mw, .int (bI men)])), (mm, .inl (cI, 256, .inl (nf M))), (m1, .inl (cI, 200, .inl (nf (rdD M (tn n) (tn a))))), (mw, .inl (cI, 80, .inl (nf xw)))]) (st' := fun _ => [.int (nI (rdV M (tn n) (tn a)))]) [0, 1, 2] [3] [1, 2, 3, 0] [] rfl mt_387 mt_384 mt_4 mt_386 mp_19 0 rfl rfl hdM_read (by decide) ⟨rfl, rfl⟩ (by decide) rfl rfl (by decide) rfl (by decide) (by decide) (by decide) (fun u => rfl) (fun u => rfl) (fun u => rfl) rfl rfl (by simp [Value.category]) dM_edit_17 (fun _ _ => ?_)
    have e1 := rdV_lt M (tn n) (tn a)
    refine xg_istore hX (lv' := [(5, .int (nI (rdV M (tn n) (tn a)))), (0, .ref mq), (1, .int n), (2, .int a), (3, .int p), (4, .int b)]) dM_edit_20 (by decide) rfl ?_
    refine xg_iload hX 0 dM_edit_22 rfl ?_
    refine xg_if_neN hX 30 (by omega) dM_edit_24 (by decide) (fun h24 => ?_) (fun h24 => ?_)
    ·
      have g1 := rdV_p h24
      have hx := sm_rd (df1 h5) g1
      refine xg_aload_n hX 1 dM_edit_30 rfl rfl ?_
      refine xg_get hX (ci := 3) rfl hinM 0 rfl 1 (by decide) mt_325 rfl dM_edit_31 ?_
      refine xg_cS hX [.ref m1] (hM := yc_isZero l D cI m1 (rdD M (tn n) (tn a)) (fun j => by have := hx.1 j; omega)) (wr := [(mq, .inr (3, [.ref mm, .ref m1, .ref m2, .ref mo, .ref mr, .int (bI o1), .int (bI o2), .int (bI oo), .ref mw, .int (bI men)])), (mm, .inl (cI, 256, .inl (nf M))), (mw, .inl (cI, 80, .inl (nf xw)))]) (ws' := fun _ => [(mq, .inr (3, [.ref mm, .ref m1, .ref m2, .ref mo, .ref mr, .int (bI o1), .int (bI o2), .int (bI oo), .ref mw, .int (bI men)])), (mm, .inl (cI, 256, .inl (nf M))), (m1, .inl (cI, 200, .inl (nf (rdD M (tn n) (tn a))))), (mw, .inl (cI, 80, .inl (nf xw)))]) (st' := fun _ => [.int (bI (!hasD (rdD M (tn n) (tn a)) 0 200))]) [2] [0, 1, 3] [0, 1, 3, 2] [] rfl mt_409 mt_407 mt_4 mt_408 hdM_isZero (by decide) ⟨rfl, rfl⟩ (by decide) rfl rfl (by decide) rfl (by decide) (by decide) (by decide) (fun u => rfl) (fun u => rfl) (fun u => rfl) rfl rfl (by simp [Value.category]) dM_edit_34 (fun _ _ => ?_)
      refine xg_istore hX (lv' := [(6, .int (bI (!hasD (rdD M (tn n) (tn a)) 0 200))), (5, .int (nI (rdV M (tn n) (tn a)))), (0, .ref mq), (1, .int n), (2, .int a), (3, .int p), (4, .int b)]) dM_edit_37 (by decide) rfl ?_
      refine xg_iload hX 1 dM_edit_39 rfl ?_
      refine xg_iconst hX (nI 2) dM_edit_41 (by decide) ?_
      have jn1 : GG D X 0 0 55 [(mq, .inr (3, [.ref mm, .ref m1, .ref m2, .ref mo, .ref mr, .int (bI o1), .int (bI o2), .int (bI oo), .ref mw, .int (bI men)])), (mm, .inl (cI, 256, .inl (nf M))), (m1, .inl (cI, 200, .inl (nf (rdD M (tn n) (tn a))))), (mw, .inl (cI, 80, .inl (nf xw)))] [(0, .ref mq), (1, .int n), (3, .int p), (4, .int b), (6, .int (bI (!hasD (rdD M (tn n) (tn a)) 0 200)))] [.int (bI (blM M n a))] := by
        refine xg_istore hX (lv' := [(7, .int (bI (blM M n a))), (0, .ref mq), (1, .int n), (3, .int p), (4, .int b), (6, .int (bI (!hasD (rdD M (tn n) (tn a)) 0 200)))]) dM_edit_55 (by decide) rfl ?_
        refine xg_bipush hX (nI 32) dM_edit_57 (by decide) ?_
        refine xg_istore hX (lv' := [(8, .int (nI 32)), (7, .int (bI (blM M n a))), (0, .ref mq), (1, .int n), (3, .int p), (4, .int b), (6, .int (bI (!hasD (rdD M (tn n) (tn a)) 0 200)))]) dM_edit_59 (by decide) rfl ?_
        refine xg_iload hX 1 dM_edit_61 rfl ?_
        have jn2 : GG D X 0 0 73 [(mq, .inr (3, [.ref mm, .ref m1, .ref m2, .ref mo, .ref mr, .int (bI o1), .int (bI o2), .int (bI oo), .ref mw, .int (bI men)])), (mm, .inl (cI, 256, .inl (nf M))), (m1, .inl (cI, 200, .inl (nf (rdD M (tn n) (tn a))))), (mw, .inl (cI, 80, .inl (nf xw)))] [(0, .ref mq), (1, .int n), (3, .int p), (4, .int b), (6, .int (bI (!hasD (rdD M (tn n) (tn a)) 0 200))), (7, .int (bI (blM M n a))), (8, .int (nI 32))] [.int (nI (if blM M n a = true then 45 else 32))] := by
          refine xg_istore hX (lv' := [(9, .int (nI (if blM M n a = true then 45 else 32))), (0, .ref mq), (1, .int n), (3, .int p), (4, .int b), (6, .int (bI (!hasD (rdD M (tn n) (tn a)) 0 200))), (7, .int (bI (blM M n a))), (8, .int (nI 32))]) dM_edit_73 (by decide) rfl ?_
          refine xg_iconst hX (nI 0) dM_edit_75 (by decide) ?_
          refine xg_istore hX (lv' := [(10, .int (nI 0)), (9, .int (nI (if blM M n a = true then 45 else 32))), (0, .ref mq), (1, .int n), (3, .int p), (4, .int b), (6, .int (bI (!hasD (rdD M (tn n) (tn a)) 0 200))), (7, .int (bI (blM M n a))), (8, .int (nI 32))]) dM_edit_76 (by decide) rfl ?_
          refine xg_iload_n hX 3 dM_edit_78 rfl rfl ?_
          refine xg_top (nI (tn n)) (df3 h5) ?_
          refine xg_istore hX (lv' := [(11, .int (nI (tn n))), (10, .int (nI 0)), (9, .int (nI (if blM M n a = true then 45 else 32))), (0, .ref mq), (1, .int n), (3, .int p), (4, .int b), (6, .int (bI (!hasD (rdD M (tn n) (tn a)) 0 200))), (7, .int (bI (blM M n a))), (8, .int (nI 32))]) dM_edit_79 (by decide) rfl ?_
          refine xg_iconst hX (nI 0) dM_edit_81 (by decide) ?_
          refine xg_istore hX (lv' := [(12, .int (nI 0)), (11, .int (nI (tn n))), (10, .int (nI 0)), (9, .int (nI (if blM M n a = true then 45 else 32))), (0, .ref mq), (1, .int n), (3, .int p), (4, .int b), (6, .int (bI (!hasD (rdD M (tn n) (tn a)) 0 200))), (7, .int (bI (blM M n a))), (8, .int (nI 32))]) dM_edit_82 (by decide) rfl ?_
          refine xg_iload_n hX 6 dM_edit_84 rfl rfl ?_
          refine xg_istore hX (lv' := [(13, .int p), (12, .int (nI 0)), (11, .int (nI (tn n))), (10, .int (nI 0)), (9, .int (nI (if blM M n a = true then 45 else 32))), (0, .ref mq), (1, .int n), (3, .int p), (4, .int b), (6, .int (bI (!hasD (rdD M (tn n) (tn a)) 0 200))), (7, .int (bI (blM M n a))), (8, .int (nI 32))]) dM_edit_85 (by decide) rfl ?_
          refine xg_iconst hX (nI 1) dM_edit_87 (by decide) ?_
          refine xg_istore hX (lv' := [(14, .int (nI 1)), (13, .int p), (12, .int (nI 0)), (11, .int (nI (tn n))), (10, .int (nI 0)), (9, .int (nI (if blM M n a = true then 45 else 32))), (0, .ref mq), (1, .int n), (3, .int p), (4, .int b), (6, .int (bI (!hasD (rdD M (tn n) (tn a)) 0 200))), (7, .int (bI (blM M n a))), (8, .int (nI 32))]) dM_edit_88 (by decide) rfl ?_
          refine xg_iconst hX (nI 1) dM_edit_90 (by decide) ?_
          refine xg_istore hX (lv' := [(15, .int (nI 1)), (14, .int (nI 1)), (13, .int p), (12, .int (nI 0)), (11, .int (nI (tn n))), (10, .int (nI 0)), (9, .int (nI (if blM M n a = true then 45 else 32))), (0, .ref mq), (1, .int n), (3, .int p), (4, .int b), (6, .int (bI (!hasD (rdD M (tn n) (tn a)) 0 200))), (7, .int (bI (blM M n a))), (8, .int (nI 32))]) dM_edit_91 (by decide) rfl ?_
          refine xg_iconst hX (nI 1) dM_edit_93 (by decide) ?_
          refine xg_istore hX (lv' := [(16, .int (nI 1)), (15, .int (nI 1)), (14, .int (nI 1)), (13, .int p), (12, .int (nI 0)), (11, .int (nI (tn n))), (10, .int (nI 0)), (9, .int (nI (if blM M n a = true then 45 else 32))), (0, .ref mq), (1, .int n), (3, .int p), (4, .int b), (6, .int (bI (!hasD (rdD M (tn n) (tn a)) 0 200))), (7, .int (bI (blM M n a))), (8, .int (nI 32))]) dM_edit_94 (by decide) rfl ?_
          have lp3 : ∀ (fu4 : Nat) (s_ : Nat) (z : Int32) (Vw : Nat → Nat) (vc : Nat) (vl : Nat) (vs : Bool) (vf : Nat) (vi : Nat), (1 ≤ s_) → (s_ ≤ 64) → (vc ≤ 64) → (vl ≤ 31) → (edPM M xw n a p = fol M (rdD M (tn n) (tn a)) (blM M n a) (!hasD (rdD M (tn n) (tn a)) 0 200) (65 - s_) z (Vw, vc, vl, vs, vf, vi)) → 65 - s_ < fu4 → GG D X 0 0 96 [(mq, .inr (3, [.ref mm, .ref m1, .ref m2, .ref mo, .ref mr, .int (bI o1), .int (bI o2), .int (bI oo), .ref mw, .int (bI men)])), (mm, .inl (cI, 256, .inl (nf M))), (m1, .inl (cI, 200, .inl (nf (rdD M (tn n) (tn a))))), (mw, .inl (cI, 80, .inl (nf Vw)))] [(0, .ref mq), (4, .int b), (6, .int (bI (!hasD (rdD M (tn n) (tn a)) 0 200))), (7, .int (bI (blM M n a))), (8, .int (nI vf)), (9, .int (nI vi)), (10, .int (bI vs)), (11, .int (nI vl)), (12, .int (nI vc)), (13, .int z), (14, .int (nI 1)), (15, .int (nI 1)), (16, .int (nI s_))] [] := by
            intro fu4
            induction fu4 with
            | zero => intro s_ z Vw vc vl vs vf vi hs1 hs2 hvc hvl hq hm6; exact absurd hm6 (Nat.not_lt_zero _)
            | succ fu4 ih5 =>
              intro s_ z Vw vc vl vs vf vi hs1 hs2 hvc hvl hq hm6
              refine xg_iload hX 11 dM_edit_96 rfl ?_
              refine xg_if_eqN hX 762 (by omega) dM_edit_98 (by decide) (fun h => absurd h (by decide)) (fun _ => ?_)
              refine xg_iload hX 10 dM_edit_101 rfl ?_
              refine xg_if_eqN hX 762 (by omega) dM_edit_103 (by decide) (fun h => absurd h (by decide)) (fun _ => ?_)
              cases hnx : nxO M z with
              | none =>
                have hzr := nxO_out hnx
                refine xg_iload hX 9 dM_edit_106 rfl ?_
                refine xg_if_ltZ hX z.toInt rfl 123 dM_edit_108 (by decide) (fun h108 => ?_) (fun h108 => ?_)
                ·
                  refine xg_iconst hX (nI 0) dM_edit_123 (by decide) ?_
                  refine xg_istore hX (lv' := [(14, .int (nI 0)), (0, .ref mq), (4, .int b), (6, .int (bI (!hasD (rdD M (tn n) (tn a)) 0 200))), (7, .int (bI (blM M n a))), (8, .int (nI vf)), (9, .int (nI vi)), (10, .int (bI vs)), (11, .int (nI vl)), (12, .int (nI vc)), (13, .int z), (15, .int (nI 1)), (16, .int (nI s_))]) dM_edit_124 (by decide) rfl ?_
                  refine xg_iload hX 0 dM_edit_126 rfl ?_
                  refine xg_if_eqN hX 141 (by omega) dM_edit_128 (by decide) (fun _ => ?_) (fun h => absurd h (by decide))
                  refine xg_iconst hX (nI 0) dM_edit_141 (by decide) ?_
                  refine xg_istore hX (lv' := [(17, .int (nI 0)), (14, .int (nI 0)), (0, .ref mq), (4, .int b), (6, .int (bI (!hasD (rdD M (tn n) (tn a)) 0 200))), (7, .int (bI (blM M n a))), (8, .int (nI vf)), (9, .int (nI vi)), (10, .int (bI vs)), (11, .int (nI vl)), (12, .int (nI vc)), (13, .int z), (15, .int (nI 1)), (16, .int (nI s_))]) dM_edit_142 (by decide) rfl ?_
                  refine xg_iinc hX (lv' := [(13, .int (z + Int32.ofInt (1))), (17, .int (nI 0)), (14, .int (nI 0)), (0, .ref mq), (4, .int b), (6, .int (bI (!hasD (rdD M (tn n) (tn a)) 0 200))), (7, .int (bI (blM M n a))), (8, .int (nI vf)), (9, .int (nI vi)), (10, .int (bI vs)), (11, .int (nI vl)), (12, .int (nI vc)), (15, .int (nI 1)), (16, .int (nI s_))]) (z + Int32.ofInt (1)) 11 dM_edit_144 rfl rfl (by decide) rfl ?_
                  refine xg_iload hX 1 dM_edit_147 rfl ?_
                  refine xg_if_eqN hX 156 (by omega) dM_edit_149 (by decide) (fun _ => ?_) (fun h => absurd h (by decide))
                  refine xg_iconst hX (nI 0) dM_edit_156 (by decide) ?_
                  refine xg_istore hX (lv' := [(15, .int (nI 0)), (13, .int (z + Int32.ofInt (1))), (17, .int (nI 0)), (14, .int (nI 0)), (0, .ref mq), (4, .int b), (6, .int (bI (!hasD (rdD M (tn n) (tn a)) 0 200))), (7, .int (bI (blM M n a))), (8, .int (nI vf)), (9, .int (nI vi)), (10, .int (bI vs)), (11, .int (nI vl)), (12, .int (nI vc)), (16, .int (nI s_))]) dM_edit_157 (by decide) rfl ?_
                  refine xg_iload hX 3 dM_edit_159 rfl ?_
                  refine xg_if_eqN hX 180 (by omega) dM_edit_161 (by decide) (fun _ => ?_) (fun h => absurd h (by decide))
                  refine xg_iconst hX (nI 0) dM_edit_180 (by decide) ?_
                  refine xg_istore hX (lv' := [(14, .int (nI 0)), (15, .int (nI 0)), (13, .int (z + Int32.ofInt (1))), (17, .int (nI 0)), (0, .ref mq), (4, .int b), (6, .int (bI (!hasD (rdD M (tn n) (tn a)) 0 200))), (7, .int (bI (blM M n a))), (8, .int (nI vf)), (9, .int (nI vi)), (10, .int (bI vs)), (11, .int (nI vl)), (12, .int (nI vc)), (16, .int (nI s_))]) dM_edit_181 (by decide) rfl ?_
                  refine xg_iload hX 3 dM_edit_183 rfl ?_
                  refine xg_iconst hX (nI 4) dM_edit_185 (by decide) ?_
                  refine xg_icmp_ltN hX 200 (by omega) (by omega) dM_edit_186 (by decide) (fun hh_12 => ?_) (fun hh_12 => absurd hh_12 (by omega))
                  refine xg_iconst hX (nI 0) dM_edit_200 (by decide) ?_
                  refine xg_istore hX (lv' := [(18, .int (nI 0)), (14, .int (nI 0)), (15, .int (nI 0)), (13, .int (z + Int32.ofInt (1))), (17, .int (nI 0)), (0, .ref mq), (4, .int b), (6, .int (bI (!hasD (rdD M (tn n) (tn a)) 0 200))), (7, .int (bI (blM M n a))), (8, .int (nI vf)), (9, .int (nI vi)), (10, .int (bI vs)), (11, .int (nI vl)), (12, .int (nI vc)), (16, .int (nI s_))]) dM_edit_201 (by decide) rfl ?_
                  refine xg_iload hX 0 dM_edit_203 rfl ?_
                  refine xg_if_eqN hX 228 (by omega) dM_edit_205 (by decide) (fun _ => ?_) (fun h => absurd h (by decide))
                  refine xg_iload hX 0 dM_edit_228 rfl ?_
                  refine xg_if_eqN hX 248 (by omega) dM_edit_230 (by decide) (fun _ => ?_) (fun h => absurd h (by decide))
                  refine xg_iconst hX (nI 0) dM_edit_248 (by decide) ?_
                  refine xg_istore hX (lv' := [(19, .int (nI 0)), (18, .int (nI 0)), (14, .int (nI 0)), (15, .int (nI 0)), (13, .int (z + Int32.ofInt (1))), (17, .int (nI 0)), (0, .ref mq), (4, .int b), (6, .int (bI (!hasD (rdD M (tn n) (tn a)) 0 200))), (7, .int (bI (blM M n a))), (8, .int (nI vf)), (9, .int (nI vi)), (10, .int (bI vs)), (11, .int (nI vl)), (12, .int (nI vc)), (16, .int (nI s_))]) dM_edit_249 (by decide) rfl ?_
                  refine xg_iload hX 1 dM_edit_251 rfl ?_
                  refine xg_if_eqN hX 259 (by omega) dM_edit_253 (by decide) (fun _ => ?_) (fun h => absurd h (by decide))
                  refine xg_iload hX 5 dM_edit_259 rfl ?_
                  refine xg_bipush hX (nI 16) dM_edit_261 (by decide) ?_
                  refine xg_idivN hX (by omega) (by omega) (by omega) dM_edit_263 ?_
                  refine xg_istore hX (lv' := [(20, .int (nI (0 / 16))), (19, .int (nI 0)), (18, .int (nI 0)), (14, .int (nI 0)), (15, .int (nI 0)), (13, .int (z + Int32.ofInt (1))), (17, .int (nI 0)), (0, .ref mq), (4, .int b), (6, .int (bI (!hasD (rdD M (tn n) (tn a)) 0 200))), (7, .int (bI (blM M n a))), (8, .int (nI vf)), (9, .int (nI vi)), (10, .int (bI vs)), (11, .int (nI vl)), (12, .int (nI vc)), (16, .int (nI s_))]) dM_edit_264 (by decide) rfl ?_
                  refine xg_iload hX 6 dM_edit_266 rfl ?_
                  refine xg_bipush hX (nI 16) dM_edit_268 (by decide) ?_
                  refine xg_iremN hX (by omega) (by omega) (by omega) dM_edit_270 ?_
                  refine xg_istore hX (lv' := [(21, .int (nI (0 % 16))), (20, .int (nI (0 / 16))), (19, .int (nI 0)), (18, .int (nI 0)), (14, .int (nI 0)), (15, .int (nI 0)), (13, .int (z + Int32.ofInt (1))), (17, .int (nI 0)), (0, .ref mq), (4, .int b), (6, .int (bI (!hasD (rdD M (tn n) (tn a)) 0 200))), (7, .int (bI (blM M n a))), (8, .int (nI vf)), (9, .int (nI vi)), (10, .int (bI vs)), (11, .int (nI vl)), (12, .int (nI vc)), (16, .int (nI s_))]) dM_edit_271 (by decide) rfl ?_
                  refine xg_iload hX 1 dM_edit_273 rfl ?_
                  refine xg_bipush hX (nI 8) dM_edit_275 (by decide) ?_
                  refine xg_icmp_ltN hX 296 (by omega) (by omega) dM_edit_277 (by decide) (fun hh_16 => ?_) (fun hh_16 => absurd hh_16 (by omega))
                  refine xg_iconst hX (nI 0) dM_edit_296 (by decide) ?_
                  refine xg_istore hX (lv' := [(22, .int (nI 0)), (21, .int (nI (0 % 16))), (20, .int (nI (0 / 16))), (19, .int (nI 0)), (18, .int (nI 0)), (14, .int (nI 0)), (15, .int (nI 0)), (13, .int (z + Int32.ofInt (1))), (17, .int (nI 0)), (0, .ref mq), (4, .int b), (6, .int (bI (!hasD (rdD M (tn n) (tn a)) 0 200))), (7, .int (bI (blM M n a))), (8, .int (nI vf)), (9, .int (nI vi)), (10, .int (bI vs)), (11, .int (nI vl)), (12, .int (nI vc)), (16, .int (nI s_))]) dM_edit_297 (by decide) rfl ?_
                  refine xg_iload hX 5 dM_edit_299 rfl ?_
                  refine xg_if_eqN hX 320 (by omega) dM_edit_301 (by decide) (fun _ => ?_) (fun h => absurd h (by decide))
                  refine xg_iconst hX (nI 0) dM_edit_320 (by decide) ?_
                  refine xg_istore hX (lv' := [(14, .int (nI 0)), (22, .int (nI 0)), (21, .int (nI (0 % 16))), (20, .int (nI (0 / 16))), (19, .int (nI 0)), (18, .int (nI 0)), (15, .int (nI 0)), (13, .int (z + Int32.ofInt (1))), (17, .int (nI 0)), (0, .ref mq), (4, .int b), (6, .int (bI (!hasD (rdD M (tn n) (tn a)) 0 200))), (7, .int (bI (blM M n a))), (8, .int (nI vf)), (9, .int (nI vi)), (10, .int (bI vs)), (11, .int (nI vl)), (12, .int (nI vc)), (16, .int (nI s_))]) dM_edit_321 (by decide) rfl ?_
                  refine xg_iload hX 0 dM_edit_323 rfl ?_
                  refine xg_if_eqN hX 337 (by omega) dM_edit_325 (by decide) (fun _ => ?_) (fun h => absurd h (by decide))
                  refine xg_iload hX 0 dM_edit_337 rfl ?_
                  refine xg_if_eqN hX 351 (by omega) dM_edit_339 (by decide) (fun _ => ?_) (fun h => absurd h (by decide))
                  refine xg_iload hX 0 dM_edit_351 rfl ?_
                  refine xg_if_eqN hX 366 (by omega) dM_edit_353 (by decide) (fun _ => ?_) (fun h => absurd h (by decide))
                  refine xg_iload hX 0 dM_edit_366 rfl ?_
                  refine xg_if_eqN hX 386 (by omega) dM_edit_368 (by decide) (fun _ => ?_) (fun h => absurd h (by decide))
                  refine xg_iload hX 0 dM_edit_386 rfl ?_
                  refine xg_if_eqN hX 407 (by omega) dM_edit_388 (by decide) (fun _ => ?_) (fun h => absurd h (by decide))
                  refine xg_iload hX 0 dM_edit_407 rfl ?_
                  refine xg_if_eqN hX 473 (by omega) dM_edit_409 (by decide) (fun _ => ?_) (fun h => absurd h (by decide))
                  refine xg_iload hX 0 dM_edit_473 rfl ?_
                  refine xg_if_eqN hX 543 (by omega) dM_edit_475 (by decide) (fun _ => ?_) (fun h => absurd h (by decide))
                  refine xg_iconst hX (nI 0) dM_edit_543 (by decide) ?_
                  refine xg_istore hX (lv' := [(23, .int (nI 0)), (14, .int (nI 0)), (22, .int (nI 0)), (21, .int (nI (0 % 16))), (20, .int (nI (0 / 16))), (19, .int (nI 0)), (18, .int (nI 0)), (15, .int (nI 0)), (13, .int (z + Int32.ofInt (1))), (17, .int (nI 0)), (0, .ref mq), (4, .int b), (6, .int (bI (!hasD (rdD M (tn n) (tn a)) 0 200))), (7, .int (bI (blM M n a))), (8, .int (nI vf)), (9, .int (nI vi)), (10, .int (bI vs)), (11, .int (nI vl)), (12, .int (nI vc)), (16, .int (nI s_))]) dM_edit_544 (by decide) rfl ?_
                  refine xg_iload hX 1 dM_edit_546 rfl ?_
                  refine xg_if_eqN hX 756 (by omega) dM_edit_548 (by decide) (fun _ => ?_) (fun h => absurd h (by decide))
                  refine xg_iincN hX (lv' := [(16, .int (nI (s_ + 1))), (23, .int (nI 0)), (14, .int (nI 0)), (22, .int (nI 0)), (21, .int (nI (0 % 16))), (20, .int (nI (0 / 16))), (19, .int (nI 0)), (18, .int (nI 0)), (15, .int (nI 0)), (13, .int (z + Int32.ofInt (1))), (17, .int (nI 0)), (0, .ref mq), (4, .int b), (6, .int (bI (!hasD (rdD M (tn n) (tn a)) 0 200))), (7, .int (bI (blM M n a))), (8, .int (nI vf)), (9, .int (nI vi)), (10, .int (bI vs)), (11, .int (nI vl)), (12, .int (nI vc))]) (s_ + 1) 19 dM_edit_756 rfl (xn_inc _) (by decide) rfl ?_
                  refine xg_goto hX 96 dM_edit_759 (by decide) ?_
                  refine xg_iload hX 8 dM_edit_96 rfl ?_
                  refine xg_if_eqN hX 762 (by omega) dM_edit_98 (by decide) (fun _ => ?_) (fun h => absurd h (by decide))
                  refine xg_iload hX 2 dM_edit_762 rfl ?_
                  refine xg_if_eqN hX 772 (by omega) dM_edit_764 (by decide) (fun _ => ?_) (fun h => absurd h (by decide))
                  refine xg_bipush hX ((-2)) dM_edit_772 (by decide) ?_
                  exact hret ((-2), M, rdD M (tn n) (tn a), Vw, men) _ _ _ rfl (show ((-2), M, men) = editM M men xw n a p b from (by have hF : edPM M xw n a p = none := (hq.trans (fol_none hnx)); unfold editM; rw [if_pos h5, if_pos g1, hF])) dM_edit_774
                ·
                  refine xg_iload hX 9 dM_edit_111 rfl ?_
                  refine xg_sipush hX (nI 256) dM_edit_113 (by decide) ?_
                  refine xg_icmp_geZ hX z.toInt (256 : Nat) rfl (xn_ti (by omega)) 123 dM_edit_116 (by decide) (fun h116 => ?_) (fun h116 => absurd h116 (by omega))
                  refine xg_iconst hX (nI 0) dM_edit_123 (by decide) ?_
                  refine xg_istore hX (lv' := [(14, .int (nI 0)), (0, .ref mq), (4, .int b), (6, .int (bI (!hasD (rdD M (tn n) (tn a)) 0 200))), (7, .int (bI (blM M n a))), (8, .int (nI vf)), (9, .int (nI vi)), (10, .int (bI vs)), (11, .int (nI vl)), (12, .int (nI vc)), (13, .int z), (15, .int (nI 1)), (16, .int (nI s_))]) dM_edit_124 (by decide) rfl ?_
                  refine xg_iload hX 0 dM_edit_126 rfl ?_
                  refine xg_if_eqN hX 141 (by omega) dM_edit_128 (by decide) (fun _ => ?_) (fun h => absurd h (by decide))
                  refine xg_iconst hX (nI 0) dM_edit_141 (by decide) ?_
                  refine xg_istore hX (lv' := [(17, .int (nI 0)), (14, .int (nI 0)), (0, .ref mq), (4, .int b), (6, .int (bI (!hasD (rdD M (tn n) (tn a)) 0 200))), (7, .int (bI (blM M n a))), (8, .int (nI vf)), (9, .int (nI vi)), (10, .int (bI vs)), (11, .int (nI vl)), (12, .int (nI vc)), (13, .int z), (15, .int (nI 1)), (16, .int (nI s_))]) dM_edit_142 (by decide) rfl ?_
                  refine xg_iinc hX (lv' := [(13, .int (z + Int32.ofInt (1))), (17, .int (nI 0)), (14, .int (nI 0)), (0, .ref mq), (4, .int b), (6, .int (bI (!hasD (rdD M (tn n) (tn a)) 0 200))), (7, .int (bI (blM M n a))), (8, .int (nI vf)), (9, .int (nI vi)), (10, .int (bI vs)), (11, .int (nI vl)), (12, .int (nI vc)), (15, .int (nI 1)), (16, .int (nI s_))]) (z + Int32.ofInt (1)) 11 dM_edit_144 rfl rfl (by decide) rfl ?_
                  refine xg_iload hX 1 dM_edit_147 rfl ?_
                  refine xg_if_eqN hX 156 (by omega) dM_edit_149 (by decide) (fun _ => ?_) (fun h => absurd h (by decide))
                  refine xg_iconst hX (nI 0) dM_edit_156 (by decide) ?_
                  refine xg_istore hX (lv' := [(15, .int (nI 0)), (13, .int (z + Int32.ofInt (1))), (17, .int (nI 0)), (14, .int (nI 0)), (0, .ref mq), (4, .int b), (6, .int (bI (!hasD (rdD M (tn n) (tn a)) 0 200))), (7, .int (bI (blM M n a))), (8, .int (nI vf)), (9, .int (nI vi)), (10, .int (bI vs)), (11, .int (nI vl)), (12, .int (nI vc)), (16, .int (nI s_))]) dM_edit_157 (by decide) rfl ?_
                  refine xg_iload hX 3 dM_edit_159 rfl ?_
                  refine xg_if_eqN hX 180 (by omega) dM_edit_161 (by decide) (fun _ => ?_) (fun h => absurd h (by decide))
                  refine xg_iconst hX (nI 0) dM_edit_180 (by decide) ?_
                  refine xg_istore hX (lv' := [(14, .int (nI 0)), (15, .int (nI 0)), (13, .int (z + Int32.ofInt (1))), (17, .int (nI 0)), (0, .ref mq), (4, .int b), (6, .int (bI (!hasD (rdD M (tn n) (tn a)) 0 200))), (7, .int (bI (blM M n a))), (8, .int (nI vf)), (9, .int (nI vi)), (10, .int (bI vs)), (11, .int (nI vl)), (12, .int (nI vc)), (16, .int (nI s_))]) dM_edit_181 (by decide) rfl ?_
                  refine xg_iload hX 3 dM_edit_183 rfl ?_
                  refine xg_iconst hX (nI 4) dM_edit_185 (by decide) ?_
                  refine xg_icmp_ltN hX 200 (by omega) (by omega) dM_edit_186 (by decide) (fun hh_31 => ?_) (fun hh_31 => absurd hh_31 (by omega))
                  refine xg_iconst hX (nI 0) dM_edit_200 (by decide) ?_
                  refine xg_istore hX (lv' := [(18, .int (nI 0)), (14, .int (nI 0)), (15, .int (nI 0)), (13, .int (z + Int32.ofInt (1))), (17, .int (nI 0)), (0, .ref mq), (4, .int b), (6, .int (bI (!hasD (rdD M (tn n) (tn a)) 0 200))), (7, .int (bI (blM M n a))), (8, .int (nI vf)), (9, .int (nI vi)), (10, .int (bI vs)), (11, .int (nI vl)), (12, .int (nI vc)), (16, .int (nI s_))]) dM_edit_201 (by decide) rfl ?_
                  refine xg_iload hX 0 dM_edit_203 rfl ?_
                  refine xg_if_eqN hX 228 (by omega) dM_edit_205 (by decide) (fun _ => ?_) (fun h => absurd h (by decide))
                  refine xg_iload hX 0 dM_edit_228 rfl ?_
                  refine xg_if_eqN hX 248 (by omega) dM_edit_230 (by decide) (fun _ => ?_) (fun h => absurd h (by decide))
                  refine xg_iconst hX (nI 0) dM_edit_248 (by decide) ?_
                  refine xg_istore hX (lv' := [(19, .int (nI 0)), (18, .int (nI 0)), (14, .int (nI 0)), (15, .int (nI 0)), (13, .int (z + Int32.ofInt (1))), (17, .int (nI 0)), (0, .ref mq), (4, .int b), (6, .int (bI (!hasD (rdD M (tn n) (tn a)) 0 200))), (7, .int (bI (blM M n a))), (8, .int (nI vf)), (9, .int (nI vi)), (10, .int (bI vs)), (11, .int (nI vl)), (12, .int (nI vc)), (16, .int (nI s_))]) dM_edit_249 (by decide) rfl ?_
                  refine xg_iload hX 1 dM_edit_251 rfl ?_
                  refine xg_if_eqN hX 259 (by omega) dM_edit_253 (by decide) (fun _ => ?_) (fun h => absurd h (by decide))
                  refine xg_iload hX 5 dM_edit_259 rfl ?_
                  refine xg_bipush hX (nI 16) dM_edit_261 (by decide) ?_
                  refine xg_idivN hX (by omega) (by omega) (by omega) dM_edit_263 ?_
                  refine xg_istore hX (lv' := [(20, .int (nI (0 / 16))), (19, .int (nI 0)), (18, .int (nI 0)), (14, .int (nI 0)), (15, .int (nI 0)), (13, .int (z + Int32.ofInt (1))), (17, .int (nI 0)), (0, .ref mq), (4, .int b), (6, .int (bI (!hasD (rdD M (tn n) (tn a)) 0 200))), (7, .int (bI (blM M n a))), (8, .int (nI vf)), (9, .int (nI vi)), (10, .int (bI vs)), (11, .int (nI vl)), (12, .int (nI vc)), (16, .int (nI s_))]) dM_edit_264 (by decide) rfl ?_
                  refine xg_iload hX 6 dM_edit_266 rfl ?_
                  refine xg_bipush hX (nI 16) dM_edit_268 (by decide) ?_
                  refine xg_iremN hX (by omega) (by omega) (by omega) dM_edit_270 ?_
                  refine xg_istore hX (lv' := [(21, .int (nI (0 % 16))), (20, .int (nI (0 / 16))), (19, .int (nI 0)), (18, .int (nI 0)), (14, .int (nI 0)), (15, .int (nI 0)), (13, .int (z + Int32.ofInt (1))), (17, .int (nI 0)), (0, .ref mq), (4, .int b), (6, .int (bI (!hasD (rdD M (tn n) (tn a)) 0 200))), (7, .int (bI (blM M n a))), (8, .int (nI vf)), (9, .int (nI vi)), (10, .int (bI vs)), (11, .int (nI vl)), (12, .int (nI vc)), (16, .int (nI s_))]) dM_edit_271 (by decide) rfl ?_
                  refine xg_iload hX 1 dM_edit_273 rfl ?_
                  refine xg_bipush hX (nI 8) dM_edit_275 (by decide) ?_
                  refine xg_icmp_ltN hX 296 (by omega) (by omega) dM_edit_277 (by decide) (fun hh_35 => ?_) (fun hh_35 => absurd hh_35 (by omega))
                  refine xg_iconst hX (nI 0) dM_edit_296 (by decide) ?_
                  refine xg_istore hX (lv' := [(22, .int (nI 0)), (21, .int (nI (0 % 16))), (20, .int (nI (0 / 16))), (19, .int (nI 0)), (18, .int (nI 0)), (14, .int (nI 0)), (15, .int (nI 0)), (13, .int (z + Int32.ofInt (1))), (17, .int (nI 0)), (0, .ref mq), (4, .int b), (6, .int (bI (!hasD (rdD M (tn n) (tn a)) 0 200))), (7, .int (bI (blM M n a))), (8, .int (nI vf)), (9, .int (nI vi)), (10, .int (bI vs)), (11, .int (nI vl)), (12, .int (nI vc)), (16, .int (nI s_))]) dM_edit_297 (by decide) rfl ?_
                  refine xg_iload hX 5 dM_edit_299 rfl ?_
                  refine xg_if_eqN hX 320 (by omega) dM_edit_301 (by decide) (fun _ => ?_) (fun h => absurd h (by decide))
                  refine xg_iconst hX (nI 0) dM_edit_320 (by decide) ?_
                  refine xg_istore hX (lv' := [(14, .int (nI 0)), (22, .int (nI 0)), (21, .int (nI (0 % 16))), (20, .int (nI (0 / 16))), (19, .int (nI 0)), (18, .int (nI 0)), (15, .int (nI 0)), (13, .int (z + Int32.ofInt (1))), (17, .int (nI 0)), (0, .ref mq), (4, .int b), (6, .int (bI (!hasD (rdD M (tn n) (tn a)) 0 200))), (7, .int (bI (blM M n a))), (8, .int (nI vf)), (9, .int (nI vi)), (10, .int (bI vs)), (11, .int (nI vl)), (12, .int (nI vc)), (16, .int (nI s_))]) dM_edit_321 (by decide) rfl ?_
                  refine xg_iload hX 0 dM_edit_323 rfl ?_
                  refine xg_if_eqN hX 337 (by omega) dM_edit_325 (by decide) (fun _ => ?_) (fun h => absurd h (by decide))
                  refine xg_iload hX 0 dM_edit_337 rfl ?_
                  refine xg_if_eqN hX 351 (by omega) dM_edit_339 (by decide) (fun _ => ?_) (fun h => absurd h (by decide))
                  refine xg_iload hX 0 dM_edit_351 rfl ?_
                  refine xg_if_eqN hX 366 (by omega) dM_edit_353 (by decide) (fun _ => ?_) (fun h => absurd h (by decide))
                  refine xg_iload hX 0 dM_edit_366 rfl ?_
                  refine xg_if_eqN hX 386 (by omega) dM_edit_368 (by decide) (fun _ => ?_) (fun h => absurd h (by decide))
                  refine xg_iload hX 0 dM_edit_386 rfl ?_
                  refine xg_if_eqN hX 407 (by omega) dM_edit_388 (by decide) (fun _ => ?_) (fun h => absurd h (by decide))
                  refine xg_iload hX 0 dM_edit_407 rfl ?_
                  refine xg_if_eqN hX 473 (by omega) dM_edit_409 (by decide) (fun _ => ?_) (fun h => absurd h (by decide))
                  refine xg_iload hX 0 dM_edit_473 rfl ?_
                  refine xg_if_eqN hX 543 (by omega) dM_edit_475 (by decide) (fun _ => ?_) (fun h => absurd h (by decide))
                  refine xg_iconst hX (nI 0) dM_edit_543 (by decide) ?_
                  refine xg_istore hX (lv' := [(23, .int (nI 0)), (14, .int (nI 0)), (22, .int (nI 0)), (21, .int (nI (0 % 16))), (20, .int (nI (0 / 16))), (19, .int (nI 0)), (18, .int (nI 0)), (15, .int (nI 0)), (13, .int (z + Int32.ofInt (1))), (17, .int (nI 0)), (0, .ref mq), (4, .int b), (6, .int (bI (!hasD (rdD M (tn n) (tn a)) 0 200))), (7, .int (bI (blM M n a))), (8, .int (nI vf)), (9, .int (nI vi)), (10, .int (bI vs)), (11, .int (nI vl)), (12, .int (nI vc)), (16, .int (nI s_))]) dM_edit_544 (by decide) rfl ?_
                  refine xg_iload hX 1 dM_edit_546 rfl ?_
                  refine xg_if_eqN hX 756 (by omega) dM_edit_548 (by decide) (fun _ => ?_) (fun h => absurd h (by decide))
                  refine xg_iincN hX (lv' := [(16, .int (nI (s_ + 1))), (23, .int (nI 0)), (14, .int (nI 0)), (22, .int (nI 0)), (21, .int (nI (0 % 16))), (20, .int (nI (0 / 16))), (19, .int (nI 0)), (18, .int (nI 0)), (15, .int (nI 0)), (13, .int (z + Int32.ofInt (1))), (17, .int (nI 0)), (0, .ref mq), (4, .int b), (6, .int (bI (!hasD (rdD M (tn n) (tn a)) 0 200))), (7, .int (bI (blM M n a))), (8, .int (nI vf)), (9, .int (nI vi)), (10, .int (bI vs)), (11, .int (nI vl)), (12, .int (nI vc))]) (s_ + 1) 19 dM_edit_756 rfl (xn_inc _) (by decide) rfl ?_
                  refine xg_goto hX 96 dM_edit_759 (by decide) ?_
                  refine xg_iload hX 8 dM_edit_96 rfl ?_
                  refine xg_if_eqN hX 762 (by omega) dM_edit_98 (by decide) (fun _ => ?_) (fun h => absurd h (by decide))
                  refine xg_iload hX 2 dM_edit_762 rfl ?_
                  refine xg_if_eqN hX 772 (by omega) dM_edit_764 (by decide) (fun _ => ?_) (fun h => absurd h (by decide))
                  refine xg_bipush hX ((-2)) dM_edit_772 (by decide) ?_
                  exact hret ((-2), M, rdD M (tn n) (tn a), Vw, men) _ _ _ rfl (show ((-2), M, men) = editM M men xw n a p b from (by have hF : edPM M xw n a p = none := (hq.trans (fol_none hnx)); unfold editM; rw [if_pos h5, if_pos g1, hF])) dM_edit_774
              | some k =>
                obtain ⟨hz1, hz2, hk3⟩ := nxO_in hnx
                obtain ⟨zn, hzn, rfl⟩ : ∃ zn : Nat, zn < 256 ∧ z = nI zn := ⟨z.toInt.toNat, by omega, xn_self hz1⟩
                have hk4 : M zn = k := by rw [hk3, xn_ti (by omega)]; rfl
                have hk := nxO_lt hM _ k hnx
                have hnb := hM (zn + 1)
                rcases (show k = 0 ∨ k = 1 ∨ k = 2 ∨ k = 3 ∨ k = 4 ∨ k = 5 ∨ k = 6 ∨ k = 7 ∨ k = 8 ∨ (9 ≤ k ∧ k ≤ 127) ∨ k = 128 ∨ (129 ≤ k ∧ k ≤ 143) ∨ k = 144 ∨ (145 ≤ k ∧ k ≤ 159) ∨ k = 160 ∨ (161 ≤ k ∧ k ≤ 175) ∨ (176 ≤ k ∧ k ≤ 255) by omega) with hkk | hkk | hkk | hkk | hkk | hkk | hkk | hkk | hkk | hkk | hkk | hkk | hkk | hkk | hkk | hkk | hkk
                ·
                  refine xg_iload hX 9 dM_edit_106 rfl ?_
                  refine xg_if_ltN hX 123 (by omega) dM_edit_108 (by decide) ?_
                  refine xg_iload hX 9 dM_edit_111 rfl ?_
                  refine xg_sipush hX (nI 256) dM_edit_113 (by decide) ?_
                  refine xg_icmp_geN hX 123 (by omega) (by omega) dM_edit_116 (by decide) (fun h116 => absurd h116 (by omega)) (fun h116 => ?_)
                  refine xg_iconst hX (nI 1) dM_edit_119 (by decide) ?_
                  refine xg_goto hX 124 dM_edit_120 (by decide) ?_
                  refine xg_istore hX (lv' := [(14, .int (nI 1)), (0, .ref mq), (4, .int b), (6, .int (bI (!hasD (rdD M (tn n) (tn a)) 0 200))), (7, .int (bI (blM M n a))), (8, .int (nI vf)), (9, .int (nI vi)), (10, .int (bI vs)), (11, .int (nI vl)), (12, .int (nI vc)), (13, .int (nI zn)), (15, .int (nI 1)), (16, .int (nI s_))]) dM_edit_124 (by decide) rfl ?_
                  refine xg_iload hX 0 dM_edit_126 rfl ?_
                  refine xg_if_eqN hX 141 (by omega) dM_edit_128 (by decide) (fun h => absurd h (by decide)) (fun _ => ?_)
                  refine xg_aload_n hX 1 dM_edit_131 rfl rfl ?_
                  refine xg_get hX (ci := 3) rfl hinM 0 rfl 0 (by decide) mt_324 rfl dM_edit_132 ?_
                  refine xg_iload hX 10 dM_edit_135 rfl ?_
                  refine xg_iald hX 1 zn rfl (by omega) (by decide) dM_edit_137 ?_
                  refine xg_top (nI k) (by rw [hk4]) ?_
                  refine xg_goto hX 142 dM_edit_138 (by decide) ?_
                  refine xg_istore hX (lv' := [(17, .int (nI k)), (14, .int (nI 1)), (0, .ref mq), (4, .int b), (6, .int (bI (!hasD (rdD M (tn n) (tn a)) 0 200))), (7, .int (bI (blM M n a))), (8, .int (nI vf)), (9, .int (nI vi)), (10, .int (bI vs)), (11, .int (nI vl)), (12, .int (nI vc)), (13, .int (nI zn)), (15, .int (nI 1)), (16, .int (nI s_))]) dM_edit_142 (by decide) rfl ?_
                  refine xg_iincN hX (lv' := [(13, .int (nI (zn + 1))), (17, .int (nI k)), (14, .int (nI 1)), (0, .ref mq), (4, .int b), (6, .int (bI (!hasD (rdD M (tn n) (tn a)) 0 200))), (7, .int (bI (blM M n a))), (8, .int (nI vf)), (9, .int (nI vi)), (10, .int (bI vs)), (11, .int (nI vl)), (12, .int (nI vc)), (15, .int (nI 1)), (16, .int (nI s_))]) (zn + 1) 11 dM_edit_144 rfl (xn_inc _) (by decide) rfl ?_
                  refine xg_iload hX 1 dM_edit_147 rfl ?_
                  refine xg_if_eqN hX 156 (by omega) dM_edit_149 (by decide) (fun hh_48 => ?_) (fun hh_48 => absurd hh_48 (by omega))
                  refine xg_iconst hX (nI 0) dM_edit_156 (by decide) ?_
                  refine xg_istore hX (lv' := [(15, .int (nI 0)), (13, .int (nI (zn + 1))), (17, .int (nI k)), (14, .int (nI 1)), (0, .ref mq), (4, .int b), (6, .int (bI (!hasD (rdD M (tn n) (tn a)) 0 200))), (7, .int (bI (blM M n a))), (8, .int (nI vf)), (9, .int (nI vi)), (10, .int (bI vs)), (11, .int (nI vl)), (12, .int (nI vc)), (16, .int (nI s_))]) dM_edit_157 (by decide) rfl ?_
                  refine xg_iload hX 3 dM_edit_159 rfl ?_
                  refine xg_if_eqN hX 180 (by omega) dM_edit_161 (by decide) (fun h => absurd h (by decide)) (fun _ => ?_)
                  refine xg_iload hX 13 dM_edit_164 rfl ?_
                  refine xg_bipush hX (nI 64) dM_edit_166 (by decide) ?_
                  refine xg_icmp_ltN hX 176 (by omega) (by omega) dM_edit_168 (by decide) (fun h168 => ?_) (fun h168 => ?_)
                  ·
                    refine xg_iconst hX (nI 1) dM_edit_176 (by decide) ?_
                    refine xg_goto hX 181 dM_edit_177 (by decide) ?_
                    refine xg_istore hX (lv' := [(14, .int (nI 1)), (15, .int (nI 0)), (13, .int (nI (zn + 1))), (17, .int (nI k)), (0, .ref mq), (4, .int b), (6, .int (bI (!hasD (rdD M (tn n) (tn a)) 0 200))), (7, .int (bI (blM M n a))), (8, .int (nI vf)), (9, .int (nI vi)), (10, .int (bI vs)), (11, .int (nI vl)), (12, .int (nI vc)), (16, .int (nI s_))]) dM_edit_181 (by decide) rfl ?_
                    refine xg_iload hX 3 dM_edit_183 rfl ?_
                    refine xg_iconst hX (nI 4) dM_edit_185 (by decide) ?_
                    refine xg_icmp_ltN hX 200 (by omega) (by omega) dM_edit_186 (by decide) (fun hh_50 => ?_) (fun hh_50 => absurd hh_50 (by omega))
                    refine xg_iconst hX (nI 0) dM_edit_200 (by decide) ?_
                    refine xg_istore hX (lv' := [(18, .int (nI 0)), (14, .int (nI 1)), (15, .int (nI 0)), (13, .int (nI (zn + 1))), (17, .int (nI k)), (0, .ref mq), (4, .int b), (6, .int (bI (!hasD (rdD M (tn n) (tn a)) 0 200))), (7, .int (bI (blM M n a))), (8, .int (nI vf)), (9, .int (nI vi)), (10, .int (bI vs)), (11, .int (nI vl)), (12, .int (nI vc)), (16, .int (nI s_))]) dM_edit_201 (by decide) rfl ?_
                    refine xg_iload hX 0 dM_edit_203 rfl ?_
                    refine xg_if_eqN hX 228 (by omega) dM_edit_205 (by decide) (fun _ => ?_) (fun h => absurd h (by decide))
                    refine xg_iload hX 0 dM_edit_228 rfl ?_
                    refine xg_if_eqN hX 248 (by omega) dM_edit_230 (by decide) (fun _ => ?_) (fun h => absurd h (by decide))
                    refine xg_iconst hX (nI 0) dM_edit_248 (by decide) ?_
                    refine xg_istore hX (lv' := [(19, .int (nI 0)), (18, .int (nI 0)), (14, .int (nI 1)), (15, .int (nI 0)), (13, .int (nI (zn + 1))), (17, .int (nI k)), (0, .ref mq), (4, .int b), (6, .int (bI (!hasD (rdD M (tn n) (tn a)) 0 200))), (7, .int (bI (blM M n a))), (8, .int (nI vf)), (9, .int (nI vi)), (10, .int (bI vs)), (11, .int (nI vl)), (12, .int (nI vc)), (16, .int (nI s_))]) dM_edit_249 (by decide) rfl ?_
                    refine xg_iload hX 1 dM_edit_251 rfl ?_
                    refine xg_if_eqN hX 259 (by omega) dM_edit_253 (by decide) (fun _ => ?_) (fun h => absurd h (by decide))
                    refine xg_iload hX 5 dM_edit_259 rfl ?_
                    refine xg_bipush hX (nI 16) dM_edit_261 (by decide) ?_
                    refine xg_idivN hX (by omega) (by omega) (by omega) dM_edit_263 ?_
                    refine xg_istore hX (lv' := [(20, .int (nI (k / 16))), (19, .int (nI 0)), (18, .int (nI 0)), (14, .int (nI 1)), (15, .int (nI 0)), (13, .int (nI (zn + 1))), (17, .int (nI k)), (0, .ref mq), (4, .int b), (6, .int (bI (!hasD (rdD M (tn n) (tn a)) 0 200))), (7, .int (bI (blM M n a))), (8, .int (nI vf)), (9, .int (nI vi)), (10, .int (bI vs)), (11, .int (nI vl)), (12, .int (nI vc)), (16, .int (nI s_))]) dM_edit_264 (by decide) rfl ?_
                    refine xg_iload hX 6 dM_edit_266 rfl ?_
                    refine xg_bipush hX (nI 16) dM_edit_268 (by decide) ?_
                    refine xg_iremN hX (by omega) (by omega) (by omega) dM_edit_270 ?_
                    refine xg_istore hX (lv' := [(21, .int (nI (k % 16))), (20, .int (nI (k / 16))), (19, .int (nI 0)), (18, .int (nI 0)), (14, .int (nI 1)), (15, .int (nI 0)), (13, .int (nI (zn + 1))), (17, .int (nI k)), (0, .ref mq), (4, .int b), (6, .int (bI (!hasD (rdD M (tn n) (tn a)) 0 200))), (7, .int (bI (blM M n a))), (8, .int (nI vf)), (9, .int (nI vi)), (10, .int (bI vs)), (11, .int (nI vl)), (12, .int (nI vc)), (16, .int (nI s_))]) dM_edit_271 (by decide) rfl ?_
                    refine xg_iload hX 1 dM_edit_273 rfl ?_
                    refine xg_bipush hX (nI 8) dM_edit_275 (by decide) ?_
                    refine xg_icmp_ltN hX 296 (by omega) (by omega) dM_edit_277 (by decide) (fun hh_54 => ?_) (fun hh_54 => absurd hh_54 (by omega))
                    refine xg_iconst hX (nI 0) dM_edit_296 (by decide) ?_
                    refine xg_istore hX (lv' := [(22, .int (nI 0)), (21, .int (nI (k % 16))), (20, .int (nI (k / 16))), (19, .int (nI 0)), (18, .int (nI 0)), (14, .int (nI 1)), (15, .int (nI 0)), (13, .int (nI (zn + 1))), (17, .int (nI k)), (0, .ref mq), (4, .int b), (6, .int (bI (!hasD (rdD M (tn n) (tn a)) 0 200))), (7, .int (bI (blM M n a))), (8, .int (nI vf)), (9, .int (nI vi)), (10, .int (bI vs)), (11, .int (nI vl)), (12, .int (nI vc)), (16, .int (nI s_))]) dM_edit_297 (by decide) rfl ?_
                    refine xg_iload hX 5 dM_edit_299 rfl ?_
                    refine xg_if_eqN hX 320 (by omega) dM_edit_301 (by decide) (fun h => absurd h (by decide)) (fun _ => ?_)
                    refine xg_iload hX 8 dM_edit_304 rfl ?_
                    refine xg_bipush hX (nI 8) dM_edit_306 (by decide) ?_
                    refine xg_icmp_leN hX 316 (by omega) (by omega) dM_edit_308 (by decide) (fun hh_56 => ?_) (fun hh_56 => absurd hh_56 (by omega))
                    refine xg_iconst hX (nI 1) dM_edit_316 (by decide) ?_
                    refine xg_goto hX 321 dM_edit_317 (by decide) ?_
                    refine xg_istore hX (lv' := [(14, .int (nI 1)), (22, .int (nI 0)), (21, .int (nI (k % 16))), (20, .int (nI (k / 16))), (19, .int (nI 0)), (18, .int (nI 0)), (15, .int (nI 0)), (13, .int (nI (zn + 1))), (17, .int (nI k)), (0, .ref mq), (4, .int b), (6, .int (bI (!hasD (rdD M (tn n) (tn a)) 0 200))), (7, .int (bI (blM M n a))), (8, .int (nI vf)), (9, .int (nI vi)), (10, .int (bI vs)), (11, .int (nI vl)), (12, .int (nI vc)), (16, .int (nI s_))]) dM_edit_321 (by decide) rfl ?_
                    refine xg_iload hX 0 dM_edit_323 rfl ?_
                    refine xg_if_eqN hX 337 (by omega) dM_edit_325 (by decide) (fun h => absurd h (by decide)) (fun _ => ?_)
                    refine xg_iload hX 8 dM_edit_328 rfl ?_
                    refine xg_iconst hX (nI 1) dM_edit_330 (by decide) ?_
                    refine xg_icmp_neN hX 337 (by omega) (by omega) dM_edit_331 (by decide) (fun hh_58 => ?_) (fun hh_58 => absurd hh_58 (by omega))
                    refine xg_iload hX 0 dM_edit_337 rfl ?_
                    refine xg_if_eqN hX 351 (by omega) dM_edit_339 (by decide) (fun h => absurd h (by decide)) (fun _ => ?_)
                    refine xg_iload hX 8 dM_edit_342 rfl ?_
                    refine xg_iconst hX (nI 2) dM_edit_344 (by decide) ?_
                    refine xg_icmp_neN hX 351 (by omega) (by omega) dM_edit_345 (by decide) (fun hh_60 => ?_) (fun hh_60 => absurd hh_60 (by omega))
                    refine xg_iload hX 0 dM_edit_351 rfl ?_
                    refine xg_if_eqN hX 366 (by omega) dM_edit_353 (by decide) (fun h => absurd h (by decide)) (fun _ => ?_)
                    refine xg_iload hX 8 dM_edit_356 rfl ?_
                    refine xg_iconst hX (nI 4) dM_edit_358 (by decide) ?_
                    refine xg_icmp_neN hX 366 (by omega) (by omega) dM_edit_359 (by decide) (fun hh_62 => ?_) (fun hh_62 => absurd hh_62 (by omega))
                    refine xg_iload hX 0 dM_edit_366 rfl ?_
                    refine xg_if_eqN hX 386 (by omega) dM_edit_368 (by decide) (fun h => absurd h (by decide)) (fun _ => ?_)
                    refine xg_iload hX 8 dM_edit_371 rfl ?_
                    refine xg_iconst hX (nI 5) dM_edit_373 (by decide) ?_
                    refine xg_icmp_neN hX 386 (by omega) (by omega) dM_edit_374 (by decide) (fun hh_64 => ?_) (fun hh_64 => absurd hh_64 (by omega))
                    refine xg_iload hX 0 dM_edit_386 rfl ?_
                    refine xg_if_eqN hX 407 (by omega) dM_edit_388 (by decide) (fun h => absurd h (by decide)) (fun _ => ?_)
                    refine xg_iload hX 8 dM_edit_391 rfl ?_
                    refine xg_bipush hX (nI 6) dM_edit_393 (by decide) ?_
                    refine xg_icmp_neN hX 407 (by omega) (by omega) dM_edit_395 (by decide) (fun hh_66 => ?_) (fun hh_66 => absurd hh_66 (by omega))
                    refine xg_iload hX 0 dM_edit_407 rfl ?_
                    refine xg_if_eqN hX 473 (by omega) dM_edit_409 (by decide) (fun h => absurd h (by decide)) (fun _ => ?_)
                    refine xg_iload hX 8 dM_edit_412 rfl ?_
                    refine xg_bipush hX (nI 8) dM_edit_414 (by decide) ?_
                    refine xg_icmp_neN hX 473 (by omega) (by omega) dM_edit_416 (by decide) (fun hh_68 => ?_) (fun hh_68 => absurd hh_68 (by omega))
                    refine xg_iload hX 0 dM_edit_473 rfl ?_
                    refine xg_if_eqN hX 543 (by omega) dM_edit_475 (by decide) (fun h => absurd h (by decide)) (fun _ => ?_)
                    refine xg_iload hX 8 dM_edit_478 rfl ?_
                    refine xg_iconst hX (nI 3) dM_edit_480 (by decide) ?_
                    refine xg_icmp_eqN hX 491 (by omega) (by omega) dM_edit_481 (by decide) (fun hh_70 => absurd hh_70 (by omega)) (fun hh_70 => ?_)
                    refine xg_iload hX 8 dM_edit_484 rfl ?_
                    refine xg_bipush hX (nI 7) dM_edit_486 (by decide) ?_
                    refine xg_icmp_neN hX 543 (by omega) (by omega) dM_edit_488 (by decide) (fun hh_71 => ?_) (fun hh_71 => absurd hh_71 (by omega))
                    refine xg_iconst hX (nI 0) dM_edit_543 (by decide) ?_
                    refine xg_istore hX (lv' := [(23, .int (nI 0)), (14, .int (nI 1)), (22, .int (nI 0)), (21, .int (nI (k % 16))), (20, .int (nI (k / 16))), (19, .int (nI 0)), (18, .int (nI 0)), (15, .int (nI 0)), (13, .int (nI (zn + 1))), (17, .int (nI k)), (0, .ref mq), (4, .int b), (6, .int (bI (!hasD (rdD M (tn n) (tn a)) 0 200))), (7, .int (bI (blM M n a))), (8, .int (nI vf)), (9, .int (nI vi)), (10, .int (bI vs)), (11, .int (nI vl)), (12, .int (nI vc)), (16, .int (nI s_))]) dM_edit_544 (by decide) rfl ?_
                    refine xg_iload hX 1 dM_edit_546 rfl ?_
                    refine xg_if_eqN hX 756 (by omega) dM_edit_548 (by decide) (fun h => absurd h (by decide)) (fun _ => ?_)
                    refine xg_iload hX 2 dM_edit_551 rfl ?_
                    refine xg_if_eqN hX 756 (by omega) dM_edit_553 (by decide) (fun _ => ?_) (fun h => absurd h (by decide))
                    refine xg_iincN hX (lv' := [(16, .int (nI (s_ + 1))), (23, .int (nI 0)), (14, .int (nI 1)), (22, .int (nI 0)), (21, .int (nI (k % 16))), (20, .int (nI (k / 16))), (19, .int (nI 0)), (18, .int (nI 0)), (15, .int (nI 0)), (13, .int (nI (zn + 1))), (17, .int (nI k)), (0, .ref mq), (4, .int b), (6, .int (bI (!hasD (rdD M (tn n) (tn a)) 0 200))), (7, .int (bI (blM M n a))), (8, .int (nI vf)), (9, .int (nI vi)), (10, .int (bI vs)), (11, .int (nI vl)), (12, .int (nI vc))]) (s_ + 1) 19 dM_edit_756 rfl (xn_inc _) (by decide) rfl ?_
                    refine xg_goto hX 96 dM_edit_759 (by decide) ?_
                    refine xg_iload hX 8 dM_edit_96 rfl ?_
                    refine xg_if_eqN hX 762 (by omega) dM_edit_98 (by decide) (fun _ => ?_) (fun h => absurd h (by decide))
                    refine xg_iload hX 2 dM_edit_762 rfl ?_
                    refine xg_if_eqN hX 772 (by omega) dM_edit_764 (by decide) (fun h => absurd h (by decide)) (fun _ => ?_)
                    refine xg_iload hX 18 dM_edit_767 rfl ?_
                    refine xg_if_leN hX 775 (by omega) dM_edit_769 (by decide) (fun h769 => ?_) (fun h769 => ?_)
                    ·
                      refine xg_iload hX 12 dM_edit_775 rfl ?_
                      refine xg_iload hX 19 dM_edit_777 rfl ?_
                      refine xg_cS hX [.int b, .int (nI vc)] (hM := yc_are l D cI b vc (by omega)) (wr := [(mq, .inr (3, [.ref mm, .ref m1, .ref m2, .ref mo, .ref mr, .int (bI o1), .int (bI o2), .int (bI oo), .ref mw, .int (bI men)])), (mm, .inl (cI, 256, .inl (nf M))), (m1, .inl (cI, 200, .inl (nf (rdD M (tn n) (tn a))))), (mw, .inl (cI, 80, .inl (nf Vw)))]) (ws' := fun _ => [(mq, .inr (3, [.ref mm, .ref m1, .ref m2, .ref mo, .ref mr, .int (bI o1), .int (bI o2), .int (bI oo), .ref mw, .int (bI men)])), (mm, .inl (cI, 256, .inl (nf M))), (m1, .inl (cI, 200, .inl (nf (rdD M (tn n) (tn a))))), (mw, .inl (cI, 80, .inl (nf Vw)))]) (st' := fun _ => [.int (bI (arB b vc))]) [] [0, 1, 2, 3] [0, 1, 2, 3] [] rfl mt_379 mt_377 mt_4 mt_378 hdM_are (by decide) ⟨rfl, rfl⟩ (by decide) rfl rfl (by decide) rfl (by decide) (by decide) (by decide) (fun u => rfl) (fun u => rfl) (fun u => rfl) rfl rfl (by simp [Value.category]) dM_edit_779 (fun _ _ => ?_)
                      refine xg_if_neB hX 787 dM_edit_782 (by decide) (fun h782 => ?_) (fun h782 => ?_)
                      ·
                        have q9 : 0 ≤ b.toInt ∧ b.toInt ≤ 256 - (vc : Int) := of_decide_eq_true h782
                        have q8 : tn b + vc ≤ 256 := by unfold tn; omega
                        have hE : edPM M xw n a p = some (Vw, vc, vl, vs, vf, vi) := (fo_e hq hnx hkk (by omega)).trans (if_pos h769)
                        refine xg_iconst hX (nI 0) dM_edit_787 (by decide) ?_
                        refine xg_istore hX (lv' := [(16, .int (nI 0)), (23, .int (nI 0)), (14, .int (nI 1)), (22, .int (nI 0)), (21, .int (nI (k % 16))), (20, .int (nI (k / 16))), (19, .int (nI 0)), (18, .int (nI 0)), (15, .int (nI 0)), (13, .int (nI (zn + 1))), (17, .int (nI k)), (0, .ref mq), (4, .int b), (6, .int (bI (!hasD (rdD M (tn n) (tn a)) 0 200))), (7, .int (bI (blM M n a))), (8, .int (nI vf)), (9, .int (nI vi)), (10, .int (bI vs)), (11, .int (nI vl)), (12, .int (nI vc))]) dM_edit_788 (by decide) rfl ?_
                        have lp76 : ∀ (fu77 : Nat) (i : Nat), (i ≤ vc) → vc - i < fu77 → GG D X 0 0 790 [(mq, .inr (3, [.ref mm, .ref m1, .ref m2, .ref mo, .ref mr, .int (bI o1), .int (bI o2), .int (bI oo), .ref mw, .int (bI men)])), (mm, .inl (cI, 256, .inl (nf (edM M Vw (tn b) i)))), (m1, .inl (cI, 200, .inl (nf (rdD M (tn n) (tn a))))), (mw, .inl (cI, 80, .inl (nf Vw)))] [(0, .ref mq), (4, .int b), (10, .int (bI vs)), (12, .int (nI vc)), (16, .int (nI i))] [] := by
                          intro fu77
                          induction fu77 with
                          | zero => intro i hi hm79; exact absurd hm79 (Nat.not_lt_zero _)
                          | succ fu77 ih78 =>
                            intro i hi hm79
                            refine xg_iload hX 4 dM_edit_790 rfl ?_
                            refine xg_iload hX 3 dM_edit_792 rfl ?_
                            refine xg_icmp_geN hX 820 (by omega) (by omega) dM_edit_794 (by decide) (fun h794 => ?_) (fun h794 => ?_)
                            ·
                              refine xg_aload_n hX 0 dM_edit_820 rfl rfl ?_
                              refine xg_iload hX 2 dM_edit_821 rfl ?_
                              refine xg_put hX tyM tyM_ok nmM (ci := 3) rfl hinM (ws' := [(mq, .inr (3, [.ref mm, .ref m1, .ref m2, .ref mo, .ref mr, .int (bI o1), .int (bI o2), .int (bI oo), .ref mw, .int (bI vs)])), (mm, .inl (cI, 256, .inl (nf (edM M Vw (tn b) i)))), (m1, .inl (cI, 200, .inl (nf (rdD M (tn n) (tn a))))), (mw, .inl (cI, 80, .inl (nf Vw)))]) 0 rfl 9 (by decide) mt_333 rfl (xn_narB _) (xn_fitB _) (Nat.le_of_ble_eq_true rfl) rfl dM_edit_823 ?_
                              refine xg_iload hX 3 dM_edit_826 rfl ?_
                              exact hret (nI vc, edM M Vw (tn b) i, rdD M (tn n) (tn a), Vw, vs) _ _ _ rfl (show ((nI vc), (edM M Vw (tn b) i), vs) = editM M men xw n a p b from (by unfold editM; rw [if_pos h5, if_pos g1, hE]; show _ = if _ then _ else _; rw [if_pos h782, show i = vc by omega])) dM_edit_828
                            ·
                              refine xg_aload_n hX 0 dM_edit_797 rfl rfl ?_
                              refine xg_get hX (ci := 3) rfl hinM 0 rfl 0 (by decide) mt_324 rfl dM_edit_798 ?_
                              refine xg_iload hX 1 dM_edit_801 rfl ?_
                              refine xg_top (nI (tn b)) (xn_tn (of_decide_eq_true h782).1) ?_
                              refine xg_iload hX 4 dM_edit_803 rfl ?_
                              refine xg_iaddN hX dM_edit_805 ?_
                              refine xg_aload_n hX 0 dM_edit_806 rfl rfl ?_
                              refine xg_get hX (ci := 3) rfl hinM 0 rfl 8 (by decide) mt_332 rfl dM_edit_807 ?_
                              refine xg_iload hX 4 dM_edit_810 rfl ?_
                              refine xg_iald hX 3 i rfl (by omega) (by decide) dM_edit_812 ?_
                              refine xg_iast hX (ws' := [(mq, .inr (3, [.ref mm, .ref m1, .ref m2, .ref mo, .ref mr, .int (bI o1), .int (bI o2), .int (bI oo), .ref mw, .int (bI men)])), (mm, .inl (cI, 256, .inl (nf (up (edM M Vw (tn b) i) ((tn b) + i) (Vw i))))), (m1, .inl (cI, 200, .inl (nf (rdD M (tn n) (tn a))))), (mw, .inl (cI, 80, .inl (nf Vw)))]) 1 ((tn b) + i) (Vw i) rfl (by omega) (by decide) rfl dM_edit_813 ?_
                              refine xg_iincN hX (lv' := [(16, .int (nI (i + 1))), (0, .ref mq), (4, .int b), (10, .int (bI vs)), (12, .int (nI vc))]) (i + 1) 4 dM_edit_814 rfl (xn_inc _) (by decide) rfl ?_
                              refine xg_goto hX 790 dM_edit_817 (by decide) ?_
                              refine xg_ext hX (g := edM M Vw (tn b) (i + 1)) (ws' := [(mq, .inr (3, [.ref mm, .ref m1, .ref m2, .ref mo, .ref mr, .int (bI o1), .int (bI o2), .int (bI oo), .ref mw, .int (bI men)])), (mm, .inl (cI, 256, .inl (nf (edM M Vw (tn b) (i + 1))))), (m1, .inl (cI, 200, .inl (nf (rdD M (tn n) (tn a))))), (mw, .inl (cI, 80, .inl (nf Vw)))]) 1 rfl (fun j hj => edM_s j) rfl ?_
                              refine xg_lv hX (lv' := [(0, .ref mq), (4, .int b), (10, .int (bI vs)), (12, .int (nI vc)), (16, .int (nI (i + 1)))]) [1, 2, 3, 4, 0] rfl ?_
                              exact ih78 (i + 1) (by omega) (by omega)
                        refine xg_ext hX (g := edM M Vw (tn b) 0) (ws' := [(mq, .inr (3, [.ref mm, .ref m1, .ref m2, .ref mo, .ref mr, .int (bI o1), .int (bI o2), .int (bI oo), .ref mw, .int (bI men)])), (mm, .inl (cI, 256, .inl (nf (edM M Vw (tn b) 0)))), (m1, .inl (cI, 200, .inl (nf (rdD M (tn n) (tn a))))), (mw, .inl (cI, 80, .inl (nf Vw)))]) 1 rfl (fun j hj => edM_0 j) rfl ?_
                        refine xg_lv hX (lv' := [(0, .ref mq), (4, .int b), (10, .int (bI vs)), (12, .int (nI vc)), (16, .int (nI 0))]) [11, 12, 17, 19, 0] rfl ?_
                        exact lp76 (vc - 0 + 1) 0 (by omega) (Nat.lt_succ_self _)
                      ·
                        refine xg_iconst hX ((-1)) dM_edit_785 (by decide) ?_
                        exact hret ((-1), M, rdD M (tn n) (tn a), Vw, men) _ _ _ rfl (show ((-1), M, men) = editM M men xw n a p b from (by have hE : edPM M xw n a p = some (Vw, vc, vl, vs, vf, vi) := (fo_e hq hnx hkk (by omega)).trans (if_pos h769); unfold editM; rw [if_pos h5, if_pos g1, hE]; exact (if_neg (fun q => absurd (h782.symm.trans q) (by decide))).symm)) dM_edit_786
                    ·
                      refine xg_bipush hX ((-2)) dM_edit_772 (by decide) ?_
                      exact hret ((-2), M, rdD M (tn n) (tn a), Vw, men) _ _ _ rfl (show ((-2), M, men) = editM M men xw n a p b from (by have hF : edPM M xw n a p = none := ((fo_e hq hnx hkk (by omega)).trans (if_neg (show ¬ vl = 0 by omega))); unfold editM; rw [if_pos h5, if_pos g1, hF])) dM_edit_774
                  ·
                    refine xg_iload hX 0 dM_edit_171 rfl ?_
                    refine xg_if_neN hX 180 (by omega) dM_edit_173 (by decide) (fun h => absurd h (by decide)) (fun _ => ?_)
                    refine xg_iconst hX (nI 1) dM_edit_176 (by decide) ?_
                    refine xg_goto hX 181 dM_edit_177 (by decide) ?_
                    refine xg_istore hX (lv' := [(14, .int (nI 1)), (15, .int (nI 0)), (13, .int (nI (zn + 1))), (17, .int (nI k)), (0, .ref mq), (4, .int b), (6, .int (bI (!hasD (rdD M (tn n) (tn a)) 0 200))), (7, .int (bI (blM M n a))), (8, .int (nI vf)), (9, .int (nI vi)), (10, .int (bI vs)), (11, .int (nI vl)), (12, .int (nI vc)), (16, .int (nI s_))]) dM_edit_181 (by decide) rfl ?_
                    refine xg_iload hX 3 dM_edit_183 rfl ?_
                    refine xg_iconst hX (nI 4) dM_edit_185 (by decide) ?_
                    refine xg_icmp_ltN hX 200 (by omega) (by omega) dM_edit_186 (by decide) (fun hh_81 => ?_) (fun hh_81 => absurd hh_81 (by omega))
                    refine xg_iconst hX (nI 0) dM_edit_200 (by decide) ?_
                    refine xg_istore hX (lv' := [(18, .int (nI 0)), (14, .int (nI 1)), (15, .int (nI 0)), (13, .int (nI (zn + 1))), (17, .int (nI k)), (0, .ref mq), (4, .int b), (6, .int (bI (!hasD (rdD M (tn n) (tn a)) 0 200))), (7, .int (bI (blM M n a))), (8, .int (nI vf)), (9, .int (nI vi)), (10, .int (bI vs)), (11, .int (nI vl)), (12, .int (nI vc)), (16, .int (nI s_))]) dM_edit_201 (by decide) rfl ?_
                    refine xg_iload hX 0 dM_edit_203 rfl ?_
                    refine xg_if_eqN hX 228 (by omega) dM_edit_205 (by decide) (fun _ => ?_) (fun h => absurd h (by decide))
                    refine xg_iload hX 0 dM_edit_228 rfl ?_
                    refine xg_if_eqN hX 248 (by omega) dM_edit_230 (by decide) (fun _ => ?_) (fun h => absurd h (by decide))
                    refine xg_iconst hX (nI 0) dM_edit_248 (by decide) ?_
                    refine xg_istore hX (lv' := [(19, .int (nI 0)), (18, .int (nI 0)), (14, .int (nI 1)), (15, .int (nI 0)), (13, .int (nI (zn + 1))), (17, .int (nI k)), (0, .ref mq), (4, .int b), (6, .int (bI (!hasD (rdD M (tn n) (tn a)) 0 200))), (7, .int (bI (blM M n a))), (8, .int (nI vf)), (9, .int (nI vi)), (10, .int (bI vs)), (11, .int (nI vl)), (12, .int (nI vc)), (16, .int (nI s_))]) dM_edit_249 (by decide) rfl ?_
                    refine xg_iload hX 1 dM_edit_251 rfl ?_
                    refine xg_if_eqN hX 259 (by omega) dM_edit_253 (by decide) (fun _ => ?_) (fun h => absurd h (by decide))
                    refine xg_iload hX 5 dM_edit_259 rfl ?_
                    refine xg_bipush hX (nI 16) dM_edit_261 (by decide) ?_
                    refine xg_idivN hX (by omega) (by omega) (by omega) dM_edit_263 ?_
                    refine xg_istore hX (lv' := [(20, .int (nI (k / 16))), (19, .int (nI 0)), (18, .int (nI 0)), (14, .int (nI 1)), (15, .int (nI 0)), (13, .int (nI (zn + 1))), (17, .int (nI k)), (0, .ref mq), (4, .int b), (6, .int (bI (!hasD (rdD M (tn n) (tn a)) 0 200))), (7, .int (bI (blM M n a))), (8, .int (nI vf)), (9, .int (nI vi)), (10, .int (bI vs)), (11, .int (nI vl)), (12, .int (nI vc)), (16, .int (nI s_))]) dM_edit_264 (by decide) rfl ?_
                    refine xg_iload hX 6 dM_edit_266 rfl ?_
                    refine xg_bipush hX (nI 16) dM_edit_268 (by decide) ?_
                    refine xg_iremN hX (by omega) (by omega) (by omega) dM_edit_270 ?_
                    refine xg_istore hX (lv' := [(21, .int (nI (k % 16))), (20, .int (nI (k / 16))), (19, .int (nI 0)), (18, .int (nI 0)), (14, .int (nI 1)), (15, .int (nI 0)), (13, .int (nI (zn + 1))), (17, .int (nI k)), (0, .ref mq), (4, .int b), (6, .int (bI (!hasD (rdD M (tn n) (tn a)) 0 200))), (7, .int (bI (blM M n a))), (8, .int (nI vf)), (9, .int (nI vi)), (10, .int (bI vs)), (11, .int (nI vl)), (12, .int (nI vc)), (16, .int (nI s_))]) dM_edit_271 (by decide) rfl ?_
                    refine xg_iload hX 1 dM_edit_273 rfl ?_
                    refine xg_bipush hX (nI 8) dM_edit_275 (by decide) ?_
                    refine xg_icmp_ltN hX 296 (by omega) (by omega) dM_edit_277 (by decide) (fun hh_85 => ?_) (fun hh_85 => absurd hh_85 (by omega))
                    refine xg_iconst hX (nI 0) dM_edit_296 (by decide) ?_
                    refine xg_istore hX (lv' := [(22, .int (nI 0)), (21, .int (nI (k % 16))), (20, .int (nI (k / 16))), (19, .int (nI 0)), (18, .int (nI 0)), (14, .int (nI 1)), (15, .int (nI 0)), (13, .int (nI (zn + 1))), (17, .int (nI k)), (0, .ref mq), (4, .int b), (6, .int (bI (!hasD (rdD M (tn n) (tn a)) 0 200))), (7, .int (bI (blM M n a))), (8, .int (nI vf)), (9, .int (nI vi)), (10, .int (bI vs)), (11, .int (nI vl)), (12, .int (nI vc)), (16, .int (nI s_))]) dM_edit_297 (by decide) rfl ?_
                    refine xg_iload hX 5 dM_edit_299 rfl ?_
                    refine xg_if_eqN hX 320 (by omega) dM_edit_301 (by decide) (fun h => absurd h (by decide)) (fun _ => ?_)
                    refine xg_iload hX 8 dM_edit_304 rfl ?_
                    refine xg_bipush hX (nI 8) dM_edit_306 (by decide) ?_
                    refine xg_icmp_leN hX 316 (by omega) (by omega) dM_edit_308 (by decide) (fun hh_87 => ?_) (fun hh_87 => absurd hh_87 (by omega))
                    refine xg_iconst hX (nI 1) dM_edit_316 (by decide) ?_
                    refine xg_goto hX 321 dM_edit_317 (by decide) ?_
                    refine xg_istore hX (lv' := [(14, .int (nI 1)), (22, .int (nI 0)), (21, .int (nI (k % 16))), (20, .int (nI (k / 16))), (19, .int (nI 0)), (18, .int (nI 0)), (15, .int (nI 0)), (13, .int (nI (zn + 1))), (17, .int (nI k)), (0, .ref mq), (4, .int b), (6, .int (bI (!hasD (rdD M (tn n) (tn a)) 0 200))), (7, .int (bI (blM M n a))), (8, .int (nI vf)), (9, .int (nI vi)), (10, .int (bI vs)), (11, .int (nI vl)), (12, .int (nI vc)), (16, .int (nI s_))]) dM_edit_321 (by decide) rfl ?_
                    refine xg_iload hX 0 dM_edit_323 rfl ?_
                    refine xg_if_eqN hX 337 (by omega) dM_edit_325 (by decide) (fun h => absurd h (by decide)) (fun _ => ?_)
                    refine xg_iload hX 8 dM_edit_328 rfl ?_
                    refine xg_iconst hX (nI 1) dM_edit_330 (by decide) ?_
                    refine xg_icmp_neN hX 337 (by omega) (by omega) dM_edit_331 (by decide) (fun hh_89 => ?_) (fun hh_89 => absurd hh_89 (by omega))
                    refine xg_iload hX 0 dM_edit_337 rfl ?_
                    refine xg_if_eqN hX 351 (by omega) dM_edit_339 (by decide) (fun h => absurd h (by decide)) (fun _ => ?_)
                    refine xg_iload hX 8 dM_edit_342 rfl ?_
                    refine xg_iconst hX (nI 2) dM_edit_344 (by decide) ?_
                    refine xg_icmp_neN hX 351 (by omega) (by omega) dM_edit_345 (by decide) (fun hh_91 => ?_) (fun hh_91 => absurd hh_91 (by omega))
                    refine xg_iload hX 0 dM_edit_351 rfl ?_
                    refine xg_if_eqN hX 366 (by omega) dM_edit_353 (by decide) (fun h => absurd h (by decide)) (fun _ => ?_)
                    refine xg_iload hX 8 dM_edit_356 rfl ?_
                    refine xg_iconst hX (nI 4) dM_edit_358 (by decide) ?_
                    refine xg_icmp_neN hX 366 (by omega) (by omega) dM_edit_359 (by decide) (fun hh_93 => ?_) (fun hh_93 => absurd hh_93 (by omega))
                    refine xg_iload hX 0 dM_edit_366 rfl ?_
                    refine xg_if_eqN hX 386 (by omega) dM_edit_368 (by decide) (fun h => absurd h (by decide)) (fun _ => ?_)
                    refine xg_iload hX 8 dM_edit_371 rfl ?_
                    refine xg_iconst hX (nI 5) dM_edit_373 (by decide) ?_
                    refine xg_icmp_neN hX 386 (by omega) (by omega) dM_edit_374 (by decide) (fun hh_95 => ?_) (fun hh_95 => absurd hh_95 (by omega))
                    refine xg_iload hX 0 dM_edit_386 rfl ?_
                    refine xg_if_eqN hX 407 (by omega) dM_edit_388 (by decide) (fun h => absurd h (by decide)) (fun _ => ?_)
                    refine xg_iload hX 8 dM_edit_391 rfl ?_
                    refine xg_bipush hX (nI 6) dM_edit_393 (by decide) ?_
                    refine xg_icmp_neN hX 407 (by omega) (by omega) dM_edit_395 (by decide) (fun hh_97 => ?_) (fun hh_97 => absurd hh_97 (by omega))
                    refine xg_iload hX 0 dM_edit_407 rfl ?_
                    refine xg_if_eqN hX 473 (by omega) dM_edit_409 (by decide) (fun h => absurd h (by decide)) (fun _ => ?_)
                    refine xg_iload hX 8 dM_edit_412 rfl ?_
                    refine xg_bipush hX (nI 8) dM_edit_414 (by decide) ?_
                    refine xg_icmp_neN hX 473 (by omega) (by omega) dM_edit_416 (by decide) (fun hh_99 => ?_) (fun hh_99 => absurd hh_99 (by omega))
                    refine xg_iload hX 0 dM_edit_473 rfl ?_
                    refine xg_if_eqN hX 543 (by omega) dM_edit_475 (by decide) (fun h => absurd h (by decide)) (fun _ => ?_)
                    refine xg_iload hX 8 dM_edit_478 rfl ?_
                    refine xg_iconst hX (nI 3) dM_edit_480 (by decide) ?_
                    refine xg_icmp_eqN hX 491 (by omega) (by omega) dM_edit_481 (by decide) (fun hh_101 => absurd hh_101 (by omega)) (fun hh_101 => ?_)
                    refine xg_iload hX 8 dM_edit_484 rfl ?_
                    refine xg_bipush hX (nI 7) dM_edit_486 (by decide) ?_
                    refine xg_icmp_neN hX 543 (by omega) (by omega) dM_edit_488 (by decide) (fun hh_102 => ?_) (fun hh_102 => absurd hh_102 (by omega))
                    refine xg_iconst hX (nI 0) dM_edit_543 (by decide) ?_
                    refine xg_istore hX (lv' := [(23, .int (nI 0)), (14, .int (nI 1)), (22, .int (nI 0)), (21, .int (nI (k % 16))), (20, .int (nI (k / 16))), (19, .int (nI 0)), (18, .int (nI 0)), (15, .int (nI 0)), (13, .int (nI (zn + 1))), (17, .int (nI k)), (0, .ref mq), (4, .int b), (6, .int (bI (!hasD (rdD M (tn n) (tn a)) 0 200))), (7, .int (bI (blM M n a))), (8, .int (nI vf)), (9, .int (nI vi)), (10, .int (bI vs)), (11, .int (nI vl)), (12, .int (nI vc)), (16, .int (nI s_))]) dM_edit_544 (by decide) rfl ?_
                    refine xg_iload hX 1 dM_edit_546 rfl ?_
                    refine xg_if_eqN hX 756 (by omega) dM_edit_548 (by decide) (fun h => absurd h (by decide)) (fun _ => ?_)
                    refine xg_iload hX 2 dM_edit_551 rfl ?_
                    refine xg_if_eqN hX 756 (by omega) dM_edit_553 (by decide) (fun _ => ?_) (fun h => absurd h (by decide))
                    refine xg_iincN hX (lv' := [(16, .int (nI (s_ + 1))), (23, .int (nI 0)), (14, .int (nI 1)), (22, .int (nI 0)), (21, .int (nI (k % 16))), (20, .int (nI (k / 16))), (19, .int (nI 0)), (18, .int (nI 0)), (15, .int (nI 0)), (13, .int (nI (zn + 1))), (17, .int (nI k)), (0, .ref mq), (4, .int b), (6, .int (bI (!hasD (rdD M (tn n) (tn a)) 0 200))), (7, .int (bI (blM M n a))), (8, .int (nI vf)), (9, .int (nI vi)), (10, .int (bI vs)), (11, .int (nI vl)), (12, .int (nI vc))]) (s_ + 1) 19 dM_edit_756 rfl (xn_inc _) (by decide) rfl ?_
                    refine xg_goto hX 96 dM_edit_759 (by decide) ?_
                    refine xg_iload hX 8 dM_edit_96 rfl ?_
                    refine xg_if_eqN hX 762 (by omega) dM_edit_98 (by decide) (fun _ => ?_) (fun h => absurd h (by decide))
                    refine xg_iload hX 2 dM_edit_762 rfl ?_
                    refine xg_if_eqN hX 772 (by omega) dM_edit_764 (by decide) (fun h => absurd h (by decide)) (fun _ => ?_)
                    refine xg_iload hX 18 dM_edit_767 rfl ?_
                    refine xg_if_leN hX 775 (by omega) dM_edit_769 (by decide) (fun h769 => ?_) (fun h769 => ?_)
                    ·
                      refine xg_iload hX 12 dM_edit_775 rfl ?_
                      refine xg_iload hX 19 dM_edit_777 rfl ?_
                      refine xg_cS hX [.int b, .int (nI vc)] (hM := yc_are l D cI b vc (by omega)) (wr := [(mq, .inr (3, [.ref mm, .ref m1, .ref m2, .ref mo, .ref mr, .int (bI o1), .int (bI o2), .int (bI oo), .ref mw, .int (bI men)])), (mm, .inl (cI, 256, .inl (nf M))), (m1, .inl (cI, 200, .inl (nf (rdD M (tn n) (tn a))))), (mw, .inl (cI, 80, .inl (nf Vw)))]) (ws' := fun _ => [(mq, .inr (3, [.ref mm, .ref m1, .ref m2, .ref mo, .ref mr, .int (bI o1), .int (bI o2), .int (bI oo), .ref mw, .int (bI men)])), (mm, .inl (cI, 256, .inl (nf M))), (m1, .inl (cI, 200, .inl (nf (rdD M (tn n) (tn a))))), (mw, .inl (cI, 80, .inl (nf Vw)))]) (st' := fun _ => [.int (bI (arB b vc))]) [] [0, 1, 2, 3] [0, 1, 2, 3] [] rfl mt_379 mt_377 mt_4 mt_378 hdM_are (by decide) ⟨rfl, rfl⟩ (by decide) rfl rfl (by decide) rfl (by decide) (by decide) (by decide) (fun u => rfl) (fun u => rfl) (fun u => rfl) rfl rfl (by simp [Value.category]) dM_edit_779 (fun _ _ => ?_)
                      refine xg_if_neB hX 787 dM_edit_782 (by decide) (fun h782 => ?_) (fun h782 => ?_)
                      ·
                        have q9 : 0 ≤ b.toInt ∧ b.toInt ≤ 256 - (vc : Int) := of_decide_eq_true h782
                        have q8 : tn b + vc ≤ 256 := by unfold tn; omega
                        have hE : edPM M xw n a p = some (Vw, vc, vl, vs, vf, vi) := (fo_e hq hnx hkk (by omega)).trans (if_pos h769)
                        refine xg_iconst hX (nI 0) dM_edit_787 (by decide) ?_
                        refine xg_istore hX (lv' := [(16, .int (nI 0)), (23, .int (nI 0)), (14, .int (nI 1)), (22, .int (nI 0)), (21, .int (nI (k % 16))), (20, .int (nI (k / 16))), (19, .int (nI 0)), (18, .int (nI 0)), (15, .int (nI 0)), (13, .int (nI (zn + 1))), (17, .int (nI k)), (0, .ref mq), (4, .int b), (6, .int (bI (!hasD (rdD M (tn n) (tn a)) 0 200))), (7, .int (bI (blM M n a))), (8, .int (nI vf)), (9, .int (nI vi)), (10, .int (bI vs)), (11, .int (nI vl)), (12, .int (nI vc))]) dM_edit_788 (by decide) rfl ?_
                        have lp107 : ∀ (fu108 : Nat) (i : Nat), (i ≤ vc) → vc - i < fu108 → GG D X 0 0 790 [(mq, .inr (3, [.ref mm, .ref m1, .ref m2, .ref mo, .ref mr, .int (bI o1), .int (bI o2), .int (bI oo), .ref mw, .int (bI men)])), (mm, .inl (cI, 256, .inl (nf (edM M Vw (tn b) i)))), (m1, .inl (cI, 200, .inl (nf (rdD M (tn n) (tn a))))), (mw, .inl (cI, 80, .inl (nf Vw)))] [(0, .ref mq), (4, .int b), (10, .int (bI vs)), (12, .int (nI vc)), (16, .int (nI i))] [] := by
                          intro fu108
                          induction fu108 with
                          | zero => intro i hi hm110; exact absurd hm110 (Nat.not_lt_zero _)
                          | succ fu108 ih109 =>
                            intro i hi hm110
                            refine xg_iload hX 4 dM_edit_790 rfl ?_
                            refine xg_iload hX 3 dM_edit_792 rfl ?_
                            refine xg_icmp_geN hX 820 (by omega) (by omega) dM_edit_794 (by decide) (fun h794 => ?_) (fun h794 => ?_)
                            ·
                              refine xg_aload_n hX 0 dM_edit_820 rfl rfl ?_
                              refine xg_iload hX 2 dM_edit_821 rfl ?_
                              refine xg_put hX tyM tyM_ok nmM (ci := 3) rfl hinM (ws' := [(mq, .inr (3, [.ref mm, .ref m1, .ref m2, .ref mo, .ref mr, .int (bI o1), .int (bI o2), .int (bI oo), .ref mw, .int (bI vs)])), (mm, .inl (cI, 256, .inl (nf (edM M Vw (tn b) i)))), (m1, .inl (cI, 200, .inl (nf (rdD M (tn n) (tn a))))), (mw, .inl (cI, 80, .inl (nf Vw)))]) 0 rfl 9 (by decide) mt_333 rfl (xn_narB _) (xn_fitB _) (Nat.le_of_ble_eq_true rfl) rfl dM_edit_823 ?_
                              refine xg_iload hX 3 dM_edit_826 rfl ?_
                              exact hret (nI vc, edM M Vw (tn b) i, rdD M (tn n) (tn a), Vw, vs) _ _ _ rfl (show ((nI vc), (edM M Vw (tn b) i), vs) = editM M men xw n a p b from (by unfold editM; rw [if_pos h5, if_pos g1, hE]; show _ = if _ then _ else _; rw [if_pos h782, show i = vc by omega])) dM_edit_828
                            ·
                              refine xg_aload_n hX 0 dM_edit_797 rfl rfl ?_
                              refine xg_get hX (ci := 3) rfl hinM 0 rfl 0 (by decide) mt_324 rfl dM_edit_798 ?_
                              refine xg_iload hX 1 dM_edit_801 rfl ?_
                              refine xg_top (nI (tn b)) (xn_tn (of_decide_eq_true h782).1) ?_
                              refine xg_iload hX 4 dM_edit_803 rfl ?_
                              refine xg_iaddN hX dM_edit_805 ?_
                              refine xg_aload_n hX 0 dM_edit_806 rfl rfl ?_
                              refine xg_get hX (ci := 3) rfl hinM 0 rfl 8 (by decide) mt_332 rfl dM_edit_807 ?_
                              refine xg_iload hX 4 dM_edit_810 rfl ?_
                              refine xg_iald hX 3 i rfl (by omega) (by decide) dM_edit_812 ?_
                              refine xg_iast hX (ws' := [(mq, .inr (3, [.ref mm, .ref m1, .ref m2, .ref mo, .ref mr, .int (bI o1), .int (bI o2), .int (bI oo), .ref mw, .int (bI men)])), (mm, .inl (cI, 256, .inl (nf (up (edM M Vw (tn b) i) ((tn b) + i) (Vw i))))), (m1, .inl (cI, 200, .inl (nf (rdD M (tn n) (tn a))))), (mw, .inl (cI, 80, .inl (nf Vw)))]) 1 ((tn b) + i) (Vw i) rfl (by omega) (by decide) rfl dM_edit_813 ?_
                              refine xg_iincN hX (lv' := [(16, .int (nI (i + 1))), (0, .ref mq), (4, .int b), (10, .int (bI vs)), (12, .int (nI vc))]) (i + 1) 4 dM_edit_814 rfl (xn_inc _) (by decide) rfl ?_
                              refine xg_goto hX 790 dM_edit_817 (by decide) ?_
                              refine xg_ext hX (g := edM M Vw (tn b) (i + 1)) (ws' := [(mq, .inr (3, [.ref mm, .ref m1, .ref m2, .ref mo, .ref mr, .int (bI o1), .int (bI o2), .int (bI oo), .ref mw, .int (bI men)])), (mm, .inl (cI, 256, .inl (nf (edM M Vw (tn b) (i + 1))))), (m1, .inl (cI, 200, .inl (nf (rdD M (tn n) (tn a))))), (mw, .inl (cI, 80, .inl (nf Vw)))]) 1 rfl (fun j hj => edM_s j) rfl ?_
                              refine xg_lv hX (lv' := [(0, .ref mq), (4, .int b), (10, .int (bI vs)), (12, .int (nI vc)), (16, .int (nI (i + 1)))]) [1, 2, 3, 4, 0] rfl ?_
                              exact ih109 (i + 1) (by omega) (by omega)
                        refine xg_ext hX (g := edM M Vw (tn b) 0) (ws' := [(mq, .inr (3, [.ref mm, .ref m1, .ref m2, .ref mo, .ref mr, .int (bI o1), .int (bI o2), .int (bI oo), .ref mw, .int (bI men)])), (mm, .inl (cI, 256, .inl (nf (edM M Vw (tn b) 0)))), (m1, .inl (cI, 200, .inl (nf (rdD M (tn n) (tn a))))), (mw, .inl (cI, 80, .inl (nf Vw)))]) 1 rfl (fun j hj => edM_0 j) rfl ?_
                        refine xg_lv hX (lv' := [(0, .ref mq), (4, .int b), (10, .int (bI vs)), (12, .int (nI vc)), (16, .int (nI 0))]) [11, 12, 17, 19, 0] rfl ?_
                        exact lp107 (vc - 0 + 1) 0 (by omega) (Nat.lt_succ_self _)
                      ·
                        refine xg_iconst hX ((-1)) dM_edit_785 (by decide) ?_
                        exact hret ((-1), M, rdD M (tn n) (tn a), Vw, men) _ _ _ rfl (show ((-1), M, men) = editM M men xw n a p b from (by have hE : edPM M xw n a p = some (Vw, vc, vl, vs, vf, vi) := (fo_e hq hnx hkk (by omega)).trans (if_pos h769); unfold editM; rw [if_pos h5, if_pos g1, hE]; exact (if_neg (fun q => absurd (h782.symm.trans q) (by decide))).symm)) dM_edit_786
                    ·
                      refine xg_bipush hX ((-2)) dM_edit_772 (by decide) ?_
                      exact hret ((-2), M, rdD M (tn n) (tn a), Vw, men) _ _ _ rfl (show ((-2), M, men) = editM M men xw n a p b from (by have hF : edPM M xw n a p = none := ((fo_e hq hnx hkk (by omega)).trans (if_neg (show ¬ vl = 0 by omega))); unfold editM; rw [if_pos h5, if_pos g1, hF])) dM_edit_774
                ·
                  refine xg_iload hX 9 dM_edit_106 rfl ?_
                  refine xg_if_ltN hX 123 (by omega) dM_edit_108 (by decide) ?_
                  refine xg_iload hX 9 dM_edit_111 rfl ?_
                  refine xg_sipush hX (nI 256) dM_edit_113 (by decide) ?_
                  refine xg_icmp_geN hX 123 (by omega) (by omega) dM_edit_116 (by decide) (fun h116 => absurd h116 (by omega)) (fun h116 => ?_)
                  refine xg_iconst hX (nI 1) dM_edit_119 (by decide) ?_
                  refine xg_goto hX 124 dM_edit_120 (by decide) ?_
                  refine xg_istore hX (lv' := [(14, .int (nI 1)), (0, .ref mq), (4, .int b), (6, .int (bI (!hasD (rdD M (tn n) (tn a)) 0 200))), (7, .int (bI (blM M n a))), (8, .int (nI vf)), (9, .int (nI vi)), (10, .int (bI vs)), (11, .int (nI vl)), (12, .int (nI vc)), (13, .int (nI zn)), (15, .int (nI 1)), (16, .int (nI s_))]) dM_edit_124 (by decide) rfl ?_
                  refine xg_iload hX 0 dM_edit_126 rfl ?_
                  refine xg_if_eqN hX 141 (by omega) dM_edit_128 (by decide) (fun h => absurd h (by decide)) (fun _ => ?_)
                  refine xg_aload_n hX 1 dM_edit_131 rfl rfl ?_
                  refine xg_get hX (ci := 3) rfl hinM 0 rfl 0 (by decide) mt_324 rfl dM_edit_132 ?_
                  refine xg_iload hX 10 dM_edit_135 rfl ?_
                  refine xg_iald hX 1 zn rfl (by omega) (by decide) dM_edit_137 ?_
                  refine xg_top (nI k) (by rw [hk4]) ?_
                  refine xg_goto hX 142 dM_edit_138 (by decide) ?_
                  refine xg_istore hX (lv' := [(17, .int (nI k)), (14, .int (nI 1)), (0, .ref mq), (4, .int b), (6, .int (bI (!hasD (rdD M (tn n) (tn a)) 0 200))), (7, .int (bI (blM M n a))), (8, .int (nI vf)), (9, .int (nI vi)), (10, .int (bI vs)), (11, .int (nI vl)), (12, .int (nI vc)), (13, .int (nI zn)), (15, .int (nI 1)), (16, .int (nI s_))]) dM_edit_142 (by decide) rfl ?_
                  refine xg_iincN hX (lv' := [(13, .int (nI (zn + 1))), (17, .int (nI k)), (14, .int (nI 1)), (0, .ref mq), (4, .int b), (6, .int (bI (!hasD (rdD M (tn n) (tn a)) 0 200))), (7, .int (bI (blM M n a))), (8, .int (nI vf)), (9, .int (nI vi)), (10, .int (bI vs)), (11, .int (nI vl)), (12, .int (nI vc)), (15, .int (nI 1)), (16, .int (nI s_))]) (zn + 1) 11 dM_edit_144 rfl (xn_inc _) (by decide) rfl ?_
                  refine xg_iload hX 1 dM_edit_147 rfl ?_
                  refine xg_if_eqN hX 156 (by omega) dM_edit_149 (by decide) (fun hh_112 => absurd hh_112 (by omega)) (fun hh_112 => ?_)
                  refine xg_iconst hX (nI 1) dM_edit_152 (by decide) ?_
                  refine xg_goto hX 157 dM_edit_153 (by decide) ?_
                  refine xg_istore hX (lv' := [(15, .int (nI 1)), (13, .int (nI (zn + 1))), (17, .int (nI k)), (14, .int (nI 1)), (0, .ref mq), (4, .int b), (6, .int (bI (!hasD (rdD M (tn n) (tn a)) 0 200))), (7, .int (bI (blM M n a))), (8, .int (nI vf)), (9, .int (nI vi)), (10, .int (bI vs)), (11, .int (nI vl)), (12, .int (nI vc)), (16, .int (nI s_))]) dM_edit_157 (by decide) rfl ?_
                  refine xg_iload hX 3 dM_edit_159 rfl ?_
                  refine xg_if_eqN hX 180 (by omega) dM_edit_161 (by decide) (fun h => absurd h (by decide)) (fun _ => ?_)
                  refine xg_iload hX 13 dM_edit_164 rfl ?_
                  refine xg_bipush hX (nI 64) dM_edit_166 (by decide) ?_
                  refine xg_icmp_ltN hX 176 (by omega) (by omega) dM_edit_168 (by decide) (fun h168 => ?_) (fun h168 => ?_)
                  ·
                    refine xg_iconst hX (nI 1) dM_edit_176 (by decide) ?_
                    refine xg_goto hX 181 dM_edit_177 (by decide) ?_
                    refine xg_istore hX (lv' := [(14, .int (nI 1)), (15, .int (nI 1)), (13, .int (nI (zn + 1))), (17, .int (nI k)), (0, .ref mq), (4, .int b), (6, .int (bI (!hasD (rdD M (tn n) (tn a)) 0 200))), (7, .int (bI (blM M n a))), (8, .int (nI vf)), (9, .int (nI vi)), (10, .int (bI vs)), (11, .int (nI vl)), (12, .int (nI vc)), (16, .int (nI s_))]) dM_edit_181 (by decide) rfl ?_
                    refine xg_iload hX 3 dM_edit_183 rfl ?_
                    refine xg_iconst hX (nI 4) dM_edit_185 (by decide) ?_
                    refine xg_icmp_ltN hX 200 (by omega) (by omega) dM_edit_186 (by decide) (fun hh_114 => ?_) (fun hh_114 => absurd hh_114 (by omega))
                    refine xg_iconst hX (nI 0) dM_edit_200 (by decide) ?_
                    refine xg_istore hX (lv' := [(18, .int (nI 0)), (14, .int (nI 1)), (15, .int (nI 1)), (13, .int (nI (zn + 1))), (17, .int (nI k)), (0, .ref mq), (4, .int b), (6, .int (bI (!hasD (rdD M (tn n) (tn a)) 0 200))), (7, .int (bI (blM M n a))), (8, .int (nI vf)), (9, .int (nI vi)), (10, .int (bI vs)), (11, .int (nI vl)), (12, .int (nI vc)), (16, .int (nI s_))]) dM_edit_201 (by decide) rfl ?_
                    refine xg_iload hX 0 dM_edit_203 rfl ?_
                    refine xg_if_eqN hX 228 (by omega) dM_edit_205 (by decide) (fun _ => ?_) (fun h => absurd h (by decide))
                    refine xg_iload hX 0 dM_edit_228 rfl ?_
                    refine xg_if_eqN hX 248 (by omega) dM_edit_230 (by decide) (fun _ => ?_) (fun h => absurd h (by decide))
                    refine xg_iconst hX (nI 0) dM_edit_248 (by decide) ?_
                    refine xg_istore hX (lv' := [(19, .int (nI 0)), (18, .int (nI 0)), (14, .int (nI 1)), (15, .int (nI 1)), (13, .int (nI (zn + 1))), (17, .int (nI k)), (0, .ref mq), (4, .int b), (6, .int (bI (!hasD (rdD M (tn n) (tn a)) 0 200))), (7, .int (bI (blM M n a))), (8, .int (nI vf)), (9, .int (nI vi)), (10, .int (bI vs)), (11, .int (nI vl)), (12, .int (nI vc)), (16, .int (nI s_))]) dM_edit_249 (by decide) rfl ?_
                    refine xg_iload hX 1 dM_edit_251 rfl ?_
                    refine xg_if_eqN hX 259 (by omega) dM_edit_253 (by decide) (fun _ => ?_) (fun h => absurd h (by decide))
                    refine xg_iload hX 5 dM_edit_259 rfl ?_
                    refine xg_bipush hX (nI 16) dM_edit_261 (by decide) ?_
                    refine xg_idivN hX (by omega) (by omega) (by omega) dM_edit_263 ?_
                    refine xg_istore hX (lv' := [(20, .int (nI (k / 16))), (19, .int (nI 0)), (18, .int (nI 0)), (14, .int (nI 1)), (15, .int (nI 1)), (13, .int (nI (zn + 1))), (17, .int (nI k)), (0, .ref mq), (4, .int b), (6, .int (bI (!hasD (rdD M (tn n) (tn a)) 0 200))), (7, .int (bI (blM M n a))), (8, .int (nI vf)), (9, .int (nI vi)), (10, .int (bI vs)), (11, .int (nI vl)), (12, .int (nI vc)), (16, .int (nI s_))]) dM_edit_264 (by decide) rfl ?_
                    refine xg_iload hX 6 dM_edit_266 rfl ?_
                    refine xg_bipush hX (nI 16) dM_edit_268 (by decide) ?_
                    refine xg_iremN hX (by omega) (by omega) (by omega) dM_edit_270 ?_
                    refine xg_istore hX (lv' := [(21, .int (nI (k % 16))), (20, .int (nI (k / 16))), (19, .int (nI 0)), (18, .int (nI 0)), (14, .int (nI 1)), (15, .int (nI 1)), (13, .int (nI (zn + 1))), (17, .int (nI k)), (0, .ref mq), (4, .int b), (6, .int (bI (!hasD (rdD M (tn n) (tn a)) 0 200))), (7, .int (bI (blM M n a))), (8, .int (nI vf)), (9, .int (nI vi)), (10, .int (bI vs)), (11, .int (nI vl)), (12, .int (nI vc)), (16, .int (nI s_))]) dM_edit_271 (by decide) rfl ?_
                    refine xg_iload hX 1 dM_edit_273 rfl ?_
                    refine xg_bipush hX (nI 8) dM_edit_275 (by decide) ?_
                    refine xg_icmp_ltN hX 296 (by omega) (by omega) dM_edit_277 (by decide) (fun hh_118 => ?_) (fun hh_118 => absurd hh_118 (by omega))
                    refine xg_iconst hX (nI 0) dM_edit_296 (by decide) ?_
                    refine xg_istore hX (lv' := [(22, .int (nI 0)), (21, .int (nI (k % 16))), (20, .int (nI (k / 16))), (19, .int (nI 0)), (18, .int (nI 0)), (14, .int (nI 1)), (15, .int (nI 1)), (13, .int (nI (zn + 1))), (17, .int (nI k)), (0, .ref mq), (4, .int b), (6, .int (bI (!hasD (rdD M (tn n) (tn a)) 0 200))), (7, .int (bI (blM M n a))), (8, .int (nI vf)), (9, .int (nI vi)), (10, .int (bI vs)), (11, .int (nI vl)), (12, .int (nI vc)), (16, .int (nI s_))]) dM_edit_297 (by decide) rfl ?_
                    refine xg_iload hX 5 dM_edit_299 rfl ?_
                    refine xg_if_eqN hX 320 (by omega) dM_edit_301 (by decide) (fun h => absurd h (by decide)) (fun _ => ?_)
                    refine xg_iload hX 8 dM_edit_304 rfl ?_
                    refine xg_bipush hX (nI 8) dM_edit_306 (by decide) ?_
                    refine xg_icmp_leN hX 316 (by omega) (by omega) dM_edit_308 (by decide) (fun hh_120 => ?_) (fun hh_120 => absurd hh_120 (by omega))
                    refine xg_iconst hX (nI 1) dM_edit_316 (by decide) ?_
                    refine xg_goto hX 321 dM_edit_317 (by decide) ?_
                    refine xg_istore hX (lv' := [(14, .int (nI 1)), (22, .int (nI 0)), (21, .int (nI (k % 16))), (20, .int (nI (k / 16))), (19, .int (nI 0)), (18, .int (nI 0)), (15, .int (nI 1)), (13, .int (nI (zn + 1))), (17, .int (nI k)), (0, .ref mq), (4, .int b), (6, .int (bI (!hasD (rdD M (tn n) (tn a)) 0 200))), (7, .int (bI (blM M n a))), (8, .int (nI vf)), (9, .int (nI vi)), (10, .int (bI vs)), (11, .int (nI vl)), (12, .int (nI vc)), (16, .int (nI s_))]) dM_edit_321 (by decide) rfl ?_
                    refine xg_iload hX 0 dM_edit_323 rfl ?_
                    refine xg_if_eqN hX 337 (by omega) dM_edit_325 (by decide) (fun h => absurd h (by decide)) (fun _ => ?_)
                    refine xg_iload hX 8 dM_edit_328 rfl ?_
                    refine xg_iconst hX (nI 1) dM_edit_330 (by decide) ?_
                    refine xg_icmp_neN hX 337 (by omega) (by omega) dM_edit_331 (by decide) (fun hh_122 => absurd hh_122 (by omega)) (fun hh_122 => ?_)
                    refine xg_iconst hX (nI 0) dM_edit_334 (by decide) ?_
                    refine xg_istore hX (lv' := [(10, .int (nI 0)), (14, .int (nI 1)), (22, .int (nI 0)), (21, .int (nI (k % 16))), (20, .int (nI (k / 16))), (19, .int (nI 0)), (18, .int (nI 0)), (15, .int (nI 1)), (13, .int (nI (zn + 1))), (17, .int (nI k)), (0, .ref mq), (4, .int b), (6, .int (bI (!hasD (rdD M (tn n) (tn a)) 0 200))), (7, .int (bI (blM M n a))), (8, .int (nI vf)), (9, .int (nI vi)), (11, .int (nI vl)), (12, .int (nI vc)), (16, .int (nI s_))]) dM_edit_335 (by decide) rfl ?_
                    refine xg_iload hX 1 dM_edit_337 rfl ?_
                    refine xg_if_eqN hX 351 (by omega) dM_edit_339 (by decide) (fun h => absurd h (by decide)) (fun _ => ?_)
                    refine xg_iload hX 9 dM_edit_342 rfl ?_
                    refine xg_iconst hX (nI 2) dM_edit_344 (by decide) ?_
                    refine xg_icmp_neN hX 351 (by omega) (by omega) dM_edit_345 (by decide) (fun hh_124 => ?_) (fun hh_124 => absurd hh_124 (by omega))
                    refine xg_iload hX 1 dM_edit_351 rfl ?_
                    refine xg_if_eqN hX 366 (by omega) dM_edit_353 (by decide) (fun h => absurd h (by decide)) (fun _ => ?_)
                    refine xg_iload hX 9 dM_edit_356 rfl ?_
                    refine xg_iconst hX (nI 4) dM_edit_358 (by decide) ?_
                    refine xg_icmp_neN hX 366 (by omega) (by omega) dM_edit_359 (by decide) (fun hh_126 => ?_) (fun hh_126 => absurd hh_126 (by omega))
                    refine xg_iload hX 1 dM_edit_366 rfl ?_
                    refine xg_if_eqN hX 386 (by omega) dM_edit_368 (by decide) (fun h => absurd h (by decide)) (fun _ => ?_)
                    refine xg_iload hX 9 dM_edit_371 rfl ?_
                    refine xg_iconst hX (nI 5) dM_edit_373 (by decide) ?_
                    refine xg_icmp_neN hX 386 (by omega) (by omega) dM_edit_374 (by decide) (fun hh_128 => ?_) (fun hh_128 => absurd hh_128 (by omega))
                    refine xg_iload hX 1 dM_edit_386 rfl ?_
                    refine xg_if_eqN hX 407 (by omega) dM_edit_388 (by decide) (fun h => absurd h (by decide)) (fun _ => ?_)
                    refine xg_iload hX 9 dM_edit_391 rfl ?_
                    refine xg_bipush hX (nI 6) dM_edit_393 (by decide) ?_
                    refine xg_icmp_neN hX 407 (by omega) (by omega) dM_edit_395 (by decide) (fun hh_130 => ?_) (fun hh_130 => absurd hh_130 (by omega))
                    refine xg_iload hX 1 dM_edit_407 rfl ?_
                    refine xg_if_eqN hX 473 (by omega) dM_edit_409 (by decide) (fun h => absurd h (by decide)) (fun _ => ?_)
                    refine xg_iload hX 9 dM_edit_412 rfl ?_
                    refine xg_bipush hX (nI 8) dM_edit_414 (by decide) ?_
                    refine xg_icmp_neN hX 473 (by omega) (by omega) dM_edit_416 (by decide) (fun hh_132 => ?_) (fun hh_132 => absurd hh_132 (by omega))
                    refine xg_iload hX 1 dM_edit_473 rfl ?_
                    refine xg_if_eqN hX 543 (by omega) dM_edit_475 (by decide) (fun h => absurd h (by decide)) (fun _ => ?_)
                    refine xg_iload hX 9 dM_edit_478 rfl ?_
                    refine xg_iconst hX (nI 3) dM_edit_480 (by decide) ?_
                    refine xg_icmp_eqN hX 491 (by omega) (by omega) dM_edit_481 (by decide) (fun hh_134 => absurd hh_134 (by omega)) (fun hh_134 => ?_)
                    refine xg_iload hX 9 dM_edit_484 rfl ?_
                    refine xg_bipush hX (nI 7) dM_edit_486 (by decide) ?_
                    refine xg_icmp_neN hX 543 (by omega) (by omega) dM_edit_488 (by decide) (fun hh_135 => ?_) (fun hh_135 => absurd hh_135 (by omega))
                    refine xg_iconst hX (nI 0) dM_edit_543 (by decide) ?_
                    refine xg_istore hX (lv' := [(23, .int (nI 0)), (10, .int (nI 0)), (14, .int (nI 1)), (22, .int (nI 0)), (21, .int (nI (k % 16))), (20, .int (nI (k / 16))), (19, .int (nI 0)), (18, .int (nI 0)), (15, .int (nI 1)), (13, .int (nI (zn + 1))), (17, .int (nI k)), (0, .ref mq), (4, .int b), (6, .int (bI (!hasD (rdD M (tn n) (tn a)) 0 200))), (7, .int (bI (blM M n a))), (8, .int (nI vf)), (9, .int (nI vi)), (11, .int (nI vl)), (12, .int (nI vc)), (16, .int (nI s_))]) dM_edit_544 (by decide) rfl ?_
                    refine xg_iload hX 2 dM_edit_546 rfl ?_
                    refine xg_if_eqN hX 756 (by omega) dM_edit_548 (by decide) (fun h => absurd h (by decide)) (fun _ => ?_)
                    refine xg_iload hX 3 dM_edit_551 rfl ?_
                    refine xg_if_eqN hX 756 (by omega) dM_edit_553 (by decide) (fun _ => ?_) (fun h => absurd h (by decide))
                    refine xg_iincN hX (lv' := [(16, .int (nI (s_ + 1))), (23, .int (nI 0)), (10, .int (nI 0)), (14, .int (nI 1)), (22, .int (nI 0)), (21, .int (nI (k % 16))), (20, .int (nI (k / 16))), (19, .int (nI 0)), (18, .int (nI 0)), (15, .int (nI 1)), (13, .int (nI (zn + 1))), (17, .int (nI k)), (0, .ref mq), (4, .int b), (6, .int (bI (!hasD (rdD M (tn n) (tn a)) 0 200))), (7, .int (bI (blM M n a))), (8, .int (nI vf)), (9, .int (nI vi)), (11, .int (nI vl)), (12, .int (nI vc))]) (s_ + 1) 19 dM_edit_756 rfl (xn_inc _) (by decide) rfl ?_
                    refine xg_goto hX 96 dM_edit_759 (by decide) ?_
                    refine xg_lv hX (lv' := [(0, .ref mq), (4, .int b), (6, .int (bI (!hasD (rdD M (tn n) (tn a)) 0 200))), (7, .int (bI (blM M n a))), (8, .int (nI vf)), (9, .int (nI vi)), (10, .int (nI 0)), (11, .int (nI vl)), (12, .int (nI vc)), (13, .int (nI (zn + 1))), (14, .int (nI 1)), (15, .int (nI 1)), (16, .int (nI (s_ + 1)))]) [12, 13, 14, 15, 16, 17, 2, 18, 19, 10, 3, 9, 0] rfl ?_
                    refine xg_lvE (lv' := [(0, .ref mq), (4, .int b), (6, .int (bI (!hasD (rdD M (tn n) (tn a)) 0 200))), (7, .int (bI (blM M n a))), (8, .int (nI vf)), (9, .int (nI vi)), (10, .int (bI false)), (11, .int (nI vl)), (12, .int (nI vc)), (13, .int (nI (zn + 1))), (14, .int (nI 1)), (15, .int (nI 1)), (16, .int (nI (s_ + 1)))]) (by rw [← (show (nI 0 : Int32) = bI false from (by first | rfl | decide))]) ?_
                    exact ih5 (s_ + 1) (nI (zn + 1)) Vw vc vl false vf vi (by omega) (by omega) (by omega) (by omega) (fo_st1 hq hnx (by omega) h168 (tk_f (by omega)) (ob_1 hkk)) (by omega)
                  ·
                    refine xg_iload hX 0 dM_edit_171 rfl ?_
                    refine xg_if_neN hX 180 (by omega) dM_edit_173 (by decide) (fun _ => ?_) (fun h => absurd h (by decide))
                    refine xg_iconst hX (nI 0) dM_edit_180 (by decide) ?_
                    refine xg_istore hX (lv' := [(14, .int (nI 0)), (15, .int (nI 1)), (13, .int (nI (zn + 1))), (17, .int (nI k)), (0, .ref mq), (4, .int b), (6, .int (bI (!hasD (rdD M (tn n) (tn a)) 0 200))), (7, .int (bI (blM M n a))), (8, .int (nI vf)), (9, .int (nI vi)), (10, .int (bI vs)), (11, .int (nI vl)), (12, .int (nI vc)), (16, .int (nI s_))]) dM_edit_181 (by decide) rfl ?_
                    refine xg_iload hX 3 dM_edit_183 rfl ?_
                    refine xg_iconst hX (nI 4) dM_edit_185 (by decide) ?_
                    refine xg_icmp_ltN hX 200 (by omega) (by omega) dM_edit_186 (by decide) (fun hh_139 => ?_) (fun hh_139 => absurd hh_139 (by omega))
                    refine xg_iconst hX (nI 0) dM_edit_200 (by decide) ?_
                    refine xg_istore hX (lv' := [(18, .int (nI 0)), (14, .int (nI 0)), (15, .int (nI 1)), (13, .int (nI (zn + 1))), (17, .int (nI k)), (0, .ref mq), (4, .int b), (6, .int (bI (!hasD (rdD M (tn n) (tn a)) 0 200))), (7, .int (bI (blM M n a))), (8, .int (nI vf)), (9, .int (nI vi)), (10, .int (bI vs)), (11, .int (nI vl)), (12, .int (nI vc)), (16, .int (nI s_))]) dM_edit_201 (by decide) rfl ?_
                    refine xg_iload hX 0 dM_edit_203 rfl ?_
                    refine xg_if_eqN hX 228 (by omega) dM_edit_205 (by decide) (fun _ => ?_) (fun h => absurd h (by decide))
                    refine xg_iload hX 0 dM_edit_228 rfl ?_
                    refine xg_if_eqN hX 248 (by omega) dM_edit_230 (by decide) (fun _ => ?_) (fun h => absurd h (by decide))
                    refine xg_iconst hX (nI 0) dM_edit_248 (by decide) ?_
                    refine xg_istore hX (lv' := [(19, .int (nI 0)), (18, .int (nI 0)), (14, .int (nI 0)), (15, .int (nI 1)), (13, .int (nI (zn + 1))), (17, .int (nI k)), (0, .ref mq), (4, .int b), (6, .int (bI (!hasD (rdD M (tn n) (tn a)) 0 200))), (7, .int (bI (blM M n a))), (8, .int (nI vf)), (9, .int (nI vi)), (10, .int (bI vs)), (11, .int (nI vl)), (12, .int (nI vc)), (16, .int (nI s_))]) dM_edit_249 (by decide) rfl ?_
                    refine xg_iload hX 1 dM_edit_251 rfl ?_
                    refine xg_if_eqN hX 259 (by omega) dM_edit_253 (by decide) (fun _ => ?_) (fun h => absurd h (by decide))
                    refine xg_iload hX 5 dM_edit_259 rfl ?_
                    refine xg_bipush hX (nI 16) dM_edit_261 (by decide) ?_
                    refine xg_idivN hX (by omega) (by omega) (by omega) dM_edit_263 ?_
                    refine xg_istore hX (lv' := [(20, .int (nI (k / 16))), (19, .int (nI 0)), (18, .int (nI 0)), (14, .int (nI 0)), (15, .int (nI 1)), (13, .int (nI (zn + 1))), (17, .int (nI k)), (0, .ref mq), (4, .int b), (6, .int (bI (!hasD (rdD M (tn n) (tn a)) 0 200))), (7, .int (bI (blM M n a))), (8, .int (nI vf)), (9, .int (nI vi)), (10, .int (bI vs)), (11, .int (nI vl)), (12, .int (nI vc)), (16, .int (nI s_))]) dM_edit_264 (by decide) rfl ?_
                    refine xg_iload hX 6 dM_edit_266 rfl ?_
                    refine xg_bipush hX (nI 16) dM_edit_268 (by decide) ?_
                    refine xg_iremN hX (by omega) (by omega) (by omega) dM_edit_270 ?_
                    refine xg_istore hX (lv' := [(21, .int (nI (k % 16))), (20, .int (nI (k / 16))), (19, .int (nI 0)), (18, .int (nI 0)), (14, .int (nI 0)), (15, .int (nI 1)), (13, .int (nI (zn + 1))), (17, .int (nI k)), (0, .ref mq), (4, .int b), (6, .int (bI (!hasD (rdD M (tn n) (tn a)) 0 200))), (7, .int (bI (blM M n a))), (8, .int (nI vf)), (9, .int (nI vi)), (10, .int (bI vs)), (11, .int (nI vl)), (12, .int (nI vc)), (16, .int (nI s_))]) dM_edit_271 (by decide) rfl ?_
                    refine xg_iload hX 1 dM_edit_273 rfl ?_
                    refine xg_bipush hX (nI 8) dM_edit_275 (by decide) ?_
                    refine xg_icmp_ltN hX 296 (by omega) (by omega) dM_edit_277 (by decide) (fun hh_143 => ?_) (fun hh_143 => absurd hh_143 (by omega))
                    refine xg_iconst hX (nI 0) dM_edit_296 (by decide) ?_
                    refine xg_istore hX (lv' := [(22, .int (nI 0)), (21, .int (nI (k % 16))), (20, .int (nI (k / 16))), (19, .int (nI 0)), (18, .int (nI 0)), (14, .int (nI 0)), (15, .int (nI 1)), (13, .int (nI (zn + 1))), (17, .int (nI k)), (0, .ref mq), (4, .int b), (6, .int (bI (!hasD (rdD M (tn n) (tn a)) 0 200))), (7, .int (bI (blM M n a))), (8, .int (nI vf)), (9, .int (nI vi)), (10, .int (bI vs)), (11, .int (nI vl)), (12, .int (nI vc)), (16, .int (nI s_))]) dM_edit_297 (by decide) rfl ?_
                    refine xg_iload hX 5 dM_edit_299 rfl ?_
                    refine xg_if_eqN hX 320 (by omega) dM_edit_301 (by decide) (fun _ => ?_) (fun h => absurd h (by decide))
                    refine xg_iconst hX (nI 0) dM_edit_320 (by decide) ?_
                    refine xg_istore hX (lv' := [(14, .int (nI 0)), (22, .int (nI 0)), (21, .int (nI (k % 16))), (20, .int (nI (k / 16))), (19, .int (nI 0)), (18, .int (nI 0)), (15, .int (nI 1)), (13, .int (nI (zn + 1))), (17, .int (nI k)), (0, .ref mq), (4, .int b), (6, .int (bI (!hasD (rdD M (tn n) (tn a)) 0 200))), (7, .int (bI (blM M n a))), (8, .int (nI vf)), (9, .int (nI vi)), (10, .int (bI vs)), (11, .int (nI vl)), (12, .int (nI vc)), (16, .int (nI s_))]) dM_edit_321 (by decide) rfl ?_
                    refine xg_iload hX 0 dM_edit_323 rfl ?_
                    refine xg_if_eqN hX 337 (by omega) dM_edit_325 (by decide) (fun _ => ?_) (fun h => absurd h (by decide))
                    refine xg_iload hX 0 dM_edit_337 rfl ?_
                    refine xg_if_eqN hX 351 (by omega) dM_edit_339 (by decide) (fun _ => ?_) (fun h => absurd h (by decide))
                    refine xg_iload hX 0 dM_edit_351 rfl ?_
                    refine xg_if_eqN hX 366 (by omega) dM_edit_353 (by decide) (fun _ => ?_) (fun h => absurd h (by decide))
                    refine xg_iload hX 0 dM_edit_366 rfl ?_
                    refine xg_if_eqN hX 386 (by omega) dM_edit_368 (by decide) (fun _ => ?_) (fun h => absurd h (by decide))
                    refine xg_iload hX 0 dM_edit_386 rfl ?_
                    refine xg_if_eqN hX 407 (by omega) dM_edit_388 (by decide) (fun _ => ?_) (fun h => absurd h (by decide))
                    refine xg_iload hX 0 dM_edit_407 rfl ?_
                    refine xg_if_eqN hX 473 (by omega) dM_edit_409 (by decide) (fun _ => ?_) (fun h => absurd h (by decide))
                    refine xg_iload hX 0 dM_edit_473 rfl ?_
                    refine xg_if_eqN hX 543 (by omega) dM_edit_475 (by decide) (fun _ => ?_) (fun h => absurd h (by decide))
                    refine xg_iconst hX (nI 0) dM_edit_543 (by decide) ?_
                    refine xg_istore hX (lv' := [(23, .int (nI 0)), (14, .int (nI 0)), (22, .int (nI 0)), (21, .int (nI (k % 16))), (20, .int (nI (k / 16))), (19, .int (nI 0)), (18, .int (nI 0)), (15, .int (nI 1)), (13, .int (nI (zn + 1))), (17, .int (nI k)), (0, .ref mq), (4, .int b), (6, .int (bI (!hasD (rdD M (tn n) (tn a)) 0 200))), (7, .int (bI (blM M n a))), (8, .int (nI vf)), (9, .int (nI vi)), (10, .int (bI vs)), (11, .int (nI vl)), (12, .int (nI vc)), (16, .int (nI s_))]) dM_edit_544 (by decide) rfl ?_
                    refine xg_iload hX 1 dM_edit_546 rfl ?_
                    refine xg_if_eqN hX 756 (by omega) dM_edit_548 (by decide) (fun _ => ?_) (fun h => absurd h (by decide))
                    refine xg_iincN hX (lv' := [(16, .int (nI (s_ + 1))), (23, .int (nI 0)), (14, .int (nI 0)), (22, .int (nI 0)), (21, .int (nI (k % 16))), (20, .int (nI (k / 16))), (19, .int (nI 0)), (18, .int (nI 0)), (15, .int (nI 1)), (13, .int (nI (zn + 1))), (17, .int (nI k)), (0, .ref mq), (4, .int b), (6, .int (bI (!hasD (rdD M (tn n) (tn a)) 0 200))), (7, .int (bI (blM M n a))), (8, .int (nI vf)), (9, .int (nI vi)), (10, .int (bI vs)), (11, .int (nI vl)), (12, .int (nI vc))]) (s_ + 1) 19 dM_edit_756 rfl (xn_inc _) (by decide) rfl ?_
                    refine xg_goto hX 96 dM_edit_759 (by decide) ?_
                    refine xg_iload hX 8 dM_edit_96 rfl ?_
                    refine xg_if_eqN hX 762 (by omega) dM_edit_98 (by decide) (fun h => absurd h (by decide)) (fun _ => ?_)
                    refine xg_iload hX 2 dM_edit_101 rfl ?_
                    refine xg_if_eqN hX 762 (by omega) dM_edit_103 (by decide) (fun _ => ?_) (fun h => absurd h (by decide))
                    refine xg_iload hX 2 dM_edit_762 rfl ?_
                    refine xg_if_eqN hX 772 (by omega) dM_edit_764 (by decide) (fun _ => ?_) (fun h => absurd h (by decide))
                    refine xg_bipush hX ((-2)) dM_edit_772 (by decide) ?_
                    exact hret ((-2), M, rdD M (tn n) (tn a), Vw, men) _ _ _ rfl (show ((-2), M, men) = editM M men xw n a p b from (by have hF : edPM M xw n a p = none := (fo_la hq hnx (by omega) (by omega)); unfold editM; rw [if_pos h5, if_pos g1, hF])) dM_edit_774
                ·
                  refine xg_iload hX 9 dM_edit_106 rfl ?_
                  refine xg_if_ltN hX 123 (by omega) dM_edit_108 (by decide) ?_
                  refine xg_iload hX 9 dM_edit_111 rfl ?_
                  refine xg_sipush hX (nI 256) dM_edit_113 (by decide) ?_
                  refine xg_icmp_geN hX 123 (by omega) (by omega) dM_edit_116 (by decide) (fun h116 => absurd h116 (by omega)) (fun h116 => ?_)
                  refine xg_iconst hX (nI 1) dM_edit_119 (by decide) ?_
                  refine xg_goto hX 124 dM_edit_120 (by decide) ?_
                  refine xg_istore hX (lv' := [(14, .int (nI 1)), (0, .ref mq), (4, .int b), (6, .int (bI (!hasD (rdD M (tn n) (tn a)) 0 200))), (7, .int (bI (blM M n a))), (8, .int (nI vf)), (9, .int (nI vi)), (10, .int (bI vs)), (11, .int (nI vl)), (12, .int (nI vc)), (13, .int (nI zn)), (15, .int (nI 1)), (16, .int (nI s_))]) dM_edit_124 (by decide) rfl ?_
                  refine xg_iload hX 0 dM_edit_126 rfl ?_
                  refine xg_if_eqN hX 141 (by omega) dM_edit_128 (by decide) (fun h => absurd h (by decide)) (fun _ => ?_)
                  refine xg_aload_n hX 1 dM_edit_131 rfl rfl ?_
                  refine xg_get hX (ci := 3) rfl hinM 0 rfl 0 (by decide) mt_324 rfl dM_edit_132 ?_
                  refine xg_iload hX 10 dM_edit_135 rfl ?_
                  refine xg_iald hX 1 zn rfl (by omega) (by decide) dM_edit_137 ?_
                  refine xg_top (nI k) (by rw [hk4]) ?_
                  refine xg_goto hX 142 dM_edit_138 (by decide) ?_
                  refine xg_istore hX (lv' := [(17, .int (nI k)), (14, .int (nI 1)), (0, .ref mq), (4, .int b), (6, .int (bI (!hasD (rdD M (tn n) (tn a)) 0 200))), (7, .int (bI (blM M n a))), (8, .int (nI vf)), (9, .int (nI vi)), (10, .int (bI vs)), (11, .int (nI vl)), (12, .int (nI vc)), (13, .int (nI zn)), (15, .int (nI 1)), (16, .int (nI s_))]) dM_edit_142 (by decide) rfl ?_
                  refine xg_iincN hX (lv' := [(13, .int (nI (zn + 1))), (17, .int (nI k)), (14, .int (nI 1)), (0, .ref mq), (4, .int b), (6, .int (bI (!hasD (rdD M (tn n) (tn a)) 0 200))), (7, .int (bI (blM M n a))), (8, .int (nI vf)), (9, .int (nI vi)), (10, .int (bI vs)), (11, .int (nI vl)), (12, .int (nI vc)), (15, .int (nI 1)), (16, .int (nI s_))]) (zn + 1) 11 dM_edit_144 rfl (xn_inc _) (by decide) rfl ?_
                  refine xg_iload hX 1 dM_edit_147 rfl ?_
                  refine xg_if_eqN hX 156 (by omega) dM_edit_149 (by decide) (fun hh_157 => absurd hh_157 (by omega)) (fun hh_157 => ?_)
                  refine xg_iconst hX (nI 1) dM_edit_152 (by decide) ?_
                  refine xg_goto hX 157 dM_edit_153 (by decide) ?_
                  refine xg_istore hX (lv' := [(15, .int (nI 1)), (13, .int (nI (zn + 1))), (17, .int (nI k)), (14, .int (nI 1)), (0, .ref mq), (4, .int b), (6, .int (bI (!hasD (rdD M (tn n) (tn a)) 0 200))), (7, .int (bI (blM M n a))), (8, .int (nI vf)), (9, .int (nI vi)), (10, .int (bI vs)), (11, .int (nI vl)), (12, .int (nI vc)), (16, .int (nI s_))]) dM_edit_157 (by decide) rfl ?_
                  refine xg_iload hX 3 dM_edit_159 rfl ?_
                  refine xg_if_eqN hX 180 (by omega) dM_edit_161 (by decide) (fun h => absurd h (by decide)) (fun _ => ?_)
                  refine xg_iload hX 13 dM_edit_164 rfl ?_
                  refine xg_bipush hX (nI 64) dM_edit_166 (by decide) ?_
                  refine xg_icmp_ltN hX 176 (by omega) (by omega) dM_edit_168 (by decide) (fun h168 => ?_) (fun h168 => ?_)
                  ·
                    refine xg_iconst hX (nI 1) dM_edit_176 (by decide) ?_
                    refine xg_goto hX 181 dM_edit_177 (by decide) ?_
                    refine xg_istore hX (lv' := [(14, .int (nI 1)), (15, .int (nI 1)), (13, .int (nI (zn + 1))), (17, .int (nI k)), (0, .ref mq), (4, .int b), (6, .int (bI (!hasD (rdD M (tn n) (tn a)) 0 200))), (7, .int (bI (blM M n a))), (8, .int (nI vf)), (9, .int (nI vi)), (10, .int (bI vs)), (11, .int (nI vl)), (12, .int (nI vc)), (16, .int (nI s_))]) dM_edit_181 (by decide) rfl ?_
                    refine xg_iload hX 3 dM_edit_183 rfl ?_
                    refine xg_iconst hX (nI 4) dM_edit_185 (by decide) ?_
                    refine xg_icmp_ltN hX 200 (by omega) (by omega) dM_edit_186 (by decide) (fun hh_159 => ?_) (fun hh_159 => absurd hh_159 (by omega))
                    refine xg_iconst hX (nI 0) dM_edit_200 (by decide) ?_
                    refine xg_istore hX (lv' := [(18, .int (nI 0)), (14, .int (nI 1)), (15, .int (nI 1)), (13, .int (nI (zn + 1))), (17, .int (nI k)), (0, .ref mq), (4, .int b), (6, .int (bI (!hasD (rdD M (tn n) (tn a)) 0 200))), (7, .int (bI (blM M n a))), (8, .int (nI vf)), (9, .int (nI vi)), (10, .int (bI vs)), (11, .int (nI vl)), (12, .int (nI vc)), (16, .int (nI s_))]) dM_edit_201 (by decide) rfl ?_
                    refine xg_iload hX 0 dM_edit_203 rfl ?_
                    refine xg_if_eqN hX 228 (by omega) dM_edit_205 (by decide) (fun _ => ?_) (fun h => absurd h (by decide))
                    refine xg_iload hX 0 dM_edit_228 rfl ?_
                    refine xg_if_eqN hX 248 (by omega) dM_edit_230 (by decide) (fun _ => ?_) (fun h => absurd h (by decide))
                    refine xg_iconst hX (nI 0) dM_edit_248 (by decide) ?_
                    refine xg_istore hX (lv' := [(19, .int (nI 0)), (18, .int (nI 0)), (14, .int (nI 1)), (15, .int (nI 1)), (13, .int (nI (zn + 1))), (17, .int (nI k)), (0, .ref mq), (4, .int b), (6, .int (bI (!hasD (rdD M (tn n) (tn a)) 0 200))), (7, .int (bI (blM M n a))), (8, .int (nI vf)), (9, .int (nI vi)), (10, .int (bI vs)), (11, .int (nI vl)), (12, .int (nI vc)), (16, .int (nI s_))]) dM_edit_249 (by decide) rfl ?_
                    refine xg_iload hX 1 dM_edit_251 rfl ?_
                    refine xg_if_eqN hX 259 (by omega) dM_edit_253 (by decide) (fun _ => ?_) (fun h => absurd h (by decide))
                    refine xg_iload hX 5 dM_edit_259 rfl ?_
                    refine xg_bipush hX (nI 16) dM_edit_261 (by decide) ?_
                    refine xg_idivN hX (by omega) (by omega) (by omega) dM_edit_263 ?_
                    refine xg_istore hX (lv' := [(20, .int (nI (k / 16))), (19, .int (nI 0)), (18, .int (nI 0)), (14, .int (nI 1)), (15, .int (nI 1)), (13, .int (nI (zn + 1))), (17, .int (nI k)), (0, .ref mq), (4, .int b), (6, .int (bI (!hasD (rdD M (tn n) (tn a)) 0 200))), (7, .int (bI (blM M n a))), (8, .int (nI vf)), (9, .int (nI vi)), (10, .int (bI vs)), (11, .int (nI vl)), (12, .int (nI vc)), (16, .int (nI s_))]) dM_edit_264 (by decide) rfl ?_
                    refine xg_iload hX 6 dM_edit_266 rfl ?_
                    refine xg_bipush hX (nI 16) dM_edit_268 (by decide) ?_
                    refine xg_iremN hX (by omega) (by omega) (by omega) dM_edit_270 ?_
                    refine xg_istore hX (lv' := [(21, .int (nI (k % 16))), (20, .int (nI (k / 16))), (19, .int (nI 0)), (18, .int (nI 0)), (14, .int (nI 1)), (15, .int (nI 1)), (13, .int (nI (zn + 1))), (17, .int (nI k)), (0, .ref mq), (4, .int b), (6, .int (bI (!hasD (rdD M (tn n) (tn a)) 0 200))), (7, .int (bI (blM M n a))), (8, .int (nI vf)), (9, .int (nI vi)), (10, .int (bI vs)), (11, .int (nI vl)), (12, .int (nI vc)), (16, .int (nI s_))]) dM_edit_271 (by decide) rfl ?_
                    refine xg_iload hX 1 dM_edit_273 rfl ?_
                    refine xg_bipush hX (nI 8) dM_edit_275 (by decide) ?_
                    refine xg_icmp_ltN hX 296 (by omega) (by omega) dM_edit_277 (by decide) (fun hh_163 => ?_) (fun hh_163 => absurd hh_163 (by omega))
                    refine xg_iconst hX (nI 0) dM_edit_296 (by decide) ?_
                    refine xg_istore hX (lv' := [(22, .int (nI 0)), (21, .int (nI (k % 16))), (20, .int (nI (k / 16))), (19, .int (nI 0)), (18, .int (nI 0)), (14, .int (nI 1)), (15, .int (nI 1)), (13, .int (nI (zn + 1))), (17, .int (nI k)), (0, .ref mq), (4, .int b), (6, .int (bI (!hasD (rdD M (tn n) (tn a)) 0 200))), (7, .int (bI (blM M n a))), (8, .int (nI vf)), (9, .int (nI vi)), (10, .int (bI vs)), (11, .int (nI vl)), (12, .int (nI vc)), (16, .int (nI s_))]) dM_edit_297 (by decide) rfl ?_
                    refine xg_iload hX 5 dM_edit_299 rfl ?_
                    refine xg_if_eqN hX 320 (by omega) dM_edit_301 (by decide) (fun h => absurd h (by decide)) (fun _ => ?_)
                    refine xg_iload hX 8 dM_edit_304 rfl ?_
                    refine xg_bipush hX (nI 8) dM_edit_306 (by decide) ?_
                    refine xg_icmp_leN hX 316 (by omega) (by omega) dM_edit_308 (by decide) (fun hh_165 => ?_) (fun hh_165 => absurd hh_165 (by omega))
                    refine xg_iconst hX (nI 1) dM_edit_316 (by decide) ?_
                    refine xg_goto hX 321 dM_edit_317 (by decide) ?_
                    refine xg_istore hX (lv' := [(14, .int (nI 1)), (22, .int (nI 0)), (21, .int (nI (k % 16))), (20, .int (nI (k / 16))), (19, .int (nI 0)), (18, .int (nI 0)), (15, .int (nI 1)), (13, .int (nI (zn + 1))), (17, .int (nI k)), (0, .ref mq), (4, .int b), (6, .int (bI (!hasD (rdD M (tn n) (tn a)) 0 200))), (7, .int (bI (blM M n a))), (8, .int (nI vf)), (9, .int (nI vi)), (10, .int (bI vs)), (11, .int (nI vl)), (12, .int (nI vc)), (16, .int (nI s_))]) dM_edit_321 (by decide) rfl ?_
                    refine xg_iload hX 0 dM_edit_323 rfl ?_
                    refine xg_if_eqN hX 337 (by omega) dM_edit_325 (by decide) (fun h => absurd h (by decide)) (fun _ => ?_)
                    refine xg_iload hX 8 dM_edit_328 rfl ?_
                    refine xg_iconst hX (nI 1) dM_edit_330 (by decide) ?_
                    refine xg_icmp_neN hX 337 (by omega) (by omega) dM_edit_331 (by decide) (fun hh_167 => ?_) (fun hh_167 => absurd hh_167 (by omega))
                    refine xg_iload hX 0 dM_edit_337 rfl ?_
                    refine xg_if_eqN hX 351 (by omega) dM_edit_339 (by decide) (fun h => absurd h (by decide)) (fun _ => ?_)
                    refine xg_iload hX 8 dM_edit_342 rfl ?_
                    refine xg_iconst hX (nI 2) dM_edit_344 (by decide) ?_
                    refine xg_icmp_neN hX 351 (by omega) (by omega) dM_edit_345 (by decide) (fun hh_169 => absurd hh_169 (by omega)) (fun hh_169 => ?_)
                    refine xg_iconst hX (nI 1) dM_edit_348 (by decide) ?_
                    refine xg_istore hX (lv' := [(10, .int (nI 1)), (14, .int (nI 1)), (22, .int (nI 0)), (21, .int (nI (k % 16))), (20, .int (nI (k / 16))), (19, .int (nI 0)), (18, .int (nI 0)), (15, .int (nI 1)), (13, .int (nI (zn + 1))), (17, .int (nI k)), (0, .ref mq), (4, .int b), (6, .int (bI (!hasD (rdD M (tn n) (tn a)) 0 200))), (7, .int (bI (blM M n a))), (8, .int (nI vf)), (9, .int (nI vi)), (11, .int (nI vl)), (12, .int (nI vc)), (16, .int (nI s_))]) dM_edit_349 (by decide) rfl ?_
                    refine xg_iload hX 1 dM_edit_351 rfl ?_
                    refine xg_if_eqN hX 366 (by omega) dM_edit_353 (by decide) (fun h => absurd h (by decide)) (fun _ => ?_)
                    refine xg_iload hX 9 dM_edit_356 rfl ?_
                    refine xg_iconst hX (nI 4) dM_edit_358 (by decide) ?_
                    refine xg_icmp_neN hX 366 (by omega) (by omega) dM_edit_359 (by decide) (fun hh_171 => ?_) (fun hh_171 => absurd hh_171 (by omega))
                    refine xg_iload hX 1 dM_edit_366 rfl ?_
                    refine xg_if_eqN hX 386 (by omega) dM_edit_368 (by decide) (fun h => absurd h (by decide)) (fun _ => ?_)
                    refine xg_iload hX 9 dM_edit_371 rfl ?_
                    refine xg_iconst hX (nI 5) dM_edit_373 (by decide) ?_
                    refine xg_icmp_neN hX 386 (by omega) (by omega) dM_edit_374 (by decide) (fun hh_173 => ?_) (fun hh_173 => absurd hh_173 (by omega))
                    refine xg_iload hX 1 dM_edit_386 rfl ?_
                    refine xg_if_eqN hX 407 (by omega) dM_edit_388 (by decide) (fun h => absurd h (by decide)) (fun _ => ?_)
                    refine xg_iload hX 9 dM_edit_391 rfl ?_
                    refine xg_bipush hX (nI 6) dM_edit_393 (by decide) ?_
                    refine xg_icmp_neN hX 407 (by omega) (by omega) dM_edit_395 (by decide) (fun hh_175 => ?_) (fun hh_175 => absurd hh_175 (by omega))
                    refine xg_iload hX 1 dM_edit_407 rfl ?_
                    refine xg_if_eqN hX 473 (by omega) dM_edit_409 (by decide) (fun h => absurd h (by decide)) (fun _ => ?_)
                    refine xg_iload hX 9 dM_edit_412 rfl ?_
                    refine xg_bipush hX (nI 8) dM_edit_414 (by decide) ?_
                    refine xg_icmp_neN hX 473 (by omega) (by omega) dM_edit_416 (by decide) (fun hh_177 => ?_) (fun hh_177 => absurd hh_177 (by omega))
                    refine xg_iload hX 1 dM_edit_473 rfl ?_
                    refine xg_if_eqN hX 543 (by omega) dM_edit_475 (by decide) (fun h => absurd h (by decide)) (fun _ => ?_)
                    refine xg_iload hX 9 dM_edit_478 rfl ?_
                    refine xg_iconst hX (nI 3) dM_edit_480 (by decide) ?_
                    refine xg_icmp_eqN hX 491 (by omega) (by omega) dM_edit_481 (by decide) (fun hh_179 => absurd hh_179 (by omega)) (fun hh_179 => ?_)
                    refine xg_iload hX 9 dM_edit_484 rfl ?_
                    refine xg_bipush hX (nI 7) dM_edit_486 (by decide) ?_
                    refine xg_icmp_neN hX 543 (by omega) (by omega) dM_edit_488 (by decide) (fun hh_180 => ?_) (fun hh_180 => absurd hh_180 (by omega))
                    refine xg_iconst hX (nI 0) dM_edit_543 (by decide) ?_
                    refine xg_istore hX (lv' := [(23, .int (nI 0)), (10, .int (nI 1)), (14, .int (nI 1)), (22, .int (nI 0)), (21, .int (nI (k % 16))), (20, .int (nI (k / 16))), (19, .int (nI 0)), (18, .int (nI 0)), (15, .int (nI 1)), (13, .int (nI (zn + 1))), (17, .int (nI k)), (0, .ref mq), (4, .int b), (6, .int (bI (!hasD (rdD M (tn n) (tn a)) 0 200))), (7, .int (bI (blM M n a))), (8, .int (nI vf)), (9, .int (nI vi)), (11, .int (nI vl)), (12, .int (nI vc)), (16, .int (nI s_))]) dM_edit_544 (by decide) rfl ?_
                    refine xg_iload hX 2 dM_edit_546 rfl ?_
                    refine xg_if_eqN hX 756 (by omega) dM_edit_548 (by decide) (fun h => absurd h (by decide)) (fun _ => ?_)
                    refine xg_iload hX 3 dM_edit_551 rfl ?_
                    refine xg_if_eqN hX 756 (by omega) dM_edit_553 (by decide) (fun _ => ?_) (fun h => absurd h (by decide))
                    refine xg_iincN hX (lv' := [(16, .int (nI (s_ + 1))), (23, .int (nI 0)), (10, .int (nI 1)), (14, .int (nI 1)), (22, .int (nI 0)), (21, .int (nI (k % 16))), (20, .int (nI (k / 16))), (19, .int (nI 0)), (18, .int (nI 0)), (15, .int (nI 1)), (13, .int (nI (zn + 1))), (17, .int (nI k)), (0, .ref mq), (4, .int b), (6, .int (bI (!hasD (rdD M (tn n) (tn a)) 0 200))), (7, .int (bI (blM M n a))), (8, .int (nI vf)), (9, .int (nI vi)), (11, .int (nI vl)), (12, .int (nI vc))]) (s_ + 1) 19 dM_edit_756 rfl (xn_inc _) (by decide) rfl ?_
                    refine xg_goto hX 96 dM_edit_759 (by decide) ?_
                    refine xg_lv hX (lv' := [(0, .ref mq), (4, .int b), (6, .int (bI (!hasD (rdD M (tn n) (tn a)) 0 200))), (7, .int (bI (blM M n a))), (8, .int (nI vf)), (9, .int (nI vi)), (10, .int (nI 1)), (11, .int (nI vl)), (12, .int (nI vc)), (13, .int (nI (zn + 1))), (14, .int (nI 1)), (15, .int (nI 1)), (16, .int (nI (s_ + 1)))]) [12, 13, 14, 15, 16, 17, 2, 18, 19, 10, 3, 9, 0] rfl ?_
                    refine xg_lvE (lv' := [(0, .ref mq), (4, .int b), (6, .int (bI (!hasD (rdD M (tn n) (tn a)) 0 200))), (7, .int (bI (blM M n a))), (8, .int (nI vf)), (9, .int (nI vi)), (10, .int (bI true)), (11, .int (nI vl)), (12, .int (nI vc)), (13, .int (nI (zn + 1))), (14, .int (nI 1)), (15, .int (nI 1)), (16, .int (nI (s_ + 1)))]) (by rw [← (show (nI 1 : Int32) = bI true from (by first | rfl | decide))]) ?_
                    exact ih5 (s_ + 1) (nI (zn + 1)) Vw vc vl true vf vi (by omega) (by omega) (by omega) (by omega) (fo_st1 hq hnx (by omega) h168 (tk_f (by omega)) (ob_2 hkk)) (by omega)
                  ·
                    refine xg_iload hX 0 dM_edit_171 rfl ?_
                    refine xg_if_neN hX 180 (by omega) dM_edit_173 (by decide) (fun _ => ?_) (fun h => absurd h (by decide))
                    refine xg_iconst hX (nI 0) dM_edit_180 (by decide) ?_
                    refine xg_istore hX (lv' := [(14, .int (nI 0)), (15, .int (nI 1)), (13, .int (nI (zn + 1))), (17, .int (nI k)), (0, .ref mq), (4, .int b), (6, .int (bI (!hasD (rdD M (tn n) (tn a)) 0 200))), (7, .int (bI (blM M n a))), (8, .int (nI vf)), (9, .int (nI vi)), (10, .int (bI vs)), (11, .int (nI vl)), (12, .int (nI vc)), (16, .int (nI s_))]) dM_edit_181 (by decide) rfl ?_
                    refine xg_iload hX 3 dM_edit_183 rfl ?_
                    refine xg_iconst hX (nI 4) dM_edit_185 (by decide) ?_
                    refine xg_icmp_ltN hX 200 (by omega) (by omega) dM_edit_186 (by decide) (fun hh_184 => ?_) (fun hh_184 => absurd hh_184 (by omega))
                    refine xg_iconst hX (nI 0) dM_edit_200 (by decide) ?_
                    refine xg_istore hX (lv' := [(18, .int (nI 0)), (14, .int (nI 0)), (15, .int (nI 1)), (13, .int (nI (zn + 1))), (17, .int (nI k)), (0, .ref mq), (4, .int b), (6, .int (bI (!hasD (rdD M (tn n) (tn a)) 0 200))), (7, .int (bI (blM M n a))), (8, .int (nI vf)), (9, .int (nI vi)), (10, .int (bI vs)), (11, .int (nI vl)), (12, .int (nI vc)), (16, .int (nI s_))]) dM_edit_201 (by decide) rfl ?_
                    refine xg_iload hX 0 dM_edit_203 rfl ?_
                    refine xg_if_eqN hX 228 (by omega) dM_edit_205 (by decide) (fun _ => ?_) (fun h => absurd h (by decide))
                    refine xg_iload hX 0 dM_edit_228 rfl ?_
                    refine xg_if_eqN hX 248 (by omega) dM_edit_230 (by decide) (fun _ => ?_) (fun h => absurd h (by decide))
                    refine xg_iconst hX (nI 0) dM_edit_248 (by decide) ?_
                    refine xg_istore hX (lv' := [(19, .int (nI 0)), (18, .int (nI 0)), (14, .int (nI 0)), (15, .int (nI 1)), (13, .int (nI (zn + 1))), (17, .int (nI k)), (0, .ref mq), (4, .int b), (6, .int (bI (!hasD (rdD M (tn n) (tn a)) 0 200))), (7, .int (bI (blM M n a))), (8, .int (nI vf)), (9, .int (nI vi)), (10, .int (bI vs)), (11, .int (nI vl)), (12, .int (nI vc)), (16, .int (nI s_))]) dM_edit_249 (by decide) rfl ?_
                    refine xg_iload hX 1 dM_edit_251 rfl ?_
                    refine xg_if_eqN hX 259 (by omega) dM_edit_253 (by decide) (fun _ => ?_) (fun h => absurd h (by decide))
                    refine xg_iload hX 5 dM_edit_259 rfl ?_
                    refine xg_bipush hX (nI 16) dM_edit_261 (by decide) ?_
                    refine xg_idivN hX (by omega) (by omega) (by omega) dM_edit_263 ?_
                    refine xg_istore hX (lv' := [(20, .int (nI (k / 16))), (19, .int (nI 0)), (18, .int (nI 0)), (14, .int (nI 0)), (15, .int (nI 1)), (13, .int (nI (zn + 1))), (17, .int (nI k)), (0, .ref mq), (4, .int b), (6, .int (bI (!hasD (rdD M (tn n) (tn a)) 0 200))), (7, .int (bI (blM M n a))), (8, .int (nI vf)), (9, .int (nI vi)), (10, .int (bI vs)), (11, .int (nI vl)), (12, .int (nI vc)), (16, .int (nI s_))]) dM_edit_264 (by decide) rfl ?_
                    refine xg_iload hX 6 dM_edit_266 rfl ?_
                    refine xg_bipush hX (nI 16) dM_edit_268 (by decide) ?_
                    refine xg_iremN hX (by omega) (by omega) (by omega) dM_edit_270 ?_
                    refine xg_istore hX (lv' := [(21, .int (nI (k % 16))), (20, .int (nI (k / 16))), (19, .int (nI 0)), (18, .int (nI 0)), (14, .int (nI 0)), (15, .int (nI 1)), (13, .int (nI (zn + 1))), (17, .int (nI k)), (0, .ref mq), (4, .int b), (6, .int (bI (!hasD (rdD M (tn n) (tn a)) 0 200))), (7, .int (bI (blM M n a))), (8, .int (nI vf)), (9, .int (nI vi)), (10, .int (bI vs)), (11, .int (nI vl)), (12, .int (nI vc)), (16, .int (nI s_))]) dM_edit_271 (by decide) rfl ?_
                    refine xg_iload hX 1 dM_edit_273 rfl ?_
                    refine xg_bipush hX (nI 8) dM_edit_275 (by decide) ?_
                    refine xg_icmp_ltN hX 296 (by omega) (by omega) dM_edit_277 (by decide) (fun hh_188 => ?_) (fun hh_188 => absurd hh_188 (by omega))
                    refine xg_iconst hX (nI 0) dM_edit_296 (by decide) ?_
                    refine xg_istore hX (lv' := [(22, .int (nI 0)), (21, .int (nI (k % 16))), (20, .int (nI (k / 16))), (19, .int (nI 0)), (18, .int (nI 0)), (14, .int (nI 0)), (15, .int (nI 1)), (13, .int (nI (zn + 1))), (17, .int (nI k)), (0, .ref mq), (4, .int b), (6, .int (bI (!hasD (rdD M (tn n) (tn a)) 0 200))), (7, .int (bI (blM M n a))), (8, .int (nI vf)), (9, .int (nI vi)), (10, .int (bI vs)), (11, .int (nI vl)), (12, .int (nI vc)), (16, .int (nI s_))]) dM_edit_297 (by decide) rfl ?_
                    refine xg_iload hX 5 dM_edit_299 rfl ?_
                    refine xg_if_eqN hX 320 (by omega) dM_edit_301 (by decide) (fun _ => ?_) (fun h => absurd h (by decide))
                    refine xg_iconst hX (nI 0) dM_edit_320 (by decide) ?_
                    refine xg_istore hX (lv' := [(14, .int (nI 0)), (22, .int (nI 0)), (21, .int (nI (k % 16))), (20, .int (nI (k / 16))), (19, .int (nI 0)), (18, .int (nI 0)), (15, .int (nI 1)), (13, .int (nI (zn + 1))), (17, .int (nI k)), (0, .ref mq), (4, .int b), (6, .int (bI (!hasD (rdD M (tn n) (tn a)) 0 200))), (7, .int (bI (blM M n a))), (8, .int (nI vf)), (9, .int (nI vi)), (10, .int (bI vs)), (11, .int (nI vl)), (12, .int (nI vc)), (16, .int (nI s_))]) dM_edit_321 (by decide) rfl ?_
                    refine xg_iload hX 0 dM_edit_323 rfl ?_
                    refine xg_if_eqN hX 337 (by omega) dM_edit_325 (by decide) (fun _ => ?_) (fun h => absurd h (by decide))
                    refine xg_iload hX 0 dM_edit_337 rfl ?_
                    refine xg_if_eqN hX 351 (by omega) dM_edit_339 (by decide) (fun _ => ?_) (fun h => absurd h (by decide))
                    refine xg_iload hX 0 dM_edit_351 rfl ?_
                    refine xg_if_eqN hX 366 (by omega) dM_edit_353 (by decide) (fun _ => ?_) (fun h => absurd h (by decide))
                    refine xg_iload hX 0 dM_edit_366 rfl ?_
                    refine xg_if_eqN hX 386 (by omega) dM_edit_368 (by decide) (fun _ => ?_) (fun h => absurd h (by decide))
                    refine xg_iload hX 0 dM_edit_386 rfl ?_
                    refine xg_if_eqN hX 407 (by omega) dM_edit_388 (by decide) (fun _ => ?_) (fun h => absurd h (by decide))
                    refine xg_iload hX 0 dM_edit_407 rfl ?_
                    refine xg_if_eqN hX 473 (by omega) dM_edit_409 (by decide) (fun _ => ?_) (fun h => absurd h (by decide))
                    refine xg_iload hX 0 dM_edit_473 rfl ?_
                    refine xg_if_eqN hX 543 (by omega) dM_edit_475 (by decide) (fun _ => ?_) (fun h => absurd h (by decide))
                    refine xg_iconst hX (nI 0) dM_edit_543 (by decide) ?_
                    refine xg_istore hX (lv' := [(23, .int (nI 0)), (14, .int (nI 0)), (22, .int (nI 0)), (21, .int (nI (k % 16))), (20, .int (nI (k / 16))), (19, .int (nI 0)), (18, .int (nI 0)), (15, .int (nI 1)), (13, .int (nI (zn + 1))), (17, .int (nI k)), (0, .ref mq), (4, .int b), (6, .int (bI (!hasD (rdD M (tn n) (tn a)) 0 200))), (7, .int (bI (blM M n a))), (8, .int (nI vf)), (9, .int (nI vi)), (10, .int (bI vs)), (11, .int (nI vl)), (12, .int (nI vc)), (16, .int (nI s_))]) dM_edit_544 (by decide) rfl ?_
                    refine xg_iload hX 1 dM_edit_546 rfl ?_
                    refine xg_if_eqN hX 756 (by omega) dM_edit_548 (by decide) (fun _ => ?_) (fun h => absurd h (by decide))
                    refine xg_iincN hX (lv' := [(16, .int (nI (s_ + 1))), (23, .int (nI 0)), (14, .int (nI 0)), (22, .int (nI 0)), (21, .int (nI (k % 16))), (20, .int (nI (k / 16))), (19, .int (nI 0)), (18, .int (nI 0)), (15, .int (nI 1)), (13, .int (nI (zn + 1))), (17, .int (nI k)), (0, .ref mq), (4, .int b), (6, .int (bI (!hasD (rdD M (tn n) (tn a)) 0 200))), (7, .int (bI (blM M n a))), (8, .int (nI vf)), (9, .int (nI vi)), (10, .int (bI vs)), (11, .int (nI vl)), (12, .int (nI vc))]) (s_ + 1) 19 dM_edit_756 rfl (xn_inc _) (by decide) rfl ?_
                    refine xg_goto hX 96 dM_edit_759 (by decide) ?_
                    refine xg_iload hX 8 dM_edit_96 rfl ?_
                    refine xg_if_eqN hX 762 (by omega) dM_edit_98 (by decide) (fun h => absurd h (by decide)) (fun _ => ?_)
                    refine xg_iload hX 2 dM_edit_101 rfl ?_
                    refine xg_if_eqN hX 762 (by omega) dM_edit_103 (by decide) (fun _ => ?_) (fun h => absurd h (by decide))
                    refine xg_iload hX 2 dM_edit_762 rfl ?_
                    refine xg_if_eqN hX 772 (by omega) dM_edit_764 (by decide) (fun _ => ?_) (fun h => absurd h (by decide))
                    refine xg_bipush hX ((-2)) dM_edit_772 (by decide) ?_
                    exact hret ((-2), M, rdD M (tn n) (tn a), Vw, men) _ _ _ rfl (show ((-2), M, men) = editM M men xw n a p b from (by have hF : edPM M xw n a p = none := (fo_la hq hnx (by omega) (by omega)); unfold editM; rw [if_pos h5, if_pos g1, hF])) dM_edit_774
                ·
                  refine xg_iload hX 9 dM_edit_106 rfl ?_
                  refine xg_if_ltN hX 123 (by omega) dM_edit_108 (by decide) ?_
                  refine xg_iload hX 9 dM_edit_111 rfl ?_
                  refine xg_sipush hX (nI 256) dM_edit_113 (by decide) ?_
                  refine xg_icmp_geN hX 123 (by omega) (by omega) dM_edit_116 (by decide) (fun h116 => absurd h116 (by omega)) (fun h116 => ?_)
                  refine xg_iconst hX (nI 1) dM_edit_119 (by decide) ?_
                  refine xg_goto hX 124 dM_edit_120 (by decide) ?_
                  refine xg_istore hX (lv' := [(14, .int (nI 1)), (0, .ref mq), (4, .int b), (6, .int (bI (!hasD (rdD M (tn n) (tn a)) 0 200))), (7, .int (bI (blM M n a))), (8, .int (nI vf)), (9, .int (nI vi)), (10, .int (bI vs)), (11, .int (nI vl)), (12, .int (nI vc)), (13, .int (nI zn)), (15, .int (nI 1)), (16, .int (nI s_))]) dM_edit_124 (by decide) rfl ?_
                  refine xg_iload hX 0 dM_edit_126 rfl ?_
                  refine xg_if_eqN hX 141 (by omega) dM_edit_128 (by decide) (fun h => absurd h (by decide)) (fun _ => ?_)
                  refine xg_aload_n hX 1 dM_edit_131 rfl rfl ?_
                  refine xg_get hX (ci := 3) rfl hinM 0 rfl 0 (by decide) mt_324 rfl dM_edit_132 ?_
                  refine xg_iload hX 10 dM_edit_135 rfl ?_
                  refine xg_iald hX 1 zn rfl (by omega) (by decide) dM_edit_137 ?_
                  refine xg_top (nI k) (by rw [hk4]) ?_
                  refine xg_goto hX 142 dM_edit_138 (by decide) ?_
                  refine xg_istore hX (lv' := [(17, .int (nI k)), (14, .int (nI 1)), (0, .ref mq), (4, .int b), (6, .int (bI (!hasD (rdD M (tn n) (tn a)) 0 200))), (7, .int (bI (blM M n a))), (8, .int (nI vf)), (9, .int (nI vi)), (10, .int (bI vs)), (11, .int (nI vl)), (12, .int (nI vc)), (13, .int (nI zn)), (15, .int (nI 1)), (16, .int (nI s_))]) dM_edit_142 (by decide) rfl ?_
                  refine xg_iincN hX (lv' := [(13, .int (nI (zn + 1))), (17, .int (nI k)), (14, .int (nI 1)), (0, .ref mq), (4, .int b), (6, .int (bI (!hasD (rdD M (tn n) (tn a)) 0 200))), (7, .int (bI (blM M n a))), (8, .int (nI vf)), (9, .int (nI vi)), (10, .int (bI vs)), (11, .int (nI vl)), (12, .int (nI vc)), (15, .int (nI 1)), (16, .int (nI s_))]) (zn + 1) 11 dM_edit_144 rfl (xn_inc _) (by decide) rfl ?_
                  refine xg_iload hX 1 dM_edit_147 rfl ?_
                  refine xg_if_eqN hX 156 (by omega) dM_edit_149 (by decide) (fun hh_202 => absurd hh_202 (by omega)) (fun hh_202 => ?_)
                  refine xg_iconst hX (nI 1) dM_edit_152 (by decide) ?_
                  refine xg_goto hX 157 dM_edit_153 (by decide) ?_
                  refine xg_istore hX (lv' := [(15, .int (nI 1)), (13, .int (nI (zn + 1))), (17, .int (nI k)), (14, .int (nI 1)), (0, .ref mq), (4, .int b), (6, .int (bI (!hasD (rdD M (tn n) (tn a)) 0 200))), (7, .int (bI (blM M n a))), (8, .int (nI vf)), (9, .int (nI vi)), (10, .int (bI vs)), (11, .int (nI vl)), (12, .int (nI vc)), (16, .int (nI s_))]) dM_edit_157 (by decide) rfl ?_
                  refine xg_iload hX 3 dM_edit_159 rfl ?_
                  refine xg_if_eqN hX 180 (by omega) dM_edit_161 (by decide) (fun h => absurd h (by decide)) (fun _ => ?_)
                  refine xg_iload hX 13 dM_edit_164 rfl ?_
                  refine xg_bipush hX (nI 64) dM_edit_166 (by decide) ?_
                  refine xg_icmp_ltN hX 176 (by omega) (by omega) dM_edit_168 (by decide) (fun h168 => ?_) (fun h168 => ?_)
                  ·
                    refine xg_iconst hX (nI 1) dM_edit_176 (by decide) ?_
                    refine xg_goto hX 181 dM_edit_177 (by decide) ?_
                    refine xg_istore hX (lv' := [(14, .int (nI 1)), (15, .int (nI 1)), (13, .int (nI (zn + 1))), (17, .int (nI k)), (0, .ref mq), (4, .int b), (6, .int (bI (!hasD (rdD M (tn n) (tn a)) 0 200))), (7, .int (bI (blM M n a))), (8, .int (nI vf)), (9, .int (nI vi)), (10, .int (bI vs)), (11, .int (nI vl)), (12, .int (nI vc)), (16, .int (nI s_))]) dM_edit_181 (by decide) rfl ?_
                    refine xg_iload hX 3 dM_edit_183 rfl ?_
                    refine xg_iconst hX (nI 4) dM_edit_185 (by decide) ?_
                    refine xg_icmp_ltN hX 200 (by omega) (by omega) dM_edit_186 (by decide) (fun hh_204 => ?_) (fun hh_204 => absurd hh_204 (by omega))
                    refine xg_iconst hX (nI 0) dM_edit_200 (by decide) ?_
                    refine xg_istore hX (lv' := [(18, .int (nI 0)), (14, .int (nI 1)), (15, .int (nI 1)), (13, .int (nI (zn + 1))), (17, .int (nI k)), (0, .ref mq), (4, .int b), (6, .int (bI (!hasD (rdD M (tn n) (tn a)) 0 200))), (7, .int (bI (blM M n a))), (8, .int (nI vf)), (9, .int (nI vi)), (10, .int (bI vs)), (11, .int (nI vl)), (12, .int (nI vc)), (16, .int (nI s_))]) dM_edit_201 (by decide) rfl ?_
                    refine xg_iload hX 0 dM_edit_203 rfl ?_
                    refine xg_if_eqN hX 228 (by omega) dM_edit_205 (by decide) (fun _ => ?_) (fun h => absurd h (by decide))
                    refine xg_iload hX 0 dM_edit_228 rfl ?_
                    refine xg_if_eqN hX 248 (by omega) dM_edit_230 (by decide) (fun _ => ?_) (fun h => absurd h (by decide))
                    refine xg_iconst hX (nI 0) dM_edit_248 (by decide) ?_
                    refine xg_istore hX (lv' := [(19, .int (nI 0)), (18, .int (nI 0)), (14, .int (nI 1)), (15, .int (nI 1)), (13, .int (nI (zn + 1))), (17, .int (nI k)), (0, .ref mq), (4, .int b), (6, .int (bI (!hasD (rdD M (tn n) (tn a)) 0 200))), (7, .int (bI (blM M n a))), (8, .int (nI vf)), (9, .int (nI vi)), (10, .int (bI vs)), (11, .int (nI vl)), (12, .int (nI vc)), (16, .int (nI s_))]) dM_edit_249 (by decide) rfl ?_
                    refine xg_iload hX 1 dM_edit_251 rfl ?_
                    refine xg_if_eqN hX 259 (by omega) dM_edit_253 (by decide) (fun _ => ?_) (fun h => absurd h (by decide))
                    refine xg_iload hX 5 dM_edit_259 rfl ?_
                    refine xg_bipush hX (nI 16) dM_edit_261 (by decide) ?_
                    refine xg_idivN hX (by omega) (by omega) (by omega) dM_edit_263 ?_
                    refine xg_istore hX (lv' := [(20, .int (nI (k / 16))), (19, .int (nI 0)), (18, .int (nI 0)), (14, .int (nI 1)), (15, .int (nI 1)), (13, .int (nI (zn + 1))), (17, .int (nI k)), (0, .ref mq), (4, .int b), (6, .int (bI (!hasD (rdD M (tn n) (tn a)) 0 200))), (7, .int (bI (blM M n a))), (8, .int (nI vf)), (9, .int (nI vi)), (10, .int (bI vs)), (11, .int (nI vl)), (12, .int (nI vc)), (16, .int (nI s_))]) dM_edit_264 (by decide) rfl ?_
                    refine xg_iload hX 6 dM_edit_266 rfl ?_
                    refine xg_bipush hX (nI 16) dM_edit_268 (by decide) ?_
                    refine xg_iremN hX (by omega) (by omega) (by omega) dM_edit_270 ?_
                    refine xg_istore hX (lv' := [(21, .int (nI (k % 16))), (20, .int (nI (k / 16))), (19, .int (nI 0)), (18, .int (nI 0)), (14, .int (nI 1)), (15, .int (nI 1)), (13, .int (nI (zn + 1))), (17, .int (nI k)), (0, .ref mq), (4, .int b), (6, .int (bI (!hasD (rdD M (tn n) (tn a)) 0 200))), (7, .int (bI (blM M n a))), (8, .int (nI vf)), (9, .int (nI vi)), (10, .int (bI vs)), (11, .int (nI vl)), (12, .int (nI vc)), (16, .int (nI s_))]) dM_edit_271 (by decide) rfl ?_
                    refine xg_iload hX 1 dM_edit_273 rfl ?_
                    refine xg_bipush hX (nI 8) dM_edit_275 (by decide) ?_
                    refine xg_icmp_ltN hX 296 (by omega) (by omega) dM_edit_277 (by decide) (fun hh_208 => ?_) (fun hh_208 => absurd hh_208 (by omega))
                    refine xg_iconst hX (nI 0) dM_edit_296 (by decide) ?_
                    refine xg_istore hX (lv' := [(22, .int (nI 0)), (21, .int (nI (k % 16))), (20, .int (nI (k / 16))), (19, .int (nI 0)), (18, .int (nI 0)), (14, .int (nI 1)), (15, .int (nI 1)), (13, .int (nI (zn + 1))), (17, .int (nI k)), (0, .ref mq), (4, .int b), (6, .int (bI (!hasD (rdD M (tn n) (tn a)) 0 200))), (7, .int (bI (blM M n a))), (8, .int (nI vf)), (9, .int (nI vi)), (10, .int (bI vs)), (11, .int (nI vl)), (12, .int (nI vc)), (16, .int (nI s_))]) dM_edit_297 (by decide) rfl ?_
                    refine xg_iload hX 5 dM_edit_299 rfl ?_
                    refine xg_if_eqN hX 320 (by omega) dM_edit_301 (by decide) (fun h => absurd h (by decide)) (fun _ => ?_)
                    refine xg_iload hX 8 dM_edit_304 rfl ?_
                    refine xg_bipush hX (nI 8) dM_edit_306 (by decide) ?_
                    refine xg_icmp_leN hX 316 (by omega) (by omega) dM_edit_308 (by decide) (fun hh_210 => ?_) (fun hh_210 => absurd hh_210 (by omega))
                    refine xg_iconst hX (nI 1) dM_edit_316 (by decide) ?_
                    refine xg_goto hX 321 dM_edit_317 (by decide) ?_
                    refine xg_istore hX (lv' := [(14, .int (nI 1)), (22, .int (nI 0)), (21, .int (nI (k % 16))), (20, .int (nI (k / 16))), (19, .int (nI 0)), (18, .int (nI 0)), (15, .int (nI 1)), (13, .int (nI (zn + 1))), (17, .int (nI k)), (0, .ref mq), (4, .int b), (6, .int (bI (!hasD (rdD M (tn n) (tn a)) 0 200))), (7, .int (bI (blM M n a))), (8, .int (nI vf)), (9, .int (nI vi)), (10, .int (bI vs)), (11, .int (nI vl)), (12, .int (nI vc)), (16, .int (nI s_))]) dM_edit_321 (by decide) rfl ?_
                    refine xg_iload hX 0 dM_edit_323 rfl ?_
                    refine xg_if_eqN hX 337 (by omega) dM_edit_325 (by decide) (fun h => absurd h (by decide)) (fun _ => ?_)
                    refine xg_iload hX 8 dM_edit_328 rfl ?_
                    refine xg_iconst hX (nI 1) dM_edit_330 (by decide) ?_
                    refine xg_icmp_neN hX 337 (by omega) (by omega) dM_edit_331 (by decide) (fun hh_212 => ?_) (fun hh_212 => absurd hh_212 (by omega))
                    refine xg_iload hX 0 dM_edit_337 rfl ?_
                    refine xg_if_eqN hX 351 (by omega) dM_edit_339 (by decide) (fun h => absurd h (by decide)) (fun _ => ?_)
                    refine xg_iload hX 8 dM_edit_342 rfl ?_
                    refine xg_iconst hX (nI 2) dM_edit_344 (by decide) ?_
                    refine xg_icmp_neN hX 351 (by omega) (by omega) dM_edit_345 (by decide) (fun hh_214 => ?_) (fun hh_214 => absurd hh_214 (by omega))
                    refine xg_iload hX 0 dM_edit_351 rfl ?_
                    refine xg_if_eqN hX 366 (by omega) dM_edit_353 (by decide) (fun h => absurd h (by decide)) (fun _ => ?_)
                    refine xg_iload hX 8 dM_edit_356 rfl ?_
                    refine xg_iconst hX (nI 4) dM_edit_358 (by decide) ?_
                    refine xg_icmp_neN hX 366 (by omega) (by omega) dM_edit_359 (by decide) (fun hh_216 => ?_) (fun hh_216 => absurd hh_216 (by omega))
                    refine xg_iload hX 0 dM_edit_366 rfl ?_
                    refine xg_if_eqN hX 386 (by omega) dM_edit_368 (by decide) (fun h => absurd h (by decide)) (fun _ => ?_)
                    refine xg_iload hX 8 dM_edit_371 rfl ?_
                    refine xg_iconst hX (nI 5) dM_edit_373 (by decide) ?_
                    refine xg_icmp_neN hX 386 (by omega) (by omega) dM_edit_374 (by decide) (fun hh_218 => ?_) (fun hh_218 => absurd hh_218 (by omega))
                    refine xg_iload hX 0 dM_edit_386 rfl ?_
                    refine xg_if_eqN hX 407 (by omega) dM_edit_388 (by decide) (fun h => absurd h (by decide)) (fun _ => ?_)
                    refine xg_iload hX 8 dM_edit_391 rfl ?_
                    refine xg_bipush hX (nI 6) dM_edit_393 (by decide) ?_
                    refine xg_icmp_neN hX 407 (by omega) (by omega) dM_edit_395 (by decide) (fun hh_220 => ?_) (fun hh_220 => absurd hh_220 (by omega))
                    refine xg_iload hX 0 dM_edit_407 rfl ?_
                    refine xg_if_eqN hX 473 (by omega) dM_edit_409 (by decide) (fun h => absurd h (by decide)) (fun _ => ?_)
                    refine xg_iload hX 8 dM_edit_412 rfl ?_
                    refine xg_bipush hX (nI 8) dM_edit_414 (by decide) ?_
                    refine xg_icmp_neN hX 473 (by omega) (by omega) dM_edit_416 (by decide) (fun hh_222 => ?_) (fun hh_222 => absurd hh_222 (by omega))
                    refine xg_iload hX 0 dM_edit_473 rfl ?_
                    refine xg_if_eqN hX 543 (by omega) dM_edit_475 (by decide) (fun h => absurd h (by decide)) (fun _ => ?_)
                    refine xg_iload hX 8 dM_edit_478 rfl ?_
                    refine xg_iconst hX (nI 3) dM_edit_480 (by decide) ?_
                    refine xg_icmp_eqN hX 491 (by omega) (by omega) dM_edit_481 (by decide) (fun hh_224 => ?_) (fun hh_224 => absurd hh_224 (by omega))
                    refine xg_iload hX 17 dM_edit_491 rfl ?_
                    refine xg_bipush hX (nI 64) dM_edit_493 (by decide) ?_
                    refine xg_icmp_geN hX 502 (by omega) (by omega) dM_edit_495 (by decide) (fun h495 => ?_) (fun h495 => ?_)
                    ·
                      refine xg_iconst hX (nI 0) dM_edit_502 (by decide) ?_
                      refine xg_istore hX (lv' := [(14, .int (nI 0)), (22, .int (nI 0)), (21, .int (nI (k % 16))), (20, .int (nI (k / 16))), (19, .int (nI 0)), (18, .int (nI 0)), (15, .int (nI 1)), (13, .int (nI (zn + 1))), (17, .int (nI k)), (0, .ref mq), (4, .int b), (6, .int (bI (!hasD (rdD M (tn n) (tn a)) 0 200))), (7, .int (bI (blM M n a))), (8, .int (nI vf)), (9, .int (nI vi)), (10, .int (bI vs)), (11, .int (nI vl)), (12, .int (nI vc)), (16, .int (nI s_))]) dM_edit_503 (by decide) rfl ?_
                      refine xg_iload hX 0 dM_edit_505 rfl ?_
                      refine xg_if_eqN hX 540 (by omega) dM_edit_507 (by decide) (fun _ => ?_) (fun h => absurd h (by decide))
                      refine xg_iincN hX (lv' := [(12, .int (nI (vc + 1))), (14, .int (nI 0)), (22, .int (nI 0)), (21, .int (nI (k % 16))), (20, .int (nI (k / 16))), (19, .int (nI 0)), (18, .int (nI 0)), (15, .int (nI 1)), (13, .int (nI (zn + 1))), (17, .int (nI k)), (0, .ref mq), (4, .int b), (6, .int (bI (!hasD (rdD M (tn n) (tn a)) 0 200))), (7, .int (bI (blM M n a))), (8, .int (nI vf)), (9, .int (nI vi)), (10, .int (bI vs)), (11, .int (nI vl)), (16, .int (nI s_))]) (vc + 1) 17 dM_edit_540 rfl (xn_inc _) (by decide) rfl ?_
                      refine xg_iconst hX (nI 0) dM_edit_543 (by decide) ?_
                      refine xg_istore hX (lv' := [(23, .int (nI 0)), (12, .int (nI (vc + 1))), (14, .int (nI 0)), (22, .int (nI 0)), (21, .int (nI (k % 16))), (20, .int (nI (k / 16))), (19, .int (nI 0)), (18, .int (nI 0)), (15, .int (nI 1)), (13, .int (nI (zn + 1))), (17, .int (nI k)), (0, .ref mq), (4, .int b), (6, .int (bI (!hasD (rdD M (tn n) (tn a)) 0 200))), (7, .int (bI (blM M n a))), (8, .int (nI vf)), (9, .int (nI vi)), (10, .int (bI vs)), (11, .int (nI vl)), (16, .int (nI s_))]) dM_edit_544 (by decide) rfl ?_
                      refine xg_iload hX 2 dM_edit_546 rfl ?_
                      refine xg_if_eqN hX 756 (by omega) dM_edit_548 (by decide) (fun _ => ?_) (fun h => absurd h (by decide))
                      refine xg_iincN hX (lv' := [(16, .int (nI (s_ + 1))), (23, .int (nI 0)), (12, .int (nI (vc + 1))), (14, .int (nI 0)), (22, .int (nI 0)), (21, .int (nI (k % 16))), (20, .int (nI (k / 16))), (19, .int (nI 0)), (18, .int (nI 0)), (15, .int (nI 1)), (13, .int (nI (zn + 1))), (17, .int (nI k)), (0, .ref mq), (4, .int b), (6, .int (bI (!hasD (rdD M (tn n) (tn a)) 0 200))), (7, .int (bI (blM M n a))), (8, .int (nI vf)), (9, .int (nI vi)), (10, .int (bI vs)), (11, .int (nI vl))]) (s_ + 1) 19 dM_edit_756 rfl (xn_inc _) (by decide) rfl ?_
                      refine xg_goto hX 96 dM_edit_759 (by decide) ?_
                      refine xg_iload hX 9 dM_edit_96 rfl ?_
                      refine xg_if_eqN hX 762 (by omega) dM_edit_98 (by decide) (fun h => absurd h (by decide)) (fun _ => ?_)
                      refine xg_iload hX 3 dM_edit_101 rfl ?_
                      refine xg_if_eqN hX 762 (by omega) dM_edit_103 (by decide) (fun _ => ?_) (fun h => absurd h (by decide))
                      refine xg_iload hX 3 dM_edit_762 rfl ?_
                      refine xg_if_eqN hX 772 (by omega) dM_edit_764 (by decide) (fun _ => ?_) (fun h => absurd h (by decide))
                      refine xg_bipush hX ((-2)) dM_edit_772 (by decide) ?_
                      exact hret ((-2), M, rdD M (tn n) (tn a), Vw, men) _ _ _ rfl (show ((-2), M, men) = editM M men xw n a p b from (by have hF : edPM M xw n a p = none := (fo_no hq hnx (by omega) h168 (ob_3n hkk h495)); unfold editM; rw [if_pos h5, if_pos g1, hF])) dM_edit_774
                    ·
                      refine xg_iconst hX (nI 1) dM_edit_498 (by decide) ?_
                      refine xg_goto hX 503 dM_edit_499 (by decide) ?_
                      refine xg_istore hX (lv' := [(14, .int (nI 1)), (22, .int (nI 0)), (21, .int (nI (k % 16))), (20, .int (nI (k / 16))), (19, .int (nI 0)), (18, .int (nI 0)), (15, .int (nI 1)), (13, .int (nI (zn + 1))), (17, .int (nI k)), (0, .ref mq), (4, .int b), (6, .int (bI (!hasD (rdD M (tn n) (tn a)) 0 200))), (7, .int (bI (blM M n a))), (8, .int (nI vf)), (9, .int (nI vi)), (10, .int (bI vs)), (11, .int (nI vl)), (12, .int (nI vc)), (16, .int (nI s_))]) dM_edit_503 (by decide) rfl ?_
                      refine xg_iload hX 0 dM_edit_505 rfl ?_
                      refine xg_if_eqN hX 540 (by omega) dM_edit_507 (by decide) (fun h => absurd h (by decide)) (fun _ => ?_)
                      refine xg_aload_n hX 9 dM_edit_510 rfl rfl ?_
                      refine xg_get hX (ci := 3) rfl hinM 0 rfl 8 (by decide) mt_332 rfl dM_edit_511 ?_
                      refine xg_iload hX 17 dM_edit_514 rfl ?_
                      refine xg_iload hX 8 dM_edit_516 rfl ?_
                      refine xg_iconst hX (nI 3) dM_edit_518 (by decide) ?_
                      refine xg_icmp_neN hX 527 (by omega) (by omega) dM_edit_519 (by decide) (fun hh_231 => absurd hh_231 (by omega)) (fun hh_231 => ?_)
                      refine xg_iload hX 14 dM_edit_522 rfl ?_
                      refine xg_goto hX 539 dM_edit_524 (by decide) ?_
                      refine xg_iast hX (ws' := [(mq, .inr (3, [.ref mm, .ref m1, .ref m2, .ref mo, .ref mr, .int (bI o1), .int (bI o2), .int (bI oo), .ref mw, .int (bI men)])), (mm, .inl (cI, 256, .inl (nf M))), (m1, .inl (cI, 200, .inl (nf (rdD M (tn n) (tn a))))), (mw, .inl (cI, 80, .inl (nf (up Vw vc vi))))]) 3 vc vi rfl (by omega) (by decide) rfl dM_edit_539 ?_
                      refine xg_iincN hX (lv' := [(12, .int (nI (vc + 1))), (14, .int (nI 1)), (22, .int (nI 0)), (21, .int (nI (k % 16))), (20, .int (nI (k / 16))), (19, .int (nI 0)), (18, .int (nI 0)), (15, .int (nI 1)), (13, .int (nI (zn + 1))), (17, .int (nI k)), (0, .ref mq), (4, .int b), (6, .int (bI (!hasD (rdD M (tn n) (tn a)) 0 200))), (7, .int (bI (blM M n a))), (8, .int (nI vf)), (9, .int (nI vi)), (10, .int (bI vs)), (11, .int (nI vl)), (16, .int (nI s_))]) (vc + 1) 17 dM_edit_540 rfl (xn_inc _) (by decide) rfl ?_
                      refine xg_iconst hX (nI 0) dM_edit_543 (by decide) ?_
                      refine xg_istore hX (lv' := [(23, .int (nI 0)), (12, .int (nI (vc + 1))), (14, .int (nI 1)), (22, .int (nI 0)), (21, .int (nI (k % 16))), (20, .int (nI (k / 16))), (19, .int (nI 0)), (18, .int (nI 0)), (15, .int (nI 1)), (13, .int (nI (zn + 1))), (17, .int (nI k)), (0, .ref mq), (4, .int b), (6, .int (bI (!hasD (rdD M (tn n) (tn a)) 0 200))), (7, .int (bI (blM M n a))), (8, .int (nI vf)), (9, .int (nI vi)), (10, .int (bI vs)), (11, .int (nI vl)), (16, .int (nI s_))]) dM_edit_544 (by decide) rfl ?_
                      refine xg_iload hX 2 dM_edit_546 rfl ?_
                      refine xg_if_eqN hX 756 (by omega) dM_edit_548 (by decide) (fun h => absurd h (by decide)) (fun _ => ?_)
                      refine xg_iload hX 3 dM_edit_551 rfl ?_
                      refine xg_if_eqN hX 756 (by omega) dM_edit_553 (by decide) (fun _ => ?_) (fun h => absurd h (by decide))
                      refine xg_iincN hX (lv' := [(16, .int (nI (s_ + 1))), (23, .int (nI 0)), (12, .int (nI (vc + 1))), (14, .int (nI 1)), (22, .int (nI 0)), (21, .int (nI (k % 16))), (20, .int (nI (k / 16))), (19, .int (nI 0)), (18, .int (nI 0)), (15, .int (nI 1)), (13, .int (nI (zn + 1))), (17, .int (nI k)), (0, .ref mq), (4, .int b), (6, .int (bI (!hasD (rdD M (tn n) (tn a)) 0 200))), (7, .int (bI (blM M n a))), (8, .int (nI vf)), (9, .int (nI vi)), (10, .int (bI vs)), (11, .int (nI vl))]) (s_ + 1) 19 dM_edit_756 rfl (xn_inc _) (by decide) rfl ?_
                      refine xg_goto hX 96 dM_edit_759 (by decide) ?_
                      refine xg_lv hX (lv' := [(0, .ref mq), (4, .int b), (6, .int (bI (!hasD (rdD M (tn n) (tn a)) 0 200))), (7, .int (bI (blM M n a))), (8, .int (nI vf)), (9, .int (nI vi)), (10, .int (bI vs)), (11, .int (nI vl)), (12, .int (nI (vc + 1))), (13, .int (nI (zn + 1))), (14, .int (nI 1)), (15, .int (nI 1)), (16, .int (nI (s_ + 1)))]) [12, 13, 14, 15, 16, 17, 18, 19, 2, 10, 3, 9, 0] rfl ?_
                      exact ih5 (s_ + 1) (nI (zn + 1)) (up Vw vc vi) (vc + 1) vl vs vf vi (by omega) (by omega) (by omega) (by omega) (fo_st1 hq hnx (by omega) h168 (tk_f (by omega)) (ob_3 hkk h495)) (by omega)
                  ·
                    refine xg_iload hX 0 dM_edit_171 rfl ?_
                    refine xg_if_neN hX 180 (by omega) dM_edit_173 (by decide) (fun _ => ?_) (fun h => absurd h (by decide))
                    refine xg_iconst hX (nI 0) dM_edit_180 (by decide) ?_
                    refine xg_istore hX (lv' := [(14, .int (nI 0)), (15, .int (nI 1)), (13, .int (nI (zn + 1))), (17, .int (nI k)), (0, .ref mq), (4, .int b), (6, .int (bI (!hasD (rdD M (tn n) (tn a)) 0 200))), (7, .int (bI (blM M n a))), (8, .int (nI vf)), (9, .int (nI vi)), (10, .int (bI vs)), (11, .int (nI vl)), (12, .int (nI vc)), (16, .int (nI s_))]) dM_edit_181 (by decide) rfl ?_
                    refine xg_iload hX 3 dM_edit_183 rfl ?_
                    refine xg_iconst hX (nI 4) dM_edit_185 (by decide) ?_
                    refine xg_icmp_ltN hX 200 (by omega) (by omega) dM_edit_186 (by decide) (fun hh_235 => ?_) (fun hh_235 => absurd hh_235 (by omega))
                    refine xg_iconst hX (nI 0) dM_edit_200 (by decide) ?_
                    refine xg_istore hX (lv' := [(18, .int (nI 0)), (14, .int (nI 0)), (15, .int (nI 1)), (13, .int (nI (zn + 1))), (17, .int (nI k)), (0, .ref mq), (4, .int b), (6, .int (bI (!hasD (rdD M (tn n) (tn a)) 0 200))), (7, .int (bI (blM M n a))), (8, .int (nI vf)), (9, .int (nI vi)), (10, .int (bI vs)), (11, .int (nI vl)), (12, .int (nI vc)), (16, .int (nI s_))]) dM_edit_201 (by decide) rfl ?_
                    refine xg_iload hX 0 dM_edit_203 rfl ?_
                    refine xg_if_eqN hX 228 (by omega) dM_edit_205 (by decide) (fun _ => ?_) (fun h => absurd h (by decide))
                    refine xg_iload hX 0 dM_edit_228 rfl ?_
                    refine xg_if_eqN hX 248 (by omega) dM_edit_230 (by decide) (fun _ => ?_) (fun h => absurd h (by decide))
                    refine xg_iconst hX (nI 0) dM_edit_248 (by decide) ?_
                    refine xg_istore hX (lv' := [(19, .int (nI 0)), (18, .int (nI 0)), (14, .int (nI 0)), (15, .int (nI 1)), (13, .int (nI (zn + 1))), (17, .int (nI k)), (0, .ref mq), (4, .int b), (6, .int (bI (!hasD (rdD M (tn n) (tn a)) 0 200))), (7, .int (bI (blM M n a))), (8, .int (nI vf)), (9, .int (nI vi)), (10, .int (bI vs)), (11, .int (nI vl)), (12, .int (nI vc)), (16, .int (nI s_))]) dM_edit_249 (by decide) rfl ?_
                    refine xg_iload hX 1 dM_edit_251 rfl ?_
                    refine xg_if_eqN hX 259 (by omega) dM_edit_253 (by decide) (fun _ => ?_) (fun h => absurd h (by decide))
                    refine xg_iload hX 5 dM_edit_259 rfl ?_
                    refine xg_bipush hX (nI 16) dM_edit_261 (by decide) ?_
                    refine xg_idivN hX (by omega) (by omega) (by omega) dM_edit_263 ?_
                    refine xg_istore hX (lv' := [(20, .int (nI (k / 16))), (19, .int (nI 0)), (18, .int (nI 0)), (14, .int (nI 0)), (15, .int (nI 1)), (13, .int (nI (zn + 1))), (17, .int (nI k)), (0, .ref mq), (4, .int b), (6, .int (bI (!hasD (rdD M (tn n) (tn a)) 0 200))), (7, .int (bI (blM M n a))), (8, .int (nI vf)), (9, .int (nI vi)), (10, .int (bI vs)), (11, .int (nI vl)), (12, .int (nI vc)), (16, .int (nI s_))]) dM_edit_264 (by decide) rfl ?_
                    refine xg_iload hX 6 dM_edit_266 rfl ?_
                    refine xg_bipush hX (nI 16) dM_edit_268 (by decide) ?_
                    refine xg_iremN hX (by omega) (by omega) (by omega) dM_edit_270 ?_
                    refine xg_istore hX (lv' := [(21, .int (nI (k % 16))), (20, .int (nI (k / 16))), (19, .int (nI 0)), (18, .int (nI 0)), (14, .int (nI 0)), (15, .int (nI 1)), (13, .int (nI (zn + 1))), (17, .int (nI k)), (0, .ref mq), (4, .int b), (6, .int (bI (!hasD (rdD M (tn n) (tn a)) 0 200))), (7, .int (bI (blM M n a))), (8, .int (nI vf)), (9, .int (nI vi)), (10, .int (bI vs)), (11, .int (nI vl)), (12, .int (nI vc)), (16, .int (nI s_))]) dM_edit_271 (by decide) rfl ?_
                    refine xg_iload hX 1 dM_edit_273 rfl ?_
                    refine xg_bipush hX (nI 8) dM_edit_275 (by decide) ?_
                    refine xg_icmp_ltN hX 296 (by omega) (by omega) dM_edit_277 (by decide) (fun hh_239 => ?_) (fun hh_239 => absurd hh_239 (by omega))
                    refine xg_iconst hX (nI 0) dM_edit_296 (by decide) ?_
                    refine xg_istore hX (lv' := [(22, .int (nI 0)), (21, .int (nI (k % 16))), (20, .int (nI (k / 16))), (19, .int (nI 0)), (18, .int (nI 0)), (14, .int (nI 0)), (15, .int (nI 1)), (13, .int (nI (zn + 1))), (17, .int (nI k)), (0, .ref mq), (4, .int b), (6, .int (bI (!hasD (rdD M (tn n) (tn a)) 0 200))), (7, .int (bI (blM M n a))), (8, .int (nI vf)), (9, .int (nI vi)), (10, .int (bI vs)), (11, .int (nI vl)), (12, .int (nI vc)), (16, .int (nI s_))]) dM_edit_297 (by decide) rfl ?_
                    refine xg_iload hX 5 dM_edit_299 rfl ?_
                    refine xg_if_eqN hX 320 (by omega) dM_edit_301 (by decide) (fun _ => ?_) (fun h => absurd h (by decide))
                    refine xg_iconst hX (nI 0) dM_edit_320 (by decide) ?_
                    refine xg_istore hX (lv' := [(14, .int (nI 0)), (22, .int (nI 0)), (21, .int (nI (k % 16))), (20, .int (nI (k / 16))), (19, .int (nI 0)), (18, .int (nI 0)), (15, .int (nI 1)), (13, .int (nI (zn + 1))), (17, .int (nI k)), (0, .ref mq), (4, .int b), (6, .int (bI (!hasD (rdD M (tn n) (tn a)) 0 200))), (7, .int (bI (blM M n a))), (8, .int (nI vf)), (9, .int (nI vi)), (10, .int (bI vs)), (11, .int (nI vl)), (12, .int (nI vc)), (16, .int (nI s_))]) dM_edit_321 (by decide) rfl ?_
                    refine xg_iload hX 0 dM_edit_323 rfl ?_
                    refine xg_if_eqN hX 337 (by omega) dM_edit_325 (by decide) (fun _ => ?_) (fun h => absurd h (by decide))
                    refine xg_iload hX 0 dM_edit_337 rfl ?_
                    refine xg_if_eqN hX 351 (by omega) dM_edit_339 (by decide) (fun _ => ?_) (fun h => absurd h (by decide))
                    refine xg_iload hX 0 dM_edit_351 rfl ?_
                    refine xg_if_eqN hX 366 (by omega) dM_edit_353 (by decide) (fun _ => ?_) (fun h => absurd h (by decide))
                    refine xg_iload hX 0 dM_edit_366 rfl ?_
                    refine xg_if_eqN hX 386 (by omega) dM_edit_368 (by decide) (fun _ => ?_) (fun h => absurd h (by decide))
                    refine xg_iload hX 0 dM_edit_386 rfl ?_
                    refine xg_if_eqN hX 407 (by omega) dM_edit_388 (by decide) (fun _ => ?_) (fun h => absurd h (by decide))
                    refine xg_iload hX 0 dM_edit_407 rfl ?_
                    refine xg_if_eqN hX 473 (by omega) dM_edit_409 (by decide) (fun _ => ?_) (fun h => absurd h (by decide))
                    refine xg_iload hX 0 dM_edit_473 rfl ?_
                    refine xg_if_eqN hX 543 (by omega) dM_edit_475 (by decide) (fun _ => ?_) (fun h => absurd h (by decide))
                    refine xg_iconst hX (nI 0) dM_edit_543 (by decide) ?_
                    refine xg_istore hX (lv' := [(23, .int (nI 0)), (14, .int (nI 0)), (22, .int (nI 0)), (21, .int (nI (k % 16))), (20, .int (nI (k / 16))), (19, .int (nI 0)), (18, .int (nI 0)), (15, .int (nI 1)), (13, .int (nI (zn + 1))), (17, .int (nI k)), (0, .ref mq), (4, .int b), (6, .int (bI (!hasD (rdD M (tn n) (tn a)) 0 200))), (7, .int (bI (blM M n a))), (8, .int (nI vf)), (9, .int (nI vi)), (10, .int (bI vs)), (11, .int (nI vl)), (12, .int (nI vc)), (16, .int (nI s_))]) dM_edit_544 (by decide) rfl ?_
                    refine xg_iload hX 1 dM_edit_546 rfl ?_
                    refine xg_if_eqN hX 756 (by omega) dM_edit_548 (by decide) (fun _ => ?_) (fun h => absurd h (by decide))
                    refine xg_iincN hX (lv' := [(16, .int (nI (s_ + 1))), (23, .int (nI 0)), (14, .int (nI 0)), (22, .int (nI 0)), (21, .int (nI (k % 16))), (20, .int (nI (k / 16))), (19, .int (nI 0)), (18, .int (nI 0)), (15, .int (nI 1)), (13, .int (nI (zn + 1))), (17, .int (nI k)), (0, .ref mq), (4, .int b), (6, .int (bI (!hasD (rdD M (tn n) (tn a)) 0 200))), (7, .int (bI (blM M n a))), (8, .int (nI vf)), (9, .int (nI vi)), (10, .int (bI vs)), (11, .int (nI vl)), (12, .int (nI vc))]) (s_ + 1) 19 dM_edit_756 rfl (xn_inc _) (by decide) rfl ?_
                    refine xg_goto hX 96 dM_edit_759 (by decide) ?_
                    refine xg_iload hX 8 dM_edit_96 rfl ?_
                    refine xg_if_eqN hX 762 (by omega) dM_edit_98 (by decide) (fun h => absurd h (by decide)) (fun _ => ?_)
                    refine xg_iload hX 2 dM_edit_101 rfl ?_
                    refine xg_if_eqN hX 762 (by omega) dM_edit_103 (by decide) (fun _ => ?_) (fun h => absurd h (by decide))
                    refine xg_iload hX 2 dM_edit_762 rfl ?_
                    refine xg_if_eqN hX 772 (by omega) dM_edit_764 (by decide) (fun _ => ?_) (fun h => absurd h (by decide))
                    refine xg_bipush hX ((-2)) dM_edit_772 (by decide) ?_
                    exact hret ((-2), M, rdD M (tn n) (tn a), Vw, men) _ _ _ rfl (show ((-2), M, men) = editM M men xw n a p b from (by have hF : edPM M xw n a p = none := (fo_la hq hnx (by omega) (by omega)); unfold editM; rw [if_pos h5, if_pos g1, hF])) dM_edit_774
                ·
                  refine xg_iload hX 9 dM_edit_106 rfl ?_
                  refine xg_if_ltN hX 123 (by omega) dM_edit_108 (by decide) ?_
                  refine xg_iload hX 9 dM_edit_111 rfl ?_
                  refine xg_sipush hX (nI 256) dM_edit_113 (by decide) ?_
                  refine xg_icmp_geN hX 123 (by omega) (by omega) dM_edit_116 (by decide) (fun h116 => absurd h116 (by omega)) (fun h116 => ?_)
                  refine xg_iconst hX (nI 1) dM_edit_119 (by decide) ?_
                  refine xg_goto hX 124 dM_edit_120 (by decide) ?_
                  refine xg_istore hX (lv' := [(14, .int (nI 1)), (0, .ref mq), (4, .int b), (6, .int (bI (!hasD (rdD M (tn n) (tn a)) 0 200))), (7, .int (bI (blM M n a))), (8, .int (nI vf)), (9, .int (nI vi)), (10, .int (bI vs)), (11, .int (nI vl)), (12, .int (nI vc)), (13, .int (nI zn)), (15, .int (nI 1)), (16, .int (nI s_))]) dM_edit_124 (by decide) rfl ?_
                  refine xg_iload hX 0 dM_edit_126 rfl ?_
                  refine xg_if_eqN hX 141 (by omega) dM_edit_128 (by decide) (fun h => absurd h (by decide)) (fun _ => ?_)
                  refine xg_aload_n hX 1 dM_edit_131 rfl rfl ?_
                  refine xg_get hX (ci := 3) rfl hinM 0 rfl 0 (by decide) mt_324 rfl dM_edit_132 ?_
                  refine xg_iload hX 10 dM_edit_135 rfl ?_
                  refine xg_iald hX 1 zn rfl (by omega) (by decide) dM_edit_137 ?_
                  refine xg_top (nI k) (by rw [hk4]) ?_
                  refine xg_goto hX 142 dM_edit_138 (by decide) ?_
                  refine xg_istore hX (lv' := [(17, .int (nI k)), (14, .int (nI 1)), (0, .ref mq), (4, .int b), (6, .int (bI (!hasD (rdD M (tn n) (tn a)) 0 200))), (7, .int (bI (blM M n a))), (8, .int (nI vf)), (9, .int (nI vi)), (10, .int (bI vs)), (11, .int (nI vl)), (12, .int (nI vc)), (13, .int (nI zn)), (15, .int (nI 1)), (16, .int (nI s_))]) dM_edit_142 (by decide) rfl ?_
                  refine xg_iincN hX (lv' := [(13, .int (nI (zn + 1))), (17, .int (nI k)), (14, .int (nI 1)), (0, .ref mq), (4, .int b), (6, .int (bI (!hasD (rdD M (tn n) (tn a)) 0 200))), (7, .int (bI (blM M n a))), (8, .int (nI vf)), (9, .int (nI vi)), (10, .int (bI vs)), (11, .int (nI vl)), (12, .int (nI vc)), (15, .int (nI 1)), (16, .int (nI s_))]) (zn + 1) 11 dM_edit_144 rfl (xn_inc _) (by decide) rfl ?_
                  refine xg_iload hX 1 dM_edit_147 rfl ?_
                  refine xg_if_eqN hX 156 (by omega) dM_edit_149 (by decide) (fun hh_253 => absurd hh_253 (by omega)) (fun hh_253 => ?_)
                  refine xg_iconst hX (nI 1) dM_edit_152 (by decide) ?_
                  refine xg_goto hX 157 dM_edit_153 (by decide) ?_
                  refine xg_istore hX (lv' := [(15, .int (nI 1)), (13, .int (nI (zn + 1))), (17, .int (nI k)), (14, .int (nI 1)), (0, .ref mq), (4, .int b), (6, .int (bI (!hasD (rdD M (tn n) (tn a)) 0 200))), (7, .int (bI (blM M n a))), (8, .int (nI vf)), (9, .int (nI vi)), (10, .int (bI vs)), (11, .int (nI vl)), (12, .int (nI vc)), (16, .int (nI s_))]) dM_edit_157 (by decide) rfl ?_
                  refine xg_iload hX 3 dM_edit_159 rfl ?_
                  refine xg_if_eqN hX 180 (by omega) dM_edit_161 (by decide) (fun h => absurd h (by decide)) (fun _ => ?_)
                  refine xg_iload hX 13 dM_edit_164 rfl ?_
                  refine xg_bipush hX (nI 64) dM_edit_166 (by decide) ?_
                  refine xg_icmp_ltN hX 176 (by omega) (by omega) dM_edit_168 (by decide) (fun h168 => ?_) (fun h168 => ?_)
                  ·
                    refine xg_iconst hX (nI 1) dM_edit_176 (by decide) ?_
                    refine xg_goto hX 181 dM_edit_177 (by decide) ?_
                    refine xg_istore hX (lv' := [(14, .int (nI 1)), (15, .int (nI 1)), (13, .int (nI (zn + 1))), (17, .int (nI k)), (0, .ref mq), (4, .int b), (6, .int (bI (!hasD (rdD M (tn n) (tn a)) 0 200))), (7, .int (bI (blM M n a))), (8, .int (nI vf)), (9, .int (nI vi)), (10, .int (bI vs)), (11, .int (nI vl)), (12, .int (nI vc)), (16, .int (nI s_))]) dM_edit_181 (by decide) rfl ?_
                    refine xg_iload hX 3 dM_edit_183 rfl ?_
                    refine xg_iconst hX (nI 4) dM_edit_185 (by decide) ?_
                    refine xg_icmp_ltN hX 200 (by omega) (by omega) dM_edit_186 (by decide) (fun hh_255 => absurd hh_255 (by omega)) (fun hh_255 => ?_)
                    refine xg_iload hX 3 dM_edit_189 rfl ?_
                    refine xg_bipush hX (nI 8) dM_edit_191 (by decide) ?_
                    refine xg_icmp_gtN hX 200 (by omega) (by omega) dM_edit_193 (by decide) (fun hh_256 => absurd hh_256 (by omega)) (fun hh_256 => ?_)
                    refine xg_iconst hX (nI 1) dM_edit_196 (by decide) ?_
                    refine xg_goto hX 201 dM_edit_197 (by decide) ?_
                    refine xg_istore hX (lv' := [(18, .int (nI 1)), (14, .int (nI 1)), (15, .int (nI 1)), (13, .int (nI (zn + 1))), (17, .int (nI k)), (0, .ref mq), (4, .int b), (6, .int (bI (!hasD (rdD M (tn n) (tn a)) 0 200))), (7, .int (bI (blM M n a))), (8, .int (nI vf)), (9, .int (nI vi)), (10, .int (bI vs)), (11, .int (nI vl)), (12, .int (nI vc)), (16, .int (nI s_))]) dM_edit_201 (by decide) rfl ?_
                    refine xg_iload hX 0 dM_edit_203 rfl ?_
                    refine xg_if_eqN hX 228 (by omega) dM_edit_205 (by decide) (fun h => absurd h (by decide)) (fun _ => ?_)
                    refine xg_iload hX 1 dM_edit_208 rfl ?_
                    refine xg_if_eqN hX 225 (by omega) dM_edit_210 (by decide) (fun h => absurd h (by decide)) (fun _ => ?_)
                    refine xg_iload hX 3 dM_edit_213 rfl ?_
                    refine xg_sipush hX (nI 256) dM_edit_215 (by decide) ?_
                    refine xg_icmp_geN hX 225 (by omega) (by omega) dM_edit_218 (by decide) (fun h218 => ?_) (fun h218 => ?_)
                    ·
                      refine xg_iconst hX (nI 0) dM_edit_225 (by decide) ?_
                      refine xg_istore hX (lv' := [(14, .int (nI 0)), (18, .int (nI 1)), (15, .int (nI 1)), (13, .int (nI (zn + 1))), (17, .int (nI k)), (0, .ref mq), (4, .int b), (6, .int (bI (!hasD (rdD M (tn n) (tn a)) 0 200))), (7, .int (bI (blM M n a))), (8, .int (nI vf)), (9, .int (nI vi)), (10, .int (bI vs)), (11, .int (nI vl)), (12, .int (nI vc)), (16, .int (nI s_))]) dM_edit_226 (by decide) rfl ?_
                      refine xg_iload hX 1 dM_edit_228 rfl ?_
                      refine xg_if_eqN hX 248 (by omega) dM_edit_230 (by decide) (fun h => absurd h (by decide)) (fun _ => ?_)
                      refine xg_iload hX 0 dM_edit_233 rfl ?_
                      refine xg_if_eqN hX 248 (by omega) dM_edit_235 (by decide) (fun _ => ?_) (fun h => absurd h (by decide))
                      refine xg_iconst hX (nI 0) dM_edit_248 (by decide) ?_
                      refine xg_istore hX (lv' := [(19, .int (nI 0)), (14, .int (nI 0)), (18, .int (nI 1)), (15, .int (nI 1)), (13, .int (nI (zn + 1))), (17, .int (nI k)), (0, .ref mq), (4, .int b), (6, .int (bI (!hasD (rdD M (tn n) (tn a)) 0 200))), (7, .int (bI (blM M n a))), (8, .int (nI vf)), (9, .int (nI vi)), (10, .int (bI vs)), (11, .int (nI vl)), (12, .int (nI vc)), (16, .int (nI s_))]) dM_edit_249 (by decide) rfl ?_
                      refine xg_iload hX 2 dM_edit_251 rfl ?_
                      refine xg_if_eqN hX 259 (by omega) dM_edit_253 (by decide) (fun h => absurd h (by decide)) (fun _ => ?_)
                      refine xg_iincN hX (lv' := [(13, .int (nI (zn + 1 + 1))), (19, .int (nI 0)), (14, .int (nI 0)), (18, .int (nI 1)), (15, .int (nI 1)), (17, .int (nI k)), (0, .ref mq), (4, .int b), (6, .int (bI (!hasD (rdD M (tn n) (tn a)) 0 200))), (7, .int (bI (blM M n a))), (8, .int (nI vf)), (9, .int (nI vi)), (10, .int (bI vs)), (11, .int (nI vl)), (12, .int (nI vc)), (16, .int (nI s_))]) (zn + 1 + 1) 4 dM_edit_256 rfl (xn_inc _) (by decide) rfl ?_
                      refine xg_iload hX 5 dM_edit_259 rfl ?_
                      refine xg_bipush hX (nI 16) dM_edit_261 (by decide) ?_
                      refine xg_idivN hX (by omega) (by omega) (by omega) dM_edit_263 ?_
                      refine xg_istore hX (lv' := [(20, .int (nI (k / 16))), (13, .int (nI (zn + 1 + 1))), (19, .int (nI 0)), (14, .int (nI 0)), (18, .int (nI 1)), (15, .int (nI 1)), (17, .int (nI k)), (0, .ref mq), (4, .int b), (6, .int (bI (!hasD (rdD M (tn n) (tn a)) 0 200))), (7, .int (bI (blM M n a))), (8, .int (nI vf)), (9, .int (nI vi)), (10, .int (bI vs)), (11, .int (nI vl)), (12, .int (nI vc)), (16, .int (nI s_))]) dM_edit_264 (by decide) rfl ?_
                      refine xg_iload hX 6 dM_edit_266 rfl ?_
                      refine xg_bipush hX (nI 16) dM_edit_268 (by decide) ?_
                      refine xg_iremN hX (by omega) (by omega) (by omega) dM_edit_270 ?_
                      refine xg_istore hX (lv' := [(21, .int (nI (k % 16))), (20, .int (nI (k / 16))), (13, .int (nI (zn + 1 + 1))), (19, .int (nI 0)), (14, .int (nI 0)), (18, .int (nI 1)), (15, .int (nI 1)), (17, .int (nI k)), (0, .ref mq), (4, .int b), (6, .int (bI (!hasD (rdD M (tn n) (tn a)) 0 200))), (7, .int (bI (blM M n a))), (8, .int (nI vf)), (9, .int (nI vi)), (10, .int (bI vs)), (11, .int (nI vl)), (12, .int (nI vc)), (16, .int (nI s_))]) dM_edit_271 (by decide) rfl ?_
                      refine xg_iload hX 1 dM_edit_273 rfl ?_
                      refine xg_bipush hX (nI 8) dM_edit_275 (by decide) ?_
                      refine xg_icmp_ltN hX 296 (by omega) (by omega) dM_edit_277 (by decide) (fun hh_262 => ?_) (fun hh_262 => absurd hh_262 (by omega))
                      refine xg_iconst hX (nI 0) dM_edit_296 (by decide) ?_
                      refine xg_istore hX (lv' := [(22, .int (nI 0)), (21, .int (nI (k % 16))), (20, .int (nI (k / 16))), (13, .int (nI (zn + 1 + 1))), (19, .int (nI 0)), (14, .int (nI 0)), (18, .int (nI 1)), (15, .int (nI 1)), (17, .int (nI k)), (0, .ref mq), (4, .int b), (6, .int (bI (!hasD (rdD M (tn n) (tn a)) 0 200))), (7, .int (bI (blM M n a))), (8, .int (nI vf)), (9, .int (nI vi)), (10, .int (bI vs)), (11, .int (nI vl)), (12, .int (nI vc)), (16, .int (nI s_))]) dM_edit_297 (by decide) rfl ?_
                      refine xg_iload hX 5 dM_edit_299 rfl ?_
                      refine xg_if_eqN hX 320 (by omega) dM_edit_301 (by decide) (fun _ => ?_) (fun h => absurd h (by decide))
                      refine xg_iconst hX (nI 0) dM_edit_320 (by decide) ?_
                      refine xg_istore hX (lv' := [(14, .int (nI 0)), (22, .int (nI 0)), (21, .int (nI (k % 16))), (20, .int (nI (k / 16))), (13, .int (nI (zn + 1 + 1))), (19, .int (nI 0)), (18, .int (nI 1)), (15, .int (nI 1)), (17, .int (nI k)), (0, .ref mq), (4, .int b), (6, .int (bI (!hasD (rdD M (tn n) (tn a)) 0 200))), (7, .int (bI (blM M n a))), (8, .int (nI vf)), (9, .int (nI vi)), (10, .int (bI vs)), (11, .int (nI vl)), (12, .int (nI vc)), (16, .int (nI s_))]) dM_edit_321 (by decide) rfl ?_
                      refine xg_iload hX 0 dM_edit_323 rfl ?_
                      refine xg_if_eqN hX 337 (by omega) dM_edit_325 (by decide) (fun _ => ?_) (fun h => absurd h (by decide))
                      refine xg_iload hX 0 dM_edit_337 rfl ?_
                      refine xg_if_eqN hX 351 (by omega) dM_edit_339 (by decide) (fun _ => ?_) (fun h => absurd h (by decide))
                      refine xg_iload hX 0 dM_edit_351 rfl ?_
                      refine xg_if_eqN hX 366 (by omega) dM_edit_353 (by decide) (fun _ => ?_) (fun h => absurd h (by decide))
                      refine xg_iload hX 0 dM_edit_366 rfl ?_
                      refine xg_if_eqN hX 386 (by omega) dM_edit_368 (by decide) (fun _ => ?_) (fun h => absurd h (by decide))
                      refine xg_iload hX 0 dM_edit_386 rfl ?_
                      refine xg_if_eqN hX 407 (by omega) dM_edit_388 (by decide) (fun _ => ?_) (fun h => absurd h (by decide))
                      refine xg_iload hX 0 dM_edit_407 rfl ?_
                      refine xg_if_eqN hX 473 (by omega) dM_edit_409 (by decide) (fun _ => ?_) (fun h => absurd h (by decide))
                      refine xg_iload hX 0 dM_edit_473 rfl ?_
                      refine xg_if_eqN hX 543 (by omega) dM_edit_475 (by decide) (fun _ => ?_) (fun h => absurd h (by decide))
                      refine xg_iconst hX (nI 0) dM_edit_543 (by decide) ?_
                      refine xg_istore hX (lv' := [(23, .int (nI 0)), (14, .int (nI 0)), (22, .int (nI 0)), (21, .int (nI (k % 16))), (20, .int (nI (k / 16))), (13, .int (nI (zn + 1 + 1))), (19, .int (nI 0)), (18, .int (nI 1)), (15, .int (nI 1)), (17, .int (nI k)), (0, .ref mq), (4, .int b), (6, .int (bI (!hasD (rdD M (tn n) (tn a)) 0 200))), (7, .int (bI (blM M n a))), (8, .int (nI vf)), (9, .int (nI vi)), (10, .int (bI vs)), (11, .int (nI vl)), (12, .int (nI vc)), (16, .int (nI s_))]) dM_edit_544 (by decide) rfl ?_
                      refine xg_iload hX 1 dM_edit_546 rfl ?_
                      refine xg_if_eqN hX 756 (by omega) dM_edit_548 (by decide) (fun _ => ?_) (fun h => absurd h (by decide))
                      refine xg_iincN hX (lv' := [(16, .int (nI (s_ + 1))), (23, .int (nI 0)), (14, .int (nI 0)), (22, .int (nI 0)), (21, .int (nI (k % 16))), (20, .int (nI (k / 16))), (13, .int (nI (zn + 1 + 1))), (19, .int (nI 0)), (18, .int (nI 1)), (15, .int (nI 1)), (17, .int (nI k)), (0, .ref mq), (4, .int b), (6, .int (bI (!hasD (rdD M (tn n) (tn a)) 0 200))), (7, .int (bI (blM M n a))), (8, .int (nI vf)), (9, .int (nI vi)), (10, .int (bI vs)), (11, .int (nI vl)), (12, .int (nI vc))]) (s_ + 1) 19 dM_edit_756 rfl (xn_inc _) (by decide) rfl ?_
                      refine xg_goto hX 96 dM_edit_759 (by decide) ?_
                      refine xg_iload hX 9 dM_edit_96 rfl ?_
                      refine xg_if_eqN hX 762 (by omega) dM_edit_98 (by decide) (fun h => absurd h (by decide)) (fun _ => ?_)
                      refine xg_iload hX 2 dM_edit_101 rfl ?_
                      refine xg_if_eqN hX 762 (by omega) dM_edit_103 (by decide) (fun _ => ?_) (fun h => absurd h (by decide))
                      refine xg_iload hX 2 dM_edit_762 rfl ?_
                      refine xg_if_eqN hX 772 (by omega) dM_edit_764 (by decide) (fun _ => ?_) (fun h => absurd h (by decide))
                      refine xg_bipush hX ((-2)) dM_edit_772 (by decide) ?_
                      exact hret ((-2), M, rdD M (tn n) (tn a), Vw, men) _ _ _ rfl (show ((-2), M, men) = editM M men xw n a p b from (by have hF : edPM M xw n a p = none := (fo_no hq hnx (by omega) h168 (ob_tn (by omega) (nx_0 hzn h218))); unfold editM; rw [if_pos h5, if_pos g1, hF])) dM_edit_774
                    ·
                      refine xg_iconst hX (nI 1) dM_edit_221 (by decide) ?_
                      refine xg_goto hX 226 dM_edit_222 (by decide) ?_
                      refine xg_istore hX (lv' := [(14, .int (nI 1)), (18, .int (nI 1)), (15, .int (nI 1)), (13, .int (nI (zn + 1))), (17, .int (nI k)), (0, .ref mq), (4, .int b), (6, .int (bI (!hasD (rdD M (tn n) (tn a)) 0 200))), (7, .int (bI (blM M n a))), (8, .int (nI vf)), (9, .int (nI vi)), (10, .int (bI vs)), (11, .int (nI vl)), (12, .int (nI vc)), (16, .int (nI s_))]) dM_edit_226 (by decide) rfl ?_
                      refine xg_iload hX 1 dM_edit_228 rfl ?_
                      refine xg_if_eqN hX 248 (by omega) dM_edit_230 (by decide) (fun h => absurd h (by decide)) (fun _ => ?_)
                      refine xg_iload hX 0 dM_edit_233 rfl ?_
                      refine xg_if_eqN hX 248 (by omega) dM_edit_235 (by decide) (fun h => absurd h (by decide)) (fun _ => ?_)
                      refine xg_aload_n hX 5 dM_edit_238 rfl rfl ?_
                      refine xg_get hX (ci := 3) rfl hinM 0 rfl 0 (by decide) mt_324 rfl dM_edit_239 ?_
                      refine xg_iload hX 3 dM_edit_242 rfl ?_
                      refine xg_iald hX 1 (zn + 1) rfl (by omega) (by decide) dM_edit_244 ?_
                      refine xg_goto hX 249 dM_edit_245 (by decide) ?_
                      refine xg_istore hX (lv' := [(19, .int (nI (M (zn + 1)))), (14, .int (nI 1)), (18, .int (nI 1)), (15, .int (nI 1)), (13, .int (nI (zn + 1))), (17, .int (nI k)), (0, .ref mq), (4, .int b), (6, .int (bI (!hasD (rdD M (tn n) (tn a)) 0 200))), (7, .int (bI (blM M n a))), (8, .int (nI vf)), (9, .int (nI vi)), (10, .int (bI vs)), (11, .int (nI vl)), (12, .int (nI vc)), (16, .int (nI s_))]) dM_edit_249 (by decide) rfl ?_
                      refine xg_iload hX 2 dM_edit_251 rfl ?_
                      refine xg_if_eqN hX 259 (by omega) dM_edit_253 (by decide) (fun h => absurd h (by decide)) (fun _ => ?_)
                      refine xg_iincN hX (lv' := [(13, .int (nI (zn + 1 + 1))), (19, .int (nI (M (zn + 1)))), (14, .int (nI 1)), (18, .int (nI 1)), (15, .int (nI 1)), (17, .int (nI k)), (0, .ref mq), (4, .int b), (6, .int (bI (!hasD (rdD M (tn n) (tn a)) 0 200))), (7, .int (bI (blM M n a))), (8, .int (nI vf)), (9, .int (nI vi)), (10, .int (bI vs)), (11, .int (nI vl)), (12, .int (nI vc)), (16, .int (nI s_))]) (zn + 1 + 1) 4 dM_edit_256 rfl (xn_inc _) (by decide) rfl ?_
                      refine xg_iload hX 5 dM_edit_259 rfl ?_
                      refine xg_bipush hX (nI 16) dM_edit_261 (by decide) ?_
                      refine xg_idivN hX (by omega) (by omega) (by omega) dM_edit_263 ?_
                      refine xg_istore hX (lv' := [(20, .int (nI (k / 16))), (13, .int (nI (zn + 1 + 1))), (19, .int (nI (M (zn + 1)))), (14, .int (nI 1)), (18, .int (nI 1)), (15, .int (nI 1)), (17, .int (nI k)), (0, .ref mq), (4, .int b), (6, .int (bI (!hasD (rdD M (tn n) (tn a)) 0 200))), (7, .int (bI (blM M n a))), (8, .int (nI vf)), (9, .int (nI vi)), (10, .int (bI vs)), (11, .int (nI vl)), (12, .int (nI vc)), (16, .int (nI s_))]) dM_edit_264 (by decide) rfl ?_
                      refine xg_iload hX 6 dM_edit_266 rfl ?_
                      refine xg_bipush hX (nI 16) dM_edit_268 (by decide) ?_
                      refine xg_iremN hX (by omega) (by omega) (by omega) dM_edit_270 ?_
                      refine xg_istore hX (lv' := [(21, .int (nI (k % 16))), (20, .int (nI (k / 16))), (13, .int (nI (zn + 1 + 1))), (19, .int (nI (M (zn + 1)))), (14, .int (nI 1)), (18, .int (nI 1)), (15, .int (nI 1)), (17, .int (nI k)), (0, .ref mq), (4, .int b), (6, .int (bI (!hasD (rdD M (tn n) (tn a)) 0 200))), (7, .int (bI (blM M n a))), (8, .int (nI vf)), (9, .int (nI vi)), (10, .int (bI vs)), (11, .int (nI vl)), (12, .int (nI vc)), (16, .int (nI s_))]) dM_edit_271 (by decide) rfl ?_
                      refine xg_iload hX 1 dM_edit_273 rfl ?_
                      refine xg_bipush hX (nI 8) dM_edit_275 (by decide) ?_
                      refine xg_icmp_ltN hX 296 (by omega) (by omega) dM_edit_277 (by decide) (fun hh_278 => ?_) (fun hh_278 => absurd hh_278 (by omega))
                      refine xg_iconst hX (nI 0) dM_edit_296 (by decide) ?_
                      refine xg_istore hX (lv' := [(22, .int (nI 0)), (21, .int (nI (k % 16))), (20, .int (nI (k / 16))), (13, .int (nI (zn + 1 + 1))), (19, .int (nI (M (zn + 1)))), (14, .int (nI 1)), (18, .int (nI 1)), (15, .int (nI 1)), (17, .int (nI k)), (0, .ref mq), (4, .int b), (6, .int (bI (!hasD (rdD M (tn n) (tn a)) 0 200))), (7, .int (bI (blM M n a))), (8, .int (nI vf)), (9, .int (nI vi)), (10, .int (bI vs)), (11, .int (nI vl)), (12, .int (nI vc)), (16, .int (nI s_))]) dM_edit_297 (by decide) rfl ?_
                      refine xg_iload hX 5 dM_edit_299 rfl ?_
                      refine xg_if_eqN hX 320 (by omega) dM_edit_301 (by decide) (fun h => absurd h (by decide)) (fun _ => ?_)
                      refine xg_iload hX 8 dM_edit_304 rfl ?_
                      refine xg_bipush hX (nI 8) dM_edit_306 (by decide) ?_
                      refine xg_icmp_leN hX 316 (by omega) (by omega) dM_edit_308 (by decide) (fun hh_280 => ?_) (fun hh_280 => absurd hh_280 (by omega))
                      refine xg_iconst hX (nI 1) dM_edit_316 (by decide) ?_
                      refine xg_goto hX 321 dM_edit_317 (by decide) ?_
                      refine xg_istore hX (lv' := [(14, .int (nI 1)), (22, .int (nI 0)), (21, .int (nI (k % 16))), (20, .int (nI (k / 16))), (13, .int (nI (zn + 1 + 1))), (19, .int (nI (M (zn + 1)))), (18, .int (nI 1)), (15, .int (nI 1)), (17, .int (nI k)), (0, .ref mq), (4, .int b), (6, .int (bI (!hasD (rdD M (tn n) (tn a)) 0 200))), (7, .int (bI (blM M n a))), (8, .int (nI vf)), (9, .int (nI vi)), (10, .int (bI vs)), (11, .int (nI vl)), (12, .int (nI vc)), (16, .int (nI s_))]) dM_edit_321 (by decide) rfl ?_
                      refine xg_iload hX 0 dM_edit_323 rfl ?_
                      refine xg_if_eqN hX 337 (by omega) dM_edit_325 (by decide) (fun h => absurd h (by decide)) (fun _ => ?_)
                      refine xg_iload hX 8 dM_edit_328 rfl ?_
                      refine xg_iconst hX (nI 1) dM_edit_330 (by decide) ?_
                      refine xg_icmp_neN hX 337 (by omega) (by omega) dM_edit_331 (by decide) (fun hh_282 => ?_) (fun hh_282 => absurd hh_282 (by omega))
                      refine xg_iload hX 0 dM_edit_337 rfl ?_
                      refine xg_if_eqN hX 351 (by omega) dM_edit_339 (by decide) (fun h => absurd h (by decide)) (fun _ => ?_)
                      refine xg_iload hX 8 dM_edit_342 rfl ?_
                      refine xg_iconst hX (nI 2) dM_edit_344 (by decide) ?_
                      refine xg_icmp_neN hX 351 (by omega) (by omega) dM_edit_345 (by decide) (fun hh_284 => ?_) (fun hh_284 => absurd hh_284 (by omega))
                      refine xg_iload hX 0 dM_edit_351 rfl ?_
                      refine xg_if_eqN hX 366 (by omega) dM_edit_353 (by decide) (fun h => absurd h (by decide)) (fun _ => ?_)
                      refine xg_iload hX 8 dM_edit_356 rfl ?_
                      refine xg_iconst hX (nI 4) dM_edit_358 (by decide) ?_
                      refine xg_icmp_neN hX 366 (by omega) (by omega) dM_edit_359 (by decide) (fun hh_286 => absurd hh_286 (by omega)) (fun hh_286 => ?_)
                      refine xg_iload hX 5 dM_edit_362 rfl ?_
                      refine xg_istore hX (lv' := [(8, .int (nI (M (zn + 1)))), (14, .int (nI 1)), (22, .int (nI 0)), (21, .int (nI (k % 16))), (20, .int (nI (k / 16))), (13, .int (nI (zn + 1 + 1))), (19, .int (nI (M (zn + 1)))), (18, .int (nI 1)), (15, .int (nI 1)), (17, .int (nI k)), (0, .ref mq), (4, .int b), (6, .int (bI (!hasD (rdD M (tn n) (tn a)) 0 200))), (7, .int (bI (blM M n a))), (9, .int (nI vi)), (10, .int (bI vs)), (11, .int (nI vl)), (12, .int (nI vc)), (16, .int (nI s_))]) dM_edit_364 (by decide) rfl ?_
                      refine xg_iload hX 1 dM_edit_366 rfl ?_
                      refine xg_if_eqN hX 386 (by omega) dM_edit_368 (by decide) (fun h => absurd h (by decide)) (fun _ => ?_)
                      refine xg_iload hX 9 dM_edit_371 rfl ?_
                      refine xg_iconst hX (nI 5) dM_edit_373 (by decide) ?_
                      refine xg_icmp_neN hX 386 (by omega) (by omega) dM_edit_374 (by decide) (fun hh_288 => ?_) (fun hh_288 => absurd hh_288 (by omega))
                      refine xg_iload hX 1 dM_edit_386 rfl ?_
                      refine xg_if_eqN hX 407 (by omega) dM_edit_388 (by decide) (fun h => absurd h (by decide)) (fun _ => ?_)
                      refine xg_iload hX 9 dM_edit_391 rfl ?_
                      refine xg_bipush hX (nI 6) dM_edit_393 (by decide) ?_
                      refine xg_icmp_neN hX 407 (by omega) (by omega) dM_edit_395 (by decide) (fun hh_290 => ?_) (fun hh_290 => absurd hh_290 (by omega))
                      refine xg_iload hX 1 dM_edit_407 rfl ?_
                      refine xg_if_eqN hX 473 (by omega) dM_edit_409 (by decide) (fun h => absurd h (by decide)) (fun _ => ?_)
                      refine xg_iload hX 9 dM_edit_412 rfl ?_
                      refine xg_bipush hX (nI 8) dM_edit_414 (by decide) ?_
                      refine xg_icmp_neN hX 473 (by omega) (by omega) dM_edit_416 (by decide) (fun hh_292 => ?_) (fun hh_292 => absurd hh_292 (by omega))
                      refine xg_iload hX 1 dM_edit_473 rfl ?_
                      refine xg_if_eqN hX 543 (by omega) dM_edit_475 (by decide) (fun h => absurd h (by decide)) (fun _ => ?_)
                      refine xg_iload hX 9 dM_edit_478 rfl ?_
                      refine xg_iconst hX (nI 3) dM_edit_480 (by decide) ?_
                      refine xg_icmp_eqN hX 491 (by omega) (by omega) dM_edit_481 (by decide) (fun hh_294 => absurd hh_294 (by omega)) (fun hh_294 => ?_)
                      refine xg_iload hX 9 dM_edit_484 rfl ?_
                      refine xg_bipush hX (nI 7) dM_edit_486 (by decide) ?_
                      refine xg_icmp_neN hX 543 (by omega) (by omega) dM_edit_488 (by decide) (fun hh_295 => ?_) (fun hh_295 => absurd hh_295 (by omega))
                      refine xg_iconst hX (nI 0) dM_edit_543 (by decide) ?_
                      refine xg_istore hX (lv' := [(23, .int (nI 0)), (8, .int (nI (M (zn + 1)))), (14, .int (nI 1)), (22, .int (nI 0)), (21, .int (nI (k % 16))), (20, .int (nI (k / 16))), (13, .int (nI (zn + 1 + 1))), (19, .int (nI (M (zn + 1)))), (18, .int (nI 1)), (15, .int (nI 1)), (17, .int (nI k)), (0, .ref mq), (4, .int b), (6, .int (bI (!hasD (rdD M (tn n) (tn a)) 0 200))), (7, .int (bI (blM M n a))), (9, .int (nI vi)), (10, .int (bI vs)), (11, .int (nI vl)), (12, .int (nI vc)), (16, .int (nI s_))]) dM_edit_544 (by decide) rfl ?_
                      refine xg_iload hX 2 dM_edit_546 rfl ?_
                      refine xg_if_eqN hX 756 (by omega) dM_edit_548 (by decide) (fun h => absurd h (by decide)) (fun _ => ?_)
                      refine xg_iload hX 3 dM_edit_551 rfl ?_
                      refine xg_if_eqN hX 756 (by omega) dM_edit_553 (by decide) (fun _ => ?_) (fun h => absurd h (by decide))
                      refine xg_iincN hX (lv' := [(16, .int (nI (s_ + 1))), (23, .int (nI 0)), (8, .int (nI (M (zn + 1)))), (14, .int (nI 1)), (22, .int (nI 0)), (21, .int (nI (k % 16))), (20, .int (nI (k / 16))), (13, .int (nI (zn + 1 + 1))), (19, .int (nI (M (zn + 1)))), (18, .int (nI 1)), (15, .int (nI 1)), (17, .int (nI k)), (0, .ref mq), (4, .int b), (6, .int (bI (!hasD (rdD M (tn n) (tn a)) 0 200))), (7, .int (bI (blM M n a))), (9, .int (nI vi)), (10, .int (bI vs)), (11, .int (nI vl)), (12, .int (nI vc))]) (s_ + 1) 19 dM_edit_756 rfl (xn_inc _) (by decide) rfl ?_
                      refine xg_goto hX 96 dM_edit_759 (by decide) ?_
                      refine xg_lv hX (lv' := [(0, .ref mq), (4, .int b), (6, .int (bI (!hasD (rdD M (tn n) (tn a)) 0 200))), (7, .int (bI (blM M n a))), (8, .int (nI (M (zn + 1)))), (9, .int (nI vi)), (10, .int (bI vs)), (11, .int (nI vl)), (12, .int (nI vc)), (13, .int (nI (zn + 1 + 1))), (14, .int (nI 1)), (15, .int (nI 1)), (16, .int (nI (s_ + 1)))]) [12, 13, 14, 15, 2, 16, 17, 18, 19, 7, 3, 10, 0] rfl ?_
                      exact ih5 (s_ + 1) (nI (zn + 1 + 1)) Vw vc vl vs (M (zn + 1)) vi (by omega) (by omega) (by omega) (by omega) (fo_st2 hq hnx (by omega) h168 (tk_t (by omega)) ((ob_t (by omega) (nx_1 h218)).trans (px_4 hkk))) (by omega)
                  ·
                    refine xg_iload hX 0 dM_edit_171 rfl ?_
                    refine xg_if_neN hX 180 (by omega) dM_edit_173 (by decide) (fun _ => ?_) (fun h => absurd h (by decide))
                    refine xg_iconst hX (nI 0) dM_edit_180 (by decide) ?_
                    refine xg_istore hX (lv' := [(14, .int (nI 0)), (15, .int (nI 1)), (13, .int (nI (zn + 1))), (17, .int (nI k)), (0, .ref mq), (4, .int b), (6, .int (bI (!hasD (rdD M (tn n) (tn a)) 0 200))), (7, .int (bI (blM M n a))), (8, .int (nI vf)), (9, .int (nI vi)), (10, .int (bI vs)), (11, .int (nI vl)), (12, .int (nI vc)), (16, .int (nI s_))]) dM_edit_181 (by decide) rfl ?_
                    refine xg_iload hX 3 dM_edit_183 rfl ?_
                    refine xg_iconst hX (nI 4) dM_edit_185 (by decide) ?_
                    refine xg_icmp_ltN hX 200 (by omega) (by omega) dM_edit_186 (by decide) (fun hh_299 => absurd hh_299 (by omega)) (fun hh_299 => ?_)
                    refine xg_iload hX 3 dM_edit_189 rfl ?_
                    refine xg_bipush hX (nI 8) dM_edit_191 (by decide) ?_
                    refine xg_icmp_gtN hX 200 (by omega) (by omega) dM_edit_193 (by decide) (fun hh_300 => absurd hh_300 (by omega)) (fun hh_300 => ?_)
                    refine xg_iconst hX (nI 1) dM_edit_196 (by decide) ?_
                    refine xg_goto hX 201 dM_edit_197 (by decide) ?_
                    refine xg_istore hX (lv' := [(18, .int (nI 1)), (14, .int (nI 0)), (15, .int (nI 1)), (13, .int (nI (zn + 1))), (17, .int (nI k)), (0, .ref mq), (4, .int b), (6, .int (bI (!hasD (rdD M (tn n) (tn a)) 0 200))), (7, .int (bI (blM M n a))), (8, .int (nI vf)), (9, .int (nI vi)), (10, .int (bI vs)), (11, .int (nI vl)), (12, .int (nI vc)), (16, .int (nI s_))]) dM_edit_201 (by decide) rfl ?_
                    refine xg_iload hX 0 dM_edit_203 rfl ?_
                    refine xg_if_eqN hX 228 (by omega) dM_edit_205 (by decide) (fun h => absurd h (by decide)) (fun _ => ?_)
                    refine xg_iload hX 1 dM_edit_208 rfl ?_
                    refine xg_if_eqN hX 225 (by omega) dM_edit_210 (by decide) (fun _ => ?_) (fun h => absurd h (by decide))
                    refine xg_iconst hX (nI 0) dM_edit_225 (by decide) ?_
                    refine xg_istore hX (lv' := [(14, .int (nI 0)), (18, .int (nI 1)), (15, .int (nI 1)), (13, .int (nI (zn + 1))), (17, .int (nI k)), (0, .ref mq), (4, .int b), (6, .int (bI (!hasD (rdD M (tn n) (tn a)) 0 200))), (7, .int (bI (blM M n a))), (8, .int (nI vf)), (9, .int (nI vi)), (10, .int (bI vs)), (11, .int (nI vl)), (12, .int (nI vc)), (16, .int (nI s_))]) dM_edit_226 (by decide) rfl ?_
                    refine xg_iload hX 1 dM_edit_228 rfl ?_
                    refine xg_if_eqN hX 248 (by omega) dM_edit_230 (by decide) (fun h => absurd h (by decide)) (fun _ => ?_)
                    refine xg_iload hX 0 dM_edit_233 rfl ?_
                    refine xg_if_eqN hX 248 (by omega) dM_edit_235 (by decide) (fun _ => ?_) (fun h => absurd h (by decide))
                    refine xg_iconst hX (nI 0) dM_edit_248 (by decide) ?_
                    refine xg_istore hX (lv' := [(19, .int (nI 0)), (14, .int (nI 0)), (18, .int (nI 1)), (15, .int (nI 1)), (13, .int (nI (zn + 1))), (17, .int (nI k)), (0, .ref mq), (4, .int b), (6, .int (bI (!hasD (rdD M (tn n) (tn a)) 0 200))), (7, .int (bI (blM M n a))), (8, .int (nI vf)), (9, .int (nI vi)), (10, .int (bI vs)), (11, .int (nI vl)), (12, .int (nI vc)), (16, .int (nI s_))]) dM_edit_249 (by decide) rfl ?_
                    refine xg_iload hX 2 dM_edit_251 rfl ?_
                    refine xg_if_eqN hX 259 (by omega) dM_edit_253 (by decide) (fun h => absurd h (by decide)) (fun _ => ?_)
                    refine xg_iincN hX (lv' := [(13, .int (nI (zn + 1 + 1))), (19, .int (nI 0)), (14, .int (nI 0)), (18, .int (nI 1)), (15, .int (nI 1)), (17, .int (nI k)), (0, .ref mq), (4, .int b), (6, .int (bI (!hasD (rdD M (tn n) (tn a)) 0 200))), (7, .int (bI (blM M n a))), (8, .int (nI vf)), (9, .int (nI vi)), (10, .int (bI vs)), (11, .int (nI vl)), (12, .int (nI vc)), (16, .int (nI s_))]) (zn + 1 + 1) 4 dM_edit_256 rfl (xn_inc _) (by decide) rfl ?_
                    refine xg_iload hX 5 dM_edit_259 rfl ?_
                    refine xg_bipush hX (nI 16) dM_edit_261 (by decide) ?_
                    refine xg_idivN hX (by omega) (by omega) (by omega) dM_edit_263 ?_
                    refine xg_istore hX (lv' := [(20, .int (nI (k / 16))), (13, .int (nI (zn + 1 + 1))), (19, .int (nI 0)), (14, .int (nI 0)), (18, .int (nI 1)), (15, .int (nI 1)), (17, .int (nI k)), (0, .ref mq), (4, .int b), (6, .int (bI (!hasD (rdD M (tn n) (tn a)) 0 200))), (7, .int (bI (blM M n a))), (8, .int (nI vf)), (9, .int (nI vi)), (10, .int (bI vs)), (11, .int (nI vl)), (12, .int (nI vc)), (16, .int (nI s_))]) dM_edit_264 (by decide) rfl ?_
                    refine xg_iload hX 6 dM_edit_266 rfl ?_
                    refine xg_bipush hX (nI 16) dM_edit_268 (by decide) ?_
                    refine xg_iremN hX (by omega) (by omega) (by omega) dM_edit_270 ?_
                    refine xg_istore hX (lv' := [(21, .int (nI (k % 16))), (20, .int (nI (k / 16))), (13, .int (nI (zn + 1 + 1))), (19, .int (nI 0)), (14, .int (nI 0)), (18, .int (nI 1)), (15, .int (nI 1)), (17, .int (nI k)), (0, .ref mq), (4, .int b), (6, .int (bI (!hasD (rdD M (tn n) (tn a)) 0 200))), (7, .int (bI (blM M n a))), (8, .int (nI vf)), (9, .int (nI vi)), (10, .int (bI vs)), (11, .int (nI vl)), (12, .int (nI vc)), (16, .int (nI s_))]) dM_edit_271 (by decide) rfl ?_
                    refine xg_iload hX 1 dM_edit_273 rfl ?_
                    refine xg_bipush hX (nI 8) dM_edit_275 (by decide) ?_
                    refine xg_icmp_ltN hX 296 (by omega) (by omega) dM_edit_277 (by decide) (fun hh_306 => ?_) (fun hh_306 => absurd hh_306 (by omega))
                    refine xg_iconst hX (nI 0) dM_edit_296 (by decide) ?_
                    refine xg_istore hX (lv' := [(22, .int (nI 0)), (21, .int (nI (k % 16))), (20, .int (nI (k / 16))), (13, .int (nI (zn + 1 + 1))), (19, .int (nI 0)), (14, .int (nI 0)), (18, .int (nI 1)), (15, .int (nI 1)), (17, .int (nI k)), (0, .ref mq), (4, .int b), (6, .int (bI (!hasD (rdD M (tn n) (tn a)) 0 200))), (7, .int (bI (blM M n a))), (8, .int (nI vf)), (9, .int (nI vi)), (10, .int (bI vs)), (11, .int (nI vl)), (12, .int (nI vc)), (16, .int (nI s_))]) dM_edit_297 (by decide) rfl ?_
                    refine xg_iload hX 5 dM_edit_299 rfl ?_
                    refine xg_if_eqN hX 320 (by omega) dM_edit_301 (by decide) (fun _ => ?_) (fun h => absurd h (by decide))
                    refine xg_iconst hX (nI 0) dM_edit_320 (by decide) ?_
                    refine xg_istore hX (lv' := [(14, .int (nI 0)), (22, .int (nI 0)), (21, .int (nI (k % 16))), (20, .int (nI (k / 16))), (13, .int (nI (zn + 1 + 1))), (19, .int (nI 0)), (18, .int (nI 1)), (15, .int (nI 1)), (17, .int (nI k)), (0, .ref mq), (4, .int b), (6, .int (bI (!hasD (rdD M (tn n) (tn a)) 0 200))), (7, .int (bI (blM M n a))), (8, .int (nI vf)), (9, .int (nI vi)), (10, .int (bI vs)), (11, .int (nI vl)), (12, .int (nI vc)), (16, .int (nI s_))]) dM_edit_321 (by decide) rfl ?_
                    refine xg_iload hX 0 dM_edit_323 rfl ?_
                    refine xg_if_eqN hX 337 (by omega) dM_edit_325 (by decide) (fun _ => ?_) (fun h => absurd h (by decide))
                    refine xg_iload hX 0 dM_edit_337 rfl ?_
                    refine xg_if_eqN hX 351 (by omega) dM_edit_339 (by decide) (fun _ => ?_) (fun h => absurd h (by decide))
                    refine xg_iload hX 0 dM_edit_351 rfl ?_
                    refine xg_if_eqN hX 366 (by omega) dM_edit_353 (by decide) (fun _ => ?_) (fun h => absurd h (by decide))
                    refine xg_iload hX 0 dM_edit_366 rfl ?_
                    refine xg_if_eqN hX 386 (by omega) dM_edit_368 (by decide) (fun _ => ?_) (fun h => absurd h (by decide))
                    refine xg_iload hX 0 dM_edit_386 rfl ?_
                    refine xg_if_eqN hX 407 (by omega) dM_edit_388 (by decide) (fun _ => ?_) (fun h => absurd h (by decide))
                    refine xg_iload hX 0 dM_edit_407 rfl ?_
                    refine xg_if_eqN hX 473 (by omega) dM_edit_409 (by decide) (fun _ => ?_) (fun h => absurd h (by decide))
                    refine xg_iload hX 0 dM_edit_473 rfl ?_
                    refine xg_if_eqN hX 543 (by omega) dM_edit_475 (by decide) (fun _ => ?_) (fun h => absurd h (by decide))
                    refine xg_iconst hX (nI 0) dM_edit_543 (by decide) ?_
                    refine xg_istore hX (lv' := [(23, .int (nI 0)), (14, .int (nI 0)), (22, .int (nI 0)), (21, .int (nI (k % 16))), (20, .int (nI (k / 16))), (13, .int (nI (zn + 1 + 1))), (19, .int (nI 0)), (18, .int (nI 1)), (15, .int (nI 1)), (17, .int (nI k)), (0, .ref mq), (4, .int b), (6, .int (bI (!hasD (rdD M (tn n) (tn a)) 0 200))), (7, .int (bI (blM M n a))), (8, .int (nI vf)), (9, .int (nI vi)), (10, .int (bI vs)), (11, .int (nI vl)), (12, .int (nI vc)), (16, .int (nI s_))]) dM_edit_544 (by decide) rfl ?_
                    refine xg_iload hX 1 dM_edit_546 rfl ?_
                    refine xg_if_eqN hX 756 (by omega) dM_edit_548 (by decide) (fun _ => ?_) (fun h => absurd h (by decide))
                    refine xg_iincN hX (lv' := [(16, .int (nI (s_ + 1))), (23, .int (nI 0)), (14, .int (nI 0)), (22, .int (nI 0)), (21, .int (nI (k % 16))), (20, .int (nI (k / 16))), (13, .int (nI (zn + 1 + 1))), (19, .int (nI 0)), (18, .int (nI 1)), (15, .int (nI 1)), (17, .int (nI k)), (0, .ref mq), (4, .int b), (6, .int (bI (!hasD (rdD M (tn n) (tn a)) 0 200))), (7, .int (bI (blM M n a))), (8, .int (nI vf)), (9, .int (nI vi)), (10, .int (bI vs)), (11, .int (nI vl)), (12, .int (nI vc))]) (s_ + 1) 19 dM_edit_756 rfl (xn_inc _) (by decide) rfl ?_
                    refine xg_goto hX 96 dM_edit_759 (by decide) ?_
                    refine xg_iload hX 9 dM_edit_96 rfl ?_
                    refine xg_if_eqN hX 762 (by omega) dM_edit_98 (by decide) (fun h => absurd h (by decide)) (fun _ => ?_)
                    refine xg_iload hX 2 dM_edit_101 rfl ?_
                    refine xg_if_eqN hX 762 (by omega) dM_edit_103 (by decide) (fun _ => ?_) (fun h => absurd h (by decide))
                    refine xg_iload hX 2 dM_edit_762 rfl ?_
                    refine xg_if_eqN hX 772 (by omega) dM_edit_764 (by decide) (fun _ => ?_) (fun h => absurd h (by decide))
                    refine xg_bipush hX ((-2)) dM_edit_772 (by decide) ?_
                    exact hret ((-2), M, rdD M (tn n) (tn a), Vw, men) _ _ _ rfl (show ((-2), M, men) = editM M men xw n a p b from (by have hF : edPM M xw n a p = none := (fo_la hq hnx (by omega) (by omega)); unfold editM; rw [if_pos h5, if_pos g1, hF])) dM_edit_774
                ·
                  refine xg_iload hX 9 dM_edit_106 rfl ?_
                  refine xg_if_ltN hX 123 (by omega) dM_edit_108 (by decide) ?_
                  refine xg_iload hX 9 dM_edit_111 rfl ?_
                  refine xg_sipush hX (nI 256) dM_edit_113 (by decide) ?_
                  refine xg_icmp_geN hX 123 (by omega) (by omega) dM_edit_116 (by decide) (fun h116 => absurd h116 (by omega)) (fun h116 => ?_)
                  refine xg_iconst hX (nI 1) dM_edit_119 (by decide) ?_
                  refine xg_goto hX 124 dM_edit_120 (by decide) ?_
                  refine xg_istore hX (lv' := [(14, .int (nI 1)), (0, .ref mq), (4, .int b), (6, .int (bI (!hasD (rdD M (tn n) (tn a)) 0 200))), (7, .int (bI (blM M n a))), (8, .int (nI vf)), (9, .int (nI vi)), (10, .int (bI vs)), (11, .int (nI vl)), (12, .int (nI vc)), (13, .int (nI zn)), (15, .int (nI 1)), (16, .int (nI s_))]) dM_edit_124 (by decide) rfl ?_
                  refine xg_iload hX 0 dM_edit_126 rfl ?_
                  refine xg_if_eqN hX 141 (by omega) dM_edit_128 (by decide) (fun h => absurd h (by decide)) (fun _ => ?_)
                  refine xg_aload_n hX 1 dM_edit_131 rfl rfl ?_
                  refine xg_get hX (ci := 3) rfl hinM 0 rfl 0 (by decide) mt_324 rfl dM_edit_132 ?_
                  refine xg_iload hX 10 dM_edit_135 rfl ?_
                  refine xg_iald hX 1 zn rfl (by omega) (by decide) dM_edit_137 ?_
                  refine xg_top (nI k) (by rw [hk4]) ?_
                  refine xg_goto hX 142 dM_edit_138 (by decide) ?_
                  refine xg_istore hX (lv' := [(17, .int (nI k)), (14, .int (nI 1)), (0, .ref mq), (4, .int b), (6, .int (bI (!hasD (rdD M (tn n) (tn a)) 0 200))), (7, .int (bI (blM M n a))), (8, .int (nI vf)), (9, .int (nI vi)), (10, .int (bI vs)), (11, .int (nI vl)), (12, .int (nI vc)), (13, .int (nI zn)), (15, .int (nI 1)), (16, .int (nI s_))]) dM_edit_142 (by decide) rfl ?_
                  refine xg_iincN hX (lv' := [(13, .int (nI (zn + 1))), (17, .int (nI k)), (14, .int (nI 1)), (0, .ref mq), (4, .int b), (6, .int (bI (!hasD (rdD M (tn n) (tn a)) 0 200))), (7, .int (bI (blM M n a))), (8, .int (nI vf)), (9, .int (nI vi)), (10, .int (bI vs)), (11, .int (nI vl)), (12, .int (nI vc)), (15, .int (nI 1)), (16, .int (nI s_))]) (zn + 1) 11 dM_edit_144 rfl (xn_inc _) (by decide) rfl ?_
                  refine xg_iload hX 1 dM_edit_147 rfl ?_
                  refine xg_if_eqN hX 156 (by omega) dM_edit_149 (by decide) (fun hh_320 => absurd hh_320 (by omega)) (fun hh_320 => ?_)
                  refine xg_iconst hX (nI 1) dM_edit_152 (by decide) ?_
                  refine xg_goto hX 157 dM_edit_153 (by decide) ?_
                  refine xg_istore hX (lv' := [(15, .int (nI 1)), (13, .int (nI (zn + 1))), (17, .int (nI k)), (14, .int (nI 1)), (0, .ref mq), (4, .int b), (6, .int (bI (!hasD (rdD M (tn n) (tn a)) 0 200))), (7, .int (bI (blM M n a))), (8, .int (nI vf)), (9, .int (nI vi)), (10, .int (bI vs)), (11, .int (nI vl)), (12, .int (nI vc)), (16, .int (nI s_))]) dM_edit_157 (by decide) rfl ?_
                  refine xg_iload hX 3 dM_edit_159 rfl ?_
                  refine xg_if_eqN hX 180 (by omega) dM_edit_161 (by decide) (fun h => absurd h (by decide)) (fun _ => ?_)
                  refine xg_iload hX 13 dM_edit_164 rfl ?_
                  refine xg_bipush hX (nI 64) dM_edit_166 (by decide) ?_
                  refine xg_icmp_ltN hX 176 (by omega) (by omega) dM_edit_168 (by decide) (fun h168 => ?_) (fun h168 => ?_)
                  ·
                    refine xg_iconst hX (nI 1) dM_edit_176 (by decide) ?_
                    refine xg_goto hX 181 dM_edit_177 (by decide) ?_
                    refine xg_istore hX (lv' := [(14, .int (nI 1)), (15, .int (nI 1)), (13, .int (nI (zn + 1))), (17, .int (nI k)), (0, .ref mq), (4, .int b), (6, .int (bI (!hasD (rdD M (tn n) (tn a)) 0 200))), (7, .int (bI (blM M n a))), (8, .int (nI vf)), (9, .int (nI vi)), (10, .int (bI vs)), (11, .int (nI vl)), (12, .int (nI vc)), (16, .int (nI s_))]) dM_edit_181 (by decide) rfl ?_
                    refine xg_iload hX 3 dM_edit_183 rfl ?_
                    refine xg_iconst hX (nI 4) dM_edit_185 (by decide) ?_
                    refine xg_icmp_ltN hX 200 (by omega) (by omega) dM_edit_186 (by decide) (fun hh_322 => absurd hh_322 (by omega)) (fun hh_322 => ?_)
                    refine xg_iload hX 3 dM_edit_189 rfl ?_
                    refine xg_bipush hX (nI 8) dM_edit_191 (by decide) ?_
                    refine xg_icmp_gtN hX 200 (by omega) (by omega) dM_edit_193 (by decide) (fun hh_323 => absurd hh_323 (by omega)) (fun hh_323 => ?_)
                    refine xg_iconst hX (nI 1) dM_edit_196 (by decide) ?_
                    refine xg_goto hX 201 dM_edit_197 (by decide) ?_
                    refine xg_istore hX (lv' := [(18, .int (nI 1)), (14, .int (nI 1)), (15, .int (nI 1)), (13, .int (nI (zn + 1))), (17, .int (nI k)), (0, .ref mq), (4, .int b), (6, .int (bI (!hasD (rdD M (tn n) (tn a)) 0 200))), (7, .int (bI (blM M n a))), (8, .int (nI vf)), (9, .int (nI vi)), (10, .int (bI vs)), (11, .int (nI vl)), (12, .int (nI vc)), (16, .int (nI s_))]) dM_edit_201 (by decide) rfl ?_
                    refine xg_iload hX 0 dM_edit_203 rfl ?_
                    refine xg_if_eqN hX 228 (by omega) dM_edit_205 (by decide) (fun h => absurd h (by decide)) (fun _ => ?_)
                    refine xg_iload hX 1 dM_edit_208 rfl ?_
                    refine xg_if_eqN hX 225 (by omega) dM_edit_210 (by decide) (fun h => absurd h (by decide)) (fun _ => ?_)
                    refine xg_iload hX 3 dM_edit_213 rfl ?_
                    refine xg_sipush hX (nI 256) dM_edit_215 (by decide) ?_
                    refine xg_icmp_geN hX 225 (by omega) (by omega) dM_edit_218 (by decide) (fun h218 => ?_) (fun h218 => ?_)
                    ·
                      refine xg_iconst hX (nI 0) dM_edit_225 (by decide) ?_
                      refine xg_istore hX (lv' := [(14, .int (nI 0)), (18, .int (nI 1)), (15, .int (nI 1)), (13, .int (nI (zn + 1))), (17, .int (nI k)), (0, .ref mq), (4, .int b), (6, .int (bI (!hasD (rdD M (tn n) (tn a)) 0 200))), (7, .int (bI (blM M n a))), (8, .int (nI vf)), (9, .int (nI vi)), (10, .int (bI vs)), (11, .int (nI vl)), (12, .int (nI vc)), (16, .int (nI s_))]) dM_edit_226 (by decide) rfl ?_
                      refine xg_iload hX 1 dM_edit_228 rfl ?_
                      refine xg_if_eqN hX 248 (by omega) dM_edit_230 (by decide) (fun h => absurd h (by decide)) (fun _ => ?_)
                      refine xg_iload hX 0 dM_edit_233 rfl ?_
                      refine xg_if_eqN hX 248 (by omega) dM_edit_235 (by decide) (fun _ => ?_) (fun h => absurd h (by decide))
                      refine xg_iconst hX (nI 0) dM_edit_248 (by decide) ?_
                      refine xg_istore hX (lv' := [(19, .int (nI 0)), (14, .int (nI 0)), (18, .int (nI 1)), (15, .int (nI 1)), (13, .int (nI (zn + 1))), (17, .int (nI k)), (0, .ref mq), (4, .int b), (6, .int (bI (!hasD (rdD M (tn n) (tn a)) 0 200))), (7, .int (bI (blM M n a))), (8, .int (nI vf)), (9, .int (nI vi)), (10, .int (bI vs)), (11, .int (nI vl)), (12, .int (nI vc)), (16, .int (nI s_))]) dM_edit_249 (by decide) rfl ?_
                      refine xg_iload hX 2 dM_edit_251 rfl ?_
                      refine xg_if_eqN hX 259 (by omega) dM_edit_253 (by decide) (fun h => absurd h (by decide)) (fun _ => ?_)
                      refine xg_iincN hX (lv' := [(13, .int (nI (zn + 1 + 1))), (19, .int (nI 0)), (14, .int (nI 0)), (18, .int (nI 1)), (15, .int (nI 1)), (17, .int (nI k)), (0, .ref mq), (4, .int b), (6, .int (bI (!hasD (rdD M (tn n) (tn a)) 0 200))), (7, .int (bI (blM M n a))), (8, .int (nI vf)), (9, .int (nI vi)), (10, .int (bI vs)), (11, .int (nI vl)), (12, .int (nI vc)), (16, .int (nI s_))]) (zn + 1 + 1) 4 dM_edit_256 rfl (xn_inc _) (by decide) rfl ?_
                      refine xg_iload hX 5 dM_edit_259 rfl ?_
                      refine xg_bipush hX (nI 16) dM_edit_261 (by decide) ?_
                      refine xg_idivN hX (by omega) (by omega) (by omega) dM_edit_263 ?_
                      refine xg_istore hX (lv' := [(20, .int (nI (k / 16))), (13, .int (nI (zn + 1 + 1))), (19, .int (nI 0)), (14, .int (nI 0)), (18, .int (nI 1)), (15, .int (nI 1)), (17, .int (nI k)), (0, .ref mq), (4, .int b), (6, .int (bI (!hasD (rdD M (tn n) (tn a)) 0 200))), (7, .int (bI (blM M n a))), (8, .int (nI vf)), (9, .int (nI vi)), (10, .int (bI vs)), (11, .int (nI vl)), (12, .int (nI vc)), (16, .int (nI s_))]) dM_edit_264 (by decide) rfl ?_
                      refine xg_iload hX 6 dM_edit_266 rfl ?_
                      refine xg_bipush hX (nI 16) dM_edit_268 (by decide) ?_
                      refine xg_iremN hX (by omega) (by omega) (by omega) dM_edit_270 ?_
                      refine xg_istore hX (lv' := [(21, .int (nI (k % 16))), (20, .int (nI (k / 16))), (13, .int (nI (zn + 1 + 1))), (19, .int (nI 0)), (14, .int (nI 0)), (18, .int (nI 1)), (15, .int (nI 1)), (17, .int (nI k)), (0, .ref mq), (4, .int b), (6, .int (bI (!hasD (rdD M (tn n) (tn a)) 0 200))), (7, .int (bI (blM M n a))), (8, .int (nI vf)), (9, .int (nI vi)), (10, .int (bI vs)), (11, .int (nI vl)), (12, .int (nI vc)), (16, .int (nI s_))]) dM_edit_271 (by decide) rfl ?_
                      refine xg_iload hX 1 dM_edit_273 rfl ?_
                      refine xg_bipush hX (nI 8) dM_edit_275 (by decide) ?_
                      refine xg_icmp_ltN hX 296 (by omega) (by omega) dM_edit_277 (by decide) (fun hh_329 => ?_) (fun hh_329 => absurd hh_329 (by omega))
                      refine xg_iconst hX (nI 0) dM_edit_296 (by decide) ?_
                      refine xg_istore hX (lv' := [(22, .int (nI 0)), (21, .int (nI (k % 16))), (20, .int (nI (k / 16))), (13, .int (nI (zn + 1 + 1))), (19, .int (nI 0)), (14, .int (nI 0)), (18, .int (nI 1)), (15, .int (nI 1)), (17, .int (nI k)), (0, .ref mq), (4, .int b), (6, .int (bI (!hasD (rdD M (tn n) (tn a)) 0 200))), (7, .int (bI (blM M n a))), (8, .int (nI vf)), (9, .int (nI vi)), (10, .int (bI vs)), (11, .int (nI vl)), (12, .int (nI vc)), (16, .int (nI s_))]) dM_edit_297 (by decide) rfl ?_
                      refine xg_iload hX 5 dM_edit_299 rfl ?_
                      refine xg_if_eqN hX 320 (by omega) dM_edit_301 (by decide) (fun _ => ?_) (fun h => absurd h (by decide))
                      refine xg_iconst hX (nI 0) dM_edit_320 (by decide) ?_
                      refine xg_istore hX (lv' := [(14, .int (nI 0)), (22, .int (nI 0)), (21, .int (nI (k % 16))), (20, .int (nI (k / 16))), (13, .int (nI (zn + 1 + 1))), (19, .int (nI 0)), (18, .int (nI 1)), (15, .int (nI 1)), (17, .int (nI k)), (0, .ref mq), (4, .int b), (6, .int (bI (!hasD (rdD M (tn n) (tn a)) 0 200))), (7, .int (bI (blM M n a))), (8, .int (nI vf)), (9, .int (nI vi)), (10, .int (bI vs)), (11, .int (nI vl)), (12, .int (nI vc)), (16, .int (nI s_))]) dM_edit_321 (by decide) rfl ?_
                      refine xg_iload hX 0 dM_edit_323 rfl ?_
                      refine xg_if_eqN hX 337 (by omega) dM_edit_325 (by decide) (fun _ => ?_) (fun h => absurd h (by decide))
                      refine xg_iload hX 0 dM_edit_337 rfl ?_
                      refine xg_if_eqN hX 351 (by omega) dM_edit_339 (by decide) (fun _ => ?_) (fun h => absurd h (by decide))
                      refine xg_iload hX 0 dM_edit_351 rfl ?_
                      refine xg_if_eqN hX 366 (by omega) dM_edit_353 (by decide) (fun _ => ?_) (fun h => absurd h (by decide))
                      refine xg_iload hX 0 dM_edit_366 rfl ?_
                      refine xg_if_eqN hX 386 (by omega) dM_edit_368 (by decide) (fun _ => ?_) (fun h => absurd h (by decide))
                      refine xg_iload hX 0 dM_edit_386 rfl ?_
                      refine xg_if_eqN hX 407 (by omega) dM_edit_388 (by decide) (fun _ => ?_) (fun h => absurd h (by decide))
                      refine xg_iload hX 0 dM_edit_407 rfl ?_
                      refine xg_if_eqN hX 473 (by omega) dM_edit_409 (by decide) (fun _ => ?_) (fun h => absurd h (by decide))
                      refine xg_iload hX 0 dM_edit_473 rfl ?_
                      refine xg_if_eqN hX 543 (by omega) dM_edit_475 (by decide) (fun _ => ?_) (fun h => absurd h (by decide))
                      refine xg_iconst hX (nI 0) dM_edit_543 (by decide) ?_
                      refine xg_istore hX (lv' := [(23, .int (nI 0)), (14, .int (nI 0)), (22, .int (nI 0)), (21, .int (nI (k % 16))), (20, .int (nI (k / 16))), (13, .int (nI (zn + 1 + 1))), (19, .int (nI 0)), (18, .int (nI 1)), (15, .int (nI 1)), (17, .int (nI k)), (0, .ref mq), (4, .int b), (6, .int (bI (!hasD (rdD M (tn n) (tn a)) 0 200))), (7, .int (bI (blM M n a))), (8, .int (nI vf)), (9, .int (nI vi)), (10, .int (bI vs)), (11, .int (nI vl)), (12, .int (nI vc)), (16, .int (nI s_))]) dM_edit_544 (by decide) rfl ?_
                      refine xg_iload hX 1 dM_edit_546 rfl ?_
                      refine xg_if_eqN hX 756 (by omega) dM_edit_548 (by decide) (fun _ => ?_) (fun h => absurd h (by decide))
                      refine xg_iincN hX (lv' := [(16, .int (nI (s_ + 1))), (23, .int (nI 0)), (14, .int (nI 0)), (22, .int (nI 0)), (21, .int (nI (k % 16))), (20, .int (nI (k / 16))), (13, .int (nI (zn + 1 + 1))), (19, .int (nI 0)), (18, .int (nI 1)), (15, .int (nI 1)), (17, .int (nI k)), (0, .ref mq), (4, .int b), (6, .int (bI (!hasD (rdD M (tn n) (tn a)) 0 200))), (7, .int (bI (blM M n a))), (8, .int (nI vf)), (9, .int (nI vi)), (10, .int (bI vs)), (11, .int (nI vl)), (12, .int (nI vc))]) (s_ + 1) 19 dM_edit_756 rfl (xn_inc _) (by decide) rfl ?_
                      refine xg_goto hX 96 dM_edit_759 (by decide) ?_
                      refine xg_iload hX 9 dM_edit_96 rfl ?_
                      refine xg_if_eqN hX 762 (by omega) dM_edit_98 (by decide) (fun h => absurd h (by decide)) (fun _ => ?_)
                      refine xg_iload hX 2 dM_edit_101 rfl ?_
                      refine xg_if_eqN hX 762 (by omega) dM_edit_103 (by decide) (fun _ => ?_) (fun h => absurd h (by decide))
                      refine xg_iload hX 2 dM_edit_762 rfl ?_
                      refine xg_if_eqN hX 772 (by omega) dM_edit_764 (by decide) (fun _ => ?_) (fun h => absurd h (by decide))
                      refine xg_bipush hX ((-2)) dM_edit_772 (by decide) ?_
                      exact hret ((-2), M, rdD M (tn n) (tn a), Vw, men) _ _ _ rfl (show ((-2), M, men) = editM M men xw n a p b from (by have hF : edPM M xw n a p = none := (fo_no hq hnx (by omega) h168 (ob_tn (by omega) (nx_0 hzn h218))); unfold editM; rw [if_pos h5, if_pos g1, hF])) dM_edit_774
                    ·
                      refine xg_iconst hX (nI 1) dM_edit_221 (by decide) ?_
                      refine xg_goto hX 226 dM_edit_222 (by decide) ?_
                      refine xg_istore hX (lv' := [(14, .int (nI 1)), (18, .int (nI 1)), (15, .int (nI 1)), (13, .int (nI (zn + 1))), (17, .int (nI k)), (0, .ref mq), (4, .int b), (6, .int (bI (!hasD (rdD M (tn n) (tn a)) 0 200))), (7, .int (bI (blM M n a))), (8, .int (nI vf)), (9, .int (nI vi)), (10, .int (bI vs)), (11, .int (nI vl)), (12, .int (nI vc)), (16, .int (nI s_))]) dM_edit_226 (by decide) rfl ?_
                      refine xg_iload hX 1 dM_edit_228 rfl ?_
                      refine xg_if_eqN hX 248 (by omega) dM_edit_230 (by decide) (fun h => absurd h (by decide)) (fun _ => ?_)
                      refine xg_iload hX 0 dM_edit_233 rfl ?_
                      refine xg_if_eqN hX 248 (by omega) dM_edit_235 (by decide) (fun h => absurd h (by decide)) (fun _ => ?_)
                      refine xg_aload_n hX 5 dM_edit_238 rfl rfl ?_
                      refine xg_get hX (ci := 3) rfl hinM 0 rfl 0 (by decide) mt_324 rfl dM_edit_239 ?_
                      refine xg_iload hX 3 dM_edit_242 rfl ?_
                      refine xg_iald hX 1 (zn + 1) rfl (by omega) (by decide) dM_edit_244 ?_
                      refine xg_goto hX 249 dM_edit_245 (by decide) ?_
                      refine xg_istore hX (lv' := [(19, .int (nI (M (zn + 1)))), (14, .int (nI 1)), (18, .int (nI 1)), (15, .int (nI 1)), (13, .int (nI (zn + 1))), (17, .int (nI k)), (0, .ref mq), (4, .int b), (6, .int (bI (!hasD (rdD M (tn n) (tn a)) 0 200))), (7, .int (bI (blM M n a))), (8, .int (nI vf)), (9, .int (nI vi)), (10, .int (bI vs)), (11, .int (nI vl)), (12, .int (nI vc)), (16, .int (nI s_))]) dM_edit_249 (by decide) rfl ?_
                      refine xg_iload hX 2 dM_edit_251 rfl ?_
                      refine xg_if_eqN hX 259 (by omega) dM_edit_253 (by decide) (fun h => absurd h (by decide)) (fun _ => ?_)
                      refine xg_iincN hX (lv' := [(13, .int (nI (zn + 1 + 1))), (19, .int (nI (M (zn + 1)))), (14, .int (nI 1)), (18, .int (nI 1)), (15, .int (nI 1)), (17, .int (nI k)), (0, .ref mq), (4, .int b), (6, .int (bI (!hasD (rdD M (tn n) (tn a)) 0 200))), (7, .int (bI (blM M n a))), (8, .int (nI vf)), (9, .int (nI vi)), (10, .int (bI vs)), (11, .int (nI vl)), (12, .int (nI vc)), (16, .int (nI s_))]) (zn + 1 + 1) 4 dM_edit_256 rfl (xn_inc _) (by decide) rfl ?_
                      refine xg_iload hX 5 dM_edit_259 rfl ?_
                      refine xg_bipush hX (nI 16) dM_edit_261 (by decide) ?_
                      refine xg_idivN hX (by omega) (by omega) (by omega) dM_edit_263 ?_
                      refine xg_istore hX (lv' := [(20, .int (nI (k / 16))), (13, .int (nI (zn + 1 + 1))), (19, .int (nI (M (zn + 1)))), (14, .int (nI 1)), (18, .int (nI 1)), (15, .int (nI 1)), (17, .int (nI k)), (0, .ref mq), (4, .int b), (6, .int (bI (!hasD (rdD M (tn n) (tn a)) 0 200))), (7, .int (bI (blM M n a))), (8, .int (nI vf)), (9, .int (nI vi)), (10, .int (bI vs)), (11, .int (nI vl)), (12, .int (nI vc)), (16, .int (nI s_))]) dM_edit_264 (by decide) rfl ?_
                      refine xg_iload hX 6 dM_edit_266 rfl ?_
                      refine xg_bipush hX (nI 16) dM_edit_268 (by decide) ?_
                      refine xg_iremN hX (by omega) (by omega) (by omega) dM_edit_270 ?_
                      refine xg_istore hX (lv' := [(21, .int (nI (k % 16))), (20, .int (nI (k / 16))), (13, .int (nI (zn + 1 + 1))), (19, .int (nI (M (zn + 1)))), (14, .int (nI 1)), (18, .int (nI 1)), (15, .int (nI 1)), (17, .int (nI k)), (0, .ref mq), (4, .int b), (6, .int (bI (!hasD (rdD M (tn n) (tn a)) 0 200))), (7, .int (bI (blM M n a))), (8, .int (nI vf)), (9, .int (nI vi)), (10, .int (bI vs)), (11, .int (nI vl)), (12, .int (nI vc)), (16, .int (nI s_))]) dM_edit_271 (by decide) rfl ?_
                      refine xg_iload hX 1 dM_edit_273 rfl ?_
                      refine xg_bipush hX (nI 8) dM_edit_275 (by decide) ?_
                      refine xg_icmp_ltN hX 296 (by omega) (by omega) dM_edit_277 (by decide) (fun hh_345 => ?_) (fun hh_345 => absurd hh_345 (by omega))
                      refine xg_iconst hX (nI 0) dM_edit_296 (by decide) ?_
                      refine xg_istore hX (lv' := [(22, .int (nI 0)), (21, .int (nI (k % 16))), (20, .int (nI (k / 16))), (13, .int (nI (zn + 1 + 1))), (19, .int (nI (M (zn + 1)))), (14, .int (nI 1)), (18, .int (nI 1)), (15, .int (nI 1)), (17, .int (nI k)), (0, .ref mq), (4, .int b), (6, .int (bI (!hasD (rdD M (tn n) (tn a)) 0 200))), (7, .int (bI (blM M n a))), (8, .int (nI vf)), (9, .int (nI vi)), (10, .int (bI vs)), (11, .int (nI vl)), (12, .int (nI vc)), (16, .int (nI s_))]) dM_edit_297 (by decide) rfl ?_
                      refine xg_iload hX 5 dM_edit_299 rfl ?_
                      refine xg_if_eqN hX 320 (by omega) dM_edit_301 (by decide) (fun h => absurd h (by decide)) (fun _ => ?_)
                      refine xg_iload hX 8 dM_edit_304 rfl ?_
                      refine xg_bipush hX (nI 8) dM_edit_306 (by decide) ?_
                      refine xg_icmp_leN hX 316 (by omega) (by omega) dM_edit_308 (by decide) (fun hh_347 => ?_) (fun hh_347 => absurd hh_347 (by omega))
                      refine xg_iconst hX (nI 1) dM_edit_316 (by decide) ?_
                      refine xg_goto hX 321 dM_edit_317 (by decide) ?_
                      refine xg_istore hX (lv' := [(14, .int (nI 1)), (22, .int (nI 0)), (21, .int (nI (k % 16))), (20, .int (nI (k / 16))), (13, .int (nI (zn + 1 + 1))), (19, .int (nI (M (zn + 1)))), (18, .int (nI 1)), (15, .int (nI 1)), (17, .int (nI k)), (0, .ref mq), (4, .int b), (6, .int (bI (!hasD (rdD M (tn n) (tn a)) 0 200))), (7, .int (bI (blM M n a))), (8, .int (nI vf)), (9, .int (nI vi)), (10, .int (bI vs)), (11, .int (nI vl)), (12, .int (nI vc)), (16, .int (nI s_))]) dM_edit_321 (by decide) rfl ?_
                      refine xg_iload hX 0 dM_edit_323 rfl ?_
                      refine xg_if_eqN hX 337 (by omega) dM_edit_325 (by decide) (fun h => absurd h (by decide)) (fun _ => ?_)
                      refine xg_iload hX 8 dM_edit_328 rfl ?_
                      refine xg_iconst hX (nI 1) dM_edit_330 (by decide) ?_
                      refine xg_icmp_neN hX 337 (by omega) (by omega) dM_edit_331 (by decide) (fun hh_349 => ?_) (fun hh_349 => absurd hh_349 (by omega))
                      refine xg_iload hX 0 dM_edit_337 rfl ?_
                      refine xg_if_eqN hX 351 (by omega) dM_edit_339 (by decide) (fun h => absurd h (by decide)) (fun _ => ?_)
                      refine xg_iload hX 8 dM_edit_342 rfl ?_
                      refine xg_iconst hX (nI 2) dM_edit_344 (by decide) ?_
                      refine xg_icmp_neN hX 351 (by omega) (by omega) dM_edit_345 (by decide) (fun hh_351 => ?_) (fun hh_351 => absurd hh_351 (by omega))
                      refine xg_iload hX 0 dM_edit_351 rfl ?_
                      refine xg_if_eqN hX 366 (by omega) dM_edit_353 (by decide) (fun h => absurd h (by decide)) (fun _ => ?_)
                      refine xg_iload hX 8 dM_edit_356 rfl ?_
                      refine xg_iconst hX (nI 4) dM_edit_358 (by decide) ?_
                      refine xg_icmp_neN hX 366 (by omega) (by omega) dM_edit_359 (by decide) (fun hh_353 => ?_) (fun hh_353 => absurd hh_353 (by omega))
                      refine xg_iload hX 0 dM_edit_366 rfl ?_
                      refine xg_if_eqN hX 386 (by omega) dM_edit_368 (by decide) (fun h => absurd h (by decide)) (fun _ => ?_)
                      refine xg_iload hX 8 dM_edit_371 rfl ?_
                      refine xg_iconst hX (nI 5) dM_edit_373 (by decide) ?_
                      refine xg_icmp_neN hX 386 (by omega) (by omega) dM_edit_374 (by decide) (fun hh_355 => absurd hh_355 (by omega)) (fun hh_355 => ?_)
                      refine xg_iload hX 12 dM_edit_377 rfl ?_
                      refine xg_if_neB hX 386 dM_edit_379 (by decide) (fun h379 => ?_) (fun h379 => ?_)
                      ·
                        refine xg_iload hX 0 dM_edit_386 rfl ?_
                        refine xg_if_eqN hX 407 (by omega) dM_edit_388 (by decide) (fun h => absurd h (by decide)) (fun _ => ?_)
                        refine xg_iload hX 8 dM_edit_391 rfl ?_
                        refine xg_bipush hX (nI 6) dM_edit_393 (by decide) ?_
                        refine xg_icmp_neN hX 407 (by omega) (by omega) dM_edit_395 (by decide) (fun hh_357 => ?_) (fun hh_357 => absurd hh_357 (by omega))
                        refine xg_iload hX 0 dM_edit_407 rfl ?_
                        refine xg_if_eqN hX 473 (by omega) dM_edit_409 (by decide) (fun h => absurd h (by decide)) (fun _ => ?_)
                        refine xg_iload hX 8 dM_edit_412 rfl ?_
                        refine xg_bipush hX (nI 8) dM_edit_414 (by decide) ?_
                        refine xg_icmp_neN hX 473 (by omega) (by omega) dM_edit_416 (by decide) (fun hh_359 => ?_) (fun hh_359 => absurd hh_359 (by omega))
                        refine xg_iload hX 0 dM_edit_473 rfl ?_
                        refine xg_if_eqN hX 543 (by omega) dM_edit_475 (by decide) (fun h => absurd h (by decide)) (fun _ => ?_)
                        refine xg_iload hX 8 dM_edit_478 rfl ?_
                        refine xg_iconst hX (nI 3) dM_edit_480 (by decide) ?_
                        refine xg_icmp_eqN hX 491 (by omega) (by omega) dM_edit_481 (by decide) (fun hh_361 => absurd hh_361 (by omega)) (fun hh_361 => ?_)
                        refine xg_iload hX 8 dM_edit_484 rfl ?_
                        refine xg_bipush hX (nI 7) dM_edit_486 (by decide) ?_
                        refine xg_icmp_neN hX 543 (by omega) (by omega) dM_edit_488 (by decide) (fun hh_362 => ?_) (fun hh_362 => absurd hh_362 (by omega))
                        refine xg_iconst hX (nI 0) dM_edit_543 (by decide) ?_
                        refine xg_istore hX (lv' := [(23, .int (nI 0)), (14, .int (nI 1)), (22, .int (nI 0)), (21, .int (nI (k % 16))), (20, .int (nI (k / 16))), (13, .int (nI (zn + 1 + 1))), (19, .int (nI (M (zn + 1)))), (18, .int (nI 1)), (15, .int (nI 1)), (17, .int (nI k)), (0, .ref mq), (4, .int b), (6, .int (bI (!hasD (rdD M (tn n) (tn a)) 0 200))), (7, .int (bI (blM M n a))), (8, .int (nI vf)), (9, .int (nI vi)), (10, .int (bI vs)), (11, .int (nI vl)), (12, .int (nI vc)), (16, .int (nI s_))]) dM_edit_544 (by decide) rfl ?_
                        refine xg_iload hX 1 dM_edit_546 rfl ?_
                        refine xg_if_eqN hX 756 (by omega) dM_edit_548 (by decide) (fun h => absurd h (by decide)) (fun _ => ?_)
                        refine xg_iload hX 2 dM_edit_551 rfl ?_
                        refine xg_if_eqN hX 756 (by omega) dM_edit_553 (by decide) (fun _ => ?_) (fun h => absurd h (by decide))
                        refine xg_iincN hX (lv' := [(16, .int (nI (s_ + 1))), (23, .int (nI 0)), (14, .int (nI 1)), (22, .int (nI 0)), (21, .int (nI (k % 16))), (20, .int (nI (k / 16))), (13, .int (nI (zn + 1 + 1))), (19, .int (nI (M (zn + 1)))), (18, .int (nI 1)), (15, .int (nI 1)), (17, .int (nI k)), (0, .ref mq), (4, .int b), (6, .int (bI (!hasD (rdD M (tn n) (tn a)) 0 200))), (7, .int (bI (blM M n a))), (8, .int (nI vf)), (9, .int (nI vi)), (10, .int (bI vs)), (11, .int (nI vl)), (12, .int (nI vc))]) (s_ + 1) 19 dM_edit_756 rfl (xn_inc _) (by decide) rfl ?_
                        refine xg_goto hX 96 dM_edit_759 (by decide) ?_
                        refine xg_lv hX (lv' := [(0, .ref mq), (4, .int b), (6, .int (bI (!hasD (rdD M (tn n) (tn a)) 0 200))), (7, .int (bI (blM M n a))), (8, .int (nI vf)), (9, .int (nI vi)), (10, .int (bI vs)), (11, .int (nI vl)), (12, .int (nI vc)), (13, .int (nI (zn + 1 + 1))), (14, .int (nI 1)), (15, .int (nI 1)), (16, .int (nI (s_ + 1)))]) [11, 12, 13, 14, 15, 16, 17, 18, 19, 6, 2, 9, 0] rfl ?_
                        exact ih5 (s_ + 1) (nI (zn + 1 + 1)) Vw vc vl vs vf vi (by omega) (by omega) (by omega) (by omega) (fo_st2 hq hnx (by omega) h168 (tk_t (by omega)) ((ob_t (by omega) (nx_1 h218)).trans (px_5b hkk h379))) (by omega)
                      ·
                        refine xg_iload hX 5 dM_edit_382 rfl ?_
                        refine xg_istore hX (lv' := [(9, .int (nI (M (zn + 1)))), (14, .int (nI 1)), (22, .int (nI 0)), (21, .int (nI (k % 16))), (20, .int (nI (k / 16))), (13, .int (nI (zn + 1 + 1))), (19, .int (nI (M (zn + 1)))), (18, .int (nI 1)), (15, .int (nI 1)), (17, .int (nI k)), (0, .ref mq), (4, .int b), (6, .int (bI (!hasD (rdD M (tn n) (tn a)) 0 200))), (7, .int (bI (blM M n a))), (8, .int (nI vf)), (10, .int (bI vs)), (11, .int (nI vl)), (12, .int (nI vc)), (16, .int (nI s_))]) dM_edit_384 (by decide) rfl ?_
                        refine xg_iload hX 1 dM_edit_386 rfl ?_
                        refine xg_if_eqN hX 407 (by omega) dM_edit_388 (by decide) (fun h => absurd h (by decide)) (fun _ => ?_)
                        refine xg_iload hX 9 dM_edit_391 rfl ?_
                        refine xg_bipush hX (nI 6) dM_edit_393 (by decide) ?_
                        refine xg_icmp_neN hX 407 (by omega) (by omega) dM_edit_395 (by decide) (fun hh_366 => ?_) (fun hh_366 => absurd hh_366 (by omega))
                        refine xg_iload hX 1 dM_edit_407 rfl ?_
                        refine xg_if_eqN hX 473 (by omega) dM_edit_409 (by decide) (fun h => absurd h (by decide)) (fun _ => ?_)
                        refine xg_iload hX 9 dM_edit_412 rfl ?_
                        refine xg_bipush hX (nI 8) dM_edit_414 (by decide) ?_
                        refine xg_icmp_neN hX 473 (by omega) (by omega) dM_edit_416 (by decide) (fun hh_368 => ?_) (fun hh_368 => absurd hh_368 (by omega))
                        refine xg_iload hX 1 dM_edit_473 rfl ?_
                        refine xg_if_eqN hX 543 (by omega) dM_edit_475 (by decide) (fun h => absurd h (by decide)) (fun _ => ?_)
                        refine xg_iload hX 9 dM_edit_478 rfl ?_
                        refine xg_iconst hX (nI 3) dM_edit_480 (by decide) ?_
                        refine xg_icmp_eqN hX 491 (by omega) (by omega) dM_edit_481 (by decide) (fun hh_370 => absurd hh_370 (by omega)) (fun hh_370 => ?_)
                        refine xg_iload hX 9 dM_edit_484 rfl ?_
                        refine xg_bipush hX (nI 7) dM_edit_486 (by decide) ?_
                        refine xg_icmp_neN hX 543 (by omega) (by omega) dM_edit_488 (by decide) (fun hh_371 => ?_) (fun hh_371 => absurd hh_371 (by omega))
                        refine xg_iconst hX (nI 0) dM_edit_543 (by decide) ?_
                        refine xg_istore hX (lv' := [(23, .int (nI 0)), (9, .int (nI (M (zn + 1)))), (14, .int (nI 1)), (22, .int (nI 0)), (21, .int (nI (k % 16))), (20, .int (nI (k / 16))), (13, .int (nI (zn + 1 + 1))), (19, .int (nI (M (zn + 1)))), (18, .int (nI 1)), (15, .int (nI 1)), (17, .int (nI k)), (0, .ref mq), (4, .int b), (6, .int (bI (!hasD (rdD M (tn n) (tn a)) 0 200))), (7, .int (bI (blM M n a))), (8, .int (nI vf)), (10, .int (bI vs)), (11, .int (nI vl)), (12, .int (nI vc)), (16, .int (nI s_))]) dM_edit_544 (by decide) rfl ?_
                        refine xg_iload hX 2 dM_edit_546 rfl ?_
                        refine xg_if_eqN hX 756 (by omega) dM_edit_548 (by decide) (fun h => absurd h (by decide)) (fun _ => ?_)
                        refine xg_iload hX 3 dM_edit_551 rfl ?_
                        refine xg_if_eqN hX 756 (by omega) dM_edit_553 (by decide) (fun _ => ?_) (fun h => absurd h (by decide))
                        refine xg_iincN hX (lv' := [(16, .int (nI (s_ + 1))), (23, .int (nI 0)), (9, .int (nI (M (zn + 1)))), (14, .int (nI 1)), (22, .int (nI 0)), (21, .int (nI (k % 16))), (20, .int (nI (k / 16))), (13, .int (nI (zn + 1 + 1))), (19, .int (nI (M (zn + 1)))), (18, .int (nI 1)), (15, .int (nI 1)), (17, .int (nI k)), (0, .ref mq), (4, .int b), (6, .int (bI (!hasD (rdD M (tn n) (tn a)) 0 200))), (7, .int (bI (blM M n a))), (8, .int (nI vf)), (10, .int (bI vs)), (11, .int (nI vl)), (12, .int (nI vc))]) (s_ + 1) 19 dM_edit_756 rfl (xn_inc _) (by decide) rfl ?_
                        refine xg_goto hX 96 dM_edit_759 (by decide) ?_
                        refine xg_lv hX (lv' := [(0, .ref mq), (4, .int b), (6, .int (bI (!hasD (rdD M (tn n) (tn a)) 0 200))), (7, .int (bI (blM M n a))), (8, .int (nI vf)), (9, .int (nI (M (zn + 1)))), (10, .int (bI vs)), (11, .int (nI vl)), (12, .int (nI vc)), (13, .int (nI (zn + 1 + 1))), (14, .int (nI 1)), (15, .int (nI 1)), (16, .int (nI (s_ + 1)))]) [12, 13, 14, 15, 16, 2, 17, 18, 19, 7, 3, 10, 0] rfl ?_
                        exact ih5 (s_ + 1) (nI (zn + 1 + 1)) Vw vc vl vs vf (M (zn + 1)) (by omega) (by omega) (by omega) (by omega) (fo_st2 hq hnx (by omega) h168 (tk_t (by omega)) ((ob_t (by omega) (nx_1 h218)).trans (px_5 hkk h379))) (by omega)
                  ·
                    refine xg_iload hX 0 dM_edit_171 rfl ?_
                    refine xg_if_neN hX 180 (by omega) dM_edit_173 (by decide) (fun _ => ?_) (fun h => absurd h (by decide))
                    refine xg_iconst hX (nI 0) dM_edit_180 (by decide) ?_
                    refine xg_istore hX (lv' := [(14, .int (nI 0)), (15, .int (nI 1)), (13, .int (nI (zn + 1))), (17, .int (nI k)), (0, .ref mq), (4, .int b), (6, .int (bI (!hasD (rdD M (tn n) (tn a)) 0 200))), (7, .int (bI (blM M n a))), (8, .int (nI vf)), (9, .int (nI vi)), (10, .int (bI vs)), (11, .int (nI vl)), (12, .int (nI vc)), (16, .int (nI s_))]) dM_edit_181 (by decide) rfl ?_
                    refine xg_iload hX 3 dM_edit_183 rfl ?_
                    refine xg_iconst hX (nI 4) dM_edit_185 (by decide) ?_
                    refine xg_icmp_ltN hX 200 (by omega) (by omega) dM_edit_186 (by decide) (fun hh_375 => absurd hh_375 (by omega)) (fun hh_375 => ?_)
                    refine xg_iload hX 3 dM_edit_189 rfl ?_
                    refine xg_bipush hX (nI 8) dM_edit_191 (by decide) ?_
                    refine xg_icmp_gtN hX 200 (by omega) (by omega) dM_edit_193 (by decide) (fun hh_376 => absurd hh_376 (by omega)) (fun hh_376 => ?_)
                    refine xg_iconst hX (nI 1) dM_edit_196 (by decide) ?_
                    refine xg_goto hX 201 dM_edit_197 (by decide) ?_
                    refine xg_istore hX (lv' := [(18, .int (nI 1)), (14, .int (nI 0)), (15, .int (nI 1)), (13, .int (nI (zn + 1))), (17, .int (nI k)), (0, .ref mq), (4, .int b), (6, .int (bI (!hasD (rdD M (tn n) (tn a)) 0 200))), (7, .int (bI (blM M n a))), (8, .int (nI vf)), (9, .int (nI vi)), (10, .int (bI vs)), (11, .int (nI vl)), (12, .int (nI vc)), (16, .int (nI s_))]) dM_edit_201 (by decide) rfl ?_
                    refine xg_iload hX 0 dM_edit_203 rfl ?_
                    refine xg_if_eqN hX 228 (by omega) dM_edit_205 (by decide) (fun h => absurd h (by decide)) (fun _ => ?_)
                    refine xg_iload hX 1 dM_edit_208 rfl ?_
                    refine xg_if_eqN hX 225 (by omega) dM_edit_210 (by decide) (fun _ => ?_) (fun h => absurd h (by decide))
                    refine xg_iconst hX (nI 0) dM_edit_225 (by decide) ?_
                    refine xg_istore hX (lv' := [(14, .int (nI 0)), (18, .int (nI 1)), (15, .int (nI 1)), (13, .int (nI (zn + 1))), (17, .int (nI k)), (0, .ref mq), (4, .int b), (6, .int (bI (!hasD (rdD M (tn n) (tn a)) 0 200))), (7, .int (bI (blM M n a))), (8, .int (nI vf)), (9, .int (nI vi)), (10, .int (bI vs)), (11, .int (nI vl)), (12, .int (nI vc)), (16, .int (nI s_))]) dM_edit_226 (by decide) rfl ?_
                    refine xg_iload hX 1 dM_edit_228 rfl ?_
                    refine xg_if_eqN hX 248 (by omega) dM_edit_230 (by decide) (fun h => absurd h (by decide)) (fun _ => ?_)
                    refine xg_iload hX 0 dM_edit_233 rfl ?_
                    refine xg_if_eqN hX 248 (by omega) dM_edit_235 (by decide) (fun _ => ?_) (fun h => absurd h (by decide))
                    refine xg_iconst hX (nI 0) dM_edit_248 (by decide) ?_
                    refine xg_istore hX (lv' := [(19, .int (nI 0)), (14, .int (nI 0)), (18, .int (nI 1)), (15, .int (nI 1)), (13, .int (nI (zn + 1))), (17, .int (nI k)), (0, .ref mq), (4, .int b), (6, .int (bI (!hasD (rdD M (tn n) (tn a)) 0 200))), (7, .int (bI (blM M n a))), (8, .int (nI vf)), (9, .int (nI vi)), (10, .int (bI vs)), (11, .int (nI vl)), (12, .int (nI vc)), (16, .int (nI s_))]) dM_edit_249 (by decide) rfl ?_
                    refine xg_iload hX 2 dM_edit_251 rfl ?_
                    refine xg_if_eqN hX 259 (by omega) dM_edit_253 (by decide) (fun h => absurd h (by decide)) (fun _ => ?_)
                    refine xg_iincN hX (lv' := [(13, .int (nI (zn + 1 + 1))), (19, .int (nI 0)), (14, .int (nI 0)), (18, .int (nI 1)), (15, .int (nI 1)), (17, .int (nI k)), (0, .ref mq), (4, .int b), (6, .int (bI (!hasD (rdD M (tn n) (tn a)) 0 200))), (7, .int (bI (blM M n a))), (8, .int (nI vf)), (9, .int (nI vi)), (10, .int (bI vs)), (11, .int (nI vl)), (12, .int (nI vc)), (16, .int (nI s_))]) (zn + 1 + 1) 4 dM_edit_256 rfl (xn_inc _) (by decide) rfl ?_
                    refine xg_iload hX 5 dM_edit_259 rfl ?_
                    refine xg_bipush hX (nI 16) dM_edit_261 (by decide) ?_
                    refine xg_idivN hX (by omega) (by omega) (by omega) dM_edit_263 ?_
                    refine xg_istore hX (lv' := [(20, .int (nI (k / 16))), (13, .int (nI (zn + 1 + 1))), (19, .int (nI 0)), (14, .int (nI 0)), (18, .int (nI 1)), (15, .int (nI 1)), (17, .int (nI k)), (0, .ref mq), (4, .int b), (6, .int (bI (!hasD (rdD M (tn n) (tn a)) 0 200))), (7, .int (bI (blM M n a))), (8, .int (nI vf)), (9, .int (nI vi)), (10, .int (bI vs)), (11, .int (nI vl)), (12, .int (nI vc)), (16, .int (nI s_))]) dM_edit_264 (by decide) rfl ?_
                    refine xg_iload hX 6 dM_edit_266 rfl ?_
                    refine xg_bipush hX (nI 16) dM_edit_268 (by decide) ?_
                    refine xg_iremN hX (by omega) (by omega) (by omega) dM_edit_270 ?_
                    refine xg_istore hX (lv' := [(21, .int (nI (k % 16))), (20, .int (nI (k / 16))), (13, .int (nI (zn + 1 + 1))), (19, .int (nI 0)), (14, .int (nI 0)), (18, .int (nI 1)), (15, .int (nI 1)), (17, .int (nI k)), (0, .ref mq), (4, .int b), (6, .int (bI (!hasD (rdD M (tn n) (tn a)) 0 200))), (7, .int (bI (blM M n a))), (8, .int (nI vf)), (9, .int (nI vi)), (10, .int (bI vs)), (11, .int (nI vl)), (12, .int (nI vc)), (16, .int (nI s_))]) dM_edit_271 (by decide) rfl ?_
                    refine xg_iload hX 1 dM_edit_273 rfl ?_
                    refine xg_bipush hX (nI 8) dM_edit_275 (by decide) ?_
                    refine xg_icmp_ltN hX 296 (by omega) (by omega) dM_edit_277 (by decide) (fun hh_382 => ?_) (fun hh_382 => absurd hh_382 (by omega))
                    refine xg_iconst hX (nI 0) dM_edit_296 (by decide) ?_
                    refine xg_istore hX (lv' := [(22, .int (nI 0)), (21, .int (nI (k % 16))), (20, .int (nI (k / 16))), (13, .int (nI (zn + 1 + 1))), (19, .int (nI 0)), (14, .int (nI 0)), (18, .int (nI 1)), (15, .int (nI 1)), (17, .int (nI k)), (0, .ref mq), (4, .int b), (6, .int (bI (!hasD (rdD M (tn n) (tn a)) 0 200))), (7, .int (bI (blM M n a))), (8, .int (nI vf)), (9, .int (nI vi)), (10, .int (bI vs)), (11, .int (nI vl)), (12, .int (nI vc)), (16, .int (nI s_))]) dM_edit_297 (by decide) rfl ?_
                    refine xg_iload hX 5 dM_edit_299 rfl ?_
                    refine xg_if_eqN hX 320 (by omega) dM_edit_301 (by decide) (fun _ => ?_) (fun h => absurd h (by decide))
                    refine xg_iconst hX (nI 0) dM_edit_320 (by decide) ?_
                    refine xg_istore hX (lv' := [(14, .int (nI 0)), (22, .int (nI 0)), (21, .int (nI (k % 16))), (20, .int (nI (k / 16))), (13, .int (nI (zn + 1 + 1))), (19, .int (nI 0)), (18, .int (nI 1)), (15, .int (nI 1)), (17, .int (nI k)), (0, .ref mq), (4, .int b), (6, .int (bI (!hasD (rdD M (tn n) (tn a)) 0 200))), (7, .int (bI (blM M n a))), (8, .int (nI vf)), (9, .int (nI vi)), (10, .int (bI vs)), (11, .int (nI vl)), (12, .int (nI vc)), (16, .int (nI s_))]) dM_edit_321 (by decide) rfl ?_
                    refine xg_iload hX 0 dM_edit_323 rfl ?_
                    refine xg_if_eqN hX 337 (by omega) dM_edit_325 (by decide) (fun _ => ?_) (fun h => absurd h (by decide))
                    refine xg_iload hX 0 dM_edit_337 rfl ?_
                    refine xg_if_eqN hX 351 (by omega) dM_edit_339 (by decide) (fun _ => ?_) (fun h => absurd h (by decide))
                    refine xg_iload hX 0 dM_edit_351 rfl ?_
                    refine xg_if_eqN hX 366 (by omega) dM_edit_353 (by decide) (fun _ => ?_) (fun h => absurd h (by decide))
                    refine xg_iload hX 0 dM_edit_366 rfl ?_
                    refine xg_if_eqN hX 386 (by omega) dM_edit_368 (by decide) (fun _ => ?_) (fun h => absurd h (by decide))
                    refine xg_iload hX 0 dM_edit_386 rfl ?_
                    refine xg_if_eqN hX 407 (by omega) dM_edit_388 (by decide) (fun _ => ?_) (fun h => absurd h (by decide))
                    refine xg_iload hX 0 dM_edit_407 rfl ?_
                    refine xg_if_eqN hX 473 (by omega) dM_edit_409 (by decide) (fun _ => ?_) (fun h => absurd h (by decide))
                    refine xg_iload hX 0 dM_edit_473 rfl ?_
                    refine xg_if_eqN hX 543 (by omega) dM_edit_475 (by decide) (fun _ => ?_) (fun h => absurd h (by decide))
                    refine xg_iconst hX (nI 0) dM_edit_543 (by decide) ?_
                    refine xg_istore hX (lv' := [(23, .int (nI 0)), (14, .int (nI 0)), (22, .int (nI 0)), (21, .int (nI (k % 16))), (20, .int (nI (k / 16))), (13, .int (nI (zn + 1 + 1))), (19, .int (nI 0)), (18, .int (nI 1)), (15, .int (nI 1)), (17, .int (nI k)), (0, .ref mq), (4, .int b), (6, .int (bI (!hasD (rdD M (tn n) (tn a)) 0 200))), (7, .int (bI (blM M n a))), (8, .int (nI vf)), (9, .int (nI vi)), (10, .int (bI vs)), (11, .int (nI vl)), (12, .int (nI vc)), (16, .int (nI s_))]) dM_edit_544 (by decide) rfl ?_
                    refine xg_iload hX 1 dM_edit_546 rfl ?_
                    refine xg_if_eqN hX 756 (by omega) dM_edit_548 (by decide) (fun _ => ?_) (fun h => absurd h (by decide))
                    refine xg_iincN hX (lv' := [(16, .int (nI (s_ + 1))), (23, .int (nI 0)), (14, .int (nI 0)), (22, .int (nI 0)), (21, .int (nI (k % 16))), (20, .int (nI (k / 16))), (13, .int (nI (zn + 1 + 1))), (19, .int (nI 0)), (18, .int (nI 1)), (15, .int (nI 1)), (17, .int (nI k)), (0, .ref mq), (4, .int b), (6, .int (bI (!hasD (rdD M (tn n) (tn a)) 0 200))), (7, .int (bI (blM M n a))), (8, .int (nI vf)), (9, .int (nI vi)), (10, .int (bI vs)), (11, .int (nI vl)), (12, .int (nI vc))]) (s_ + 1) 19 dM_edit_756 rfl (xn_inc _) (by decide) rfl ?_
                    refine xg_goto hX 96 dM_edit_759 (by decide) ?_
                    refine xg_iload hX 9 dM_edit_96 rfl ?_
                    refine xg_if_eqN hX 762 (by omega) dM_edit_98 (by decide) (fun h => absurd h (by decide)) (fun _ => ?_)
                    refine xg_iload hX 2 dM_edit_101 rfl ?_
                    refine xg_if_eqN hX 762 (by omega) dM_edit_103 (by decide) (fun _ => ?_) (fun h => absurd h (by decide))
                    refine xg_iload hX 2 dM_edit_762 rfl ?_
                    refine xg_if_eqN hX 772 (by omega) dM_edit_764 (by decide) (fun _ => ?_) (fun h => absurd h (by decide))
                    refine xg_bipush hX ((-2)) dM_edit_772 (by decide) ?_
                    exact hret ((-2), M, rdD M (tn n) (tn a), Vw, men) _ _ _ rfl (show ((-2), M, men) = editM M men xw n a p b from (by have hF : edPM M xw n a p = none := (fo_la hq hnx (by omega) (by omega)); unfold editM; rw [if_pos h5, if_pos g1, hF])) dM_edit_774
                ·
                  refine xg_iload hX 9 dM_edit_106 rfl ?_
                  refine xg_if_ltN hX 123 (by omega) dM_edit_108 (by decide) ?_
                  refine xg_iload hX 9 dM_edit_111 rfl ?_
                  refine xg_sipush hX (nI 256) dM_edit_113 (by decide) ?_
                  refine xg_icmp_geN hX 123 (by omega) (by omega) dM_edit_116 (by decide) (fun h116 => absurd h116 (by omega)) (fun h116 => ?_)
                  refine xg_iconst hX (nI 1) dM_edit_119 (by decide) ?_
                  refine xg_goto hX 124 dM_edit_120 (by decide) ?_
                  refine xg_istore hX (lv' := [(14, .int (nI 1)), (0, .ref mq), (4, .int b), (6, .int (bI (!hasD (rdD M (tn n) (tn a)) 0 200))), (7, .int (bI (blM M n a))), (8, .int (nI vf)), (9, .int (nI vi)), (10, .int (bI vs)), (11, .int (nI vl)), (12, .int (nI vc)), (13, .int (nI zn)), (15, .int (nI 1)), (16, .int (nI s_))]) dM_edit_124 (by decide) rfl ?_
                  refine xg_iload hX 0 dM_edit_126 rfl ?_
                  refine xg_if_eqN hX 141 (by omega) dM_edit_128 (by decide) (fun h => absurd h (by decide)) (fun _ => ?_)
                  refine xg_aload_n hX 1 dM_edit_131 rfl rfl ?_
                  refine xg_get hX (ci := 3) rfl hinM 0 rfl 0 (by decide) mt_324 rfl dM_edit_132 ?_
                  refine xg_iload hX 10 dM_edit_135 rfl ?_
                  refine xg_iald hX 1 zn rfl (by omega) (by decide) dM_edit_137 ?_
                  refine xg_top (nI k) (by rw [hk4]) ?_
                  refine xg_goto hX 142 dM_edit_138 (by decide) ?_
                  refine xg_istore hX (lv' := [(17, .int (nI k)), (14, .int (nI 1)), (0, .ref mq), (4, .int b), (6, .int (bI (!hasD (rdD M (tn n) (tn a)) 0 200))), (7, .int (bI (blM M n a))), (8, .int (nI vf)), (9, .int (nI vi)), (10, .int (bI vs)), (11, .int (nI vl)), (12, .int (nI vc)), (13, .int (nI zn)), (15, .int (nI 1)), (16, .int (nI s_))]) dM_edit_142 (by decide) rfl ?_
                  refine xg_iincN hX (lv' := [(13, .int (nI (zn + 1))), (17, .int (nI k)), (14, .int (nI 1)), (0, .ref mq), (4, .int b), (6, .int (bI (!hasD (rdD M (tn n) (tn a)) 0 200))), (7, .int (bI (blM M n a))), (8, .int (nI vf)), (9, .int (nI vi)), (10, .int (bI vs)), (11, .int (nI vl)), (12, .int (nI vc)), (15, .int (nI 1)), (16, .int (nI s_))]) (zn + 1) 11 dM_edit_144 rfl (xn_inc _) (by decide) rfl ?_
                  refine xg_iload hX 1 dM_edit_147 rfl ?_
                  refine xg_if_eqN hX 156 (by omega) dM_edit_149 (by decide) (fun hh_396 => absurd hh_396 (by omega)) (fun hh_396 => ?_)
                  refine xg_iconst hX (nI 1) dM_edit_152 (by decide) ?_
                  refine xg_goto hX 157 dM_edit_153 (by decide) ?_
                  refine xg_istore hX (lv' := [(15, .int (nI 1)), (13, .int (nI (zn + 1))), (17, .int (nI k)), (14, .int (nI 1)), (0, .ref mq), (4, .int b), (6, .int (bI (!hasD (rdD M (tn n) (tn a)) 0 200))), (7, .int (bI (blM M n a))), (8, .int (nI vf)), (9, .int (nI vi)), (10, .int (bI vs)), (11, .int (nI vl)), (12, .int (nI vc)), (16, .int (nI s_))]) dM_edit_157 (by decide) rfl ?_
                  refine xg_iload hX 3 dM_edit_159 rfl ?_
                  refine xg_if_eqN hX 180 (by omega) dM_edit_161 (by decide) (fun h => absurd h (by decide)) (fun _ => ?_)
                  refine xg_iload hX 13 dM_edit_164 rfl ?_
                  refine xg_bipush hX (nI 64) dM_edit_166 (by decide) ?_
                  refine xg_icmp_ltN hX 176 (by omega) (by omega) dM_edit_168 (by decide) (fun h168 => ?_) (fun h168 => ?_)
                  ·
                    refine xg_iconst hX (nI 1) dM_edit_176 (by decide) ?_
                    refine xg_goto hX 181 dM_edit_177 (by decide) ?_
                    refine xg_istore hX (lv' := [(14, .int (nI 1)), (15, .int (nI 1)), (13, .int (nI (zn + 1))), (17, .int (nI k)), (0, .ref mq), (4, .int b), (6, .int (bI (!hasD (rdD M (tn n) (tn a)) 0 200))), (7, .int (bI (blM M n a))), (8, .int (nI vf)), (9, .int (nI vi)), (10, .int (bI vs)), (11, .int (nI vl)), (12, .int (nI vc)), (16, .int (nI s_))]) dM_edit_181 (by decide) rfl ?_
                    refine xg_iload hX 3 dM_edit_183 rfl ?_
                    refine xg_iconst hX (nI 4) dM_edit_185 (by decide) ?_
                    refine xg_icmp_ltN hX 200 (by omega) (by omega) dM_edit_186 (by decide) (fun hh_398 => absurd hh_398 (by omega)) (fun hh_398 => ?_)
                    refine xg_iload hX 3 dM_edit_189 rfl ?_
                    refine xg_bipush hX (nI 8) dM_edit_191 (by decide) ?_
                    refine xg_icmp_gtN hX 200 (by omega) (by omega) dM_edit_193 (by decide) (fun hh_399 => absurd hh_399 (by omega)) (fun hh_399 => ?_)
                    refine xg_iconst hX (nI 1) dM_edit_196 (by decide) ?_
                    refine xg_goto hX 201 dM_edit_197 (by decide) ?_
                    refine xg_istore hX (lv' := [(18, .int (nI 1)), (14, .int (nI 1)), (15, .int (nI 1)), (13, .int (nI (zn + 1))), (17, .int (nI k)), (0, .ref mq), (4, .int b), (6, .int (bI (!hasD (rdD M (tn n) (tn a)) 0 200))), (7, .int (bI (blM M n a))), (8, .int (nI vf)), (9, .int (nI vi)), (10, .int (bI vs)), (11, .int (nI vl)), (12, .int (nI vc)), (16, .int (nI s_))]) dM_edit_201 (by decide) rfl ?_
                    refine xg_iload hX 0 dM_edit_203 rfl ?_
                    refine xg_if_eqN hX 228 (by omega) dM_edit_205 (by decide) (fun h => absurd h (by decide)) (fun _ => ?_)
                    refine xg_iload hX 1 dM_edit_208 rfl ?_
                    refine xg_if_eqN hX 225 (by omega) dM_edit_210 (by decide) (fun h => absurd h (by decide)) (fun _ => ?_)
                    refine xg_iload hX 3 dM_edit_213 rfl ?_
                    refine xg_sipush hX (nI 256) dM_edit_215 (by decide) ?_
                    refine xg_icmp_geN hX 225 (by omega) (by omega) dM_edit_218 (by decide) (fun h218 => ?_) (fun h218 => ?_)
                    ·
                      refine xg_iconst hX (nI 0) dM_edit_225 (by decide) ?_
                      refine xg_istore hX (lv' := [(14, .int (nI 0)), (18, .int (nI 1)), (15, .int (nI 1)), (13, .int (nI (zn + 1))), (17, .int (nI k)), (0, .ref mq), (4, .int b), (6, .int (bI (!hasD (rdD M (tn n) (tn a)) 0 200))), (7, .int (bI (blM M n a))), (8, .int (nI vf)), (9, .int (nI vi)), (10, .int (bI vs)), (11, .int (nI vl)), (12, .int (nI vc)), (16, .int (nI s_))]) dM_edit_226 (by decide) rfl ?_
                      refine xg_iload hX 1 dM_edit_228 rfl ?_
                      refine xg_if_eqN hX 248 (by omega) dM_edit_230 (by decide) (fun h => absurd h (by decide)) (fun _ => ?_)
                      refine xg_iload hX 0 dM_edit_233 rfl ?_
                      refine xg_if_eqN hX 248 (by omega) dM_edit_235 (by decide) (fun _ => ?_) (fun h => absurd h (by decide))
                      refine xg_iconst hX (nI 0) dM_edit_248 (by decide) ?_
                      refine xg_istore hX (lv' := [(19, .int (nI 0)), (14, .int (nI 0)), (18, .int (nI 1)), (15, .int (nI 1)), (13, .int (nI (zn + 1))), (17, .int (nI k)), (0, .ref mq), (4, .int b), (6, .int (bI (!hasD (rdD M (tn n) (tn a)) 0 200))), (7, .int (bI (blM M n a))), (8, .int (nI vf)), (9, .int (nI vi)), (10, .int (bI vs)), (11, .int (nI vl)), (12, .int (nI vc)), (16, .int (nI s_))]) dM_edit_249 (by decide) rfl ?_
                      refine xg_iload hX 2 dM_edit_251 rfl ?_
                      refine xg_if_eqN hX 259 (by omega) dM_edit_253 (by decide) (fun h => absurd h (by decide)) (fun _ => ?_)
                      refine xg_iincN hX (lv' := [(13, .int (nI (zn + 1 + 1))), (19, .int (nI 0)), (14, .int (nI 0)), (18, .int (nI 1)), (15, .int (nI 1)), (17, .int (nI k)), (0, .ref mq), (4, .int b), (6, .int (bI (!hasD (rdD M (tn n) (tn a)) 0 200))), (7, .int (bI (blM M n a))), (8, .int (nI vf)), (9, .int (nI vi)), (10, .int (bI vs)), (11, .int (nI vl)), (12, .int (nI vc)), (16, .int (nI s_))]) (zn + 1 + 1) 4 dM_edit_256 rfl (xn_inc _) (by decide) rfl ?_
                      refine xg_iload hX 5 dM_edit_259 rfl ?_
                      refine xg_bipush hX (nI 16) dM_edit_261 (by decide) ?_
                      refine xg_idivN hX (by omega) (by omega) (by omega) dM_edit_263 ?_
                      refine xg_istore hX (lv' := [(20, .int (nI (k / 16))), (13, .int (nI (zn + 1 + 1))), (19, .int (nI 0)), (14, .int (nI 0)), (18, .int (nI 1)), (15, .int (nI 1)), (17, .int (nI k)), (0, .ref mq), (4, .int b), (6, .int (bI (!hasD (rdD M (tn n) (tn a)) 0 200))), (7, .int (bI (blM M n a))), (8, .int (nI vf)), (9, .int (nI vi)), (10, .int (bI vs)), (11, .int (nI vl)), (12, .int (nI vc)), (16, .int (nI s_))]) dM_edit_264 (by decide) rfl ?_
                      refine xg_iload hX 6 dM_edit_266 rfl ?_
                      refine xg_bipush hX (nI 16) dM_edit_268 (by decide) ?_
                      refine xg_iremN hX (by omega) (by omega) (by omega) dM_edit_270 ?_
                      refine xg_istore hX (lv' := [(21, .int (nI (k % 16))), (20, .int (nI (k / 16))), (13, .int (nI (zn + 1 + 1))), (19, .int (nI 0)), (14, .int (nI 0)), (18, .int (nI 1)), (15, .int (nI 1)), (17, .int (nI k)), (0, .ref mq), (4, .int b), (6, .int (bI (!hasD (rdD M (tn n) (tn a)) 0 200))), (7, .int (bI (blM M n a))), (8, .int (nI vf)), (9, .int (nI vi)), (10, .int (bI vs)), (11, .int (nI vl)), (12, .int (nI vc)), (16, .int (nI s_))]) dM_edit_271 (by decide) rfl ?_
                      refine xg_iload hX 1 dM_edit_273 rfl ?_
                      refine xg_bipush hX (nI 8) dM_edit_275 (by decide) ?_
                      refine xg_icmp_ltN hX 296 (by omega) (by omega) dM_edit_277 (by decide) (fun hh_405 => ?_) (fun hh_405 => absurd hh_405 (by omega))
                      refine xg_iconst hX (nI 0) dM_edit_296 (by decide) ?_
                      refine xg_istore hX (lv' := [(22, .int (nI 0)), (21, .int (nI (k % 16))), (20, .int (nI (k / 16))), (13, .int (nI (zn + 1 + 1))), (19, .int (nI 0)), (14, .int (nI 0)), (18, .int (nI 1)), (15, .int (nI 1)), (17, .int (nI k)), (0, .ref mq), (4, .int b), (6, .int (bI (!hasD (rdD M (tn n) (tn a)) 0 200))), (7, .int (bI (blM M n a))), (8, .int (nI vf)), (9, .int (nI vi)), (10, .int (bI vs)), (11, .int (nI vl)), (12, .int (nI vc)), (16, .int (nI s_))]) dM_edit_297 (by decide) rfl ?_
                      refine xg_iload hX 5 dM_edit_299 rfl ?_
                      refine xg_if_eqN hX 320 (by omega) dM_edit_301 (by decide) (fun _ => ?_) (fun h => absurd h (by decide))
                      refine xg_iconst hX (nI 0) dM_edit_320 (by decide) ?_
                      refine xg_istore hX (lv' := [(14, .int (nI 0)), (22, .int (nI 0)), (21, .int (nI (k % 16))), (20, .int (nI (k / 16))), (13, .int (nI (zn + 1 + 1))), (19, .int (nI 0)), (18, .int (nI 1)), (15, .int (nI 1)), (17, .int (nI k)), (0, .ref mq), (4, .int b), (6, .int (bI (!hasD (rdD M (tn n) (tn a)) 0 200))), (7, .int (bI (blM M n a))), (8, .int (nI vf)), (9, .int (nI vi)), (10, .int (bI vs)), (11, .int (nI vl)), (12, .int (nI vc)), (16, .int (nI s_))]) dM_edit_321 (by decide) rfl ?_
                      refine xg_iload hX 0 dM_edit_323 rfl ?_
                      refine xg_if_eqN hX 337 (by omega) dM_edit_325 (by decide) (fun _ => ?_) (fun h => absurd h (by decide))
                      refine xg_iload hX 0 dM_edit_337 rfl ?_
                      refine xg_if_eqN hX 351 (by omega) dM_edit_339 (by decide) (fun _ => ?_) (fun h => absurd h (by decide))
                      refine xg_iload hX 0 dM_edit_351 rfl ?_
                      refine xg_if_eqN hX 366 (by omega) dM_edit_353 (by decide) (fun _ => ?_) (fun h => absurd h (by decide))
                      refine xg_iload hX 0 dM_edit_366 rfl ?_
                      refine xg_if_eqN hX 386 (by omega) dM_edit_368 (by decide) (fun _ => ?_) (fun h => absurd h (by decide))
                      refine xg_iload hX 0 dM_edit_386 rfl ?_
                      refine xg_if_eqN hX 407 (by omega) dM_edit_388 (by decide) (fun _ => ?_) (fun h => absurd h (by decide))
                      refine xg_iload hX 0 dM_edit_407 rfl ?_
                      refine xg_if_eqN hX 473 (by omega) dM_edit_409 (by decide) (fun _ => ?_) (fun h => absurd h (by decide))
                      refine xg_iload hX 0 dM_edit_473 rfl ?_
                      refine xg_if_eqN hX 543 (by omega) dM_edit_475 (by decide) (fun _ => ?_) (fun h => absurd h (by decide))
                      refine xg_iconst hX (nI 0) dM_edit_543 (by decide) ?_
                      refine xg_istore hX (lv' := [(23, .int (nI 0)), (14, .int (nI 0)), (22, .int (nI 0)), (21, .int (nI (k % 16))), (20, .int (nI (k / 16))), (13, .int (nI (zn + 1 + 1))), (19, .int (nI 0)), (18, .int (nI 1)), (15, .int (nI 1)), (17, .int (nI k)), (0, .ref mq), (4, .int b), (6, .int (bI (!hasD (rdD M (tn n) (tn a)) 0 200))), (7, .int (bI (blM M n a))), (8, .int (nI vf)), (9, .int (nI vi)), (10, .int (bI vs)), (11, .int (nI vl)), (12, .int (nI vc)), (16, .int (nI s_))]) dM_edit_544 (by decide) rfl ?_
                      refine xg_iload hX 1 dM_edit_546 rfl ?_
                      refine xg_if_eqN hX 756 (by omega) dM_edit_548 (by decide) (fun _ => ?_) (fun h => absurd h (by decide))
                      refine xg_iincN hX (lv' := [(16, .int (nI (s_ + 1))), (23, .int (nI 0)), (14, .int (nI 0)), (22, .int (nI 0)), (21, .int (nI (k % 16))), (20, .int (nI (k / 16))), (13, .int (nI (zn + 1 + 1))), (19, .int (nI 0)), (18, .int (nI 1)), (15, .int (nI 1)), (17, .int (nI k)), (0, .ref mq), (4, .int b), (6, .int (bI (!hasD (rdD M (tn n) (tn a)) 0 200))), (7, .int (bI (blM M n a))), (8, .int (nI vf)), (9, .int (nI vi)), (10, .int (bI vs)), (11, .int (nI vl)), (12, .int (nI vc))]) (s_ + 1) 19 dM_edit_756 rfl (xn_inc _) (by decide) rfl ?_
                      refine xg_goto hX 96 dM_edit_759 (by decide) ?_
                      refine xg_iload hX 9 dM_edit_96 rfl ?_
                      refine xg_if_eqN hX 762 (by omega) dM_edit_98 (by decide) (fun h => absurd h (by decide)) (fun _ => ?_)
                      refine xg_iload hX 2 dM_edit_101 rfl ?_
                      refine xg_if_eqN hX 762 (by omega) dM_edit_103 (by decide) (fun _ => ?_) (fun h => absurd h (by decide))
                      refine xg_iload hX 2 dM_edit_762 rfl ?_
                      refine xg_if_eqN hX 772 (by omega) dM_edit_764 (by decide) (fun _ => ?_) (fun h => absurd h (by decide))
                      refine xg_bipush hX ((-2)) dM_edit_772 (by decide) ?_
                      exact hret ((-2), M, rdD M (tn n) (tn a), Vw, men) _ _ _ rfl (show ((-2), M, men) = editM M men xw n a p b from (by have hF : edPM M xw n a p = none := (fo_no hq hnx (by omega) h168 (ob_tn (by omega) (nx_0 hzn h218))); unfold editM; rw [if_pos h5, if_pos g1, hF])) dM_edit_774
                    ·
                      refine xg_iconst hX (nI 1) dM_edit_221 (by decide) ?_
                      refine xg_goto hX 226 dM_edit_222 (by decide) ?_
                      refine xg_istore hX (lv' := [(14, .int (nI 1)), (18, .int (nI 1)), (15, .int (nI 1)), (13, .int (nI (zn + 1))), (17, .int (nI k)), (0, .ref mq), (4, .int b), (6, .int (bI (!hasD (rdD M (tn n) (tn a)) 0 200))), (7, .int (bI (blM M n a))), (8, .int (nI vf)), (9, .int (nI vi)), (10, .int (bI vs)), (11, .int (nI vl)), (12, .int (nI vc)), (16, .int (nI s_))]) dM_edit_226 (by decide) rfl ?_
                      refine xg_iload hX 1 dM_edit_228 rfl ?_
                      refine xg_if_eqN hX 248 (by omega) dM_edit_230 (by decide) (fun h => absurd h (by decide)) (fun _ => ?_)
                      refine xg_iload hX 0 dM_edit_233 rfl ?_
                      refine xg_if_eqN hX 248 (by omega) dM_edit_235 (by decide) (fun h => absurd h (by decide)) (fun _ => ?_)
                      refine xg_aload_n hX 5 dM_edit_238 rfl rfl ?_
                      refine xg_get hX (ci := 3) rfl hinM 0 rfl 0 (by decide) mt_324 rfl dM_edit_239 ?_
                      refine xg_iload hX 3 dM_edit_242 rfl ?_
                      refine xg_iald hX 1 (zn + 1) rfl (by omega) (by decide) dM_edit_244 ?_
                      refine xg_goto hX 249 dM_edit_245 (by decide) ?_
                      refine xg_istore hX (lv' := [(19, .int (nI (M (zn + 1)))), (14, .int (nI 1)), (18, .int (nI 1)), (15, .int (nI 1)), (13, .int (nI (zn + 1))), (17, .int (nI k)), (0, .ref mq), (4, .int b), (6, .int (bI (!hasD (rdD M (tn n) (tn a)) 0 200))), (7, .int (bI (blM M n a))), (8, .int (nI vf)), (9, .int (nI vi)), (10, .int (bI vs)), (11, .int (nI vl)), (12, .int (nI vc)), (16, .int (nI s_))]) dM_edit_249 (by decide) rfl ?_
                      refine xg_iload hX 2 dM_edit_251 rfl ?_
                      refine xg_if_eqN hX 259 (by omega) dM_edit_253 (by decide) (fun h => absurd h (by decide)) (fun _ => ?_)
                      refine xg_iincN hX (lv' := [(13, .int (nI (zn + 1 + 1))), (19, .int (nI (M (zn + 1)))), (14, .int (nI 1)), (18, .int (nI 1)), (15, .int (nI 1)), (17, .int (nI k)), (0, .ref mq), (4, .int b), (6, .int (bI (!hasD (rdD M (tn n) (tn a)) 0 200))), (7, .int (bI (blM M n a))), (8, .int (nI vf)), (9, .int (nI vi)), (10, .int (bI vs)), (11, .int (nI vl)), (12, .int (nI vc)), (16, .int (nI s_))]) (zn + 1 + 1) 4 dM_edit_256 rfl (xn_inc _) (by decide) rfl ?_
                      refine xg_iload hX 5 dM_edit_259 rfl ?_
                      refine xg_bipush hX (nI 16) dM_edit_261 (by decide) ?_
                      refine xg_idivN hX (by omega) (by omega) (by omega) dM_edit_263 ?_
                      refine xg_istore hX (lv' := [(20, .int (nI (k / 16))), (13, .int (nI (zn + 1 + 1))), (19, .int (nI (M (zn + 1)))), (14, .int (nI 1)), (18, .int (nI 1)), (15, .int (nI 1)), (17, .int (nI k)), (0, .ref mq), (4, .int b), (6, .int (bI (!hasD (rdD M (tn n) (tn a)) 0 200))), (7, .int (bI (blM M n a))), (8, .int (nI vf)), (9, .int (nI vi)), (10, .int (bI vs)), (11, .int (nI vl)), (12, .int (nI vc)), (16, .int (nI s_))]) dM_edit_264 (by decide) rfl ?_
                      refine xg_iload hX 6 dM_edit_266 rfl ?_
                      refine xg_bipush hX (nI 16) dM_edit_268 (by decide) ?_
                      refine xg_iremN hX (by omega) (by omega) (by omega) dM_edit_270 ?_
                      refine xg_istore hX (lv' := [(21, .int (nI (k % 16))), (20, .int (nI (k / 16))), (13, .int (nI (zn + 1 + 1))), (19, .int (nI (M (zn + 1)))), (14, .int (nI 1)), (18, .int (nI 1)), (15, .int (nI 1)), (17, .int (nI k)), (0, .ref mq), (4, .int b), (6, .int (bI (!hasD (rdD M (tn n) (tn a)) 0 200))), (7, .int (bI (blM M n a))), (8, .int (nI vf)), (9, .int (nI vi)), (10, .int (bI vs)), (11, .int (nI vl)), (12, .int (nI vc)), (16, .int (nI s_))]) dM_edit_271 (by decide) rfl ?_
                      refine xg_iload hX 1 dM_edit_273 rfl ?_
                      refine xg_bipush hX (nI 8) dM_edit_275 (by decide) ?_
                      refine xg_icmp_ltN hX 296 (by omega) (by omega) dM_edit_277 (by decide) (fun hh_421 => ?_) (fun hh_421 => absurd hh_421 (by omega))
                      refine xg_iconst hX (nI 0) dM_edit_296 (by decide) ?_
                      refine xg_istore hX (lv' := [(22, .int (nI 0)), (21, .int (nI (k % 16))), (20, .int (nI (k / 16))), (13, .int (nI (zn + 1 + 1))), (19, .int (nI (M (zn + 1)))), (14, .int (nI 1)), (18, .int (nI 1)), (15, .int (nI 1)), (17, .int (nI k)), (0, .ref mq), (4, .int b), (6, .int (bI (!hasD (rdD M (tn n) (tn a)) 0 200))), (7, .int (bI (blM M n a))), (8, .int (nI vf)), (9, .int (nI vi)), (10, .int (bI vs)), (11, .int (nI vl)), (12, .int (nI vc)), (16, .int (nI s_))]) dM_edit_297 (by decide) rfl ?_
                      refine xg_iload hX 5 dM_edit_299 rfl ?_
                      refine xg_if_eqN hX 320 (by omega) dM_edit_301 (by decide) (fun h => absurd h (by decide)) (fun _ => ?_)
                      refine xg_iload hX 8 dM_edit_304 rfl ?_
                      refine xg_bipush hX (nI 8) dM_edit_306 (by decide) ?_
                      refine xg_icmp_leN hX 316 (by omega) (by omega) dM_edit_308 (by decide) (fun hh_423 => ?_) (fun hh_423 => absurd hh_423 (by omega))
                      refine xg_iconst hX (nI 1) dM_edit_316 (by decide) ?_
                      refine xg_goto hX 321 dM_edit_317 (by decide) ?_
                      refine xg_istore hX (lv' := [(14, .int (nI 1)), (22, .int (nI 0)), (21, .int (nI (k % 16))), (20, .int (nI (k / 16))), (13, .int (nI (zn + 1 + 1))), (19, .int (nI (M (zn + 1)))), (18, .int (nI 1)), (15, .int (nI 1)), (17, .int (nI k)), (0, .ref mq), (4, .int b), (6, .int (bI (!hasD (rdD M (tn n) (tn a)) 0 200))), (7, .int (bI (blM M n a))), (8, .int (nI vf)), (9, .int (nI vi)), (10, .int (bI vs)), (11, .int (nI vl)), (12, .int (nI vc)), (16, .int (nI s_))]) dM_edit_321 (by decide) rfl ?_
                      refine xg_iload hX 0 dM_edit_323 rfl ?_
                      refine xg_if_eqN hX 337 (by omega) dM_edit_325 (by decide) (fun h => absurd h (by decide)) (fun _ => ?_)
                      refine xg_iload hX 8 dM_edit_328 rfl ?_
                      refine xg_iconst hX (nI 1) dM_edit_330 (by decide) ?_
                      refine xg_icmp_neN hX 337 (by omega) (by omega) dM_edit_331 (by decide) (fun hh_425 => ?_) (fun hh_425 => absurd hh_425 (by omega))
                      refine xg_iload hX 0 dM_edit_337 rfl ?_
                      refine xg_if_eqN hX 351 (by omega) dM_edit_339 (by decide) (fun h => absurd h (by decide)) (fun _ => ?_)
                      refine xg_iload hX 8 dM_edit_342 rfl ?_
                      refine xg_iconst hX (nI 2) dM_edit_344 (by decide) ?_
                      refine xg_icmp_neN hX 351 (by omega) (by omega) dM_edit_345 (by decide) (fun hh_427 => ?_) (fun hh_427 => absurd hh_427 (by omega))
                      refine xg_iload hX 0 dM_edit_351 rfl ?_
                      refine xg_if_eqN hX 366 (by omega) dM_edit_353 (by decide) (fun h => absurd h (by decide)) (fun _ => ?_)
                      refine xg_iload hX 8 dM_edit_356 rfl ?_
                      refine xg_iconst hX (nI 4) dM_edit_358 (by decide) ?_
                      refine xg_icmp_neN hX 366 (by omega) (by omega) dM_edit_359 (by decide) (fun hh_429 => ?_) (fun hh_429 => absurd hh_429 (by omega))
                      refine xg_iload hX 0 dM_edit_366 rfl ?_
                      refine xg_if_eqN hX 386 (by omega) dM_edit_368 (by decide) (fun h => absurd h (by decide)) (fun _ => ?_)
                      refine xg_iload hX 8 dM_edit_371 rfl ?_
                      refine xg_iconst hX (nI 5) dM_edit_373 (by decide) ?_
                      refine xg_icmp_neN hX 386 (by omega) (by omega) dM_edit_374 (by decide) (fun hh_431 => ?_) (fun hh_431 => absurd hh_431 (by omega))
                      refine xg_iload hX 0 dM_edit_386 rfl ?_
                      refine xg_if_eqN hX 407 (by omega) dM_edit_388 (by decide) (fun h => absurd h (by decide)) (fun _ => ?_)
                      refine xg_iload hX 8 dM_edit_391 rfl ?_
                      refine xg_bipush hX (nI 6) dM_edit_393 (by decide) ?_
                      refine xg_icmp_neN hX 407 (by omega) (by omega) dM_edit_395 (by decide) (fun hh_433 => absurd hh_433 (by omega)) (fun hh_433 => ?_)
                      refine xg_iload hX 12 dM_edit_398 rfl ?_
                      refine xg_if_eqB hX 407 dM_edit_400 (by decide) (fun h400 => ?_) (fun h400 => ?_)
                      ·
                        refine xg_iload hX 0 dM_edit_407 rfl ?_
                        refine xg_if_eqN hX 473 (by omega) dM_edit_409 (by decide) (fun h => absurd h (by decide)) (fun _ => ?_)
                        refine xg_iload hX 8 dM_edit_412 rfl ?_
                        refine xg_bipush hX (nI 8) dM_edit_414 (by decide) ?_
                        refine xg_icmp_neN hX 473 (by omega) (by omega) dM_edit_416 (by decide) (fun hh_435 => ?_) (fun hh_435 => absurd hh_435 (by omega))
                        refine xg_iload hX 0 dM_edit_473 rfl ?_
                        refine xg_if_eqN hX 543 (by omega) dM_edit_475 (by decide) (fun h => absurd h (by decide)) (fun _ => ?_)
                        refine xg_iload hX 8 dM_edit_478 rfl ?_
                        refine xg_iconst hX (nI 3) dM_edit_480 (by decide) ?_
                        refine xg_icmp_eqN hX 491 (by omega) (by omega) dM_edit_481 (by decide) (fun hh_437 => absurd hh_437 (by omega)) (fun hh_437 => ?_)
                        refine xg_iload hX 8 dM_edit_484 rfl ?_
                        refine xg_bipush hX (nI 7) dM_edit_486 (by decide) ?_
                        refine xg_icmp_neN hX 543 (by omega) (by omega) dM_edit_488 (by decide) (fun hh_438 => ?_) (fun hh_438 => absurd hh_438 (by omega))
                        refine xg_iconst hX (nI 0) dM_edit_543 (by decide) ?_
                        refine xg_istore hX (lv' := [(23, .int (nI 0)), (14, .int (nI 1)), (22, .int (nI 0)), (21, .int (nI (k % 16))), (20, .int (nI (k / 16))), (13, .int (nI (zn + 1 + 1))), (19, .int (nI (M (zn + 1)))), (18, .int (nI 1)), (15, .int (nI 1)), (17, .int (nI k)), (0, .ref mq), (4, .int b), (6, .int (bI (!hasD (rdD M (tn n) (tn a)) 0 200))), (7, .int (bI (blM M n a))), (8, .int (nI vf)), (9, .int (nI vi)), (10, .int (bI vs)), (11, .int (nI vl)), (12, .int (nI vc)), (16, .int (nI s_))]) dM_edit_544 (by decide) rfl ?_
                        refine xg_iload hX 1 dM_edit_546 rfl ?_
                        refine xg_if_eqN hX 756 (by omega) dM_edit_548 (by decide) (fun h => absurd h (by decide)) (fun _ => ?_)
                        refine xg_iload hX 2 dM_edit_551 rfl ?_
                        refine xg_if_eqN hX 756 (by omega) dM_edit_553 (by decide) (fun _ => ?_) (fun h => absurd h (by decide))
                        refine xg_iincN hX (lv' := [(16, .int (nI (s_ + 1))), (23, .int (nI 0)), (14, .int (nI 1)), (22, .int (nI 0)), (21, .int (nI (k % 16))), (20, .int (nI (k / 16))), (13, .int (nI (zn + 1 + 1))), (19, .int (nI (M (zn + 1)))), (18, .int (nI 1)), (15, .int (nI 1)), (17, .int (nI k)), (0, .ref mq), (4, .int b), (6, .int (bI (!hasD (rdD M (tn n) (tn a)) 0 200))), (7, .int (bI (blM M n a))), (8, .int (nI vf)), (9, .int (nI vi)), (10, .int (bI vs)), (11, .int (nI vl)), (12, .int (nI vc))]) (s_ + 1) 19 dM_edit_756 rfl (xn_inc _) (by decide) rfl ?_
                        refine xg_goto hX 96 dM_edit_759 (by decide) ?_
                        refine xg_lv hX (lv' := [(0, .ref mq), (4, .int b), (6, .int (bI (!hasD (rdD M (tn n) (tn a)) 0 200))), (7, .int (bI (blM M n a))), (8, .int (nI vf)), (9, .int (nI vi)), (10, .int (bI vs)), (11, .int (nI vl)), (12, .int (nI vc)), (13, .int (nI (zn + 1 + 1))), (14, .int (nI 1)), (15, .int (nI 1)), (16, .int (nI (s_ + 1)))]) [11, 12, 13, 14, 15, 16, 17, 18, 19, 6, 2, 9, 0] rfl ?_
                        exact ih5 (s_ + 1) (nI (zn + 1 + 1)) Vw vc vl vs vf vi (by omega) (by omega) (by omega) (by omega) (fo_st2 hq hnx (by omega) h168 (tk_t (by omega)) ((ob_t (by omega) (nx_1 h218)).trans (px_6b hkk h400))) (by omega)
                      ·
                        refine xg_iload hX 5 dM_edit_403 rfl ?_
                        refine xg_istore hX (lv' := [(9, .int (nI (M (zn + 1)))), (14, .int (nI 1)), (22, .int (nI 0)), (21, .int (nI (k % 16))), (20, .int (nI (k / 16))), (13, .int (nI (zn + 1 + 1))), (19, .int (nI (M (zn + 1)))), (18, .int (nI 1)), (15, .int (nI 1)), (17, .int (nI k)), (0, .ref mq), (4, .int b), (6, .int (bI (!hasD (rdD M (tn n) (tn a)) 0 200))), (7, .int (bI (blM M n a))), (8, .int (nI vf)), (10, .int (bI vs)), (11, .int (nI vl)), (12, .int (nI vc)), (16, .int (nI s_))]) dM_edit_405 (by decide) rfl ?_
                        refine xg_iload hX 1 dM_edit_407 rfl ?_
                        refine xg_if_eqN hX 473 (by omega) dM_edit_409 (by decide) (fun h => absurd h (by decide)) (fun _ => ?_)
                        refine xg_iload hX 9 dM_edit_412 rfl ?_
                        refine xg_bipush hX (nI 8) dM_edit_414 (by decide) ?_
                        refine xg_icmp_neN hX 473 (by omega) (by omega) dM_edit_416 (by decide) (fun hh_442 => ?_) (fun hh_442 => absurd hh_442 (by omega))
                        refine xg_iload hX 1 dM_edit_473 rfl ?_
                        refine xg_if_eqN hX 543 (by omega) dM_edit_475 (by decide) (fun h => absurd h (by decide)) (fun _ => ?_)
                        refine xg_iload hX 9 dM_edit_478 rfl ?_
                        refine xg_iconst hX (nI 3) dM_edit_480 (by decide) ?_
                        refine xg_icmp_eqN hX 491 (by omega) (by omega) dM_edit_481 (by decide) (fun hh_444 => absurd hh_444 (by omega)) (fun hh_444 => ?_)
                        refine xg_iload hX 9 dM_edit_484 rfl ?_
                        refine xg_bipush hX (nI 7) dM_edit_486 (by decide) ?_
                        refine xg_icmp_neN hX 543 (by omega) (by omega) dM_edit_488 (by decide) (fun hh_445 => ?_) (fun hh_445 => absurd hh_445 (by omega))
                        refine xg_iconst hX (nI 0) dM_edit_543 (by decide) ?_
                        refine xg_istore hX (lv' := [(23, .int (nI 0)), (9, .int (nI (M (zn + 1)))), (14, .int (nI 1)), (22, .int (nI 0)), (21, .int (nI (k % 16))), (20, .int (nI (k / 16))), (13, .int (nI (zn + 1 + 1))), (19, .int (nI (M (zn + 1)))), (18, .int (nI 1)), (15, .int (nI 1)), (17, .int (nI k)), (0, .ref mq), (4, .int b), (6, .int (bI (!hasD (rdD M (tn n) (tn a)) 0 200))), (7, .int (bI (blM M n a))), (8, .int (nI vf)), (10, .int (bI vs)), (11, .int (nI vl)), (12, .int (nI vc)), (16, .int (nI s_))]) dM_edit_544 (by decide) rfl ?_
                        refine xg_iload hX 2 dM_edit_546 rfl ?_
                        refine xg_if_eqN hX 756 (by omega) dM_edit_548 (by decide) (fun h => absurd h (by decide)) (fun _ => ?_)
                        refine xg_iload hX 3 dM_edit_551 rfl ?_
                        refine xg_if_eqN hX 756 (by omega) dM_edit_553 (by decide) (fun _ => ?_) (fun h => absurd h (by decide))
                        refine xg_iincN hX (lv' := [(16, .int (nI (s_ + 1))), (23, .int (nI 0)), (9, .int (nI (M (zn + 1)))), (14, .int (nI 1)), (22, .int (nI 0)), (21, .int (nI (k % 16))), (20, .int (nI (k / 16))), (13, .int (nI (zn + 1 + 1))), (19, .int (nI (M (zn + 1)))), (18, .int (nI 1)), (15, .int (nI 1)), (17, .int (nI k)), (0, .ref mq), (4, .int b), (6, .int (bI (!hasD (rdD M (tn n) (tn a)) 0 200))), (7, .int (bI (blM M n a))), (8, .int (nI vf)), (10, .int (bI vs)), (11, .int (nI vl)), (12, .int (nI vc))]) (s_ + 1) 19 dM_edit_756 rfl (xn_inc _) (by decide) rfl ?_
                        refine xg_goto hX 96 dM_edit_759 (by decide) ?_
                        refine xg_lv hX (lv' := [(0, .ref mq), (4, .int b), (6, .int (bI (!hasD (rdD M (tn n) (tn a)) 0 200))), (7, .int (bI (blM M n a))), (8, .int (nI vf)), (9, .int (nI (M (zn + 1)))), (10, .int (bI vs)), (11, .int (nI vl)), (12, .int (nI vc)), (13, .int (nI (zn + 1 + 1))), (14, .int (nI 1)), (15, .int (nI 1)), (16, .int (nI (s_ + 1)))]) [12, 13, 14, 15, 16, 2, 17, 18, 19, 7, 3, 10, 0] rfl ?_
                        exact ih5 (s_ + 1) (nI (zn + 1 + 1)) Vw vc vl vs vf (M (zn + 1)) (by omega) (by omega) (by omega) (by omega) (fo_st2 hq hnx (by omega) h168 (tk_t (by omega)) ((ob_t (by omega) (nx_1 h218)).trans (px_6 hkk h400))) (by omega)
                  ·
                    refine xg_iload hX 0 dM_edit_171 rfl ?_
                    refine xg_if_neN hX 180 (by omega) dM_edit_173 (by decide) (fun _ => ?_) (fun h => absurd h (by decide))
                    refine xg_iconst hX (nI 0) dM_edit_180 (by decide) ?_
                    refine xg_istore hX (lv' := [(14, .int (nI 0)), (15, .int (nI 1)), (13, .int (nI (zn + 1))), (17, .int (nI k)), (0, .ref mq), (4, .int b), (6, .int (bI (!hasD (rdD M (tn n) (tn a)) 0 200))), (7, .int (bI (blM M n a))), (8, .int (nI vf)), (9, .int (nI vi)), (10, .int (bI vs)), (11, .int (nI vl)), (12, .int (nI vc)), (16, .int (nI s_))]) dM_edit_181 (by decide) rfl ?_
                    refine xg_iload hX 3 dM_edit_183 rfl ?_
                    refine xg_iconst hX (nI 4) dM_edit_185 (by decide) ?_
                    refine xg_icmp_ltN hX 200 (by omega) (by omega) dM_edit_186 (by decide) (fun hh_449 => absurd hh_449 (by omega)) (fun hh_449 => ?_)
                    refine xg_iload hX 3 dM_edit_189 rfl ?_
                    refine xg_bipush hX (nI 8) dM_edit_191 (by decide) ?_
                    refine xg_icmp_gtN hX 200 (by omega) (by omega) dM_edit_193 (by decide) (fun hh_450 => absurd hh_450 (by omega)) (fun hh_450 => ?_)
                    refine xg_iconst hX (nI 1) dM_edit_196 (by decide) ?_
                    refine xg_goto hX 201 dM_edit_197 (by decide) ?_
                    refine xg_istore hX (lv' := [(18, .int (nI 1)), (14, .int (nI 0)), (15, .int (nI 1)), (13, .int (nI (zn + 1))), (17, .int (nI k)), (0, .ref mq), (4, .int b), (6, .int (bI (!hasD (rdD M (tn n) (tn a)) 0 200))), (7, .int (bI (blM M n a))), (8, .int (nI vf)), (9, .int (nI vi)), (10, .int (bI vs)), (11, .int (nI vl)), (12, .int (nI vc)), (16, .int (nI s_))]) dM_edit_201 (by decide) rfl ?_
                    refine xg_iload hX 0 dM_edit_203 rfl ?_
                    refine xg_if_eqN hX 228 (by omega) dM_edit_205 (by decide) (fun h => absurd h (by decide)) (fun _ => ?_)
                    refine xg_iload hX 1 dM_edit_208 rfl ?_
                    refine xg_if_eqN hX 225 (by omega) dM_edit_210 (by decide) (fun _ => ?_) (fun h => absurd h (by decide))
                    refine xg_iconst hX (nI 0) dM_edit_225 (by decide) ?_
                    refine xg_istore hX (lv' := [(14, .int (nI 0)), (18, .int (nI 1)), (15, .int (nI 1)), (13, .int (nI (zn + 1))), (17, .int (nI k)), (0, .ref mq), (4, .int b), (6, .int (bI (!hasD (rdD M (tn n) (tn a)) 0 200))), (7, .int (bI (blM M n a))), (8, .int (nI vf)), (9, .int (nI vi)), (10, .int (bI vs)), (11, .int (nI vl)), (12, .int (nI vc)), (16, .int (nI s_))]) dM_edit_226 (by decide) rfl ?_
                    refine xg_iload hX 1 dM_edit_228 rfl ?_
                    refine xg_if_eqN hX 248 (by omega) dM_edit_230 (by decide) (fun h => absurd h (by decide)) (fun _ => ?_)
                    refine xg_iload hX 0 dM_edit_233 rfl ?_
                    refine xg_if_eqN hX 248 (by omega) dM_edit_235 (by decide) (fun _ => ?_) (fun h => absurd h (by decide))
                    refine xg_iconst hX (nI 0) dM_edit_248 (by decide) ?_
                    refine xg_istore hX (lv' := [(19, .int (nI 0)), (14, .int (nI 0)), (18, .int (nI 1)), (15, .int (nI 1)), (13, .int (nI (zn + 1))), (17, .int (nI k)), (0, .ref mq), (4, .int b), (6, .int (bI (!hasD (rdD M (tn n) (tn a)) 0 200))), (7, .int (bI (blM M n a))), (8, .int (nI vf)), (9, .int (nI vi)), (10, .int (bI vs)), (11, .int (nI vl)), (12, .int (nI vc)), (16, .int (nI s_))]) dM_edit_249 (by decide) rfl ?_
                    refine xg_iload hX 2 dM_edit_251 rfl ?_
                    refine xg_if_eqN hX 259 (by omega) dM_edit_253 (by decide) (fun h => absurd h (by decide)) (fun _ => ?_)
                    refine xg_iincN hX (lv' := [(13, .int (nI (zn + 1 + 1))), (19, .int (nI 0)), (14, .int (nI 0)), (18, .int (nI 1)), (15, .int (nI 1)), (17, .int (nI k)), (0, .ref mq), (4, .int b), (6, .int (bI (!hasD (rdD M (tn n) (tn a)) 0 200))), (7, .int (bI (blM M n a))), (8, .int (nI vf)), (9, .int (nI vi)), (10, .int (bI vs)), (11, .int (nI vl)), (12, .int (nI vc)), (16, .int (nI s_))]) (zn + 1 + 1) 4 dM_edit_256 rfl (xn_inc _) (by decide) rfl ?_
                    refine xg_iload hX 5 dM_edit_259 rfl ?_
                    refine xg_bipush hX (nI 16) dM_edit_261 (by decide) ?_
                    refine xg_idivN hX (by omega) (by omega) (by omega) dM_edit_263 ?_
                    refine xg_istore hX (lv' := [(20, .int (nI (k / 16))), (13, .int (nI (zn + 1 + 1))), (19, .int (nI 0)), (14, .int (nI 0)), (18, .int (nI 1)), (15, .int (nI 1)), (17, .int (nI k)), (0, .ref mq), (4, .int b), (6, .int (bI (!hasD (rdD M (tn n) (tn a)) 0 200))), (7, .int (bI (blM M n a))), (8, .int (nI vf)), (9, .int (nI vi)), (10, .int (bI vs)), (11, .int (nI vl)), (12, .int (nI vc)), (16, .int (nI s_))]) dM_edit_264 (by decide) rfl ?_
                    refine xg_iload hX 6 dM_edit_266 rfl ?_
                    refine xg_bipush hX (nI 16) dM_edit_268 (by decide) ?_
                    refine xg_iremN hX (by omega) (by omega) (by omega) dM_edit_270 ?_
                    refine xg_istore hX (lv' := [(21, .int (nI (k % 16))), (20, .int (nI (k / 16))), (13, .int (nI (zn + 1 + 1))), (19, .int (nI 0)), (14, .int (nI 0)), (18, .int (nI 1)), (15, .int (nI 1)), (17, .int (nI k)), (0, .ref mq), (4, .int b), (6, .int (bI (!hasD (rdD M (tn n) (tn a)) 0 200))), (7, .int (bI (blM M n a))), (8, .int (nI vf)), (9, .int (nI vi)), (10, .int (bI vs)), (11, .int (nI vl)), (12, .int (nI vc)), (16, .int (nI s_))]) dM_edit_271 (by decide) rfl ?_
                    refine xg_iload hX 1 dM_edit_273 rfl ?_
                    refine xg_bipush hX (nI 8) dM_edit_275 (by decide) ?_
                    refine xg_icmp_ltN hX 296 (by omega) (by omega) dM_edit_277 (by decide) (fun hh_456 => ?_) (fun hh_456 => absurd hh_456 (by omega))
                    refine xg_iconst hX (nI 0) dM_edit_296 (by decide) ?_
                    refine xg_istore hX (lv' := [(22, .int (nI 0)), (21, .int (nI (k % 16))), (20, .int (nI (k / 16))), (13, .int (nI (zn + 1 + 1))), (19, .int (nI 0)), (14, .int (nI 0)), (18, .int (nI 1)), (15, .int (nI 1)), (17, .int (nI k)), (0, .ref mq), (4, .int b), (6, .int (bI (!hasD (rdD M (tn n) (tn a)) 0 200))), (7, .int (bI (blM M n a))), (8, .int (nI vf)), (9, .int (nI vi)), (10, .int (bI vs)), (11, .int (nI vl)), (12, .int (nI vc)), (16, .int (nI s_))]) dM_edit_297 (by decide) rfl ?_
                    refine xg_iload hX 5 dM_edit_299 rfl ?_
                    refine xg_if_eqN hX 320 (by omega) dM_edit_301 (by decide) (fun _ => ?_) (fun h => absurd h (by decide))
                    refine xg_iconst hX (nI 0) dM_edit_320 (by decide) ?_
                    refine xg_istore hX (lv' := [(14, .int (nI 0)), (22, .int (nI 0)), (21, .int (nI (k % 16))), (20, .int (nI (k / 16))), (13, .int (nI (zn + 1 + 1))), (19, .int (nI 0)), (18, .int (nI 1)), (15, .int (nI 1)), (17, .int (nI k)), (0, .ref mq), (4, .int b), (6, .int (bI (!hasD (rdD M (tn n) (tn a)) 0 200))), (7, .int (bI (blM M n a))), (8, .int (nI vf)), (9, .int (nI vi)), (10, .int (bI vs)), (11, .int (nI vl)), (12, .int (nI vc)), (16, .int (nI s_))]) dM_edit_321 (by decide) rfl ?_
                    refine xg_iload hX 0 dM_edit_323 rfl ?_
                    refine xg_if_eqN hX 337 (by omega) dM_edit_325 (by decide) (fun _ => ?_) (fun h => absurd h (by decide))
                    refine xg_iload hX 0 dM_edit_337 rfl ?_
                    refine xg_if_eqN hX 351 (by omega) dM_edit_339 (by decide) (fun _ => ?_) (fun h => absurd h (by decide))
                    refine xg_iload hX 0 dM_edit_351 rfl ?_
                    refine xg_if_eqN hX 366 (by omega) dM_edit_353 (by decide) (fun _ => ?_) (fun h => absurd h (by decide))
                    refine xg_iload hX 0 dM_edit_366 rfl ?_
                    refine xg_if_eqN hX 386 (by omega) dM_edit_368 (by decide) (fun _ => ?_) (fun h => absurd h (by decide))
                    refine xg_iload hX 0 dM_edit_386 rfl ?_
                    refine xg_if_eqN hX 407 (by omega) dM_edit_388 (by decide) (fun _ => ?_) (fun h => absurd h (by decide))
                    refine xg_iload hX 0 dM_edit_407 rfl ?_
                    refine xg_if_eqN hX 473 (by omega) dM_edit_409 (by decide) (fun _ => ?_) (fun h => absurd h (by decide))
                    refine xg_iload hX 0 dM_edit_473 rfl ?_
                    refine xg_if_eqN hX 543 (by omega) dM_edit_475 (by decide) (fun _ => ?_) (fun h => absurd h (by decide))
                    refine xg_iconst hX (nI 0) dM_edit_543 (by decide) ?_
                    refine xg_istore hX (lv' := [(23, .int (nI 0)), (14, .int (nI 0)), (22, .int (nI 0)), (21, .int (nI (k % 16))), (20, .int (nI (k / 16))), (13, .int (nI (zn + 1 + 1))), (19, .int (nI 0)), (18, .int (nI 1)), (15, .int (nI 1)), (17, .int (nI k)), (0, .ref mq), (4, .int b), (6, .int (bI (!hasD (rdD M (tn n) (tn a)) 0 200))), (7, .int (bI (blM M n a))), (8, .int (nI vf)), (9, .int (nI vi)), (10, .int (bI vs)), (11, .int (nI vl)), (12, .int (nI vc)), (16, .int (nI s_))]) dM_edit_544 (by decide) rfl ?_
                    refine xg_iload hX 1 dM_edit_546 rfl ?_
                    refine xg_if_eqN hX 756 (by omega) dM_edit_548 (by decide) (fun _ => ?_) (fun h => absurd h (by decide))
                    refine xg_iincN hX (lv' := [(16, .int (nI (s_ + 1))), (23, .int (nI 0)), (14, .int (nI 0)), (22, .int (nI 0)), (21, .int (nI (k % 16))), (20, .int (nI (k / 16))), (13, .int (nI (zn + 1 + 1))), (19, .int (nI 0)), (18, .int (nI 1)), (15, .int (nI 1)), (17, .int (nI k)), (0, .ref mq), (4, .int b), (6, .int (bI (!hasD (rdD M (tn n) (tn a)) 0 200))), (7, .int (bI (blM M n a))), (8, .int (nI vf)), (9, .int (nI vi)), (10, .int (bI vs)), (11, .int (nI vl)), (12, .int (nI vc))]) (s_ + 1) 19 dM_edit_756 rfl (xn_inc _) (by decide) rfl ?_
                    refine xg_goto hX 96 dM_edit_759 (by decide) ?_
                    refine xg_iload hX 9 dM_edit_96 rfl ?_
                    refine xg_if_eqN hX 762 (by omega) dM_edit_98 (by decide) (fun h => absurd h (by decide)) (fun _ => ?_)
                    refine xg_iload hX 2 dM_edit_101 rfl ?_
                    refine xg_if_eqN hX 762 (by omega) dM_edit_103 (by decide) (fun _ => ?_) (fun h => absurd h (by decide))
                    refine xg_iload hX 2 dM_edit_762 rfl ?_
                    refine xg_if_eqN hX 772 (by omega) dM_edit_764 (by decide) (fun _ => ?_) (fun h => absurd h (by decide))
                    refine xg_bipush hX ((-2)) dM_edit_772 (by decide) ?_
                    exact hret ((-2), M, rdD M (tn n) (tn a), Vw, men) _ _ _ rfl (show ((-2), M, men) = editM M men xw n a p b from (by have hF : edPM M xw n a p = none := (fo_la hq hnx (by omega) (by omega)); unfold editM; rw [if_pos h5, if_pos g1, hF])) dM_edit_774
                ·
                  refine xg_iload hX 9 dM_edit_106 rfl ?_
                  refine xg_if_ltN hX 123 (by omega) dM_edit_108 (by decide) ?_
                  refine xg_iload hX 9 dM_edit_111 rfl ?_
                  refine xg_sipush hX (nI 256) dM_edit_113 (by decide) ?_
                  refine xg_icmp_geN hX 123 (by omega) (by omega) dM_edit_116 (by decide) (fun h116 => absurd h116 (by omega)) (fun h116 => ?_)
                  refine xg_iconst hX (nI 1) dM_edit_119 (by decide) ?_
                  refine xg_goto hX 124 dM_edit_120 (by decide) ?_
                  refine xg_istore hX (lv' := [(14, .int (nI 1)), (0, .ref mq), (4, .int b), (6, .int (bI (!hasD (rdD M (tn n) (tn a)) 0 200))), (7, .int (bI (blM M n a))), (8, .int (nI vf)), (9, .int (nI vi)), (10, .int (bI vs)), (11, .int (nI vl)), (12, .int (nI vc)), (13, .int (nI zn)), (15, .int (nI 1)), (16, .int (nI s_))]) dM_edit_124 (by decide) rfl ?_
                  refine xg_iload hX 0 dM_edit_126 rfl ?_
                  refine xg_if_eqN hX 141 (by omega) dM_edit_128 (by decide) (fun h => absurd h (by decide)) (fun _ => ?_)
                  refine xg_aload_n hX 1 dM_edit_131 rfl rfl ?_
                  refine xg_get hX (ci := 3) rfl hinM 0 rfl 0 (by decide) mt_324 rfl dM_edit_132 ?_
                  refine xg_iload hX 10 dM_edit_135 rfl ?_
                  refine xg_iald hX 1 zn rfl (by omega) (by decide) dM_edit_137 ?_
                  refine xg_top (nI k) (by rw [hk4]) ?_
                  refine xg_goto hX 142 dM_edit_138 (by decide) ?_
                  refine xg_istore hX (lv' := [(17, .int (nI k)), (14, .int (nI 1)), (0, .ref mq), (4, .int b), (6, .int (bI (!hasD (rdD M (tn n) (tn a)) 0 200))), (7, .int (bI (blM M n a))), (8, .int (nI vf)), (9, .int (nI vi)), (10, .int (bI vs)), (11, .int (nI vl)), (12, .int (nI vc)), (13, .int (nI zn)), (15, .int (nI 1)), (16, .int (nI s_))]) dM_edit_142 (by decide) rfl ?_
                  refine xg_iincN hX (lv' := [(13, .int (nI (zn + 1))), (17, .int (nI k)), (14, .int (nI 1)), (0, .ref mq), (4, .int b), (6, .int (bI (!hasD (rdD M (tn n) (tn a)) 0 200))), (7, .int (bI (blM M n a))), (8, .int (nI vf)), (9, .int (nI vi)), (10, .int (bI vs)), (11, .int (nI vl)), (12, .int (nI vc)), (15, .int (nI 1)), (16, .int (nI s_))]) (zn + 1) 11 dM_edit_144 rfl (xn_inc _) (by decide) rfl ?_
                  refine xg_iload hX 1 dM_edit_147 rfl ?_
                  refine xg_if_eqN hX 156 (by omega) dM_edit_149 (by decide) (fun hh_470 => absurd hh_470 (by omega)) (fun hh_470 => ?_)
                  refine xg_iconst hX (nI 1) dM_edit_152 (by decide) ?_
                  refine xg_goto hX 157 dM_edit_153 (by decide) ?_
                  refine xg_istore hX (lv' := [(15, .int (nI 1)), (13, .int (nI (zn + 1))), (17, .int (nI k)), (14, .int (nI 1)), (0, .ref mq), (4, .int b), (6, .int (bI (!hasD (rdD M (tn n) (tn a)) 0 200))), (7, .int (bI (blM M n a))), (8, .int (nI vf)), (9, .int (nI vi)), (10, .int (bI vs)), (11, .int (nI vl)), (12, .int (nI vc)), (16, .int (nI s_))]) dM_edit_157 (by decide) rfl ?_
                  refine xg_iload hX 3 dM_edit_159 rfl ?_
                  refine xg_if_eqN hX 180 (by omega) dM_edit_161 (by decide) (fun h => absurd h (by decide)) (fun _ => ?_)
                  refine xg_iload hX 13 dM_edit_164 rfl ?_
                  refine xg_bipush hX (nI 64) dM_edit_166 (by decide) ?_
                  refine xg_icmp_ltN hX 176 (by omega) (by omega) dM_edit_168 (by decide) (fun h168 => ?_) (fun h168 => ?_)
                  ·
                    refine xg_iconst hX (nI 1) dM_edit_176 (by decide) ?_
                    refine xg_goto hX 181 dM_edit_177 (by decide) ?_
                    refine xg_istore hX (lv' := [(14, .int (nI 1)), (15, .int (nI 1)), (13, .int (nI (zn + 1))), (17, .int (nI k)), (0, .ref mq), (4, .int b), (6, .int (bI (!hasD (rdD M (tn n) (tn a)) 0 200))), (7, .int (bI (blM M n a))), (8, .int (nI vf)), (9, .int (nI vi)), (10, .int (bI vs)), (11, .int (nI vl)), (12, .int (nI vc)), (16, .int (nI s_))]) dM_edit_181 (by decide) rfl ?_
                    refine xg_iload hX 3 dM_edit_183 rfl ?_
                    refine xg_iconst hX (nI 4) dM_edit_185 (by decide) ?_
                    refine xg_icmp_ltN hX 200 (by omega) (by omega) dM_edit_186 (by decide) (fun hh_472 => absurd hh_472 (by omega)) (fun hh_472 => ?_)
                    refine xg_iload hX 3 dM_edit_189 rfl ?_
                    refine xg_bipush hX (nI 8) dM_edit_191 (by decide) ?_
                    refine xg_icmp_gtN hX 200 (by omega) (by omega) dM_edit_193 (by decide) (fun hh_473 => absurd hh_473 (by omega)) (fun hh_473 => ?_)
                    refine xg_iconst hX (nI 1) dM_edit_196 (by decide) ?_
                    refine xg_goto hX 201 dM_edit_197 (by decide) ?_
                    refine xg_istore hX (lv' := [(18, .int (nI 1)), (14, .int (nI 1)), (15, .int (nI 1)), (13, .int (nI (zn + 1))), (17, .int (nI k)), (0, .ref mq), (4, .int b), (6, .int (bI (!hasD (rdD M (tn n) (tn a)) 0 200))), (7, .int (bI (blM M n a))), (8, .int (nI vf)), (9, .int (nI vi)), (10, .int (bI vs)), (11, .int (nI vl)), (12, .int (nI vc)), (16, .int (nI s_))]) dM_edit_201 (by decide) rfl ?_
                    refine xg_iload hX 0 dM_edit_203 rfl ?_
                    refine xg_if_eqN hX 228 (by omega) dM_edit_205 (by decide) (fun h => absurd h (by decide)) (fun _ => ?_)
                    refine xg_iload hX 1 dM_edit_208 rfl ?_
                    refine xg_if_eqN hX 225 (by omega) dM_edit_210 (by decide) (fun h => absurd h (by decide)) (fun _ => ?_)
                    refine xg_iload hX 3 dM_edit_213 rfl ?_
                    refine xg_sipush hX (nI 256) dM_edit_215 (by decide) ?_
                    refine xg_icmp_geN hX 225 (by omega) (by omega) dM_edit_218 (by decide) (fun h218 => ?_) (fun h218 => ?_)
                    ·
                      refine xg_iconst hX (nI 0) dM_edit_225 (by decide) ?_
                      refine xg_istore hX (lv' := [(14, .int (nI 0)), (18, .int (nI 1)), (15, .int (nI 1)), (13, .int (nI (zn + 1))), (17, .int (nI k)), (0, .ref mq), (4, .int b), (6, .int (bI (!hasD (rdD M (tn n) (tn a)) 0 200))), (7, .int (bI (blM M n a))), (8, .int (nI vf)), (9, .int (nI vi)), (10, .int (bI vs)), (11, .int (nI vl)), (12, .int (nI vc)), (16, .int (nI s_))]) dM_edit_226 (by decide) rfl ?_
                      refine xg_iload hX 1 dM_edit_228 rfl ?_
                      refine xg_if_eqN hX 248 (by omega) dM_edit_230 (by decide) (fun h => absurd h (by decide)) (fun _ => ?_)
                      refine xg_iload hX 0 dM_edit_233 rfl ?_
                      refine xg_if_eqN hX 248 (by omega) dM_edit_235 (by decide) (fun _ => ?_) (fun h => absurd h (by decide))
                      refine xg_iconst hX (nI 0) dM_edit_248 (by decide) ?_
                      refine xg_istore hX (lv' := [(19, .int (nI 0)), (14, .int (nI 0)), (18, .int (nI 1)), (15, .int (nI 1)), (13, .int (nI (zn + 1))), (17, .int (nI k)), (0, .ref mq), (4, .int b), (6, .int (bI (!hasD (rdD M (tn n) (tn a)) 0 200))), (7, .int (bI (blM M n a))), (8, .int (nI vf)), (9, .int (nI vi)), (10, .int (bI vs)), (11, .int (nI vl)), (12, .int (nI vc)), (16, .int (nI s_))]) dM_edit_249 (by decide) rfl ?_
                      refine xg_iload hX 2 dM_edit_251 rfl ?_
                      refine xg_if_eqN hX 259 (by omega) dM_edit_253 (by decide) (fun h => absurd h (by decide)) (fun _ => ?_)
                      refine xg_iincN hX (lv' := [(13, .int (nI (zn + 1 + 1))), (19, .int (nI 0)), (14, .int (nI 0)), (18, .int (nI 1)), (15, .int (nI 1)), (17, .int (nI k)), (0, .ref mq), (4, .int b), (6, .int (bI (!hasD (rdD M (tn n) (tn a)) 0 200))), (7, .int (bI (blM M n a))), (8, .int (nI vf)), (9, .int (nI vi)), (10, .int (bI vs)), (11, .int (nI vl)), (12, .int (nI vc)), (16, .int (nI s_))]) (zn + 1 + 1) 4 dM_edit_256 rfl (xn_inc _) (by decide) rfl ?_
                      refine xg_iload hX 5 dM_edit_259 rfl ?_
                      refine xg_bipush hX (nI 16) dM_edit_261 (by decide) ?_
                      refine xg_idivN hX (by omega) (by omega) (by omega) dM_edit_263 ?_
                      refine xg_istore hX (lv' := [(20, .int (nI (k / 16))), (13, .int (nI (zn + 1 + 1))), (19, .int (nI 0)), (14, .int (nI 0)), (18, .int (nI 1)), (15, .int (nI 1)), (17, .int (nI k)), (0, .ref mq), (4, .int b), (6, .int (bI (!hasD (rdD M (tn n) (tn a)) 0 200))), (7, .int (bI (blM M n a))), (8, .int (nI vf)), (9, .int (nI vi)), (10, .int (bI vs)), (11, .int (nI vl)), (12, .int (nI vc)), (16, .int (nI s_))]) dM_edit_264 (by decide) rfl ?_
                      refine xg_iload hX 6 dM_edit_266 rfl ?_
                      refine xg_bipush hX (nI 16) dM_edit_268 (by decide) ?_
                      refine xg_iremN hX (by omega) (by omega) (by omega) dM_edit_270 ?_
                      refine xg_istore hX (lv' := [(21, .int (nI (k % 16))), (20, .int (nI (k / 16))), (13, .int (nI (zn + 1 + 1))), (19, .int (nI 0)), (14, .int (nI 0)), (18, .int (nI 1)), (15, .int (nI 1)), (17, .int (nI k)), (0, .ref mq), (4, .int b), (6, .int (bI (!hasD (rdD M (tn n) (tn a)) 0 200))), (7, .int (bI (blM M n a))), (8, .int (nI vf)), (9, .int (nI vi)), (10, .int (bI vs)), (11, .int (nI vl)), (12, .int (nI vc)), (16, .int (nI s_))]) dM_edit_271 (by decide) rfl ?_
                      refine xg_iload hX 1 dM_edit_273 rfl ?_
                      refine xg_bipush hX (nI 8) dM_edit_275 (by decide) ?_
                      refine xg_icmp_ltN hX 296 (by omega) (by omega) dM_edit_277 (by decide) (fun hh_479 => ?_) (fun hh_479 => absurd hh_479 (by omega))
                      refine xg_iconst hX (nI 0) dM_edit_296 (by decide) ?_
                      refine xg_istore hX (lv' := [(22, .int (nI 0)), (21, .int (nI (k % 16))), (20, .int (nI (k / 16))), (13, .int (nI (zn + 1 + 1))), (19, .int (nI 0)), (14, .int (nI 0)), (18, .int (nI 1)), (15, .int (nI 1)), (17, .int (nI k)), (0, .ref mq), (4, .int b), (6, .int (bI (!hasD (rdD M (tn n) (tn a)) 0 200))), (7, .int (bI (blM M n a))), (8, .int (nI vf)), (9, .int (nI vi)), (10, .int (bI vs)), (11, .int (nI vl)), (12, .int (nI vc)), (16, .int (nI s_))]) dM_edit_297 (by decide) rfl ?_
                      refine xg_iload hX 5 dM_edit_299 rfl ?_
                      refine xg_if_eqN hX 320 (by omega) dM_edit_301 (by decide) (fun _ => ?_) (fun h => absurd h (by decide))
                      refine xg_iconst hX (nI 0) dM_edit_320 (by decide) ?_
                      refine xg_istore hX (lv' := [(14, .int (nI 0)), (22, .int (nI 0)), (21, .int (nI (k % 16))), (20, .int (nI (k / 16))), (13, .int (nI (zn + 1 + 1))), (19, .int (nI 0)), (18, .int (nI 1)), (15, .int (nI 1)), (17, .int (nI k)), (0, .ref mq), (4, .int b), (6, .int (bI (!hasD (rdD M (tn n) (tn a)) 0 200))), (7, .int (bI (blM M n a))), (8, .int (nI vf)), (9, .int (nI vi)), (10, .int (bI vs)), (11, .int (nI vl)), (12, .int (nI vc)), (16, .int (nI s_))]) dM_edit_321 (by decide) rfl ?_
                      refine xg_iload hX 0 dM_edit_323 rfl ?_
                      refine xg_if_eqN hX 337 (by omega) dM_edit_325 (by decide) (fun _ => ?_) (fun h => absurd h (by decide))
                      refine xg_iload hX 0 dM_edit_337 rfl ?_
                      refine xg_if_eqN hX 351 (by omega) dM_edit_339 (by decide) (fun _ => ?_) (fun h => absurd h (by decide))
                      refine xg_iload hX 0 dM_edit_351 rfl ?_
                      refine xg_if_eqN hX 366 (by omega) dM_edit_353 (by decide) (fun _ => ?_) (fun h => absurd h (by decide))
                      refine xg_iload hX 0 dM_edit_366 rfl ?_
                      refine xg_if_eqN hX 386 (by omega) dM_edit_368 (by decide) (fun _ => ?_) (fun h => absurd h (by decide))
                      refine xg_iload hX 0 dM_edit_386 rfl ?_
                      refine xg_if_eqN hX 407 (by omega) dM_edit_388 (by decide) (fun _ => ?_) (fun h => absurd h (by decide))
                      refine xg_iload hX 0 dM_edit_407 rfl ?_
                      refine xg_if_eqN hX 473 (by omega) dM_edit_409 (by decide) (fun _ => ?_) (fun h => absurd h (by decide))
                      refine xg_iload hX 0 dM_edit_473 rfl ?_
                      refine xg_if_eqN hX 543 (by omega) dM_edit_475 (by decide) (fun _ => ?_) (fun h => absurd h (by decide))
                      refine xg_iconst hX (nI 0) dM_edit_543 (by decide) ?_
                      refine xg_istore hX (lv' := [(23, .int (nI 0)), (14, .int (nI 0)), (22, .int (nI 0)), (21, .int (nI (k % 16))), (20, .int (nI (k / 16))), (13, .int (nI (zn + 1 + 1))), (19, .int (nI 0)), (18, .int (nI 1)), (15, .int (nI 1)), (17, .int (nI k)), (0, .ref mq), (4, .int b), (6, .int (bI (!hasD (rdD M (tn n) (tn a)) 0 200))), (7, .int (bI (blM M n a))), (8, .int (nI vf)), (9, .int (nI vi)), (10, .int (bI vs)), (11, .int (nI vl)), (12, .int (nI vc)), (16, .int (nI s_))]) dM_edit_544 (by decide) rfl ?_
                      refine xg_iload hX 1 dM_edit_546 rfl ?_
                      refine xg_if_eqN hX 756 (by omega) dM_edit_548 (by decide) (fun _ => ?_) (fun h => absurd h (by decide))
                      refine xg_iincN hX (lv' := [(16, .int (nI (s_ + 1))), (23, .int (nI 0)), (14, .int (nI 0)), (22, .int (nI 0)), (21, .int (nI (k % 16))), (20, .int (nI (k / 16))), (13, .int (nI (zn + 1 + 1))), (19, .int (nI 0)), (18, .int (nI 1)), (15, .int (nI 1)), (17, .int (nI k)), (0, .ref mq), (4, .int b), (6, .int (bI (!hasD (rdD M (tn n) (tn a)) 0 200))), (7, .int (bI (blM M n a))), (8, .int (nI vf)), (9, .int (nI vi)), (10, .int (bI vs)), (11, .int (nI vl)), (12, .int (nI vc))]) (s_ + 1) 19 dM_edit_756 rfl (xn_inc _) (by decide) rfl ?_
                      refine xg_goto hX 96 dM_edit_759 (by decide) ?_
                      refine xg_iload hX 9 dM_edit_96 rfl ?_
                      refine xg_if_eqN hX 762 (by omega) dM_edit_98 (by decide) (fun h => absurd h (by decide)) (fun _ => ?_)
                      refine xg_iload hX 2 dM_edit_101 rfl ?_
                      refine xg_if_eqN hX 762 (by omega) dM_edit_103 (by decide) (fun _ => ?_) (fun h => absurd h (by decide))
                      refine xg_iload hX 2 dM_edit_762 rfl ?_
                      refine xg_if_eqN hX 772 (by omega) dM_edit_764 (by decide) (fun _ => ?_) (fun h => absurd h (by decide))
                      refine xg_bipush hX ((-2)) dM_edit_772 (by decide) ?_
                      exact hret ((-2), M, rdD M (tn n) (tn a), Vw, men) _ _ _ rfl (show ((-2), M, men) = editM M men xw n a p b from (by have hF : edPM M xw n a p = none := (fo_no hq hnx (by omega) h168 (ob_tn (by omega) (nx_0 hzn h218))); unfold editM; rw [if_pos h5, if_pos g1, hF])) dM_edit_774
                    ·
                      refine xg_iconst hX (nI 1) dM_edit_221 (by decide) ?_
                      refine xg_goto hX 226 dM_edit_222 (by decide) ?_
                      refine xg_istore hX (lv' := [(14, .int (nI 1)), (18, .int (nI 1)), (15, .int (nI 1)), (13, .int (nI (zn + 1))), (17, .int (nI k)), (0, .ref mq), (4, .int b), (6, .int (bI (!hasD (rdD M (tn n) (tn a)) 0 200))), (7, .int (bI (blM M n a))), (8, .int (nI vf)), (9, .int (nI vi)), (10, .int (bI vs)), (11, .int (nI vl)), (12, .int (nI vc)), (16, .int (nI s_))]) dM_edit_226 (by decide) rfl ?_
                      refine xg_iload hX 1 dM_edit_228 rfl ?_
                      refine xg_if_eqN hX 248 (by omega) dM_edit_230 (by decide) (fun h => absurd h (by decide)) (fun _ => ?_)
                      refine xg_iload hX 0 dM_edit_233 rfl ?_
                      refine xg_if_eqN hX 248 (by omega) dM_edit_235 (by decide) (fun h => absurd h (by decide)) (fun _ => ?_)
                      refine xg_aload_n hX 5 dM_edit_238 rfl rfl ?_
                      refine xg_get hX (ci := 3) rfl hinM 0 rfl 0 (by decide) mt_324 rfl dM_edit_239 ?_
                      refine xg_iload hX 3 dM_edit_242 rfl ?_
                      refine xg_iald hX 1 (zn + 1) rfl (by omega) (by decide) dM_edit_244 ?_
                      refine xg_goto hX 249 dM_edit_245 (by decide) ?_
                      refine xg_istore hX (lv' := [(19, .int (nI (M (zn + 1)))), (14, .int (nI 1)), (18, .int (nI 1)), (15, .int (nI 1)), (13, .int (nI (zn + 1))), (17, .int (nI k)), (0, .ref mq), (4, .int b), (6, .int (bI (!hasD (rdD M (tn n) (tn a)) 0 200))), (7, .int (bI (blM M n a))), (8, .int (nI vf)), (9, .int (nI vi)), (10, .int (bI vs)), (11, .int (nI vl)), (12, .int (nI vc)), (16, .int (nI s_))]) dM_edit_249 (by decide) rfl ?_
                      refine xg_iload hX 2 dM_edit_251 rfl ?_
                      refine xg_if_eqN hX 259 (by omega) dM_edit_253 (by decide) (fun h => absurd h (by decide)) (fun _ => ?_)
                      refine xg_iincN hX (lv' := [(13, .int (nI (zn + 1 + 1))), (19, .int (nI (M (zn + 1)))), (14, .int (nI 1)), (18, .int (nI 1)), (15, .int (nI 1)), (17, .int (nI k)), (0, .ref mq), (4, .int b), (6, .int (bI (!hasD (rdD M (tn n) (tn a)) 0 200))), (7, .int (bI (blM M n a))), (8, .int (nI vf)), (9, .int (nI vi)), (10, .int (bI vs)), (11, .int (nI vl)), (12, .int (nI vc)), (16, .int (nI s_))]) (zn + 1 + 1) 4 dM_edit_256 rfl (xn_inc _) (by decide) rfl ?_
                      refine xg_iload hX 5 dM_edit_259 rfl ?_
                      refine xg_bipush hX (nI 16) dM_edit_261 (by decide) ?_
                      refine xg_idivN hX (by omega) (by omega) (by omega) dM_edit_263 ?_
                      refine xg_istore hX (lv' := [(20, .int (nI (k / 16))), (13, .int (nI (zn + 1 + 1))), (19, .int (nI (M (zn + 1)))), (14, .int (nI 1)), (18, .int (nI 1)), (15, .int (nI 1)), (17, .int (nI k)), (0, .ref mq), (4, .int b), (6, .int (bI (!hasD (rdD M (tn n) (tn a)) 0 200))), (7, .int (bI (blM M n a))), (8, .int (nI vf)), (9, .int (nI vi)), (10, .int (bI vs)), (11, .int (nI vl)), (12, .int (nI vc)), (16, .int (nI s_))]) dM_edit_264 (by decide) rfl ?_
                      refine xg_iload hX 6 dM_edit_266 rfl ?_
                      refine xg_bipush hX (nI 16) dM_edit_268 (by decide) ?_
                      refine xg_iremN hX (by omega) (by omega) (by omega) dM_edit_270 ?_
                      refine xg_istore hX (lv' := [(21, .int (nI (k % 16))), (20, .int (nI (k / 16))), (13, .int (nI (zn + 1 + 1))), (19, .int (nI (M (zn + 1)))), (14, .int (nI 1)), (18, .int (nI 1)), (15, .int (nI 1)), (17, .int (nI k)), (0, .ref mq), (4, .int b), (6, .int (bI (!hasD (rdD M (tn n) (tn a)) 0 200))), (7, .int (bI (blM M n a))), (8, .int (nI vf)), (9, .int (nI vi)), (10, .int (bI vs)), (11, .int (nI vl)), (12, .int (nI vc)), (16, .int (nI s_))]) dM_edit_271 (by decide) rfl ?_
                      refine xg_iload hX 1 dM_edit_273 rfl ?_
                      refine xg_bipush hX (nI 8) dM_edit_275 (by decide) ?_
                      refine xg_icmp_ltN hX 296 (by omega) (by omega) dM_edit_277 (by decide) (fun hh_495 => ?_) (fun hh_495 => absurd hh_495 (by omega))
                      refine xg_iconst hX (nI 0) dM_edit_296 (by decide) ?_
                      refine xg_istore hX (lv' := [(22, .int (nI 0)), (21, .int (nI (k % 16))), (20, .int (nI (k / 16))), (13, .int (nI (zn + 1 + 1))), (19, .int (nI (M (zn + 1)))), (14, .int (nI 1)), (18, .int (nI 1)), (15, .int (nI 1)), (17, .int (nI k)), (0, .ref mq), (4, .int b), (6, .int (bI (!hasD (rdD M (tn n) (tn a)) 0 200))), (7, .int (bI (blM M n a))), (8, .int (nI vf)), (9, .int (nI vi)), (10, .int (bI vs)), (11, .int (nI vl)), (12, .int (nI vc)), (16, .int (nI s_))]) dM_edit_297 (by decide) rfl ?_
                      refine xg_iload hX 5 dM_edit_299 rfl ?_
                      refine xg_if_eqN hX 320 (by omega) dM_edit_301 (by decide) (fun h => absurd h (by decide)) (fun _ => ?_)
                      refine xg_iload hX 8 dM_edit_304 rfl ?_
                      refine xg_bipush hX (nI 8) dM_edit_306 (by decide) ?_
                      refine xg_icmp_leN hX 316 (by omega) (by omega) dM_edit_308 (by decide) (fun hh_497 => ?_) (fun hh_497 => absurd hh_497 (by omega))
                      refine xg_iconst hX (nI 1) dM_edit_316 (by decide) ?_
                      refine xg_goto hX 321 dM_edit_317 (by decide) ?_
                      refine xg_istore hX (lv' := [(14, .int (nI 1)), (22, .int (nI 0)), (21, .int (nI (k % 16))), (20, .int (nI (k / 16))), (13, .int (nI (zn + 1 + 1))), (19, .int (nI (M (zn + 1)))), (18, .int (nI 1)), (15, .int (nI 1)), (17, .int (nI k)), (0, .ref mq), (4, .int b), (6, .int (bI (!hasD (rdD M (tn n) (tn a)) 0 200))), (7, .int (bI (blM M n a))), (8, .int (nI vf)), (9, .int (nI vi)), (10, .int (bI vs)), (11, .int (nI vl)), (12, .int (nI vc)), (16, .int (nI s_))]) dM_edit_321 (by decide) rfl ?_
                      refine xg_iload hX 0 dM_edit_323 rfl ?_
                      refine xg_if_eqN hX 337 (by omega) dM_edit_325 (by decide) (fun h => absurd h (by decide)) (fun _ => ?_)
                      refine xg_iload hX 8 dM_edit_328 rfl ?_
                      refine xg_iconst hX (nI 1) dM_edit_330 (by decide) ?_
                      refine xg_icmp_neN hX 337 (by omega) (by omega) dM_edit_331 (by decide) (fun hh_499 => ?_) (fun hh_499 => absurd hh_499 (by omega))
                      refine xg_iload hX 0 dM_edit_337 rfl ?_
                      refine xg_if_eqN hX 351 (by omega) dM_edit_339 (by decide) (fun h => absurd h (by decide)) (fun _ => ?_)
                      refine xg_iload hX 8 dM_edit_342 rfl ?_
                      refine xg_iconst hX (nI 2) dM_edit_344 (by decide) ?_
                      refine xg_icmp_neN hX 351 (by omega) (by omega) dM_edit_345 (by decide) (fun hh_501 => ?_) (fun hh_501 => absurd hh_501 (by omega))
                      refine xg_iload hX 0 dM_edit_351 rfl ?_
                      refine xg_if_eqN hX 366 (by omega) dM_edit_353 (by decide) (fun h => absurd h (by decide)) (fun _ => ?_)
                      refine xg_iload hX 8 dM_edit_356 rfl ?_
                      refine xg_iconst hX (nI 4) dM_edit_358 (by decide) ?_
                      refine xg_icmp_neN hX 366 (by omega) (by omega) dM_edit_359 (by decide) (fun hh_503 => ?_) (fun hh_503 => absurd hh_503 (by omega))
                      refine xg_iload hX 0 dM_edit_366 rfl ?_
                      refine xg_if_eqN hX 386 (by omega) dM_edit_368 (by decide) (fun h => absurd h (by decide)) (fun _ => ?_)
                      refine xg_iload hX 8 dM_edit_371 rfl ?_
                      refine xg_iconst hX (nI 5) dM_edit_373 (by decide) ?_
                      refine xg_icmp_neN hX 386 (by omega) (by omega) dM_edit_374 (by decide) (fun hh_505 => ?_) (fun hh_505 => absurd hh_505 (by omega))
                      refine xg_iload hX 0 dM_edit_386 rfl ?_
                      refine xg_if_eqN hX 407 (by omega) dM_edit_388 (by decide) (fun h => absurd h (by decide)) (fun _ => ?_)
                      refine xg_iload hX 8 dM_edit_391 rfl ?_
                      refine xg_bipush hX (nI 6) dM_edit_393 (by decide) ?_
                      refine xg_icmp_neN hX 407 (by omega) (by omega) dM_edit_395 (by decide) (fun hh_507 => ?_) (fun hh_507 => absurd hh_507 (by omega))
                      refine xg_iload hX 0 dM_edit_407 rfl ?_
                      refine xg_if_eqN hX 473 (by omega) dM_edit_409 (by decide) (fun h => absurd h (by decide)) (fun _ => ?_)
                      refine xg_iload hX 8 dM_edit_412 rfl ?_
                      refine xg_bipush hX (nI 8) dM_edit_414 (by decide) ?_
                      refine xg_icmp_neN hX 473 (by omega) (by omega) dM_edit_416 (by decide) (fun hh_509 => ?_) (fun hh_509 => absurd hh_509 (by omega))
                      refine xg_iload hX 0 dM_edit_473 rfl ?_
                      refine xg_if_eqN hX 543 (by omega) dM_edit_475 (by decide) (fun h => absurd h (by decide)) (fun _ => ?_)
                      refine xg_iload hX 8 dM_edit_478 rfl ?_
                      refine xg_iconst hX (nI 3) dM_edit_480 (by decide) ?_
                      refine xg_icmp_eqN hX 491 (by omega) (by omega) dM_edit_481 (by decide) (fun hh_511 => absurd hh_511 (by omega)) (fun hh_511 => ?_)
                      refine xg_iload hX 8 dM_edit_484 rfl ?_
                      refine xg_bipush hX (nI 7) dM_edit_486 (by decide) ?_
                      refine xg_icmp_neN hX 543 (by omega) (by omega) dM_edit_488 (by decide) (fun hh_512 => absurd hh_512 (by omega)) (fun hh_512 => ?_)
                      refine xg_iload hX 17 dM_edit_491 rfl ?_
                      refine xg_bipush hX (nI 64) dM_edit_493 (by decide) ?_
                      refine xg_icmp_geN hX 502 (by omega) (by omega) dM_edit_495 (by decide) (fun h495 => ?_) (fun h495 => ?_)
                      ·
                        refine xg_iconst hX (nI 0) dM_edit_502 (by decide) ?_
                        refine xg_istore hX (lv' := [(14, .int (nI 0)), (22, .int (nI 0)), (21, .int (nI (k % 16))), (20, .int (nI (k / 16))), (13, .int (nI (zn + 1 + 1))), (19, .int (nI (M (zn + 1)))), (18, .int (nI 1)), (15, .int (nI 1)), (17, .int (nI k)), (0, .ref mq), (4, .int b), (6, .int (bI (!hasD (rdD M (tn n) (tn a)) 0 200))), (7, .int (bI (blM M n a))), (8, .int (nI vf)), (9, .int (nI vi)), (10, .int (bI vs)), (11, .int (nI vl)), (12, .int (nI vc)), (16, .int (nI s_))]) dM_edit_503 (by decide) rfl ?_
                        refine xg_iload hX 0 dM_edit_505 rfl ?_
                        refine xg_if_eqN hX 540 (by omega) dM_edit_507 (by decide) (fun _ => ?_) (fun h => absurd h (by decide))
                        refine xg_iincN hX (lv' := [(12, .int (nI (vc + 1))), (14, .int (nI 0)), (22, .int (nI 0)), (21, .int (nI (k % 16))), (20, .int (nI (k / 16))), (13, .int (nI (zn + 1 + 1))), (19, .int (nI (M (zn + 1)))), (18, .int (nI 1)), (15, .int (nI 1)), (17, .int (nI k)), (0, .ref mq), (4, .int b), (6, .int (bI (!hasD (rdD M (tn n) (tn a)) 0 200))), (7, .int (bI (blM M n a))), (8, .int (nI vf)), (9, .int (nI vi)), (10, .int (bI vs)), (11, .int (nI vl)), (16, .int (nI s_))]) (vc + 1) 17 dM_edit_540 rfl (xn_inc _) (by decide) rfl ?_
                        refine xg_iconst hX (nI 0) dM_edit_543 (by decide) ?_
                        refine xg_istore hX (lv' := [(23, .int (nI 0)), (12, .int (nI (vc + 1))), (14, .int (nI 0)), (22, .int (nI 0)), (21, .int (nI (k % 16))), (20, .int (nI (k / 16))), (13, .int (nI (zn + 1 + 1))), (19, .int (nI (M (zn + 1)))), (18, .int (nI 1)), (15, .int (nI 1)), (17, .int (nI k)), (0, .ref mq), (4, .int b), (6, .int (bI (!hasD (rdD M (tn n) (tn a)) 0 200))), (7, .int (bI (blM M n a))), (8, .int (nI vf)), (9, .int (nI vi)), (10, .int (bI vs)), (11, .int (nI vl)), (16, .int (nI s_))]) dM_edit_544 (by decide) rfl ?_
                        refine xg_iload hX 2 dM_edit_546 rfl ?_
                        refine xg_if_eqN hX 756 (by omega) dM_edit_548 (by decide) (fun _ => ?_) (fun h => absurd h (by decide))
                        refine xg_iincN hX (lv' := [(16, .int (nI (s_ + 1))), (23, .int (nI 0)), (12, .int (nI (vc + 1))), (14, .int (nI 0)), (22, .int (nI 0)), (21, .int (nI (k % 16))), (20, .int (nI (k / 16))), (13, .int (nI (zn + 1 + 1))), (19, .int (nI (M (zn + 1)))), (18, .int (nI 1)), (15, .int (nI 1)), (17, .int (nI k)), (0, .ref mq), (4, .int b), (6, .int (bI (!hasD (rdD M (tn n) (tn a)) 0 200))), (7, .int (bI (blM M n a))), (8, .int (nI vf)), (9, .int (nI vi)), (10, .int (bI vs)), (11, .int (nI vl))]) (s_ + 1) 19 dM_edit_756 rfl (xn_inc _) (by decide) rfl ?_
                        refine xg_goto hX 96 dM_edit_759 (by decide) ?_
                        refine xg_iload hX 10 dM_edit_96 rfl ?_
                        refine xg_if_eqN hX 762 (by omega) dM_edit_98 (by decide) (fun h => absurd h (by decide)) (fun _ => ?_)
                        refine xg_iload hX 3 dM_edit_101 rfl ?_
                        refine xg_if_eqN hX 762 (by omega) dM_edit_103 (by decide) (fun _ => ?_) (fun h => absurd h (by decide))
                        refine xg_iload hX 3 dM_edit_762 rfl ?_
                        refine xg_if_eqN hX 772 (by omega) dM_edit_764 (by decide) (fun _ => ?_) (fun h => absurd h (by decide))
                        refine xg_bipush hX ((-2)) dM_edit_772 (by decide) ?_
                        exact hret ((-2), M, rdD M (tn n) (tn a), Vw, men) _ _ _ rfl (show ((-2), M, men) = editM M men xw n a p b from (by have hF : edPM M xw n a p = none := (fo_no hq hnx (by omega) h168 ((ob_t (by omega) (nx_1 h218)).trans (px_7n hkk h495))); unfold editM; rw [if_pos h5, if_pos g1, hF])) dM_edit_774
                      ·
                        refine xg_iconst hX (nI 1) dM_edit_498 (by decide) ?_
                        refine xg_goto hX 503 dM_edit_499 (by decide) ?_
                        refine xg_istore hX (lv' := [(14, .int (nI 1)), (22, .int (nI 0)), (21, .int (nI (k % 16))), (20, .int (nI (k / 16))), (13, .int (nI (zn + 1 + 1))), (19, .int (nI (M (zn + 1)))), (18, .int (nI 1)), (15, .int (nI 1)), (17, .int (nI k)), (0, .ref mq), (4, .int b), (6, .int (bI (!hasD (rdD M (tn n) (tn a)) 0 200))), (7, .int (bI (blM M n a))), (8, .int (nI vf)), (9, .int (nI vi)), (10, .int (bI vs)), (11, .int (nI vl)), (12, .int (nI vc)), (16, .int (nI s_))]) dM_edit_503 (by decide) rfl ?_
                        refine xg_iload hX 0 dM_edit_505 rfl ?_
                        refine xg_if_eqN hX 540 (by omega) dM_edit_507 (by decide) (fun h => absurd h (by decide)) (fun _ => ?_)
                        refine xg_aload_n hX 9 dM_edit_510 rfl rfl ?_
                        refine xg_get hX (ci := 3) rfl hinM 0 rfl 8 (by decide) mt_332 rfl dM_edit_511 ?_
                        refine xg_iload hX 17 dM_edit_514 rfl ?_
                        refine xg_iload hX 8 dM_edit_516 rfl ?_
                        refine xg_iconst hX (nI 3) dM_edit_518 (by decide) ?_
                        refine xg_icmp_neN hX 527 (by omega) (by omega) dM_edit_519 (by decide) (fun hh_519 => ?_) (fun hh_519 => absurd hh_519 (by omega))
                        refine xg_iload hX 15 dM_edit_527 rfl ?_
                        refine xg_if_eqB hX 537 dM_edit_529 (by decide) (fun h529 => ?_) (fun h529 => ?_)
                        ·
                          refine xg_iload hX 13 dM_edit_537 rfl ?_
                          refine xg_iast hX (ws' := [(mq, .inr (3, [.ref mm, .ref m1, .ref m2, .ref mo, .ref mr, .int (bI o1), .int (bI o2), .int (bI oo), .ref mw, .int (bI men)])), (mm, .inl (cI, 256, .inl (nf M))), (m1, .inl (cI, 200, .inl (nf (rdD M (tn n) (tn a))))), (mw, .inl (cI, 80, .inl (nf (up Vw vc vf))))]) 3 vc vf rfl (by omega) (by decide) rfl dM_edit_539 ?_
                          refine xg_iincN hX (lv' := [(12, .int (nI (vc + 1))), (14, .int (nI 1)), (22, .int (nI 0)), (21, .int (nI (k % 16))), (20, .int (nI (k / 16))), (13, .int (nI (zn + 1 + 1))), (19, .int (nI (M (zn + 1)))), (18, .int (nI 1)), (15, .int (nI 1)), (17, .int (nI k)), (0, .ref mq), (4, .int b), (6, .int (bI (!hasD (rdD M (tn n) (tn a)) 0 200))), (7, .int (bI (blM M n a))), (8, .int (nI vf)), (9, .int (nI vi)), (10, .int (bI vs)), (11, .int (nI vl)), (16, .int (nI s_))]) (vc + 1) 17 dM_edit_540 rfl (xn_inc _) (by decide) rfl ?_
                          refine xg_iconst hX (nI 0) dM_edit_543 (by decide) ?_
                          refine xg_istore hX (lv' := [(23, .int (nI 0)), (12, .int (nI (vc + 1))), (14, .int (nI 1)), (22, .int (nI 0)), (21, .int (nI (k % 16))), (20, .int (nI (k / 16))), (13, .int (nI (zn + 1 + 1))), (19, .int (nI (M (zn + 1)))), (18, .int (nI 1)), (15, .int (nI 1)), (17, .int (nI k)), (0, .ref mq), (4, .int b), (6, .int (bI (!hasD (rdD M (tn n) (tn a)) 0 200))), (7, .int (bI (blM M n a))), (8, .int (nI vf)), (9, .int (nI vi)), (10, .int (bI vs)), (11, .int (nI vl)), (16, .int (nI s_))]) dM_edit_544 (by decide) rfl ?_
                          refine xg_iload hX 2 dM_edit_546 rfl ?_
                          refine xg_if_eqN hX 756 (by omega) dM_edit_548 (by decide) (fun h => absurd h (by decide)) (fun _ => ?_)
                          refine xg_iload hX 3 dM_edit_551 rfl ?_
                          refine xg_if_eqN hX 756 (by omega) dM_edit_553 (by decide) (fun _ => ?_) (fun h => absurd h (by decide))
                          refine xg_iincN hX (lv' := [(16, .int (nI (s_ + 1))), (23, .int (nI 0)), (12, .int (nI (vc + 1))), (14, .int (nI 1)), (22, .int (nI 0)), (21, .int (nI (k % 16))), (20, .int (nI (k / 16))), (13, .int (nI (zn + 1 + 1))), (19, .int (nI (M (zn + 1)))), (18, .int (nI 1)), (15, .int (nI 1)), (17, .int (nI k)), (0, .ref mq), (4, .int b), (6, .int (bI (!hasD (rdD M (tn n) (tn a)) 0 200))), (7, .int (bI (blM M n a))), (8, .int (nI vf)), (9, .int (nI vi)), (10, .int (bI vs)), (11, .int (nI vl))]) (s_ + 1) 19 dM_edit_756 rfl (xn_inc _) (by decide) rfl ?_
                          refine xg_goto hX 96 dM_edit_759 (by decide) ?_
                          refine xg_lv hX (lv' := [(0, .ref mq), (4, .int b), (6, .int (bI (!hasD (rdD M (tn n) (tn a)) 0 200))), (7, .int (bI (blM M n a))), (8, .int (nI vf)), (9, .int (nI vi)), (10, .int (bI vs)), (11, .int (nI vl)), (12, .int (nI (vc + 1))), (13, .int (nI (zn + 1 + 1))), (14, .int (nI 1)), (15, .int (nI 1)), (16, .int (nI (s_ + 1)))]) [12, 13, 14, 15, 16, 17, 18, 19, 2, 7, 3, 10, 0] rfl ?_
                          exact ih5 (s_ + 1) (nI (zn + 1 + 1)) (up Vw vc vf) (vc + 1) vl vs vf vi (by omega) (by omega) (by omega) (by omega) (fo_st2 hq hnx (by omega) h168 (tk_t (by omega)) ((ob_t (by omega) (nx_1 h218)).trans (px_7b hkk h529 h495))) (by omega)
                        ·
                          refine xg_iload hX 5 dM_edit_532 rfl ?_
                          refine xg_goto hX 539 dM_edit_534 (by decide) ?_
                          refine xg_iast hX (ws' := [(mq, .inr (3, [.ref mm, .ref m1, .ref m2, .ref mo, .ref mr, .int (bI o1), .int (bI o2), .int (bI oo), .ref mw, .int (bI men)])), (mm, .inl (cI, 256, .inl (nf M))), (m1, .inl (cI, 200, .inl (nf (rdD M (tn n) (tn a))))), (mw, .inl (cI, 80, .inl (nf (up Vw vc (M (zn + 1))))))]) 3 vc (M (zn + 1)) rfl (by omega) (by decide) rfl dM_edit_539 ?_
                          refine xg_iincN hX (lv' := [(12, .int (nI (vc + 1))), (14, .int (nI 1)), (22, .int (nI 0)), (21, .int (nI (k % 16))), (20, .int (nI (k / 16))), (13, .int (nI (zn + 1 + 1))), (19, .int (nI (M (zn + 1)))), (18, .int (nI 1)), (15, .int (nI 1)), (17, .int (nI k)), (0, .ref mq), (4, .int b), (6, .int (bI (!hasD (rdD M (tn n) (tn a)) 0 200))), (7, .int (bI (blM M n a))), (8, .int (nI vf)), (9, .int (nI vi)), (10, .int (bI vs)), (11, .int (nI vl)), (16, .int (nI s_))]) (vc + 1) 17 dM_edit_540 rfl (xn_inc _) (by decide) rfl ?_
                          refine xg_iconst hX (nI 0) dM_edit_543 (by decide) ?_
                          refine xg_istore hX (lv' := [(23, .int (nI 0)), (12, .int (nI (vc + 1))), (14, .int (nI 1)), (22, .int (nI 0)), (21, .int (nI (k % 16))), (20, .int (nI (k / 16))), (13, .int (nI (zn + 1 + 1))), (19, .int (nI (M (zn + 1)))), (18, .int (nI 1)), (15, .int (nI 1)), (17, .int (nI k)), (0, .ref mq), (4, .int b), (6, .int (bI (!hasD (rdD M (tn n) (tn a)) 0 200))), (7, .int (bI (blM M n a))), (8, .int (nI vf)), (9, .int (nI vi)), (10, .int (bI vs)), (11, .int (nI vl)), (16, .int (nI s_))]) dM_edit_544 (by decide) rfl ?_
                          refine xg_iload hX 2 dM_edit_546 rfl ?_
                          refine xg_if_eqN hX 756 (by omega) dM_edit_548 (by decide) (fun h => absurd h (by decide)) (fun _ => ?_)
                          refine xg_iload hX 3 dM_edit_551 rfl ?_
                          refine xg_if_eqN hX 756 (by omega) dM_edit_553 (by decide) (fun _ => ?_) (fun h => absurd h (by decide))
                          refine xg_iincN hX (lv' := [(16, .int (nI (s_ + 1))), (23, .int (nI 0)), (12, .int (nI (vc + 1))), (14, .int (nI 1)), (22, .int (nI 0)), (21, .int (nI (k % 16))), (20, .int (nI (k / 16))), (13, .int (nI (zn + 1 + 1))), (19, .int (nI (M (zn + 1)))), (18, .int (nI 1)), (15, .int (nI 1)), (17, .int (nI k)), (0, .ref mq), (4, .int b), (6, .int (bI (!hasD (rdD M (tn n) (tn a)) 0 200))), (7, .int (bI (blM M n a))), (8, .int (nI vf)), (9, .int (nI vi)), (10, .int (bI vs)), (11, .int (nI vl))]) (s_ + 1) 19 dM_edit_756 rfl (xn_inc _) (by decide) rfl ?_
                          refine xg_goto hX 96 dM_edit_759 (by decide) ?_
                          refine xg_lv hX (lv' := [(0, .ref mq), (4, .int b), (6, .int (bI (!hasD (rdD M (tn n) (tn a)) 0 200))), (7, .int (bI (blM M n a))), (8, .int (nI vf)), (9, .int (nI vi)), (10, .int (bI vs)), (11, .int (nI vl)), (12, .int (nI (vc + 1))), (13, .int (nI (zn + 1 + 1))), (14, .int (nI 1)), (15, .int (nI 1)), (16, .int (nI (s_ + 1)))]) [12, 13, 14, 15, 16, 17, 18, 19, 2, 7, 3, 10, 0] rfl ?_
                          exact ih5 (s_ + 1) (nI (zn + 1 + 1)) (up Vw vc (M (zn + 1))) (vc + 1) vl vs vf vi (by omega) (by omega) (by omega) (by omega) (fo_st2 hq hnx (by omega) h168 (tk_t (by omega)) ((ob_t (by omega) (nx_1 h218)).trans (px_7 hkk h529 h495))) (by omega)
                  ·
                    refine xg_iload hX 0 dM_edit_171 rfl ?_
                    refine xg_if_neN hX 180 (by omega) dM_edit_173 (by decide) (fun _ => ?_) (fun h => absurd h (by decide))
                    refine xg_iconst hX (nI 0) dM_edit_180 (by decide) ?_
                    refine xg_istore hX (lv' := [(14, .int (nI 0)), (15, .int (nI 1)), (13, .int (nI (zn + 1))), (17, .int (nI k)), (0, .ref mq), (4, .int b), (6, .int (bI (!hasD (rdD M (tn n) (tn a)) 0 200))), (7, .int (bI (blM M n a))), (8, .int (nI vf)), (9, .int (nI vi)), (10, .int (bI vs)), (11, .int (nI vl)), (12, .int (nI vc)), (16, .int (nI s_))]) dM_edit_181 (by decide) rfl ?_
                    refine xg_iload hX 3 dM_edit_183 rfl ?_
                    refine xg_iconst hX (nI 4) dM_edit_185 (by decide) ?_
                    refine xg_icmp_ltN hX 200 (by omega) (by omega) dM_edit_186 (by decide) (fun hh_525 => absurd hh_525 (by omega)) (fun hh_525 => ?_)
                    refine xg_iload hX 3 dM_edit_189 rfl ?_
                    refine xg_bipush hX (nI 8) dM_edit_191 (by decide) ?_
                    refine xg_icmp_gtN hX 200 (by omega) (by omega) dM_edit_193 (by decide) (fun hh_526 => absurd hh_526 (by omega)) (fun hh_526 => ?_)
                    refine xg_iconst hX (nI 1) dM_edit_196 (by decide) ?_
                    refine xg_goto hX 201 dM_edit_197 (by decide) ?_
                    refine xg_istore hX (lv' := [(18, .int (nI 1)), (14, .int (nI 0)), (15, .int (nI 1)), (13, .int (nI (zn + 1))), (17, .int (nI k)), (0, .ref mq), (4, .int b), (6, .int (bI (!hasD (rdD M (tn n) (tn a)) 0 200))), (7, .int (bI (blM M n a))), (8, .int (nI vf)), (9, .int (nI vi)), (10, .int (bI vs)), (11, .int (nI vl)), (12, .int (nI vc)), (16, .int (nI s_))]) dM_edit_201 (by decide) rfl ?_
                    refine xg_iload hX 0 dM_edit_203 rfl ?_
                    refine xg_if_eqN hX 228 (by omega) dM_edit_205 (by decide) (fun h => absurd h (by decide)) (fun _ => ?_)
                    refine xg_iload hX 1 dM_edit_208 rfl ?_
                    refine xg_if_eqN hX 225 (by omega) dM_edit_210 (by decide) (fun _ => ?_) (fun h => absurd h (by decide))
                    refine xg_iconst hX (nI 0) dM_edit_225 (by decide) ?_
                    refine xg_istore hX (lv' := [(14, .int (nI 0)), (18, .int (nI 1)), (15, .int (nI 1)), (13, .int (nI (zn + 1))), (17, .int (nI k)), (0, .ref mq), (4, .int b), (6, .int (bI (!hasD (rdD M (tn n) (tn a)) 0 200))), (7, .int (bI (blM M n a))), (8, .int (nI vf)), (9, .int (nI vi)), (10, .int (bI vs)), (11, .int (nI vl)), (12, .int (nI vc)), (16, .int (nI s_))]) dM_edit_226 (by decide) rfl ?_
                    refine xg_iload hX 1 dM_edit_228 rfl ?_
                    refine xg_if_eqN hX 248 (by omega) dM_edit_230 (by decide) (fun h => absurd h (by decide)) (fun _ => ?_)
                    refine xg_iload hX 0 dM_edit_233 rfl ?_
                    refine xg_if_eqN hX 248 (by omega) dM_edit_235 (by decide) (fun _ => ?_) (fun h => absurd h (by decide))
                    refine xg_iconst hX (nI 0) dM_edit_248 (by decide) ?_
                    refine xg_istore hX (lv' := [(19, .int (nI 0)), (14, .int (nI 0)), (18, .int (nI 1)), (15, .int (nI 1)), (13, .int (nI (zn + 1))), (17, .int (nI k)), (0, .ref mq), (4, .int b), (6, .int (bI (!hasD (rdD M (tn n) (tn a)) 0 200))), (7, .int (bI (blM M n a))), (8, .int (nI vf)), (9, .int (nI vi)), (10, .int (bI vs)), (11, .int (nI vl)), (12, .int (nI vc)), (16, .int (nI s_))]) dM_edit_249 (by decide) rfl ?_
                    refine xg_iload hX 2 dM_edit_251 rfl ?_
                    refine xg_if_eqN hX 259 (by omega) dM_edit_253 (by decide) (fun h => absurd h (by decide)) (fun _ => ?_)
                    refine xg_iincN hX (lv' := [(13, .int (nI (zn + 1 + 1))), (19, .int (nI 0)), (14, .int (nI 0)), (18, .int (nI 1)), (15, .int (nI 1)), (17, .int (nI k)), (0, .ref mq), (4, .int b), (6, .int (bI (!hasD (rdD M (tn n) (tn a)) 0 200))), (7, .int (bI (blM M n a))), (8, .int (nI vf)), (9, .int (nI vi)), (10, .int (bI vs)), (11, .int (nI vl)), (12, .int (nI vc)), (16, .int (nI s_))]) (zn + 1 + 1) 4 dM_edit_256 rfl (xn_inc _) (by decide) rfl ?_
                    refine xg_iload hX 5 dM_edit_259 rfl ?_
                    refine xg_bipush hX (nI 16) dM_edit_261 (by decide) ?_
                    refine xg_idivN hX (by omega) (by omega) (by omega) dM_edit_263 ?_
                    refine xg_istore hX (lv' := [(20, .int (nI (k / 16))), (13, .int (nI (zn + 1 + 1))), (19, .int (nI 0)), (14, .int (nI 0)), (18, .int (nI 1)), (15, .int (nI 1)), (17, .int (nI k)), (0, .ref mq), (4, .int b), (6, .int (bI (!hasD (rdD M (tn n) (tn a)) 0 200))), (7, .int (bI (blM M n a))), (8, .int (nI vf)), (9, .int (nI vi)), (10, .int (bI vs)), (11, .int (nI vl)), (12, .int (nI vc)), (16, .int (nI s_))]) dM_edit_264 (by decide) rfl ?_
                    refine xg_iload hX 6 dM_edit_266 rfl ?_
                    refine xg_bipush hX (nI 16) dM_edit_268 (by decide) ?_
                    refine xg_iremN hX (by omega) (by omega) (by omega) dM_edit_270 ?_
                    refine xg_istore hX (lv' := [(21, .int (nI (k % 16))), (20, .int (nI (k / 16))), (13, .int (nI (zn + 1 + 1))), (19, .int (nI 0)), (14, .int (nI 0)), (18, .int (nI 1)), (15, .int (nI 1)), (17, .int (nI k)), (0, .ref mq), (4, .int b), (6, .int (bI (!hasD (rdD M (tn n) (tn a)) 0 200))), (7, .int (bI (blM M n a))), (8, .int (nI vf)), (9, .int (nI vi)), (10, .int (bI vs)), (11, .int (nI vl)), (12, .int (nI vc)), (16, .int (nI s_))]) dM_edit_271 (by decide) rfl ?_
                    refine xg_iload hX 1 dM_edit_273 rfl ?_
                    refine xg_bipush hX (nI 8) dM_edit_275 (by decide) ?_
                    refine xg_icmp_ltN hX 296 (by omega) (by omega) dM_edit_277 (by decide) (fun hh_532 => ?_) (fun hh_532 => absurd hh_532 (by omega))
                    refine xg_iconst hX (nI 0) dM_edit_296 (by decide) ?_
                    refine xg_istore hX (lv' := [(22, .int (nI 0)), (21, .int (nI (k % 16))), (20, .int (nI (k / 16))), (13, .int (nI (zn + 1 + 1))), (19, .int (nI 0)), (14, .int (nI 0)), (18, .int (nI 1)), (15, .int (nI 1)), (17, .int (nI k)), (0, .ref mq), (4, .int b), (6, .int (bI (!hasD (rdD M (tn n) (tn a)) 0 200))), (7, .int (bI (blM M n a))), (8, .int (nI vf)), (9, .int (nI vi)), (10, .int (bI vs)), (11, .int (nI vl)), (12, .int (nI vc)), (16, .int (nI s_))]) dM_edit_297 (by decide) rfl ?_
                    refine xg_iload hX 5 dM_edit_299 rfl ?_
                    refine xg_if_eqN hX 320 (by omega) dM_edit_301 (by decide) (fun _ => ?_) (fun h => absurd h (by decide))
                    refine xg_iconst hX (nI 0) dM_edit_320 (by decide) ?_
                    refine xg_istore hX (lv' := [(14, .int (nI 0)), (22, .int (nI 0)), (21, .int (nI (k % 16))), (20, .int (nI (k / 16))), (13, .int (nI (zn + 1 + 1))), (19, .int (nI 0)), (18, .int (nI 1)), (15, .int (nI 1)), (17, .int (nI k)), (0, .ref mq), (4, .int b), (6, .int (bI (!hasD (rdD M (tn n) (tn a)) 0 200))), (7, .int (bI (blM M n a))), (8, .int (nI vf)), (9, .int (nI vi)), (10, .int (bI vs)), (11, .int (nI vl)), (12, .int (nI vc)), (16, .int (nI s_))]) dM_edit_321 (by decide) rfl ?_
                    refine xg_iload hX 0 dM_edit_323 rfl ?_
                    refine xg_if_eqN hX 337 (by omega) dM_edit_325 (by decide) (fun _ => ?_) (fun h => absurd h (by decide))
                    refine xg_iload hX 0 dM_edit_337 rfl ?_
                    refine xg_if_eqN hX 351 (by omega) dM_edit_339 (by decide) (fun _ => ?_) (fun h => absurd h (by decide))
                    refine xg_iload hX 0 dM_edit_351 rfl ?_
                    refine xg_if_eqN hX 366 (by omega) dM_edit_353 (by decide) (fun _ => ?_) (fun h => absurd h (by decide))
                    refine xg_iload hX 0 dM_edit_366 rfl ?_
                    refine xg_if_eqN hX 386 (by omega) dM_edit_368 (by decide) (fun _ => ?_) (fun h => absurd h (by decide))
                    refine xg_iload hX 0 dM_edit_386 rfl ?_
                    refine xg_if_eqN hX 407 (by omega) dM_edit_388 (by decide) (fun _ => ?_) (fun h => absurd h (by decide))
                    refine xg_iload hX 0 dM_edit_407 rfl ?_
                    refine xg_if_eqN hX 473 (by omega) dM_edit_409 (by decide) (fun _ => ?_) (fun h => absurd h (by decide))
                    refine xg_iload hX 0 dM_edit_473 rfl ?_
                    refine xg_if_eqN hX 543 (by omega) dM_edit_475 (by decide) (fun _ => ?_) (fun h => absurd h (by decide))
                    refine xg_iconst hX (nI 0) dM_edit_543 (by decide) ?_
                    refine xg_istore hX (lv' := [(23, .int (nI 0)), (14, .int (nI 0)), (22, .int (nI 0)), (21, .int (nI (k % 16))), (20, .int (nI (k / 16))), (13, .int (nI (zn + 1 + 1))), (19, .int (nI 0)), (18, .int (nI 1)), (15, .int (nI 1)), (17, .int (nI k)), (0, .ref mq), (4, .int b), (6, .int (bI (!hasD (rdD M (tn n) (tn a)) 0 200))), (7, .int (bI (blM M n a))), (8, .int (nI vf)), (9, .int (nI vi)), (10, .int (bI vs)), (11, .int (nI vl)), (12, .int (nI vc)), (16, .int (nI s_))]) dM_edit_544 (by decide) rfl ?_
                    refine xg_iload hX 1 dM_edit_546 rfl ?_
                    refine xg_if_eqN hX 756 (by omega) dM_edit_548 (by decide) (fun _ => ?_) (fun h => absurd h (by decide))
                    refine xg_iincN hX (lv' := [(16, .int (nI (s_ + 1))), (23, .int (nI 0)), (14, .int (nI 0)), (22, .int (nI 0)), (21, .int (nI (k % 16))), (20, .int (nI (k / 16))), (13, .int (nI (zn + 1 + 1))), (19, .int (nI 0)), (18, .int (nI 1)), (15, .int (nI 1)), (17, .int (nI k)), (0, .ref mq), (4, .int b), (6, .int (bI (!hasD (rdD M (tn n) (tn a)) 0 200))), (7, .int (bI (blM M n a))), (8, .int (nI vf)), (9, .int (nI vi)), (10, .int (bI vs)), (11, .int (nI vl)), (12, .int (nI vc))]) (s_ + 1) 19 dM_edit_756 rfl (xn_inc _) (by decide) rfl ?_
                    refine xg_goto hX 96 dM_edit_759 (by decide) ?_
                    refine xg_iload hX 9 dM_edit_96 rfl ?_
                    refine xg_if_eqN hX 762 (by omega) dM_edit_98 (by decide) (fun h => absurd h (by decide)) (fun _ => ?_)
                    refine xg_iload hX 2 dM_edit_101 rfl ?_
                    refine xg_if_eqN hX 762 (by omega) dM_edit_103 (by decide) (fun _ => ?_) (fun h => absurd h (by decide))
                    refine xg_iload hX 2 dM_edit_762 rfl ?_
                    refine xg_if_eqN hX 772 (by omega) dM_edit_764 (by decide) (fun _ => ?_) (fun h => absurd h (by decide))
                    refine xg_bipush hX ((-2)) dM_edit_772 (by decide) ?_
                    exact hret ((-2), M, rdD M (tn n) (tn a), Vw, men) _ _ _ rfl (show ((-2), M, men) = editM M men xw n a p b from (by have hF : edPM M xw n a p = none := (fo_la hq hnx (by omega) (by omega)); unfold editM; rw [if_pos h5, if_pos g1, hF])) dM_edit_774
                ·
                  refine xg_iload hX 9 dM_edit_106 rfl ?_
                  refine xg_if_ltN hX 123 (by omega) dM_edit_108 (by decide) ?_
                  refine xg_iload hX 9 dM_edit_111 rfl ?_
                  refine xg_sipush hX (nI 256) dM_edit_113 (by decide) ?_
                  refine xg_icmp_geN hX 123 (by omega) (by omega) dM_edit_116 (by decide) (fun h116 => absurd h116 (by omega)) (fun h116 => ?_)
                  refine xg_iconst hX (nI 1) dM_edit_119 (by decide) ?_
                  refine xg_goto hX 124 dM_edit_120 (by decide) ?_
                  refine xg_istore hX (lv' := [(14, .int (nI 1)), (0, .ref mq), (4, .int b), (6, .int (bI (!hasD (rdD M (tn n) (tn a)) 0 200))), (7, .int (bI (blM M n a))), (8, .int (nI vf)), (9, .int (nI vi)), (10, .int (bI vs)), (11, .int (nI vl)), (12, .int (nI vc)), (13, .int (nI zn)), (15, .int (nI 1)), (16, .int (nI s_))]) dM_edit_124 (by decide) rfl ?_
                  refine xg_iload hX 0 dM_edit_126 rfl ?_
                  refine xg_if_eqN hX 141 (by omega) dM_edit_128 (by decide) (fun h => absurd h (by decide)) (fun _ => ?_)
                  refine xg_aload_n hX 1 dM_edit_131 rfl rfl ?_
                  refine xg_get hX (ci := 3) rfl hinM 0 rfl 0 (by decide) mt_324 rfl dM_edit_132 ?_
                  refine xg_iload hX 10 dM_edit_135 rfl ?_
                  refine xg_iald hX 1 zn rfl (by omega) (by decide) dM_edit_137 ?_
                  refine xg_top (nI k) (by rw [hk4]) ?_
                  refine xg_goto hX 142 dM_edit_138 (by decide) ?_
                  refine xg_istore hX (lv' := [(17, .int (nI k)), (14, .int (nI 1)), (0, .ref mq), (4, .int b), (6, .int (bI (!hasD (rdD M (tn n) (tn a)) 0 200))), (7, .int (bI (blM M n a))), (8, .int (nI vf)), (9, .int (nI vi)), (10, .int (bI vs)), (11, .int (nI vl)), (12, .int (nI vc)), (13, .int (nI zn)), (15, .int (nI 1)), (16, .int (nI s_))]) dM_edit_142 (by decide) rfl ?_
                  refine xg_iincN hX (lv' := [(13, .int (nI (zn + 1))), (17, .int (nI k)), (14, .int (nI 1)), (0, .ref mq), (4, .int b), (6, .int (bI (!hasD (rdD M (tn n) (tn a)) 0 200))), (7, .int (bI (blM M n a))), (8, .int (nI vf)), (9, .int (nI vi)), (10, .int (bI vs)), (11, .int (nI vl)), (12, .int (nI vc)), (15, .int (nI 1)), (16, .int (nI s_))]) (zn + 1) 11 dM_edit_144 rfl (xn_inc _) (by decide) rfl ?_
                  refine xg_iload hX 1 dM_edit_147 rfl ?_
                  refine xg_if_eqN hX 156 (by omega) dM_edit_149 (by decide) (fun hh_546 => absurd hh_546 (by omega)) (fun hh_546 => ?_)
                  refine xg_iconst hX (nI 1) dM_edit_152 (by decide) ?_
                  refine xg_goto hX 157 dM_edit_153 (by decide) ?_
                  refine xg_istore hX (lv' := [(15, .int (nI 1)), (13, .int (nI (zn + 1))), (17, .int (nI k)), (14, .int (nI 1)), (0, .ref mq), (4, .int b), (6, .int (bI (!hasD (rdD M (tn n) (tn a)) 0 200))), (7, .int (bI (blM M n a))), (8, .int (nI vf)), (9, .int (nI vi)), (10, .int (bI vs)), (11, .int (nI vl)), (12, .int (nI vc)), (16, .int (nI s_))]) dM_edit_157 (by decide) rfl ?_
                  refine xg_iload hX 3 dM_edit_159 rfl ?_
                  refine xg_if_eqN hX 180 (by omega) dM_edit_161 (by decide) (fun h => absurd h (by decide)) (fun _ => ?_)
                  refine xg_iload hX 13 dM_edit_164 rfl ?_
                  refine xg_bipush hX (nI 64) dM_edit_166 (by decide) ?_
                  refine xg_icmp_ltN hX 176 (by omega) (by omega) dM_edit_168 (by decide) (fun h168 => ?_) (fun h168 => ?_)
                  ·
                    refine xg_iconst hX (nI 1) dM_edit_176 (by decide) ?_
                    refine xg_goto hX 181 dM_edit_177 (by decide) ?_
                    refine xg_istore hX (lv' := [(14, .int (nI 1)), (15, .int (nI 1)), (13, .int (nI (zn + 1))), (17, .int (nI k)), (0, .ref mq), (4, .int b), (6, .int (bI (!hasD (rdD M (tn n) (tn a)) 0 200))), (7, .int (bI (blM M n a))), (8, .int (nI vf)), (9, .int (nI vi)), (10, .int (bI vs)), (11, .int (nI vl)), (12, .int (nI vc)), (16, .int (nI s_))]) dM_edit_181 (by decide) rfl ?_
                    refine xg_iload hX 3 dM_edit_183 rfl ?_
                    refine xg_iconst hX (nI 4) dM_edit_185 (by decide) ?_
                    refine xg_icmp_ltN hX 200 (by omega) (by omega) dM_edit_186 (by decide) (fun hh_548 => absurd hh_548 (by omega)) (fun hh_548 => ?_)
                    refine xg_iload hX 3 dM_edit_189 rfl ?_
                    refine xg_bipush hX (nI 8) dM_edit_191 (by decide) ?_
                    refine xg_icmp_gtN hX 200 (by omega) (by omega) dM_edit_193 (by decide) (fun hh_549 => absurd hh_549 (by omega)) (fun hh_549 => ?_)
                    refine xg_iconst hX (nI 1) dM_edit_196 (by decide) ?_
                    refine xg_goto hX 201 dM_edit_197 (by decide) ?_
                    refine xg_istore hX (lv' := [(18, .int (nI 1)), (14, .int (nI 1)), (15, .int (nI 1)), (13, .int (nI (zn + 1))), (17, .int (nI k)), (0, .ref mq), (4, .int b), (6, .int (bI (!hasD (rdD M (tn n) (tn a)) 0 200))), (7, .int (bI (blM M n a))), (8, .int (nI vf)), (9, .int (nI vi)), (10, .int (bI vs)), (11, .int (nI vl)), (12, .int (nI vc)), (16, .int (nI s_))]) dM_edit_201 (by decide) rfl ?_
                    refine xg_iload hX 0 dM_edit_203 rfl ?_
                    refine xg_if_eqN hX 228 (by omega) dM_edit_205 (by decide) (fun h => absurd h (by decide)) (fun _ => ?_)
                    refine xg_iload hX 1 dM_edit_208 rfl ?_
                    refine xg_if_eqN hX 225 (by omega) dM_edit_210 (by decide) (fun h => absurd h (by decide)) (fun _ => ?_)
                    refine xg_iload hX 3 dM_edit_213 rfl ?_
                    refine xg_sipush hX (nI 256) dM_edit_215 (by decide) ?_
                    refine xg_icmp_geN hX 225 (by omega) (by omega) dM_edit_218 (by decide) (fun h218 => ?_) (fun h218 => ?_)
                    ·
                      refine xg_iconst hX (nI 0) dM_edit_225 (by decide) ?_
                      refine xg_istore hX (lv' := [(14, .int (nI 0)), (18, .int (nI 1)), (15, .int (nI 1)), (13, .int (nI (zn + 1))), (17, .int (nI k)), (0, .ref mq), (4, .int b), (6, .int (bI (!hasD (rdD M (tn n) (tn a)) 0 200))), (7, .int (bI (blM M n a))), (8, .int (nI vf)), (9, .int (nI vi)), (10, .int (bI vs)), (11, .int (nI vl)), (12, .int (nI vc)), (16, .int (nI s_))]) dM_edit_226 (by decide) rfl ?_
                      refine xg_iload hX 1 dM_edit_228 rfl ?_
                      refine xg_if_eqN hX 248 (by omega) dM_edit_230 (by decide) (fun h => absurd h (by decide)) (fun _ => ?_)
                      refine xg_iload hX 0 dM_edit_233 rfl ?_
                      refine xg_if_eqN hX 248 (by omega) dM_edit_235 (by decide) (fun _ => ?_) (fun h => absurd h (by decide))
                      refine xg_iconst hX (nI 0) dM_edit_248 (by decide) ?_
                      refine xg_istore hX (lv' := [(19, .int (nI 0)), (14, .int (nI 0)), (18, .int (nI 1)), (15, .int (nI 1)), (13, .int (nI (zn + 1))), (17, .int (nI k)), (0, .ref mq), (4, .int b), (6, .int (bI (!hasD (rdD M (tn n) (tn a)) 0 200))), (7, .int (bI (blM M n a))), (8, .int (nI vf)), (9, .int (nI vi)), (10, .int (bI vs)), (11, .int (nI vl)), (12, .int (nI vc)), (16, .int (nI s_))]) dM_edit_249 (by decide) rfl ?_
                      refine xg_iload hX 2 dM_edit_251 rfl ?_
                      refine xg_if_eqN hX 259 (by omega) dM_edit_253 (by decide) (fun h => absurd h (by decide)) (fun _ => ?_)
                      refine xg_iincN hX (lv' := [(13, .int (nI (zn + 1 + 1))), (19, .int (nI 0)), (14, .int (nI 0)), (18, .int (nI 1)), (15, .int (nI 1)), (17, .int (nI k)), (0, .ref mq), (4, .int b), (6, .int (bI (!hasD (rdD M (tn n) (tn a)) 0 200))), (7, .int (bI (blM M n a))), (8, .int (nI vf)), (9, .int (nI vi)), (10, .int (bI vs)), (11, .int (nI vl)), (12, .int (nI vc)), (16, .int (nI s_))]) (zn + 1 + 1) 4 dM_edit_256 rfl (xn_inc _) (by decide) rfl ?_
                      refine xg_iload hX 5 dM_edit_259 rfl ?_
                      refine xg_bipush hX (nI 16) dM_edit_261 (by decide) ?_
                      refine xg_idivN hX (by omega) (by omega) (by omega) dM_edit_263 ?_
                      refine xg_istore hX (lv' := [(20, .int (nI (k / 16))), (13, .int (nI (zn + 1 + 1))), (19, .int (nI 0)), (14, .int (nI 0)), (18, .int (nI 1)), (15, .int (nI 1)), (17, .int (nI k)), (0, .ref mq), (4, .int b), (6, .int (bI (!hasD (rdD M (tn n) (tn a)) 0 200))), (7, .int (bI (blM M n a))), (8, .int (nI vf)), (9, .int (nI vi)), (10, .int (bI vs)), (11, .int (nI vl)), (12, .int (nI vc)), (16, .int (nI s_))]) dM_edit_264 (by decide) rfl ?_
                      refine xg_iload hX 6 dM_edit_266 rfl ?_
                      refine xg_bipush hX (nI 16) dM_edit_268 (by decide) ?_
                      refine xg_iremN hX (by omega) (by omega) (by omega) dM_edit_270 ?_
                      refine xg_istore hX (lv' := [(21, .int (nI (k % 16))), (20, .int (nI (k / 16))), (13, .int (nI (zn + 1 + 1))), (19, .int (nI 0)), (14, .int (nI 0)), (18, .int (nI 1)), (15, .int (nI 1)), (17, .int (nI k)), (0, .ref mq), (4, .int b), (6, .int (bI (!hasD (rdD M (tn n) (tn a)) 0 200))), (7, .int (bI (blM M n a))), (8, .int (nI vf)), (9, .int (nI vi)), (10, .int (bI vs)), (11, .int (nI vl)), (12, .int (nI vc)), (16, .int (nI s_))]) dM_edit_271 (by decide) rfl ?_
                      refine xg_iload hX 1 dM_edit_273 rfl ?_
                      refine xg_bipush hX (nI 8) dM_edit_275 (by decide) ?_
                      refine xg_icmp_ltN hX 296 (by omega) (by omega) dM_edit_277 (by decide) (fun hh_555 => ?_) (fun hh_555 => absurd hh_555 (by omega))
                      refine xg_iconst hX (nI 0) dM_edit_296 (by decide) ?_
                      refine xg_istore hX (lv' := [(22, .int (nI 0)), (21, .int (nI (k % 16))), (20, .int (nI (k / 16))), (13, .int (nI (zn + 1 + 1))), (19, .int (nI 0)), (14, .int (nI 0)), (18, .int (nI 1)), (15, .int (nI 1)), (17, .int (nI k)), (0, .ref mq), (4, .int b), (6, .int (bI (!hasD (rdD M (tn n) (tn a)) 0 200))), (7, .int (bI (blM M n a))), (8, .int (nI vf)), (9, .int (nI vi)), (10, .int (bI vs)), (11, .int (nI vl)), (12, .int (nI vc)), (16, .int (nI s_))]) dM_edit_297 (by decide) rfl ?_
                      refine xg_iload hX 5 dM_edit_299 rfl ?_
                      refine xg_if_eqN hX 320 (by omega) dM_edit_301 (by decide) (fun _ => ?_) (fun h => absurd h (by decide))
                      refine xg_iconst hX (nI 0) dM_edit_320 (by decide) ?_
                      refine xg_istore hX (lv' := [(14, .int (nI 0)), (22, .int (nI 0)), (21, .int (nI (k % 16))), (20, .int (nI (k / 16))), (13, .int (nI (zn + 1 + 1))), (19, .int (nI 0)), (18, .int (nI 1)), (15, .int (nI 1)), (17, .int (nI k)), (0, .ref mq), (4, .int b), (6, .int (bI (!hasD (rdD M (tn n) (tn a)) 0 200))), (7, .int (bI (blM M n a))), (8, .int (nI vf)), (9, .int (nI vi)), (10, .int (bI vs)), (11, .int (nI vl)), (12, .int (nI vc)), (16, .int (nI s_))]) dM_edit_321 (by decide) rfl ?_
                      refine xg_iload hX 0 dM_edit_323 rfl ?_
                      refine xg_if_eqN hX 337 (by omega) dM_edit_325 (by decide) (fun _ => ?_) (fun h => absurd h (by decide))
                      refine xg_iload hX 0 dM_edit_337 rfl ?_
                      refine xg_if_eqN hX 351 (by omega) dM_edit_339 (by decide) (fun _ => ?_) (fun h => absurd h (by decide))
                      refine xg_iload hX 0 dM_edit_351 rfl ?_
                      refine xg_if_eqN hX 366 (by omega) dM_edit_353 (by decide) (fun _ => ?_) (fun h => absurd h (by decide))
                      refine xg_iload hX 0 dM_edit_366 rfl ?_
                      refine xg_if_eqN hX 386 (by omega) dM_edit_368 (by decide) (fun _ => ?_) (fun h => absurd h (by decide))
                      refine xg_iload hX 0 dM_edit_386 rfl ?_
                      refine xg_if_eqN hX 407 (by omega) dM_edit_388 (by decide) (fun _ => ?_) (fun h => absurd h (by decide))
                      refine xg_iload hX 0 dM_edit_407 rfl ?_
                      refine xg_if_eqN hX 473 (by omega) dM_edit_409 (by decide) (fun _ => ?_) (fun h => absurd h (by decide))
                      refine xg_iload hX 0 dM_edit_473 rfl ?_
                      refine xg_if_eqN hX 543 (by omega) dM_edit_475 (by decide) (fun _ => ?_) (fun h => absurd h (by decide))
                      refine xg_iconst hX (nI 0) dM_edit_543 (by decide) ?_
                      refine xg_istore hX (lv' := [(23, .int (nI 0)), (14, .int (nI 0)), (22, .int (nI 0)), (21, .int (nI (k % 16))), (20, .int (nI (k / 16))), (13, .int (nI (zn + 1 + 1))), (19, .int (nI 0)), (18, .int (nI 1)), (15, .int (nI 1)), (17, .int (nI k)), (0, .ref mq), (4, .int b), (6, .int (bI (!hasD (rdD M (tn n) (tn a)) 0 200))), (7, .int (bI (blM M n a))), (8, .int (nI vf)), (9, .int (nI vi)), (10, .int (bI vs)), (11, .int (nI vl)), (12, .int (nI vc)), (16, .int (nI s_))]) dM_edit_544 (by decide) rfl ?_
                      refine xg_iload hX 1 dM_edit_546 rfl ?_
                      refine xg_if_eqN hX 756 (by omega) dM_edit_548 (by decide) (fun _ => ?_) (fun h => absurd h (by decide))
                      refine xg_iincN hX (lv' := [(16, .int (nI (s_ + 1))), (23, .int (nI 0)), (14, .int (nI 0)), (22, .int (nI 0)), (21, .int (nI (k % 16))), (20, .int (nI (k / 16))), (13, .int (nI (zn + 1 + 1))), (19, .int (nI 0)), (18, .int (nI 1)), (15, .int (nI 1)), (17, .int (nI k)), (0, .ref mq), (4, .int b), (6, .int (bI (!hasD (rdD M (tn n) (tn a)) 0 200))), (7, .int (bI (blM M n a))), (8, .int (nI vf)), (9, .int (nI vi)), (10, .int (bI vs)), (11, .int (nI vl)), (12, .int (nI vc))]) (s_ + 1) 19 dM_edit_756 rfl (xn_inc _) (by decide) rfl ?_
                      refine xg_goto hX 96 dM_edit_759 (by decide) ?_
                      refine xg_iload hX 9 dM_edit_96 rfl ?_
                      refine xg_if_eqN hX 762 (by omega) dM_edit_98 (by decide) (fun h => absurd h (by decide)) (fun _ => ?_)
                      refine xg_iload hX 2 dM_edit_101 rfl ?_
                      refine xg_if_eqN hX 762 (by omega) dM_edit_103 (by decide) (fun _ => ?_) (fun h => absurd h (by decide))
                      refine xg_iload hX 2 dM_edit_762 rfl ?_
                      refine xg_if_eqN hX 772 (by omega) dM_edit_764 (by decide) (fun _ => ?_) (fun h => absurd h (by decide))
                      refine xg_bipush hX ((-2)) dM_edit_772 (by decide) ?_
                      exact hret ((-2), M, rdD M (tn n) (tn a), Vw, men) _ _ _ rfl (show ((-2), M, men) = editM M men xw n a p b from (by have hF : edPM M xw n a p = none := (fo_no hq hnx (by omega) h168 (ob_tn (by omega) (nx_0 hzn h218))); unfold editM; rw [if_pos h5, if_pos g1, hF])) dM_edit_774
                    ·
                      refine xg_iconst hX (nI 1) dM_edit_221 (by decide) ?_
                      refine xg_goto hX 226 dM_edit_222 (by decide) ?_
                      refine xg_istore hX (lv' := [(14, .int (nI 1)), (18, .int (nI 1)), (15, .int (nI 1)), (13, .int (nI (zn + 1))), (17, .int (nI k)), (0, .ref mq), (4, .int b), (6, .int (bI (!hasD (rdD M (tn n) (tn a)) 0 200))), (7, .int (bI (blM M n a))), (8, .int (nI vf)), (9, .int (nI vi)), (10, .int (bI vs)), (11, .int (nI vl)), (12, .int (nI vc)), (16, .int (nI s_))]) dM_edit_226 (by decide) rfl ?_
                      refine xg_iload hX 1 dM_edit_228 rfl ?_
                      refine xg_if_eqN hX 248 (by omega) dM_edit_230 (by decide) (fun h => absurd h (by decide)) (fun _ => ?_)
                      refine xg_iload hX 0 dM_edit_233 rfl ?_
                      refine xg_if_eqN hX 248 (by omega) dM_edit_235 (by decide) (fun h => absurd h (by decide)) (fun _ => ?_)
                      refine xg_aload_n hX 5 dM_edit_238 rfl rfl ?_
                      refine xg_get hX (ci := 3) rfl hinM 0 rfl 0 (by decide) mt_324 rfl dM_edit_239 ?_
                      refine xg_iload hX 3 dM_edit_242 rfl ?_
                      refine xg_iald hX 1 (zn + 1) rfl (by omega) (by decide) dM_edit_244 ?_
                      refine xg_goto hX 249 dM_edit_245 (by decide) ?_
                      refine xg_istore hX (lv' := [(19, .int (nI (M (zn + 1)))), (14, .int (nI 1)), (18, .int (nI 1)), (15, .int (nI 1)), (13, .int (nI (zn + 1))), (17, .int (nI k)), (0, .ref mq), (4, .int b), (6, .int (bI (!hasD (rdD M (tn n) (tn a)) 0 200))), (7, .int (bI (blM M n a))), (8, .int (nI vf)), (9, .int (nI vi)), (10, .int (bI vs)), (11, .int (nI vl)), (12, .int (nI vc)), (16, .int (nI s_))]) dM_edit_249 (by decide) rfl ?_
                      refine xg_iload hX 2 dM_edit_251 rfl ?_
                      refine xg_if_eqN hX 259 (by omega) dM_edit_253 (by decide) (fun h => absurd h (by decide)) (fun _ => ?_)
                      refine xg_iincN hX (lv' := [(13, .int (nI (zn + 1 + 1))), (19, .int (nI (M (zn + 1)))), (14, .int (nI 1)), (18, .int (nI 1)), (15, .int (nI 1)), (17, .int (nI k)), (0, .ref mq), (4, .int b), (6, .int (bI (!hasD (rdD M (tn n) (tn a)) 0 200))), (7, .int (bI (blM M n a))), (8, .int (nI vf)), (9, .int (nI vi)), (10, .int (bI vs)), (11, .int (nI vl)), (12, .int (nI vc)), (16, .int (nI s_))]) (zn + 1 + 1) 4 dM_edit_256 rfl (xn_inc _) (by decide) rfl ?_
                      refine xg_iload hX 5 dM_edit_259 rfl ?_
                      refine xg_bipush hX (nI 16) dM_edit_261 (by decide) ?_
                      refine xg_idivN hX (by omega) (by omega) (by omega) dM_edit_263 ?_
                      refine xg_istore hX (lv' := [(20, .int (nI (k / 16))), (13, .int (nI (zn + 1 + 1))), (19, .int (nI (M (zn + 1)))), (14, .int (nI 1)), (18, .int (nI 1)), (15, .int (nI 1)), (17, .int (nI k)), (0, .ref mq), (4, .int b), (6, .int (bI (!hasD (rdD M (tn n) (tn a)) 0 200))), (7, .int (bI (blM M n a))), (8, .int (nI vf)), (9, .int (nI vi)), (10, .int (bI vs)), (11, .int (nI vl)), (12, .int (nI vc)), (16, .int (nI s_))]) dM_edit_264 (by decide) rfl ?_
                      refine xg_iload hX 6 dM_edit_266 rfl ?_
                      refine xg_bipush hX (nI 16) dM_edit_268 (by decide) ?_
                      refine xg_iremN hX (by omega) (by omega) (by omega) dM_edit_270 ?_
                      refine xg_istore hX (lv' := [(21, .int (nI (k % 16))), (20, .int (nI (k / 16))), (13, .int (nI (zn + 1 + 1))), (19, .int (nI (M (zn + 1)))), (14, .int (nI 1)), (18, .int (nI 1)), (15, .int (nI 1)), (17, .int (nI k)), (0, .ref mq), (4, .int b), (6, .int (bI (!hasD (rdD M (tn n) (tn a)) 0 200))), (7, .int (bI (blM M n a))), (8, .int (nI vf)), (9, .int (nI vi)), (10, .int (bI vs)), (11, .int (nI vl)), (12, .int (nI vc)), (16, .int (nI s_))]) dM_edit_271 (by decide) rfl ?_
                      refine xg_iload hX 1 dM_edit_273 rfl ?_
                      refine xg_bipush hX (nI 8) dM_edit_275 (by decide) ?_
                      refine xg_icmp_ltN hX 296 (by omega) (by omega) dM_edit_277 (by decide) (fun hh_571 => ?_) (fun hh_571 => absurd hh_571 (by omega))
                      refine xg_iconst hX (nI 0) dM_edit_296 (by decide) ?_
                      refine xg_istore hX (lv' := [(22, .int (nI 0)), (21, .int (nI (k % 16))), (20, .int (nI (k / 16))), (13, .int (nI (zn + 1 + 1))), (19, .int (nI (M (zn + 1)))), (14, .int (nI 1)), (18, .int (nI 1)), (15, .int (nI 1)), (17, .int (nI k)), (0, .ref mq), (4, .int b), (6, .int (bI (!hasD (rdD M (tn n) (tn a)) 0 200))), (7, .int (bI (blM M n a))), (8, .int (nI vf)), (9, .int (nI vi)), (10, .int (bI vs)), (11, .int (nI vl)), (12, .int (nI vc)), (16, .int (nI s_))]) dM_edit_297 (by decide) rfl ?_
                      refine xg_iload hX 5 dM_edit_299 rfl ?_
                      refine xg_if_eqN hX 320 (by omega) dM_edit_301 (by decide) (fun h => absurd h (by decide)) (fun _ => ?_)
                      refine xg_iload hX 8 dM_edit_304 rfl ?_
                      refine xg_bipush hX (nI 8) dM_edit_306 (by decide) ?_
                      refine xg_icmp_leN hX 316 (by omega) (by omega) dM_edit_308 (by decide) (fun hh_573 => ?_) (fun hh_573 => absurd hh_573 (by omega))
                      refine xg_iconst hX (nI 1) dM_edit_316 (by decide) ?_
                      refine xg_goto hX 321 dM_edit_317 (by decide) ?_
                      refine xg_istore hX (lv' := [(14, .int (nI 1)), (22, .int (nI 0)), (21, .int (nI (k % 16))), (20, .int (nI (k / 16))), (13, .int (nI (zn + 1 + 1))), (19, .int (nI (M (zn + 1)))), (18, .int (nI 1)), (15, .int (nI 1)), (17, .int (nI k)), (0, .ref mq), (4, .int b), (6, .int (bI (!hasD (rdD M (tn n) (tn a)) 0 200))), (7, .int (bI (blM M n a))), (8, .int (nI vf)), (9, .int (nI vi)), (10, .int (bI vs)), (11, .int (nI vl)), (12, .int (nI vc)), (16, .int (nI s_))]) dM_edit_321 (by decide) rfl ?_
                      refine xg_iload hX 0 dM_edit_323 rfl ?_
                      refine xg_if_eqN hX 337 (by omega) dM_edit_325 (by decide) (fun h => absurd h (by decide)) (fun _ => ?_)
                      refine xg_iload hX 8 dM_edit_328 rfl ?_
                      refine xg_iconst hX (nI 1) dM_edit_330 (by decide) ?_
                      refine xg_icmp_neN hX 337 (by omega) (by omega) dM_edit_331 (by decide) (fun hh_575 => ?_) (fun hh_575 => absurd hh_575 (by omega))
                      refine xg_iload hX 0 dM_edit_337 rfl ?_
                      refine xg_if_eqN hX 351 (by omega) dM_edit_339 (by decide) (fun h => absurd h (by decide)) (fun _ => ?_)
                      refine xg_iload hX 8 dM_edit_342 rfl ?_
                      refine xg_iconst hX (nI 2) dM_edit_344 (by decide) ?_
                      refine xg_icmp_neN hX 351 (by omega) (by omega) dM_edit_345 (by decide) (fun hh_577 => ?_) (fun hh_577 => absurd hh_577 (by omega))
                      refine xg_iload hX 0 dM_edit_351 rfl ?_
                      refine xg_if_eqN hX 366 (by omega) dM_edit_353 (by decide) (fun h => absurd h (by decide)) (fun _ => ?_)
                      refine xg_iload hX 8 dM_edit_356 rfl ?_
                      refine xg_iconst hX (nI 4) dM_edit_358 (by decide) ?_
                      refine xg_icmp_neN hX 366 (by omega) (by omega) dM_edit_359 (by decide) (fun hh_579 => ?_) (fun hh_579 => absurd hh_579 (by omega))
                      refine xg_iload hX 0 dM_edit_366 rfl ?_
                      refine xg_if_eqN hX 386 (by omega) dM_edit_368 (by decide) (fun h => absurd h (by decide)) (fun _ => ?_)
                      refine xg_iload hX 8 dM_edit_371 rfl ?_
                      refine xg_iconst hX (nI 5) dM_edit_373 (by decide) ?_
                      refine xg_icmp_neN hX 386 (by omega) (by omega) dM_edit_374 (by decide) (fun hh_581 => ?_) (fun hh_581 => absurd hh_581 (by omega))
                      refine xg_iload hX 0 dM_edit_386 rfl ?_
                      refine xg_if_eqN hX 407 (by omega) dM_edit_388 (by decide) (fun h => absurd h (by decide)) (fun _ => ?_)
                      refine xg_iload hX 8 dM_edit_391 rfl ?_
                      refine xg_bipush hX (nI 6) dM_edit_393 (by decide) ?_
                      refine xg_icmp_neN hX 407 (by omega) (by omega) dM_edit_395 (by decide) (fun hh_583 => ?_) (fun hh_583 => absurd hh_583 (by omega))
                      refine xg_iload hX 0 dM_edit_407 rfl ?_
                      refine xg_if_eqN hX 473 (by omega) dM_edit_409 (by decide) (fun h => absurd h (by decide)) (fun _ => ?_)
                      refine xg_iload hX 8 dM_edit_412 rfl ?_
                      refine xg_bipush hX (nI 8) dM_edit_414 (by decide) ?_
                      refine xg_icmp_neN hX 473 (by omega) (by omega) dM_edit_416 (by decide) (fun hh_585 => absurd hh_585 (by omega)) (fun hh_585 => ?_)
                      refine xg_iload hX 5 dM_edit_419 rfl ?_
                      refine xg_iload hX 17 dM_edit_421 rfl ?_
                      refine xg_icmp_gtN hX 430 (by omega) (by omega) dM_edit_423 (by decide) (fun h423 => ?_) (fun h423 => ?_)
                      ·
                        refine xg_iconst hX (nI 0) dM_edit_430 (by decide) ?_
                        refine xg_istore hX (lv' := [(14, .int (nI 0)), (22, .int (nI 0)), (21, .int (nI (k % 16))), (20, .int (nI (k / 16))), (13, .int (nI (zn + 1 + 1))), (19, .int (nI (M (zn + 1)))), (18, .int (nI 1)), (15, .int (nI 1)), (17, .int (nI k)), (0, .ref mq), (4, .int b), (6, .int (bI (!hasD (rdD M (tn n) (tn a)) 0 200))), (7, .int (bI (blM M n a))), (8, .int (nI vf)), (9, .int (nI vi)), (10, .int (bI vs)), (11, .int (nI vl)), (12, .int (nI vc)), (16, .int (nI s_))]) dM_edit_431 (by decide) rfl ?_
                        refine xg_iconst hX (nI 0) dM_edit_433 (by decide) ?_
                        refine xg_istore hX (lv' := [(23, .int (nI 0)), (14, .int (nI 0)), (22, .int (nI 0)), (21, .int (nI (k % 16))), (20, .int (nI (k / 16))), (13, .int (nI (zn + 1 + 1))), (19, .int (nI (M (zn + 1)))), (18, .int (nI 1)), (15, .int (nI 1)), (17, .int (nI k)), (0, .ref mq), (4, .int b), (6, .int (bI (!hasD (rdD M (tn n) (tn a)) 0 200))), (7, .int (bI (blM M n a))), (8, .int (nI vf)), (9, .int (nI vi)), (10, .int (bI vs)), (11, .int (nI vl)), (12, .int (nI vc)), (16, .int (nI s_))]) dM_edit_434 (by decide) rfl ?_
                        refine xg_iload hX 1 dM_edit_436 rfl ?_
                        refine xg_if_eqN hX 473 (by omega) dM_edit_438 (by decide) (fun _ => ?_) (fun h => absurd h (by decide))
                        refine xg_iload hX 1 dM_edit_473 rfl ?_
                        refine xg_if_eqN hX 543 (by omega) dM_edit_475 (by decide) (fun _ => ?_) (fun h => absurd h (by decide))
                        refine xg_iconst hX (nI 0) dM_edit_543 (by decide) ?_
                        refine xg_istore hX (lv' := [(23, .int (nI 0)), (14, .int (nI 0)), (22, .int (nI 0)), (21, .int (nI (k % 16))), (20, .int (nI (k / 16))), (13, .int (nI (zn + 1 + 1))), (19, .int (nI (M (zn + 1)))), (18, .int (nI 1)), (15, .int (nI 1)), (17, .int (nI k)), (0, .ref mq), (4, .int b), (6, .int (bI (!hasD (rdD M (tn n) (tn a)) 0 200))), (7, .int (bI (blM M n a))), (8, .int (nI vf)), (9, .int (nI vi)), (10, .int (bI vs)), (11, .int (nI vl)), (12, .int (nI vc)), (16, .int (nI s_))]) dM_edit_544 (by decide) rfl ?_
                        refine xg_iload hX 1 dM_edit_546 rfl ?_
                        refine xg_if_eqN hX 756 (by omega) dM_edit_548 (by decide) (fun _ => ?_) (fun h => absurd h (by decide))
                        refine xg_iincN hX (lv' := [(16, .int (nI (s_ + 1))), (23, .int (nI 0)), (14, .int (nI 0)), (22, .int (nI 0)), (21, .int (nI (k % 16))), (20, .int (nI (k / 16))), (13, .int (nI (zn + 1 + 1))), (19, .int (nI (M (zn + 1)))), (18, .int (nI 1)), (15, .int (nI 1)), (17, .int (nI k)), (0, .ref mq), (4, .int b), (6, .int (bI (!hasD (rdD M (tn n) (tn a)) 0 200))), (7, .int (bI (blM M n a))), (8, .int (nI vf)), (9, .int (nI vi)), (10, .int (bI vs)), (11, .int (nI vl)), (12, .int (nI vc))]) (s_ + 1) 19 dM_edit_756 rfl (xn_inc _) (by decide) rfl ?_
                        refine xg_goto hX 96 dM_edit_759 (by decide) ?_
                        refine xg_iload hX 9 dM_edit_96 rfl ?_
                        refine xg_if_eqN hX 762 (by omega) dM_edit_98 (by decide) (fun h => absurd h (by decide)) (fun _ => ?_)
                        refine xg_iload hX 2 dM_edit_101 rfl ?_
                        refine xg_if_eqN hX 762 (by omega) dM_edit_103 (by decide) (fun _ => ?_) (fun h => absurd h (by decide))
                        refine xg_iload hX 2 dM_edit_762 rfl ?_
                        refine xg_if_eqN hX 772 (by omega) dM_edit_764 (by decide) (fun _ => ?_) (fun h => absurd h (by decide))
                        refine xg_bipush hX ((-2)) dM_edit_772 (by decide) ?_
                        exact hret ((-2), M, rdD M (tn n) (tn a), Vw, men) _ _ _ rfl (show ((-2), M, men) = editM M men xw n a p b from (by have hF : edPM M xw n a p = none := (fo_no hq hnx (by omega) h168 ((ob_t (by omega) (nx_1 h218)).trans ((px_8 hkk).trans (pL8_no h423)))); unfold editM; rw [if_pos h5, if_pos g1, hF])) dM_edit_774
                      ·
                        refine xg_iconst hX (nI 1) dM_edit_426 (by decide) ?_
                        refine xg_goto hX 431 dM_edit_427 (by decide) ?_
                        refine xg_istore hX (lv' := [(14, .int (nI 1)), (22, .int (nI 0)), (21, .int (nI (k % 16))), (20, .int (nI (k / 16))), (13, .int (nI (zn + 1 + 1))), (19, .int (nI (M (zn + 1)))), (18, .int (nI 1)), (15, .int (nI 1)), (17, .int (nI k)), (0, .ref mq), (4, .int b), (6, .int (bI (!hasD (rdD M (tn n) (tn a)) 0 200))), (7, .int (bI (blM M n a))), (8, .int (nI vf)), (9, .int (nI vi)), (10, .int (bI vs)), (11, .int (nI vl)), (12, .int (nI vc)), (16, .int (nI s_))]) dM_edit_431 (by decide) rfl ?_
                        refine xg_iconst hX (nI 0) dM_edit_433 (by decide) ?_
                        refine xg_istore hX (lv' := [(23, .int (nI 0)), (14, .int (nI 1)), (22, .int (nI 0)), (21, .int (nI (k % 16))), (20, .int (nI (k / 16))), (13, .int (nI (zn + 1 + 1))), (19, .int (nI (M (zn + 1)))), (18, .int (nI 1)), (15, .int (nI 1)), (17, .int (nI k)), (0, .ref mq), (4, .int b), (6, .int (bI (!hasD (rdD M (tn n) (tn a)) 0 200))), (7, .int (bI (blM M n a))), (8, .int (nI vf)), (9, .int (nI vi)), (10, .int (bI vs)), (11, .int (nI vl)), (12, .int (nI vc)), (16, .int (nI s_))]) dM_edit_434 (by decide) rfl ?_
                        have lp592 : ∀ (fu593 : Nat) (i : Nat), (i ≤ M (zn + 1)) → ((!hasD (rdD M (tn n) (tn a)) 0 200) = false → i = 0) → M (zn + 1) - i < fu593 → GG D X 0 0 436 [(mq, .inr (3, [.ref mm, .ref m1, .ref m2, .ref mo, .ref mr, .int (bI o1), .int (bI o2), .int (bI oo), .ref mw, .int (bI men)])), (mm, .inl (cI, 256, .inl (nf M))), (m1, .inl (cI, 200, .inl (nf (rdD M (tn n) (tn a))))), (mw, .inl (cI, 80, .inl (nf (g8 Vw vf vc i))))] [(0, .ref mq), (4, .int b), (6, .int (bI (!hasD (rdD M (tn n) (tn a)) 0 200))), (7, .int (bI (blM M n a))), (8, .int (nI vf)), (9, .int (nI vi)), (10, .int (bI vs)), (11, .int (nI vl)), (12, .int (nI vc)), (13, .int (nI (zn + 1 + 1))), (14, .int (nI 1)), (15, .int (nI 1)), (16, .int (nI s_)), (17, .int (nI k)), (19, .int (nI (M (zn + 1)))), (20, .int (nI (k / 16))), (21, .int (nI (k % 16))), (22, .int (nI 0)), (23, .int (nI i))] [] := by
                          intro fu593
                          induction fu593 with
                          | zero => intro i hi hiz hm595; exact absurd hm595 (Nat.not_lt_zero _)
                          | succ fu593 ih594 =>
                            intro i hi hiz hm595
                            refine xg_iload hX 10 dM_edit_436 rfl ?_
                            refine xg_if_eqN hX 473 (by omega) dM_edit_438 (by decide) (fun h => absurd h (by decide)) (fun _ => ?_)
                            refine xg_iload hX 2 dM_edit_441 rfl ?_
                            refine xg_if_eqB hX 473 dM_edit_443 (by decide) (fun h443 => ?_) (fun h443 => ?_)
                            ·
                              refine xg_ext hX (g := Vw) (ws' := [(mq, .inr (3, [.ref mm, .ref m1, .ref m2, .ref mo, .ref mr, .int (bI o1), .int (bI o2), .int (bI oo), .ref mw, .int (bI men)])), (mm, .inl (cI, 256, .inl (nf M))), (m1, .inl (cI, 200, .inl (nf (rdD M (tn n) (tn a))))), (mw, .inl (cI, 80, .inl (nf Vw)))]) 3 rfl (fun j hj => by rw [hiz h443]; exact (g8_0 j).symm) rfl ?_
                              refine xg_iload hX 10 dM_edit_473 rfl ?_
                              refine xg_if_eqN hX 543 (by omega) dM_edit_475 (by decide) (fun h => absurd h (by decide)) (fun _ => ?_)
                              refine xg_iload hX 13 dM_edit_478 rfl ?_
                              refine xg_iconst hX (nI 3) dM_edit_480 (by decide) ?_
                              refine xg_icmp_eqN hX 491 (by omega) (by omega) dM_edit_481 (by decide) (fun hh_598 => absurd hh_598 (by omega)) (fun hh_598 => ?_)
                              refine xg_iload hX 13 dM_edit_484 rfl ?_
                              refine xg_bipush hX (nI 7) dM_edit_486 (by decide) ?_
                              refine xg_icmp_neN hX 543 (by omega) (by omega) dM_edit_488 (by decide) (fun hh_599 => ?_) (fun hh_599 => absurd hh_599 (by omega))
                              refine xg_iconst hX (nI 0) dM_edit_543 (by decide) ?_
                              refine xg_istore hX (lv' := [(23, .int (nI 0)), (0, .ref mq), (4, .int b), (6, .int (bI (!hasD (rdD M (tn n) (tn a)) 0 200))), (7, .int (bI (blM M n a))), (8, .int (nI vf)), (9, .int (nI vi)), (10, .int (bI vs)), (11, .int (nI vl)), (12, .int (nI vc)), (13, .int (nI (zn + 1 + 1))), (14, .int (nI 1)), (15, .int (nI 1)), (16, .int (nI s_)), (17, .int (nI k)), (19, .int (nI (M (zn + 1)))), (20, .int (nI (k / 16))), (21, .int (nI (k % 16))), (22, .int (nI 0))]) dM_edit_544 (by decide) rfl ?_
                              refine xg_iload hX 11 dM_edit_546 rfl ?_
                              refine xg_if_eqN hX 756 (by omega) dM_edit_548 (by decide) (fun h => absurd h (by decide)) (fun _ => ?_)
                              refine xg_iload hX 18 dM_edit_551 rfl ?_
                              refine xg_if_eqN hX 756 (by omega) dM_edit_553 (by decide) (fun _ => ?_) (fun h => absurd h (by decide))
                              refine xg_iincN hX (lv' := [(16, .int (nI (s_ + 1))), (23, .int (nI 0)), (0, .ref mq), (4, .int b), (6, .int (bI (!hasD (rdD M (tn n) (tn a)) 0 200))), (7, .int (bI (blM M n a))), (8, .int (nI vf)), (9, .int (nI vi)), (10, .int (bI vs)), (11, .int (nI vl)), (12, .int (nI vc)), (13, .int (nI (zn + 1 + 1))), (14, .int (nI 1)), (15, .int (nI 1)), (17, .int (nI k)), (19, .int (nI (M (zn + 1)))), (20, .int (nI (k / 16))), (21, .int (nI (k % 16))), (22, .int (nI 0))]) (s_ + 1) 13 dM_edit_756 rfl (xn_inc _) (by decide) rfl ?_
                              refine xg_goto hX 96 dM_edit_759 (by decide) ?_
                              refine xg_lv hX (lv' := [(0, .ref mq), (4, .int b), (6, .int (bI (!hasD (rdD M (tn n) (tn a)) 0 200))), (7, .int (bI (blM M n a))), (8, .int (nI vf)), (9, .int (nI vi)), (10, .int (bI vs)), (11, .int (nI vl)), (12, .int (nI vc)), (13, .int (nI (zn + 1 + 1))), (14, .int (nI 1)), (15, .int (nI 1)), (16, .int (nI (s_ + 1)))]) [2, 3, 4, 5, 6, 7, 8, 9, 10, 11, 12, 13, 0] rfl ?_
                              exact ih5 (s_ + 1) (nI (zn + 1 + 1)) Vw vc vl vs vf vi (by omega) (by omega) (by omega) (by omega) (fo_st2 hq hnx (by omega) h168 (tk_t (by omega)) ((ob_t (by omega) (nx_1 h218)).trans ((px_8 hkk).trans (pL8_f h423 h443)))) (by omega)
                            ·
                              refine xg_iload hX 18 dM_edit_446 rfl ?_
                              refine xg_iload hX 14 dM_edit_448 rfl ?_
                              refine xg_icmp_geN hX 473 (by omega) (by omega) dM_edit_450 (by decide) (fun h450 => ?_) (fun h450 => ?_)
                              ·
                                refine xg_ext hX (g := g8 Vw vf vc (M (zn + 1))) (ws' := [(mq, .inr (3, [.ref mm, .ref m1, .ref m2, .ref mo, .ref mr, .int (bI o1), .int (bI o2), .int (bI oo), .ref mw, .int (bI men)])), (mm, .inl (cI, 256, .inl (nf M))), (m1, .inl (cI, 200, .inl (nf (rdD M (tn n) (tn a))))), (mw, .inl (cI, 80, .inl (nf (g8 Vw vf vc (M (zn + 1))))))]) 3 rfl (fun j hj => by rw [show i = M (zn + 1) by omega]) rfl ?_
                                refine xg_iload hX 10 dM_edit_473 rfl ?_
                                refine xg_if_eqN hX 543 (by omega) dM_edit_475 (by decide) (fun h => absurd h (by decide)) (fun _ => ?_)
                                refine xg_iload hX 13 dM_edit_478 rfl ?_
                                refine xg_iconst hX (nI 3) dM_edit_480 (by decide) ?_
                                refine xg_icmp_eqN hX 491 (by omega) (by omega) dM_edit_481 (by decide) (fun hh_603 => absurd hh_603 (by omega)) (fun hh_603 => ?_)
                                refine xg_iload hX 13 dM_edit_484 rfl ?_
                                refine xg_bipush hX (nI 7) dM_edit_486 (by decide) ?_
                                refine xg_icmp_neN hX 543 (by omega) (by omega) dM_edit_488 (by decide) (fun hh_604 => ?_) (fun hh_604 => absurd hh_604 (by omega))
                                refine xg_iconst hX (nI 0) dM_edit_543 (by decide) ?_
                                refine xg_istore hX (lv' := [(23, .int (nI 0)), (0, .ref mq), (4, .int b), (6, .int (bI (!hasD (rdD M (tn n) (tn a)) 0 200))), (7, .int (bI (blM M n a))), (8, .int (nI vf)), (9, .int (nI vi)), (10, .int (bI vs)), (11, .int (nI vl)), (12, .int (nI vc)), (13, .int (nI (zn + 1 + 1))), (14, .int (nI 1)), (15, .int (nI 1)), (16, .int (nI s_)), (17, .int (nI k)), (19, .int (nI (M (zn + 1)))), (20, .int (nI (k / 16))), (21, .int (nI (k % 16))), (22, .int (nI 0))]) dM_edit_544 (by decide) rfl ?_
                                refine xg_iload hX 11 dM_edit_546 rfl ?_
                                refine xg_if_eqN hX 756 (by omega) dM_edit_548 (by decide) (fun h => absurd h (by decide)) (fun _ => ?_)
                                refine xg_iload hX 18 dM_edit_551 rfl ?_
                                refine xg_if_eqN hX 756 (by omega) dM_edit_553 (by decide) (fun _ => ?_) (fun h => absurd h (by decide))
                                refine xg_iincN hX (lv' := [(16, .int (nI (s_ + 1))), (23, .int (nI 0)), (0, .ref mq), (4, .int b), (6, .int (bI (!hasD (rdD M (tn n) (tn a)) 0 200))), (7, .int (bI (blM M n a))), (8, .int (nI vf)), (9, .int (nI vi)), (10, .int (bI vs)), (11, .int (nI vl)), (12, .int (nI vc)), (13, .int (nI (zn + 1 + 1))), (14, .int (nI 1)), (15, .int (nI 1)), (17, .int (nI k)), (19, .int (nI (M (zn + 1)))), (20, .int (nI (k / 16))), (21, .int (nI (k % 16))), (22, .int (nI 0))]) (s_ + 1) 13 dM_edit_756 rfl (xn_inc _) (by decide) rfl ?_
                                refine xg_goto hX 96 dM_edit_759 (by decide) ?_
                                refine xg_lv hX (lv' := [(0, .ref mq), (4, .int b), (6, .int (bI (!hasD (rdD M (tn n) (tn a)) 0 200))), (7, .int (bI (blM M n a))), (8, .int (nI vf)), (9, .int (nI vi)), (10, .int (bI vs)), (11, .int (nI vl)), (12, .int (nI vc)), (13, .int (nI (zn + 1 + 1))), (14, .int (nI 1)), (15, .int (nI 1)), (16, .int (nI (s_ + 1)))]) [2, 3, 4, 5, 6, 7, 8, 9, 10, 11, 12, 13, 0] rfl ?_
                                exact ih5 (s_ + 1) (nI (zn + 1 + 1)) (g8 Vw vf vc (M (zn + 1))) vc vl vs vf vi (by omega) (by omega) (by omega) (by omega) (fo_st2 hq hnx (by omega) h168 (tk_t (by omega)) ((ob_t (by omega) (nx_1 h218)).trans ((px_8 hkk).trans (px_8t h423 h443)))) (by omega)
                              ·
                                refine xg_aload_n hX 0 dM_edit_453 rfl rfl ?_
                                refine xg_get hX (ci := 3) rfl hinM 0 rfl 8 (by decide) mt_332 rfl dM_edit_454 ?_
                                refine xg_iload hX 8 dM_edit_457 rfl ?_
                                refine xg_iconst hX (nI 1) dM_edit_459 (by decide) ?_
                                refine xg_isubN hX (by omega) dM_edit_460 ?_
                                refine xg_iload hX 18 dM_edit_461 rfl ?_
                                refine xg_isubN hX (by omega) dM_edit_463 ?_
                                refine xg_iload hX 4 dM_edit_464 rfl ?_
                                refine xg_iast hX (ws' := [(mq, .inr (3, [.ref mm, .ref m1, .ref m2, .ref mo, .ref mr, .int (bI o1), .int (bI o2), .int (bI oo), .ref mw, .int (bI men)])), (mm, .inl (cI, 256, .inl (nf M))), (m1, .inl (cI, 200, .inl (nf (rdD M (tn n) (tn a))))), (mw, .inl (cI, 80, .inl (nf (up (g8 Vw vf vc i) ((vc - 1) - i) vf))))]) 3 ((vc - 1) - i) vf rfl (by omega) (by decide) rfl dM_edit_466 ?_
                                refine xg_iincN hX (lv' := [(23, .int (nI (i + 1))), (0, .ref mq), (4, .int b), (6, .int (bI (!hasD (rdD M (tn n) (tn a)) 0 200))), (7, .int (bI (blM M n a))), (8, .int (nI vf)), (9, .int (nI vi)), (10, .int (bI vs)), (11, .int (nI vl)), (12, .int (nI vc)), (13, .int (nI (zn + 1 + 1))), (14, .int (nI 1)), (15, .int (nI 1)), (16, .int (nI s_)), (17, .int (nI k)), (19, .int (nI (M (zn + 1)))), (20, .int (nI (k / 16))), (21, .int (nI (k % 16))), (22, .int (nI 0))]) (i + 1) 18 dM_edit_467 rfl (xn_inc _) (by decide) rfl ?_
                                refine xg_goto hX 436 dM_edit_470 (by decide) ?_
                                refine xg_ext hX (g := g8 Vw vf vc (i + 1)) (ws' := [(mq, .inr (3, [.ref mm, .ref m1, .ref m2, .ref mo, .ref mr, .int (bI o1), .int (bI o2), .int (bI oo), .ref mw, .int (bI men)])), (mm, .inl (cI, 256, .inl (nf M))), (m1, .inl (cI, 200, .inl (nf (rdD M (tn n) (tn a))))), (mw, .inl (cI, 80, .inl (nf (g8 Vw vf vc (i + 1)))))]) 3 rfl (fun j hj => g8_s (by omega) j) rfl ?_
                                refine xg_lv hX (lv' := [(0, .ref mq), (4, .int b), (6, .int (bI (!hasD (rdD M (tn n) (tn a)) 0 200))), (7, .int (bI (blM M n a))), (8, .int (nI vf)), (9, .int (nI vi)), (10, .int (bI vs)), (11, .int (nI vl)), (12, .int (nI vc)), (13, .int (nI (zn + 1 + 1))), (14, .int (nI 1)), (15, .int (nI 1)), (16, .int (nI s_)), (17, .int (nI k)), (19, .int (nI (M (zn + 1)))), (20, .int (nI (k / 16))), (21, .int (nI (k % 16))), (22, .int (nI 0)), (23, .int (nI (i + 1)))]) [1, 2, 3, 4, 5, 6, 7, 8, 9, 10, 11, 12, 13, 14, 15, 16, 17, 18, 0] rfl ?_
                                exact ih594 (i + 1) (by omega) (fun q => absurd (h443.symm.trans q) (by decide)) (by omega)
                        refine xg_ext hX (g := g8 Vw vf vc 0) (ws' := [(mq, .inr (3, [.ref mm, .ref m1, .ref m2, .ref mo, .ref mr, .int (bI o1), .int (bI o2), .int (bI oo), .ref mw, .int (bI men)])), (mm, .inl (cI, 256, .inl (nf M))), (m1, .inl (cI, 200, .inl (nf (rdD M (tn n) (tn a))))), (mw, .inl (cI, 80, .inl (nf (g8 Vw vf vc 0))))]) 3 rfl (fun j hj => g8_0 j) rfl ?_
                        refine xg_lv hX (lv' := [(0, .ref mq), (4, .int b), (6, .int (bI (!hasD (rdD M (tn n) (tn a)) 0 200))), (7, .int (bI (blM M n a))), (8, .int (nI vf)), (9, .int (nI vi)), (10, .int (bI vs)), (11, .int (nI vl)), (12, .int (nI vc)), (13, .int (nI (zn + 1 + 1))), (14, .int (nI 1)), (15, .int (nI 1)), (16, .int (nI s_)), (17, .int (nI k)), (19, .int (nI (M (zn + 1)))), (20, .int (nI (k / 16))), (21, .int (nI (k % 16))), (22, .int (nI 0)), (23, .int (nI 0))]) [10, 11, 12, 13, 14, 15, 16, 17, 18, 5, 1, 8, 19, 9, 6, 4, 3, 2, 0] rfl ?_
                        exact lp592 (M (zn + 1) - 0 + 1) 0 (by omega) (fun _ => rfl) (Nat.lt_succ_self _)
                  ·
                    refine xg_iload hX 0 dM_edit_171 rfl ?_
                    refine xg_if_neN hX 180 (by omega) dM_edit_173 (by decide) (fun _ => ?_) (fun h => absurd h (by decide))
                    refine xg_iconst hX (nI 0) dM_edit_180 (by decide) ?_
                    refine xg_istore hX (lv' := [(14, .int (nI 0)), (15, .int (nI 1)), (13, .int (nI (zn + 1))), (17, .int (nI k)), (0, .ref mq), (4, .int b), (6, .int (bI (!hasD (rdD M (tn n) (tn a)) 0 200))), (7, .int (bI (blM M n a))), (8, .int (nI vf)), (9, .int (nI vi)), (10, .int (bI vs)), (11, .int (nI vl)), (12, .int (nI vc)), (16, .int (nI s_))]) dM_edit_181 (by decide) rfl ?_
                    refine xg_iload hX 3 dM_edit_183 rfl ?_
                    refine xg_iconst hX (nI 4) dM_edit_185 (by decide) ?_
                    refine xg_icmp_ltN hX 200 (by omega) (by omega) dM_edit_186 (by decide) (fun hh_608 => absurd hh_608 (by omega)) (fun hh_608 => ?_)
                    refine xg_iload hX 3 dM_edit_189 rfl ?_
                    refine xg_bipush hX (nI 8) dM_edit_191 (by decide) ?_
                    refine xg_icmp_gtN hX 200 (by omega) (by omega) dM_edit_193 (by decide) (fun hh_609 => absurd hh_609 (by omega)) (fun hh_609 => ?_)
                    refine xg_iconst hX (nI 1) dM_edit_196 (by decide) ?_
                    refine xg_goto hX 201 dM_edit_197 (by decide) ?_
                    refine xg_istore hX (lv' := [(18, .int (nI 1)), (14, .int (nI 0)), (15, .int (nI 1)), (13, .int (nI (zn + 1))), (17, .int (nI k)), (0, .ref mq), (4, .int b), (6, .int (bI (!hasD (rdD M (tn n) (tn a)) 0 200))), (7, .int (bI (blM M n a))), (8, .int (nI vf)), (9, .int (nI vi)), (10, .int (bI vs)), (11, .int (nI vl)), (12, .int (nI vc)), (16, .int (nI s_))]) dM_edit_201 (by decide) rfl ?_
                    refine xg_iload hX 0 dM_edit_203 rfl ?_
                    refine xg_if_eqN hX 228 (by omega) dM_edit_205 (by decide) (fun h => absurd h (by decide)) (fun _ => ?_)
                    refine xg_iload hX 1 dM_edit_208 rfl ?_
                    refine xg_if_eqN hX 225 (by omega) dM_edit_210 (by decide) (fun _ => ?_) (fun h => absurd h (by decide))
                    refine xg_iconst hX (nI 0) dM_edit_225 (by decide) ?_
                    refine xg_istore hX (lv' := [(14, .int (nI 0)), (18, .int (nI 1)), (15, .int (nI 1)), (13, .int (nI (zn + 1))), (17, .int (nI k)), (0, .ref mq), (4, .int b), (6, .int (bI (!hasD (rdD M (tn n) (tn a)) 0 200))), (7, .int (bI (blM M n a))), (8, .int (nI vf)), (9, .int (nI vi)), (10, .int (bI vs)), (11, .int (nI vl)), (12, .int (nI vc)), (16, .int (nI s_))]) dM_edit_226 (by decide) rfl ?_
                    refine xg_iload hX 1 dM_edit_228 rfl ?_
                    refine xg_if_eqN hX 248 (by omega) dM_edit_230 (by decide) (fun h => absurd h (by decide)) (fun _ => ?_)
                    refine xg_iload hX 0 dM_edit_233 rfl ?_
                    refine xg_if_eqN hX 248 (by omega) dM_edit_235 (by decide) (fun _ => ?_) (fun h => absurd h (by decide))
                    refine xg_iconst hX (nI 0) dM_edit_248 (by decide) ?_
                    refine xg_istore hX (lv' := [(19, .int (nI 0)), (14, .int (nI 0)), (18, .int (nI 1)), (15, .int (nI 1)), (13, .int (nI (zn + 1))), (17, .int (nI k)), (0, .ref mq), (4, .int b), (6, .int (bI (!hasD (rdD M (tn n) (tn a)) 0 200))), (7, .int (bI (blM M n a))), (8, .int (nI vf)), (9, .int (nI vi)), (10, .int (bI vs)), (11, .int (nI vl)), (12, .int (nI vc)), (16, .int (nI s_))]) dM_edit_249 (by decide) rfl ?_
                    refine xg_iload hX 2 dM_edit_251 rfl ?_
                    refine xg_if_eqN hX 259 (by omega) dM_edit_253 (by decide) (fun h => absurd h (by decide)) (fun _ => ?_)
                    refine xg_iincN hX (lv' := [(13, .int (nI (zn + 1 + 1))), (19, .int (nI 0)), (14, .int (nI 0)), (18, .int (nI 1)), (15, .int (nI 1)), (17, .int (nI k)), (0, .ref mq), (4, .int b), (6, .int (bI (!hasD (rdD M (tn n) (tn a)) 0 200))), (7, .int (bI (blM M n a))), (8, .int (nI vf)), (9, .int (nI vi)), (10, .int (bI vs)), (11, .int (nI vl)), (12, .int (nI vc)), (16, .int (nI s_))]) (zn + 1 + 1) 4 dM_edit_256 rfl (xn_inc _) (by decide) rfl ?_
                    refine xg_iload hX 5 dM_edit_259 rfl ?_
                    refine xg_bipush hX (nI 16) dM_edit_261 (by decide) ?_
                    refine xg_idivN hX (by omega) (by omega) (by omega) dM_edit_263 ?_
                    refine xg_istore hX (lv' := [(20, .int (nI (k / 16))), (13, .int (nI (zn + 1 + 1))), (19, .int (nI 0)), (14, .int (nI 0)), (18, .int (nI 1)), (15, .int (nI 1)), (17, .int (nI k)), (0, .ref mq), (4, .int b), (6, .int (bI (!hasD (rdD M (tn n) (tn a)) 0 200))), (7, .int (bI (blM M n a))), (8, .int (nI vf)), (9, .int (nI vi)), (10, .int (bI vs)), (11, .int (nI vl)), (12, .int (nI vc)), (16, .int (nI s_))]) dM_edit_264 (by decide) rfl ?_
                    refine xg_iload hX 6 dM_edit_266 rfl ?_
                    refine xg_bipush hX (nI 16) dM_edit_268 (by decide) ?_
                    refine xg_iremN hX (by omega) (by omega) (by omega) dM_edit_270 ?_
                    refine xg_istore hX (lv' := [(21, .int (nI (k % 16))), (20, .int (nI (k / 16))), (13, .int (nI (zn + 1 + 1))), (19, .int (nI 0)), (14, .int (nI 0)), (18, .int (nI 1)), (15, .int (nI 1)), (17, .int (nI k)), (0, .ref mq), (4, .int b), (6, .int (bI (!hasD (rdD M (tn n) (tn a)) 0 200))), (7, .int (bI (blM M n a))), (8, .int (nI vf)), (9, .int (nI vi)), (10, .int (bI vs)), (11, .int (nI vl)), (12, .int (nI vc)), (16, .int (nI s_))]) dM_edit_271 (by decide) rfl ?_
                    refine xg_iload hX 1 dM_edit_273 rfl ?_
                    refine xg_bipush hX (nI 8) dM_edit_275 (by decide) ?_
                    refine xg_icmp_ltN hX 296 (by omega) (by omega) dM_edit_277 (by decide) (fun hh_615 => ?_) (fun hh_615 => absurd hh_615 (by omega))
                    refine xg_iconst hX (nI 0) dM_edit_296 (by decide) ?_
                    refine xg_istore hX (lv' := [(22, .int (nI 0)), (21, .int (nI (k % 16))), (20, .int (nI (k / 16))), (13, .int (nI (zn + 1 + 1))), (19, .int (nI 0)), (14, .int (nI 0)), (18, .int (nI 1)), (15, .int (nI 1)), (17, .int (nI k)), (0, .ref mq), (4, .int b), (6, .int (bI (!hasD (rdD M (tn n) (tn a)) 0 200))), (7, .int (bI (blM M n a))), (8, .int (nI vf)), (9, .int (nI vi)), (10, .int (bI vs)), (11, .int (nI vl)), (12, .int (nI vc)), (16, .int (nI s_))]) dM_edit_297 (by decide) rfl ?_
                    refine xg_iload hX 5 dM_edit_299 rfl ?_
                    refine xg_if_eqN hX 320 (by omega) dM_edit_301 (by decide) (fun _ => ?_) (fun h => absurd h (by decide))
                    refine xg_iconst hX (nI 0) dM_edit_320 (by decide) ?_
                    refine xg_istore hX (lv' := [(14, .int (nI 0)), (22, .int (nI 0)), (21, .int (nI (k % 16))), (20, .int (nI (k / 16))), (13, .int (nI (zn + 1 + 1))), (19, .int (nI 0)), (18, .int (nI 1)), (15, .int (nI 1)), (17, .int (nI k)), (0, .ref mq), (4, .int b), (6, .int (bI (!hasD (rdD M (tn n) (tn a)) 0 200))), (7, .int (bI (blM M n a))), (8, .int (nI vf)), (9, .int (nI vi)), (10, .int (bI vs)), (11, .int (nI vl)), (12, .int (nI vc)), (16, .int (nI s_))]) dM_edit_321 (by decide) rfl ?_
                    refine xg_iload hX 0 dM_edit_323 rfl ?_
                    refine xg_if_eqN hX 337 (by omega) dM_edit_325 (by decide) (fun _ => ?_) (fun h => absurd h (by decide))
                    refine xg_iload hX 0 dM_edit_337 rfl ?_
                    refine xg_if_eqN hX 351 (by omega) dM_edit_339 (by decide) (fun _ => ?_) (fun h => absurd h (by decide))
                    refine xg_iload hX 0 dM_edit_351 rfl ?_
                    refine xg_if_eqN hX 366 (by omega) dM_edit_353 (by decide) (fun _ => ?_) (fun h => absurd h (by decide))
                    refine xg_iload hX 0 dM_edit_366 rfl ?_
                    refine xg_if_eqN hX 386 (by omega) dM_edit_368 (by decide) (fun _ => ?_) (fun h => absurd h (by decide))
                    refine xg_iload hX 0 dM_edit_386 rfl ?_
                    refine xg_if_eqN hX 407 (by omega) dM_edit_388 (by decide) (fun _ => ?_) (fun h => absurd h (by decide))
                    refine xg_iload hX 0 dM_edit_407 rfl ?_
                    refine xg_if_eqN hX 473 (by omega) dM_edit_409 (by decide) (fun _ => ?_) (fun h => absurd h (by decide))
                    refine xg_iload hX 0 dM_edit_473 rfl ?_
                    refine xg_if_eqN hX 543 (by omega) dM_edit_475 (by decide) (fun _ => ?_) (fun h => absurd h (by decide))
                    refine xg_iconst hX (nI 0) dM_edit_543 (by decide) ?_
                    refine xg_istore hX (lv' := [(23, .int (nI 0)), (14, .int (nI 0)), (22, .int (nI 0)), (21, .int (nI (k % 16))), (20, .int (nI (k / 16))), (13, .int (nI (zn + 1 + 1))), (19, .int (nI 0)), (18, .int (nI 1)), (15, .int (nI 1)), (17, .int (nI k)), (0, .ref mq), (4, .int b), (6, .int (bI (!hasD (rdD M (tn n) (tn a)) 0 200))), (7, .int (bI (blM M n a))), (8, .int (nI vf)), (9, .int (nI vi)), (10, .int (bI vs)), (11, .int (nI vl)), (12, .int (nI vc)), (16, .int (nI s_))]) dM_edit_544 (by decide) rfl ?_
                    refine xg_iload hX 1 dM_edit_546 rfl ?_
                    refine xg_if_eqN hX 756 (by omega) dM_edit_548 (by decide) (fun _ => ?_) (fun h => absurd h (by decide))
                    refine xg_iincN hX (lv' := [(16, .int (nI (s_ + 1))), (23, .int (nI 0)), (14, .int (nI 0)), (22, .int (nI 0)), (21, .int (nI (k % 16))), (20, .int (nI (k / 16))), (13, .int (nI (zn + 1 + 1))), (19, .int (nI 0)), (18, .int (nI 1)), (15, .int (nI 1)), (17, .int (nI k)), (0, .ref mq), (4, .int b), (6, .int (bI (!hasD (rdD M (tn n) (tn a)) 0 200))), (7, .int (bI (blM M n a))), (8, .int (nI vf)), (9, .int (nI vi)), (10, .int (bI vs)), (11, .int (nI vl)), (12, .int (nI vc))]) (s_ + 1) 19 dM_edit_756 rfl (xn_inc _) (by decide) rfl ?_
                    refine xg_goto hX 96 dM_edit_759 (by decide) ?_
                    refine xg_iload hX 9 dM_edit_96 rfl ?_
                    refine xg_if_eqN hX 762 (by omega) dM_edit_98 (by decide) (fun h => absurd h (by decide)) (fun _ => ?_)
                    refine xg_iload hX 2 dM_edit_101 rfl ?_
                    refine xg_if_eqN hX 762 (by omega) dM_edit_103 (by decide) (fun _ => ?_) (fun h => absurd h (by decide))
                    refine xg_iload hX 2 dM_edit_762 rfl ?_
                    refine xg_if_eqN hX 772 (by omega) dM_edit_764 (by decide) (fun _ => ?_) (fun h => absurd h (by decide))
                    refine xg_bipush hX ((-2)) dM_edit_772 (by decide) ?_
                    exact hret ((-2), M, rdD M (tn n) (tn a), Vw, men) _ _ _ rfl (show ((-2), M, men) = editM M men xw n a p b from (by have hF : edPM M xw n a p = none := (fo_la hq hnx (by omega) (by omega)); unfold editM; rw [if_pos h5, if_pos g1, hF])) dM_edit_774
                ·
                  refine xg_iload hX 9 dM_edit_106 rfl ?_
                  refine xg_if_ltN hX 123 (by omega) dM_edit_108 (by decide) ?_
                  refine xg_iload hX 9 dM_edit_111 rfl ?_
                  refine xg_sipush hX (nI 256) dM_edit_113 (by decide) ?_
                  refine xg_icmp_geN hX 123 (by omega) (by omega) dM_edit_116 (by decide) (fun h116 => absurd h116 (by omega)) (fun h116 => ?_)
                  refine xg_iconst hX (nI 1) dM_edit_119 (by decide) ?_
                  refine xg_goto hX 124 dM_edit_120 (by decide) ?_
                  refine xg_istore hX (lv' := [(14, .int (nI 1)), (0, .ref mq), (4, .int b), (6, .int (bI (!hasD (rdD M (tn n) (tn a)) 0 200))), (7, .int (bI (blM M n a))), (8, .int (nI vf)), (9, .int (nI vi)), (10, .int (bI vs)), (11, .int (nI vl)), (12, .int (nI vc)), (13, .int (nI zn)), (15, .int (nI 1)), (16, .int (nI s_))]) dM_edit_124 (by decide) rfl ?_
                  refine xg_iload hX 0 dM_edit_126 rfl ?_
                  refine xg_if_eqN hX 141 (by omega) dM_edit_128 (by decide) (fun h => absurd h (by decide)) (fun _ => ?_)
                  refine xg_aload_n hX 1 dM_edit_131 rfl rfl ?_
                  refine xg_get hX (ci := 3) rfl hinM 0 rfl 0 (by decide) mt_324 rfl dM_edit_132 ?_
                  refine xg_iload hX 10 dM_edit_135 rfl ?_
                  refine xg_iald hX 1 zn rfl (by omega) (by decide) dM_edit_137 ?_
                  refine xg_top (nI k) (by rw [hk4]) ?_
                  refine xg_goto hX 142 dM_edit_138 (by decide) ?_
                  refine xg_istore hX (lv' := [(17, .int (nI k)), (14, .int (nI 1)), (0, .ref mq), (4, .int b), (6, .int (bI (!hasD (rdD M (tn n) (tn a)) 0 200))), (7, .int (bI (blM M n a))), (8, .int (nI vf)), (9, .int (nI vi)), (10, .int (bI vs)), (11, .int (nI vl)), (12, .int (nI vc)), (13, .int (nI zn)), (15, .int (nI 1)), (16, .int (nI s_))]) dM_edit_142 (by decide) rfl ?_
                  refine xg_iincN hX (lv' := [(13, .int (nI (zn + 1))), (17, .int (nI k)), (14, .int (nI 1)), (0, .ref mq), (4, .int b), (6, .int (bI (!hasD (rdD M (tn n) (tn a)) 0 200))), (7, .int (bI (blM M n a))), (8, .int (nI vf)), (9, .int (nI vi)), (10, .int (bI vs)), (11, .int (nI vl)), (12, .int (nI vc)), (15, .int (nI 1)), (16, .int (nI s_))]) (zn + 1) 11 dM_edit_144 rfl (xn_inc _) (by decide) rfl ?_
                  refine xg_iload hX 1 dM_edit_147 rfl ?_
                  refine xg_if_eqN hX 156 (by omega) dM_edit_149 (by decide) (fun hh_629 => absurd hh_629 (by omega)) (fun hh_629 => ?_)
                  refine xg_iconst hX (nI 1) dM_edit_152 (by decide) ?_
                  refine xg_goto hX 157 dM_edit_153 (by decide) ?_
                  refine xg_istore hX (lv' := [(15, .int (nI 1)), (13, .int (nI (zn + 1))), (17, .int (nI k)), (14, .int (nI 1)), (0, .ref mq), (4, .int b), (6, .int (bI (!hasD (rdD M (tn n) (tn a)) 0 200))), (7, .int (bI (blM M n a))), (8, .int (nI vf)), (9, .int (nI vi)), (10, .int (bI vs)), (11, .int (nI vl)), (12, .int (nI vc)), (16, .int (nI s_))]) dM_edit_157 (by decide) rfl ?_
                  refine xg_iload hX 3 dM_edit_159 rfl ?_
                  refine xg_if_eqN hX 180 (by omega) dM_edit_161 (by decide) (fun h => absurd h (by decide)) (fun _ => ?_)
                  refine xg_iload hX 13 dM_edit_164 rfl ?_
                  refine xg_bipush hX (nI 64) dM_edit_166 (by decide) ?_
                  refine xg_icmp_ltN hX 176 (by omega) (by omega) dM_edit_168 (by decide) (fun h168 => ?_) (fun h168 => ?_)
                  ·
                    refine xg_iconst hX (nI 1) dM_edit_176 (by decide) ?_
                    refine xg_goto hX 181 dM_edit_177 (by decide) ?_
                    refine xg_istore hX (lv' := [(14, .int (nI 1)), (15, .int (nI 1)), (13, .int (nI (zn + 1))), (17, .int (nI k)), (0, .ref mq), (4, .int b), (6, .int (bI (!hasD (rdD M (tn n) (tn a)) 0 200))), (7, .int (bI (blM M n a))), (8, .int (nI vf)), (9, .int (nI vi)), (10, .int (bI vs)), (11, .int (nI vl)), (12, .int (nI vc)), (16, .int (nI s_))]) dM_edit_181 (by decide) rfl ?_
                    refine xg_iload hX 3 dM_edit_183 rfl ?_
                    refine xg_iconst hX (nI 4) dM_edit_185 (by decide) ?_
                    refine xg_icmp_ltN hX 200 (by omega) (by omega) dM_edit_186 (by decide) (fun hh_631 => absurd hh_631 (by omega)) (fun hh_631 => ?_)
                    refine xg_iload hX 3 dM_edit_189 rfl ?_
                    refine xg_bipush hX (nI 8) dM_edit_191 (by decide) ?_
                    refine xg_icmp_gtN hX 200 (by omega) (by omega) dM_edit_193 (by decide) (fun hh_632 => ?_) (fun hh_632 => absurd hh_632 (by omega))
                    refine xg_iconst hX (nI 0) dM_edit_200 (by decide) ?_
                    refine xg_istore hX (lv' := [(18, .int (nI 0)), (14, .int (nI 1)), (15, .int (nI 1)), (13, .int (nI (zn + 1))), (17, .int (nI k)), (0, .ref mq), (4, .int b), (6, .int (bI (!hasD (rdD M (tn n) (tn a)) 0 200))), (7, .int (bI (blM M n a))), (8, .int (nI vf)), (9, .int (nI vi)), (10, .int (bI vs)), (11, .int (nI vl)), (12, .int (nI vc)), (16, .int (nI s_))]) dM_edit_201 (by decide) rfl ?_
                    refine xg_iload hX 0 dM_edit_203 rfl ?_
                    refine xg_if_eqN hX 228 (by omega) dM_edit_205 (by decide) (fun _ => ?_) (fun h => absurd h (by decide))
                    refine xg_iload hX 0 dM_edit_228 rfl ?_
                    refine xg_if_eqN hX 248 (by omega) dM_edit_230 (by decide) (fun _ => ?_) (fun h => absurd h (by decide))
                    refine xg_iconst hX (nI 0) dM_edit_248 (by decide) ?_
                    refine xg_istore hX (lv' := [(19, .int (nI 0)), (18, .int (nI 0)), (14, .int (nI 1)), (15, .int (nI 1)), (13, .int (nI (zn + 1))), (17, .int (nI k)), (0, .ref mq), (4, .int b), (6, .int (bI (!hasD (rdD M (tn n) (tn a)) 0 200))), (7, .int (bI (blM M n a))), (8, .int (nI vf)), (9, .int (nI vi)), (10, .int (bI vs)), (11, .int (nI vl)), (12, .int (nI vc)), (16, .int (nI s_))]) dM_edit_249 (by decide) rfl ?_
                    refine xg_iload hX 1 dM_edit_251 rfl ?_
                    refine xg_if_eqN hX 259 (by omega) dM_edit_253 (by decide) (fun _ => ?_) (fun h => absurd h (by decide))
                    refine xg_iload hX 5 dM_edit_259 rfl ?_
                    refine xg_bipush hX (nI 16) dM_edit_261 (by decide) ?_
                    refine xg_idivN hX (by omega) (by omega) (by omega) dM_edit_263 ?_
                    refine xg_istore hX (lv' := [(20, .int (nI (k / 16))), (19, .int (nI 0)), (18, .int (nI 0)), (14, .int (nI 1)), (15, .int (nI 1)), (13, .int (nI (zn + 1))), (17, .int (nI k)), (0, .ref mq), (4, .int b), (6, .int (bI (!hasD (rdD M (tn n) (tn a)) 0 200))), (7, .int (bI (blM M n a))), (8, .int (nI vf)), (9, .int (nI vi)), (10, .int (bI vs)), (11, .int (nI vl)), (12, .int (nI vc)), (16, .int (nI s_))]) dM_edit_264 (by decide) rfl ?_
                    refine xg_iload hX 6 dM_edit_266 rfl ?_
                    refine xg_bipush hX (nI 16) dM_edit_268 (by decide) ?_
                    refine xg_iremN hX (by omega) (by omega) (by omega) dM_edit_270 ?_
                    refine xg_istore hX (lv' := [(21, .int (nI (k % 16))), (20, .int (nI (k / 16))), (19, .int (nI 0)), (18, .int (nI 0)), (14, .int (nI 1)), (15, .int (nI 1)), (13, .int (nI (zn + 1))), (17, .int (nI k)), (0, .ref mq), (4, .int b), (6, .int (bI (!hasD (rdD M (tn n) (tn a)) 0 200))), (7, .int (bI (blM M n a))), (8, .int (nI vf)), (9, .int (nI vi)), (10, .int (bI vs)), (11, .int (nI vl)), (12, .int (nI vc)), (16, .int (nI s_))]) dM_edit_271 (by decide) rfl ?_
                    refine xg_iload hX 1 dM_edit_273 rfl ?_
                    refine xg_bipush hX (nI 8) dM_edit_275 (by decide) ?_
                    refine xg_icmp_ltN hX 296 (by omega) (by omega) dM_edit_277 (by decide) (fun hh_636 => ?_) (fun hh_636 => absurd hh_636 (by omega))
                    refine xg_iconst hX (nI 0) dM_edit_296 (by decide) ?_
                    refine xg_istore hX (lv' := [(22, .int (nI 0)), (21, .int (nI (k % 16))), (20, .int (nI (k / 16))), (19, .int (nI 0)), (18, .int (nI 0)), (14, .int (nI 1)), (15, .int (nI 1)), (13, .int (nI (zn + 1))), (17, .int (nI k)), (0, .ref mq), (4, .int b), (6, .int (bI (!hasD (rdD M (tn n) (tn a)) 0 200))), (7, .int (bI (blM M n a))), (8, .int (nI vf)), (9, .int (nI vi)), (10, .int (bI vs)), (11, .int (nI vl)), (12, .int (nI vc)), (16, .int (nI s_))]) dM_edit_297 (by decide) rfl ?_
                    refine xg_iload hX 5 dM_edit_299 rfl ?_
                    refine xg_if_eqN hX 320 (by omega) dM_edit_301 (by decide) (fun h => absurd h (by decide)) (fun _ => ?_)
                    refine xg_iload hX 8 dM_edit_304 rfl ?_
                    refine xg_bipush hX (nI 8) dM_edit_306 (by decide) ?_
                    refine xg_icmp_leN hX 316 (by omega) (by omega) dM_edit_308 (by decide) (fun hh_638 => absurd hh_638 (by omega)) (fun hh_638 => ?_)
                    refine xg_iload hX 0 dM_edit_311 rfl ?_
                    refine xg_if_eqN hX 320 (by omega) dM_edit_313 (by decide) (fun _ => ?_) (fun h => absurd h (by decide))
                    refine xg_iconst hX (nI 0) dM_edit_320 (by decide) ?_
                    refine xg_istore hX (lv' := [(14, .int (nI 0)), (22, .int (nI 0)), (21, .int (nI (k % 16))), (20, .int (nI (k / 16))), (19, .int (nI 0)), (18, .int (nI 0)), (15, .int (nI 1)), (13, .int (nI (zn + 1))), (17, .int (nI k)), (0, .ref mq), (4, .int b), (6, .int (bI (!hasD (rdD M (tn n) (tn a)) 0 200))), (7, .int (bI (blM M n a))), (8, .int (nI vf)), (9, .int (nI vi)), (10, .int (bI vs)), (11, .int (nI vl)), (12, .int (nI vc)), (16, .int (nI s_))]) dM_edit_321 (by decide) rfl ?_
                    refine xg_iload hX 0 dM_edit_323 rfl ?_
                    refine xg_if_eqN hX 337 (by omega) dM_edit_325 (by decide) (fun _ => ?_) (fun h => absurd h (by decide))
                    refine xg_iload hX 0 dM_edit_337 rfl ?_
                    refine xg_if_eqN hX 351 (by omega) dM_edit_339 (by decide) (fun _ => ?_) (fun h => absurd h (by decide))
                    refine xg_iload hX 0 dM_edit_351 rfl ?_
                    refine xg_if_eqN hX 366 (by omega) dM_edit_353 (by decide) (fun _ => ?_) (fun h => absurd h (by decide))
                    refine xg_iload hX 0 dM_edit_366 rfl ?_
                    refine xg_if_eqN hX 386 (by omega) dM_edit_368 (by decide) (fun _ => ?_) (fun h => absurd h (by decide))
                    refine xg_iload hX 0 dM_edit_386 rfl ?_
                    refine xg_if_eqN hX 407 (by omega) dM_edit_388 (by decide) (fun _ => ?_) (fun h => absurd h (by decide))
                    refine xg_iload hX 0 dM_edit_407 rfl ?_
                    refine xg_if_eqN hX 473 (by omega) dM_edit_409 (by decide) (fun _ => ?_) (fun h => absurd h (by decide))
                    refine xg_iload hX 0 dM_edit_473 rfl ?_
                    refine xg_if_eqN hX 543 (by omega) dM_edit_475 (by decide) (fun _ => ?_) (fun h => absurd h (by decide))
                    refine xg_iconst hX (nI 0) dM_edit_543 (by decide) ?_
                    refine xg_istore hX (lv' := [(23, .int (nI 0)), (14, .int (nI 0)), (22, .int (nI 0)), (21, .int (nI (k % 16))), (20, .int (nI (k / 16))), (19, .int (nI 0)), (18, .int (nI 0)), (15, .int (nI 1)), (13, .int (nI (zn + 1))), (17, .int (nI k)), (0, .ref mq), (4, .int b), (6, .int (bI (!hasD (rdD M (tn n) (tn a)) 0 200))), (7, .int (bI (blM M n a))), (8, .int (nI vf)), (9, .int (nI vi)), (10, .int (bI vs)), (11, .int (nI vl)), (12, .int (nI vc)), (16, .int (nI s_))]) dM_edit_544 (by decide) rfl ?_
                    refine xg_iload hX 1 dM_edit_546 rfl ?_
                    refine xg_if_eqN hX 756 (by omega) dM_edit_548 (by decide) (fun _ => ?_) (fun h => absurd h (by decide))
                    refine xg_iincN hX (lv' := [(16, .int (nI (s_ + 1))), (23, .int (nI 0)), (14, .int (nI 0)), (22, .int (nI 0)), (21, .int (nI (k % 16))), (20, .int (nI (k / 16))), (19, .int (nI 0)), (18, .int (nI 0)), (15, .int (nI 1)), (13, .int (nI (zn + 1))), (17, .int (nI k)), (0, .ref mq), (4, .int b), (6, .int (bI (!hasD (rdD M (tn n) (tn a)) 0 200))), (7, .int (bI (blM M n a))), (8, .int (nI vf)), (9, .int (nI vi)), (10, .int (bI vs)), (11, .int (nI vl)), (12, .int (nI vc))]) (s_ + 1) 19 dM_edit_756 rfl (xn_inc _) (by decide) rfl ?_
                    refine xg_goto hX 96 dM_edit_759 (by decide) ?_
                    refine xg_iload hX 8 dM_edit_96 rfl ?_
                    refine xg_if_eqN hX 762 (by omega) dM_edit_98 (by decide) (fun h => absurd h (by decide)) (fun _ => ?_)
                    refine xg_iload hX 2 dM_edit_101 rfl ?_
                    refine xg_if_eqN hX 762 (by omega) dM_edit_103 (by decide) (fun _ => ?_) (fun h => absurd h (by decide))
                    refine xg_iload hX 2 dM_edit_762 rfl ?_
                    refine xg_if_eqN hX 772 (by omega) dM_edit_764 (by decide) (fun _ => ?_) (fun h => absurd h (by decide))
                    refine xg_bipush hX ((-2)) dM_edit_772 (by decide) ?_
                    exact hret ((-2), M, rdD M (tn n) (tn a), Vw, men) _ _ _ rfl (show ((-2), M, men) = editM M men xw n a p b from (by have hF : edPM M xw n a p = none := (fo_no hq hnx (by omega) h168 (ob_x (by omega))); unfold editM; rw [if_pos h5, if_pos g1, hF])) dM_edit_774
                  ·
                    refine xg_iload hX 0 dM_edit_171 rfl ?_
                    refine xg_if_neN hX 180 (by omega) dM_edit_173 (by decide) (fun _ => ?_) (fun h => absurd h (by decide))
                    refine xg_iconst hX (nI 0) dM_edit_180 (by decide) ?_
                    refine xg_istore hX (lv' := [(14, .int (nI 0)), (15, .int (nI 1)), (13, .int (nI (zn + 1))), (17, .int (nI k)), (0, .ref mq), (4, .int b), (6, .int (bI (!hasD (rdD M (tn n) (tn a)) 0 200))), (7, .int (bI (blM M n a))), (8, .int (nI vf)), (9, .int (nI vi)), (10, .int (bI vs)), (11, .int (nI vl)), (12, .int (nI vc)), (16, .int (nI s_))]) dM_edit_181 (by decide) rfl ?_
                    refine xg_iload hX 3 dM_edit_183 rfl ?_
                    refine xg_iconst hX (nI 4) dM_edit_185 (by decide) ?_
                    refine xg_icmp_ltN hX 200 (by omega) (by omega) dM_edit_186 (by decide) (fun hh_652 => absurd hh_652 (by omega)) (fun hh_652 => ?_)
                    refine xg_iload hX 3 dM_edit_189 rfl ?_
                    refine xg_bipush hX (nI 8) dM_edit_191 (by decide) ?_
                    refine xg_icmp_gtN hX 200 (by omega) (by omega) dM_edit_193 (by decide) (fun hh_653 => ?_) (fun hh_653 => absurd hh_653 (by omega))
                    refine xg_iconst hX (nI 0) dM_edit_200 (by decide) ?_
                    refine xg_istore hX (lv' := [(18, .int (nI 0)), (14, .int (nI 0)), (15, .int (nI 1)), (13, .int (nI (zn + 1))), (17, .int (nI k)), (0, .ref mq), (4, .int b), (6, .int (bI (!hasD (rdD M (tn n) (tn a)) 0 200))), (7, .int (bI (blM M n a))), (8, .int (nI vf)), (9, .int (nI vi)), (10, .int (bI vs)), (11, .int (nI vl)), (12, .int (nI vc)), (16, .int (nI s_))]) dM_edit_201 (by decide) rfl ?_
                    refine xg_iload hX 0 dM_edit_203 rfl ?_
                    refine xg_if_eqN hX 228 (by omega) dM_edit_205 (by decide) (fun _ => ?_) (fun h => absurd h (by decide))
                    refine xg_iload hX 0 dM_edit_228 rfl ?_
                    refine xg_if_eqN hX 248 (by omega) dM_edit_230 (by decide) (fun _ => ?_) (fun h => absurd h (by decide))
                    refine xg_iconst hX (nI 0) dM_edit_248 (by decide) ?_
                    refine xg_istore hX (lv' := [(19, .int (nI 0)), (18, .int (nI 0)), (14, .int (nI 0)), (15, .int (nI 1)), (13, .int (nI (zn + 1))), (17, .int (nI k)), (0, .ref mq), (4, .int b), (6, .int (bI (!hasD (rdD M (tn n) (tn a)) 0 200))), (7, .int (bI (blM M n a))), (8, .int (nI vf)), (9, .int (nI vi)), (10, .int (bI vs)), (11, .int (nI vl)), (12, .int (nI vc)), (16, .int (nI s_))]) dM_edit_249 (by decide) rfl ?_
                    refine xg_iload hX 1 dM_edit_251 rfl ?_
                    refine xg_if_eqN hX 259 (by omega) dM_edit_253 (by decide) (fun _ => ?_) (fun h => absurd h (by decide))
                    refine xg_iload hX 5 dM_edit_259 rfl ?_
                    refine xg_bipush hX (nI 16) dM_edit_261 (by decide) ?_
                    refine xg_idivN hX (by omega) (by omega) (by omega) dM_edit_263 ?_
                    refine xg_istore hX (lv' := [(20, .int (nI (k / 16))), (19, .int (nI 0)), (18, .int (nI 0)), (14, .int (nI 0)), (15, .int (nI 1)), (13, .int (nI (zn + 1))), (17, .int (nI k)), (0, .ref mq), (4, .int b), (6, .int (bI (!hasD (rdD M (tn n) (tn a)) 0 200))), (7, .int (bI (blM M n a))), (8, .int (nI vf)), (9, .int (nI vi)), (10, .int (bI vs)), (11, .int (nI vl)), (12, .int (nI vc)), (16, .int (nI s_))]) dM_edit_264 (by decide) rfl ?_
                    refine xg_iload hX 6 dM_edit_266 rfl ?_
                    refine xg_bipush hX (nI 16) dM_edit_268 (by decide) ?_
                    refine xg_iremN hX (by omega) (by omega) (by omega) dM_edit_270 ?_
                    refine xg_istore hX (lv' := [(21, .int (nI (k % 16))), (20, .int (nI (k / 16))), (19, .int (nI 0)), (18, .int (nI 0)), (14, .int (nI 0)), (15, .int (nI 1)), (13, .int (nI (zn + 1))), (17, .int (nI k)), (0, .ref mq), (4, .int b), (6, .int (bI (!hasD (rdD M (tn n) (tn a)) 0 200))), (7, .int (bI (blM M n a))), (8, .int (nI vf)), (9, .int (nI vi)), (10, .int (bI vs)), (11, .int (nI vl)), (12, .int (nI vc)), (16, .int (nI s_))]) dM_edit_271 (by decide) rfl ?_
                    refine xg_iload hX 1 dM_edit_273 rfl ?_
                    refine xg_bipush hX (nI 8) dM_edit_275 (by decide) ?_
                    refine xg_icmp_ltN hX 296 (by omega) (by omega) dM_edit_277 (by decide) (fun hh_657 => ?_) (fun hh_657 => absurd hh_657 (by omega))
                    refine xg_iconst hX (nI 0) dM_edit_296 (by decide) ?_
                    refine xg_istore hX (lv' := [(22, .int (nI 0)), (21, .int (nI (k % 16))), (20, .int (nI (k / 16))), (19, .int (nI 0)), (18, .int (nI 0)), (14, .int (nI 0)), (15, .int (nI 1)), (13, .int (nI (zn + 1))), (17, .int (nI k)), (0, .ref mq), (4, .int b), (6, .int (bI (!hasD (rdD M (tn n) (tn a)) 0 200))), (7, .int (bI (blM M n a))), (8, .int (nI vf)), (9, .int (nI vi)), (10, .int (bI vs)), (11, .int (nI vl)), (12, .int (nI vc)), (16, .int (nI s_))]) dM_edit_297 (by decide) rfl ?_
                    refine xg_iload hX 5 dM_edit_299 rfl ?_
                    refine xg_if_eqN hX 320 (by omega) dM_edit_301 (by decide) (fun _ => ?_) (fun h => absurd h (by decide))
                    refine xg_iconst hX (nI 0) dM_edit_320 (by decide) ?_
                    refine xg_istore hX (lv' := [(14, .int (nI 0)), (22, .int (nI 0)), (21, .int (nI (k % 16))), (20, .int (nI (k / 16))), (19, .int (nI 0)), (18, .int (nI 0)), (15, .int (nI 1)), (13, .int (nI (zn + 1))), (17, .int (nI k)), (0, .ref mq), (4, .int b), (6, .int (bI (!hasD (rdD M (tn n) (tn a)) 0 200))), (7, .int (bI (blM M n a))), (8, .int (nI vf)), (9, .int (nI vi)), (10, .int (bI vs)), (11, .int (nI vl)), (12, .int (nI vc)), (16, .int (nI s_))]) dM_edit_321 (by decide) rfl ?_
                    refine xg_iload hX 0 dM_edit_323 rfl ?_
                    refine xg_if_eqN hX 337 (by omega) dM_edit_325 (by decide) (fun _ => ?_) (fun h => absurd h (by decide))
                    refine xg_iload hX 0 dM_edit_337 rfl ?_
                    refine xg_if_eqN hX 351 (by omega) dM_edit_339 (by decide) (fun _ => ?_) (fun h => absurd h (by decide))
                    refine xg_iload hX 0 dM_edit_351 rfl ?_
                    refine xg_if_eqN hX 366 (by omega) dM_edit_353 (by decide) (fun _ => ?_) (fun h => absurd h (by decide))
                    refine xg_iload hX 0 dM_edit_366 rfl ?_
                    refine xg_if_eqN hX 386 (by omega) dM_edit_368 (by decide) (fun _ => ?_) (fun h => absurd h (by decide))
                    refine xg_iload hX 0 dM_edit_386 rfl ?_
                    refine xg_if_eqN hX 407 (by omega) dM_edit_388 (by decide) (fun _ => ?_) (fun h => absurd h (by decide))
                    refine xg_iload hX 0 dM_edit_407 rfl ?_
                    refine xg_if_eqN hX 473 (by omega) dM_edit_409 (by decide) (fun _ => ?_) (fun h => absurd h (by decide))
                    refine xg_iload hX 0 dM_edit_473 rfl ?_
                    refine xg_if_eqN hX 543 (by omega) dM_edit_475 (by decide) (fun _ => ?_) (fun h => absurd h (by decide))
                    refine xg_iconst hX (nI 0) dM_edit_543 (by decide) ?_
                    refine xg_istore hX (lv' := [(23, .int (nI 0)), (14, .int (nI 0)), (22, .int (nI 0)), (21, .int (nI (k % 16))), (20, .int (nI (k / 16))), (19, .int (nI 0)), (18, .int (nI 0)), (15, .int (nI 1)), (13, .int (nI (zn + 1))), (17, .int (nI k)), (0, .ref mq), (4, .int b), (6, .int (bI (!hasD (rdD M (tn n) (tn a)) 0 200))), (7, .int (bI (blM M n a))), (8, .int (nI vf)), (9, .int (nI vi)), (10, .int (bI vs)), (11, .int (nI vl)), (12, .int (nI vc)), (16, .int (nI s_))]) dM_edit_544 (by decide) rfl ?_
                    refine xg_iload hX 1 dM_edit_546 rfl ?_
                    refine xg_if_eqN hX 756 (by omega) dM_edit_548 (by decide) (fun _ => ?_) (fun h => absurd h (by decide))
                    refine xg_iincN hX (lv' := [(16, .int (nI (s_ + 1))), (23, .int (nI 0)), (14, .int (nI 0)), (22, .int (nI 0)), (21, .int (nI (k % 16))), (20, .int (nI (k / 16))), (19, .int (nI 0)), (18, .int (nI 0)), (15, .int (nI 1)), (13, .int (nI (zn + 1))), (17, .int (nI k)), (0, .ref mq), (4, .int b), (6, .int (bI (!hasD (rdD M (tn n) (tn a)) 0 200))), (7, .int (bI (blM M n a))), (8, .int (nI vf)), (9, .int (nI vi)), (10, .int (bI vs)), (11, .int (nI vl)), (12, .int (nI vc))]) (s_ + 1) 19 dM_edit_756 rfl (xn_inc _) (by decide) rfl ?_
                    refine xg_goto hX 96 dM_edit_759 (by decide) ?_
                    refine xg_iload hX 8 dM_edit_96 rfl ?_
                    refine xg_if_eqN hX 762 (by omega) dM_edit_98 (by decide) (fun h => absurd h (by decide)) (fun _ => ?_)
                    refine xg_iload hX 2 dM_edit_101 rfl ?_
                    refine xg_if_eqN hX 762 (by omega) dM_edit_103 (by decide) (fun _ => ?_) (fun h => absurd h (by decide))
                    refine xg_iload hX 2 dM_edit_762 rfl ?_
                    refine xg_if_eqN hX 772 (by omega) dM_edit_764 (by decide) (fun _ => ?_) (fun h => absurd h (by decide))
                    refine xg_bipush hX ((-2)) dM_edit_772 (by decide) ?_
                    exact hret ((-2), M, rdD M (tn n) (tn a), Vw, men) _ _ _ rfl (show ((-2), M, men) = editM M men xw n a p b from (by have hF : edPM M xw n a p = none := (fo_la hq hnx (by omega) (by omega)); unfold editM; rw [if_pos h5, if_pos g1, hF])) dM_edit_774
                ·
                  refine xg_iload hX 9 dM_edit_106 rfl ?_
                  refine xg_if_ltN hX 123 (by omega) dM_edit_108 (by decide) ?_
                  refine xg_iload hX 9 dM_edit_111 rfl ?_
                  refine xg_sipush hX (nI 256) dM_edit_113 (by decide) ?_
                  refine xg_icmp_geN hX 123 (by omega) (by omega) dM_edit_116 (by decide) (fun h116 => absurd h116 (by omega)) (fun h116 => ?_)
                  refine xg_iconst hX (nI 1) dM_edit_119 (by decide) ?_
                  refine xg_goto hX 124 dM_edit_120 (by decide) ?_
                  refine xg_istore hX (lv' := [(14, .int (nI 1)), (0, .ref mq), (4, .int b), (6, .int (bI (!hasD (rdD M (tn n) (tn a)) 0 200))), (7, .int (bI (blM M n a))), (8, .int (nI vf)), (9, .int (nI vi)), (10, .int (bI vs)), (11, .int (nI vl)), (12, .int (nI vc)), (13, .int (nI zn)), (15, .int (nI 1)), (16, .int (nI s_))]) dM_edit_124 (by decide) rfl ?_
                  refine xg_iload hX 0 dM_edit_126 rfl ?_
                  refine xg_if_eqN hX 141 (by omega) dM_edit_128 (by decide) (fun h => absurd h (by decide)) (fun _ => ?_)
                  refine xg_aload_n hX 1 dM_edit_131 rfl rfl ?_
                  refine xg_get hX (ci := 3) rfl hinM 0 rfl 0 (by decide) mt_324 rfl dM_edit_132 ?_
                  refine xg_iload hX 10 dM_edit_135 rfl ?_
                  refine xg_iald hX 1 zn rfl (by omega) (by decide) dM_edit_137 ?_
                  refine xg_top (nI k) (by rw [hk4]) ?_
                  refine xg_goto hX 142 dM_edit_138 (by decide) ?_
                  refine xg_istore hX (lv' := [(17, .int (nI k)), (14, .int (nI 1)), (0, .ref mq), (4, .int b), (6, .int (bI (!hasD (rdD M (tn n) (tn a)) 0 200))), (7, .int (bI (blM M n a))), (8, .int (nI vf)), (9, .int (nI vi)), (10, .int (bI vs)), (11, .int (nI vl)), (12, .int (nI vc)), (13, .int (nI zn)), (15, .int (nI 1)), (16, .int (nI s_))]) dM_edit_142 (by decide) rfl ?_
                  refine xg_iincN hX (lv' := [(13, .int (nI (zn + 1))), (17, .int (nI k)), (14, .int (nI 1)), (0, .ref mq), (4, .int b), (6, .int (bI (!hasD (rdD M (tn n) (tn a)) 0 200))), (7, .int (bI (blM M n a))), (8, .int (nI vf)), (9, .int (nI vi)), (10, .int (bI vs)), (11, .int (nI vl)), (12, .int (nI vc)), (15, .int (nI 1)), (16, .int (nI s_))]) (zn + 1) 11 dM_edit_144 rfl (xn_inc _) (by decide) rfl ?_
                  refine xg_iload hX 1 dM_edit_147 rfl ?_
                  refine xg_if_eqN hX 156 (by omega) dM_edit_149 (by decide) (fun hh_671 => absurd hh_671 (by omega)) (fun hh_671 => ?_)
                  refine xg_iconst hX (nI 1) dM_edit_152 (by decide) ?_
                  refine xg_goto hX 157 dM_edit_153 (by decide) ?_
                  refine xg_istore hX (lv' := [(15, .int (nI 1)), (13, .int (nI (zn + 1))), (17, .int (nI k)), (14, .int (nI 1)), (0, .ref mq), (4, .int b), (6, .int (bI (!hasD (rdD M (tn n) (tn a)) 0 200))), (7, .int (bI (blM M n a))), (8, .int (nI vf)), (9, .int (nI vi)), (10, .int (bI vs)), (11, .int (nI vl)), (12, .int (nI vc)), (16, .int (nI s_))]) dM_edit_157 (by decide) rfl ?_
                  refine xg_iload hX 3 dM_edit_159 rfl ?_
                  refine xg_if_eqN hX 180 (by omega) dM_edit_161 (by decide) (fun h => absurd h (by decide)) (fun _ => ?_)
                  refine xg_iload hX 13 dM_edit_164 rfl ?_
                  refine xg_bipush hX (nI 64) dM_edit_166 (by decide) ?_
                  refine xg_icmp_ltN hX 176 (by omega) (by omega) dM_edit_168 (by decide) (fun h168 => ?_) (fun h168 => ?_)
                  ·
                    refine xg_iconst hX (nI 1) dM_edit_176 (by decide) ?_
                    refine xg_goto hX 181 dM_edit_177 (by decide) ?_
                    refine xg_istore hX (lv' := [(14, .int (nI 1)), (15, .int (nI 1)), (13, .int (nI (zn + 1))), (17, .int (nI k)), (0, .ref mq), (4, .int b), (6, .int (bI (!hasD (rdD M (tn n) (tn a)) 0 200))), (7, .int (bI (blM M n a))), (8, .int (nI vf)), (9, .int (nI vi)), (10, .int (bI vs)), (11, .int (nI vl)), (12, .int (nI vc)), (16, .int (nI s_))]) dM_edit_181 (by decide) rfl ?_
                    refine xg_iload hX 3 dM_edit_183 rfl ?_
                    refine xg_iconst hX (nI 4) dM_edit_185 (by decide) ?_
                    refine xg_icmp_ltN hX 200 (by omega) (by omega) dM_edit_186 (by decide) (fun hh_673 => absurd hh_673 (by omega)) (fun hh_673 => ?_)
                    refine xg_iload hX 3 dM_edit_189 rfl ?_
                    refine xg_bipush hX (nI 8) dM_edit_191 (by decide) ?_
                    refine xg_icmp_gtN hX 200 (by omega) (by omega) dM_edit_193 (by decide) (fun hh_674 => ?_) (fun hh_674 => absurd hh_674 (by omega))
                    refine xg_iconst hX (nI 0) dM_edit_200 (by decide) ?_
                    refine xg_istore hX (lv' := [(18, .int (nI 0)), (14, .int (nI 1)), (15, .int (nI 1)), (13, .int (nI (zn + 1))), (17, .int (nI k)), (0, .ref mq), (4, .int b), (6, .int (bI (!hasD (rdD M (tn n) (tn a)) 0 200))), (7, .int (bI (blM M n a))), (8, .int (nI vf)), (9, .int (nI vi)), (10, .int (bI vs)), (11, .int (nI vl)), (12, .int (nI vc)), (16, .int (nI s_))]) dM_edit_201 (by decide) rfl ?_
                    refine xg_iload hX 0 dM_edit_203 rfl ?_
                    refine xg_if_eqN hX 228 (by omega) dM_edit_205 (by decide) (fun _ => ?_) (fun h => absurd h (by decide))
                    refine xg_iload hX 0 dM_edit_228 rfl ?_
                    refine xg_if_eqN hX 248 (by omega) dM_edit_230 (by decide) (fun _ => ?_) (fun h => absurd h (by decide))
                    refine xg_iconst hX (nI 0) dM_edit_248 (by decide) ?_
                    refine xg_istore hX (lv' := [(19, .int (nI 0)), (18, .int (nI 0)), (14, .int (nI 1)), (15, .int (nI 1)), (13, .int (nI (zn + 1))), (17, .int (nI k)), (0, .ref mq), (4, .int b), (6, .int (bI (!hasD (rdD M (tn n) (tn a)) 0 200))), (7, .int (bI (blM M n a))), (8, .int (nI vf)), (9, .int (nI vi)), (10, .int (bI vs)), (11, .int (nI vl)), (12, .int (nI vc)), (16, .int (nI s_))]) dM_edit_249 (by decide) rfl ?_
                    refine xg_iload hX 1 dM_edit_251 rfl ?_
                    refine xg_if_eqN hX 259 (by omega) dM_edit_253 (by decide) (fun _ => ?_) (fun h => absurd h (by decide))
                    refine xg_iload hX 5 dM_edit_259 rfl ?_
                    refine xg_bipush hX (nI 16) dM_edit_261 (by decide) ?_
                    refine xg_idivN hX (by omega) (by omega) (by omega) dM_edit_263 ?_
                    refine xg_istore hX (lv' := [(20, .int (nI (k / 16))), (19, .int (nI 0)), (18, .int (nI 0)), (14, .int (nI 1)), (15, .int (nI 1)), (13, .int (nI (zn + 1))), (17, .int (nI k)), (0, .ref mq), (4, .int b), (6, .int (bI (!hasD (rdD M (tn n) (tn a)) 0 200))), (7, .int (bI (blM M n a))), (8, .int (nI vf)), (9, .int (nI vi)), (10, .int (bI vs)), (11, .int (nI vl)), (12, .int (nI vc)), (16, .int (nI s_))]) dM_edit_264 (by decide) rfl ?_
                    refine xg_iload hX 6 dM_edit_266 rfl ?_
                    refine xg_bipush hX (nI 16) dM_edit_268 (by decide) ?_
                    refine xg_iremN hX (by omega) (by omega) (by omega) dM_edit_270 ?_
                    refine xg_istore hX (lv' := [(21, .int (nI (k % 16))), (20, .int (nI (k / 16))), (19, .int (nI 0)), (18, .int (nI 0)), (14, .int (nI 1)), (15, .int (nI 1)), (13, .int (nI (zn + 1))), (17, .int (nI k)), (0, .ref mq), (4, .int b), (6, .int (bI (!hasD (rdD M (tn n) (tn a)) 0 200))), (7, .int (bI (blM M n a))), (8, .int (nI vf)), (9, .int (nI vi)), (10, .int (bI vs)), (11, .int (nI vl)), (12, .int (nI vc)), (16, .int (nI s_))]) dM_edit_271 (by decide) rfl ?_
                    refine xg_iload hX 1 dM_edit_273 rfl ?_
                    refine xg_bipush hX (nI 8) dM_edit_275 (by decide) ?_
                    refine xg_icmp_ltN hX 296 (by omega) (by omega) dM_edit_277 (by decide) (fun hh_678 => absurd hh_678 (by omega)) (fun hh_678 => ?_)
                    refine xg_iload hX 1 dM_edit_280 rfl ?_
                    refine xg_bipush hX (nI 10) dM_edit_282 (by decide) ?_
                    refine xg_icmp_gtN hX 296 (by omega) (by omega) dM_edit_284 (by decide) (fun hh_679 => absurd hh_679 (by omega)) (fun hh_679 => ?_)
                    refine xg_iload hX 0 dM_edit_287 rfl ?_
                    refine xg_if_leN hX 296 (by omega) dM_edit_289 (by decide) (fun hh_680 => ?_) (fun hh_680 => absurd hh_680 (by omega))
                    refine xg_iconst hX (nI 0) dM_edit_296 (by decide) ?_
                    refine xg_istore hX (lv' := [(22, .int (nI 0)), (21, .int (nI (k % 16))), (20, .int (nI (k / 16))), (19, .int (nI 0)), (18, .int (nI 0)), (14, .int (nI 1)), (15, .int (nI 1)), (13, .int (nI (zn + 1))), (17, .int (nI k)), (0, .ref mq), (4, .int b), (6, .int (bI (!hasD (rdD M (tn n) (tn a)) 0 200))), (7, .int (bI (blM M n a))), (8, .int (nI vf)), (9, .int (nI vi)), (10, .int (bI vs)), (11, .int (nI vl)), (12, .int (nI vc)), (16, .int (nI s_))]) dM_edit_297 (by decide) rfl ?_
                    refine xg_iload hX 5 dM_edit_299 rfl ?_
                    refine xg_if_eqN hX 320 (by omega) dM_edit_301 (by decide) (fun h => absurd h (by decide)) (fun _ => ?_)
                    refine xg_iload hX 8 dM_edit_304 rfl ?_
                    refine xg_bipush hX (nI 8) dM_edit_306 (by decide) ?_
                    refine xg_icmp_leN hX 316 (by omega) (by omega) dM_edit_308 (by decide) (fun hh_682 => absurd hh_682 (by omega)) (fun hh_682 => ?_)
                    refine xg_iload hX 0 dM_edit_311 rfl ?_
                    refine xg_if_eqN hX 320 (by omega) dM_edit_313 (by decide) (fun _ => ?_) (fun h => absurd h (by decide))
                    refine xg_iconst hX (nI 0) dM_edit_320 (by decide) ?_
                    refine xg_istore hX (lv' := [(14, .int (nI 0)), (22, .int (nI 0)), (21, .int (nI (k % 16))), (20, .int (nI (k / 16))), (19, .int (nI 0)), (18, .int (nI 0)), (15, .int (nI 1)), (13, .int (nI (zn + 1))), (17, .int (nI k)), (0, .ref mq), (4, .int b), (6, .int (bI (!hasD (rdD M (tn n) (tn a)) 0 200))), (7, .int (bI (blM M n a))), (8, .int (nI vf)), (9, .int (nI vi)), (10, .int (bI vs)), (11, .int (nI vl)), (12, .int (nI vc)), (16, .int (nI s_))]) dM_edit_321 (by decide) rfl ?_
                    refine xg_iload hX 0 dM_edit_323 rfl ?_
                    refine xg_if_eqN hX 337 (by omega) dM_edit_325 (by decide) (fun _ => ?_) (fun h => absurd h (by decide))
                    refine xg_iload hX 0 dM_edit_337 rfl ?_
                    refine xg_if_eqN hX 351 (by omega) dM_edit_339 (by decide) (fun _ => ?_) (fun h => absurd h (by decide))
                    refine xg_iload hX 0 dM_edit_351 rfl ?_
                    refine xg_if_eqN hX 366 (by omega) dM_edit_353 (by decide) (fun _ => ?_) (fun h => absurd h (by decide))
                    refine xg_iload hX 0 dM_edit_366 rfl ?_
                    refine xg_if_eqN hX 386 (by omega) dM_edit_368 (by decide) (fun _ => ?_) (fun h => absurd h (by decide))
                    refine xg_iload hX 0 dM_edit_386 rfl ?_
                    refine xg_if_eqN hX 407 (by omega) dM_edit_388 (by decide) (fun _ => ?_) (fun h => absurd h (by decide))
                    refine xg_iload hX 0 dM_edit_407 rfl ?_
                    refine xg_if_eqN hX 473 (by omega) dM_edit_409 (by decide) (fun _ => ?_) (fun h => absurd h (by decide))
                    refine xg_iload hX 0 dM_edit_473 rfl ?_
                    refine xg_if_eqN hX 543 (by omega) dM_edit_475 (by decide) (fun _ => ?_) (fun h => absurd h (by decide))
                    refine xg_iconst hX (nI 0) dM_edit_543 (by decide) ?_
                    refine xg_istore hX (lv' := [(23, .int (nI 0)), (14, .int (nI 0)), (22, .int (nI 0)), (21, .int (nI (k % 16))), (20, .int (nI (k / 16))), (19, .int (nI 0)), (18, .int (nI 0)), (15, .int (nI 1)), (13, .int (nI (zn + 1))), (17, .int (nI k)), (0, .ref mq), (4, .int b), (6, .int (bI (!hasD (rdD M (tn n) (tn a)) 0 200))), (7, .int (bI (blM M n a))), (8, .int (nI vf)), (9, .int (nI vi)), (10, .int (bI vs)), (11, .int (nI vl)), (12, .int (nI vc)), (16, .int (nI s_))]) dM_edit_544 (by decide) rfl ?_
                    refine xg_iload hX 1 dM_edit_546 rfl ?_
                    refine xg_if_eqN hX 756 (by omega) dM_edit_548 (by decide) (fun _ => ?_) (fun h => absurd h (by decide))
                    refine xg_iincN hX (lv' := [(16, .int (nI (s_ + 1))), (23, .int (nI 0)), (14, .int (nI 0)), (22, .int (nI 0)), (21, .int (nI (k % 16))), (20, .int (nI (k / 16))), (19, .int (nI 0)), (18, .int (nI 0)), (15, .int (nI 1)), (13, .int (nI (zn + 1))), (17, .int (nI k)), (0, .ref mq), (4, .int b), (6, .int (bI (!hasD (rdD M (tn n) (tn a)) 0 200))), (7, .int (bI (blM M n a))), (8, .int (nI vf)), (9, .int (nI vi)), (10, .int (bI vs)), (11, .int (nI vl)), (12, .int (nI vc))]) (s_ + 1) 19 dM_edit_756 rfl (xn_inc _) (by decide) rfl ?_
                    refine xg_goto hX 96 dM_edit_759 (by decide) ?_
                    refine xg_iload hX 8 dM_edit_96 rfl ?_
                    refine xg_if_eqN hX 762 (by omega) dM_edit_98 (by decide) (fun h => absurd h (by decide)) (fun _ => ?_)
                    refine xg_iload hX 2 dM_edit_101 rfl ?_
                    refine xg_if_eqN hX 762 (by omega) dM_edit_103 (by decide) (fun _ => ?_) (fun h => absurd h (by decide))
                    refine xg_iload hX 2 dM_edit_762 rfl ?_
                    refine xg_if_eqN hX 772 (by omega) dM_edit_764 (by decide) (fun _ => ?_) (fun h => absurd h (by decide))
                    refine xg_bipush hX ((-2)) dM_edit_772 (by decide) ?_
                    exact hret ((-2), M, rdD M (tn n) (tn a), Vw, men) _ _ _ rfl (show ((-2), M, men) = editM M men xw n a p b from (by have hF : edPM M xw n a p = none := (fo_no hq hnx (by omega) h168 (ob_x (by omega))); unfold editM; rw [if_pos h5, if_pos g1, hF])) dM_edit_774
                  ·
                    refine xg_iload hX 0 dM_edit_171 rfl ?_
                    refine xg_if_neN hX 180 (by omega) dM_edit_173 (by decide) (fun _ => ?_) (fun h => absurd h (by decide))
                    refine xg_iconst hX (nI 0) dM_edit_180 (by decide) ?_
                    refine xg_istore hX (lv' := [(14, .int (nI 0)), (15, .int (nI 1)), (13, .int (nI (zn + 1))), (17, .int (nI k)), (0, .ref mq), (4, .int b), (6, .int (bI (!hasD (rdD M (tn n) (tn a)) 0 200))), (7, .int (bI (blM M n a))), (8, .int (nI vf)), (9, .int (nI vi)), (10, .int (bI vs)), (11, .int (nI vl)), (12, .int (nI vc)), (16, .int (nI s_))]) dM_edit_181 (by decide) rfl ?_
                    refine xg_iload hX 3 dM_edit_183 rfl ?_
                    refine xg_iconst hX (nI 4) dM_edit_185 (by decide) ?_
                    refine xg_icmp_ltN hX 200 (by omega) (by omega) dM_edit_186 (by decide) (fun hh_696 => absurd hh_696 (by omega)) (fun hh_696 => ?_)
                    refine xg_iload hX 3 dM_edit_189 rfl ?_
                    refine xg_bipush hX (nI 8) dM_edit_191 (by decide) ?_
                    refine xg_icmp_gtN hX 200 (by omega) (by omega) dM_edit_193 (by decide) (fun hh_697 => ?_) (fun hh_697 => absurd hh_697 (by omega))
                    refine xg_iconst hX (nI 0) dM_edit_200 (by decide) ?_
                    refine xg_istore hX (lv' := [(18, .int (nI 0)), (14, .int (nI 0)), (15, .int (nI 1)), (13, .int (nI (zn + 1))), (17, .int (nI k)), (0, .ref mq), (4, .int b), (6, .int (bI (!hasD (rdD M (tn n) (tn a)) 0 200))), (7, .int (bI (blM M n a))), (8, .int (nI vf)), (9, .int (nI vi)), (10, .int (bI vs)), (11, .int (nI vl)), (12, .int (nI vc)), (16, .int (nI s_))]) dM_edit_201 (by decide) rfl ?_
                    refine xg_iload hX 0 dM_edit_203 rfl ?_
                    refine xg_if_eqN hX 228 (by omega) dM_edit_205 (by decide) (fun _ => ?_) (fun h => absurd h (by decide))
                    refine xg_iload hX 0 dM_edit_228 rfl ?_
                    refine xg_if_eqN hX 248 (by omega) dM_edit_230 (by decide) (fun _ => ?_) (fun h => absurd h (by decide))
                    refine xg_iconst hX (nI 0) dM_edit_248 (by decide) ?_
                    refine xg_istore hX (lv' := [(19, .int (nI 0)), (18, .int (nI 0)), (14, .int (nI 0)), (15, .int (nI 1)), (13, .int (nI (zn + 1))), (17, .int (nI k)), (0, .ref mq), (4, .int b), (6, .int (bI (!hasD (rdD M (tn n) (tn a)) 0 200))), (7, .int (bI (blM M n a))), (8, .int (nI vf)), (9, .int (nI vi)), (10, .int (bI vs)), (11, .int (nI vl)), (12, .int (nI vc)), (16, .int (nI s_))]) dM_edit_249 (by decide) rfl ?_
                    refine xg_iload hX 1 dM_edit_251 rfl ?_
                    refine xg_if_eqN hX 259 (by omega) dM_edit_253 (by decide) (fun _ => ?_) (fun h => absurd h (by decide))
                    refine xg_iload hX 5 dM_edit_259 rfl ?_
                    refine xg_bipush hX (nI 16) dM_edit_261 (by decide) ?_
                    refine xg_idivN hX (by omega) (by omega) (by omega) dM_edit_263 ?_
                    refine xg_istore hX (lv' := [(20, .int (nI (k / 16))), (19, .int (nI 0)), (18, .int (nI 0)), (14, .int (nI 0)), (15, .int (nI 1)), (13, .int (nI (zn + 1))), (17, .int (nI k)), (0, .ref mq), (4, .int b), (6, .int (bI (!hasD (rdD M (tn n) (tn a)) 0 200))), (7, .int (bI (blM M n a))), (8, .int (nI vf)), (9, .int (nI vi)), (10, .int (bI vs)), (11, .int (nI vl)), (12, .int (nI vc)), (16, .int (nI s_))]) dM_edit_264 (by decide) rfl ?_
                    refine xg_iload hX 6 dM_edit_266 rfl ?_
                    refine xg_bipush hX (nI 16) dM_edit_268 (by decide) ?_
                    refine xg_iremN hX (by omega) (by omega) (by omega) dM_edit_270 ?_
                    refine xg_istore hX (lv' := [(21, .int (nI (k % 16))), (20, .int (nI (k / 16))), (19, .int (nI 0)), (18, .int (nI 0)), (14, .int (nI 0)), (15, .int (nI 1)), (13, .int (nI (zn + 1))), (17, .int (nI k)), (0, .ref mq), (4, .int b), (6, .int (bI (!hasD (rdD M (tn n) (tn a)) 0 200))), (7, .int (bI (blM M n a))), (8, .int (nI vf)), (9, .int (nI vi)), (10, .int (bI vs)), (11, .int (nI vl)), (12, .int (nI vc)), (16, .int (nI s_))]) dM_edit_271 (by decide) rfl ?_
                    refine xg_iload hX 1 dM_edit_273 rfl ?_
                    refine xg_bipush hX (nI 8) dM_edit_275 (by decide) ?_
                    refine xg_icmp_ltN hX 296 (by omega) (by omega) dM_edit_277 (by decide) (fun hh_701 => absurd hh_701 (by omega)) (fun hh_701 => ?_)
                    refine xg_iload hX 1 dM_edit_280 rfl ?_
                    refine xg_bipush hX (nI 10) dM_edit_282 (by decide) ?_
                    refine xg_icmp_gtN hX 296 (by omega) (by omega) dM_edit_284 (by decide) (fun hh_702 => absurd hh_702 (by omega)) (fun hh_702 => ?_)
                    refine xg_iload hX 0 dM_edit_287 rfl ?_
                    refine xg_if_leN hX 296 (by omega) dM_edit_289 (by decide) (fun hh_703 => ?_) (fun hh_703 => absurd hh_703 (by omega))
                    refine xg_iconst hX (nI 0) dM_edit_296 (by decide) ?_
                    refine xg_istore hX (lv' := [(22, .int (nI 0)), (21, .int (nI (k % 16))), (20, .int (nI (k / 16))), (19, .int (nI 0)), (18, .int (nI 0)), (14, .int (nI 0)), (15, .int (nI 1)), (13, .int (nI (zn + 1))), (17, .int (nI k)), (0, .ref mq), (4, .int b), (6, .int (bI (!hasD (rdD M (tn n) (tn a)) 0 200))), (7, .int (bI (blM M n a))), (8, .int (nI vf)), (9, .int (nI vi)), (10, .int (bI vs)), (11, .int (nI vl)), (12, .int (nI vc)), (16, .int (nI s_))]) dM_edit_297 (by decide) rfl ?_
                    refine xg_iload hX 5 dM_edit_299 rfl ?_
                    refine xg_if_eqN hX 320 (by omega) dM_edit_301 (by decide) (fun _ => ?_) (fun h => absurd h (by decide))
                    refine xg_iconst hX (nI 0) dM_edit_320 (by decide) ?_
                    refine xg_istore hX (lv' := [(14, .int (nI 0)), (22, .int (nI 0)), (21, .int (nI (k % 16))), (20, .int (nI (k / 16))), (19, .int (nI 0)), (18, .int (nI 0)), (15, .int (nI 1)), (13, .int (nI (zn + 1))), (17, .int (nI k)), (0, .ref mq), (4, .int b), (6, .int (bI (!hasD (rdD M (tn n) (tn a)) 0 200))), (7, .int (bI (blM M n a))), (8, .int (nI vf)), (9, .int (nI vi)), (10, .int (bI vs)), (11, .int (nI vl)), (12, .int (nI vc)), (16, .int (nI s_))]) dM_edit_321 (by decide) rfl ?_
                    refine xg_iload hX 0 dM_edit_323 rfl ?_
                    refine xg_if_eqN hX 337 (by omega) dM_edit_325 (by decide) (fun _ => ?_) (fun h => absurd h (by decide))
                    refine xg_iload hX 0 dM_edit_337 rfl ?_
                    refine xg_if_eqN hX 351 (by omega) dM_edit_339 (by decide) (fun _ => ?_) (fun h => absurd h (by decide))
                    refine xg_iload hX 0 dM_edit_351 rfl ?_
                    refine xg_if_eqN hX 366 (by omega) dM_edit_353 (by decide) (fun _ => ?_) (fun h => absurd h (by decide))
                    refine xg_iload hX 0 dM_edit_366 rfl ?_
                    refine xg_if_eqN hX 386 (by omega) dM_edit_368 (by decide) (fun _ => ?_) (fun h => absurd h (by decide))
                    refine xg_iload hX 0 dM_edit_386 rfl ?_
                    refine xg_if_eqN hX 407 (by omega) dM_edit_388 (by decide) (fun _ => ?_) (fun h => absurd h (by decide))
                    refine xg_iload hX 0 dM_edit_407 rfl ?_
                    refine xg_if_eqN hX 473 (by omega) dM_edit_409 (by decide) (fun _ => ?_) (fun h => absurd h (by decide))
                    refine xg_iload hX 0 dM_edit_473 rfl ?_
                    refine xg_if_eqN hX 543 (by omega) dM_edit_475 (by decide) (fun _ => ?_) (fun h => absurd h (by decide))
                    refine xg_iconst hX (nI 0) dM_edit_543 (by decide) ?_
                    refine xg_istore hX (lv' := [(23, .int (nI 0)), (14, .int (nI 0)), (22, .int (nI 0)), (21, .int (nI (k % 16))), (20, .int (nI (k / 16))), (19, .int (nI 0)), (18, .int (nI 0)), (15, .int (nI 1)), (13, .int (nI (zn + 1))), (17, .int (nI k)), (0, .ref mq), (4, .int b), (6, .int (bI (!hasD (rdD M (tn n) (tn a)) 0 200))), (7, .int (bI (blM M n a))), (8, .int (nI vf)), (9, .int (nI vi)), (10, .int (bI vs)), (11, .int (nI vl)), (12, .int (nI vc)), (16, .int (nI s_))]) dM_edit_544 (by decide) rfl ?_
                    refine xg_iload hX 1 dM_edit_546 rfl ?_
                    refine xg_if_eqN hX 756 (by omega) dM_edit_548 (by decide) (fun _ => ?_) (fun h => absurd h (by decide))
                    refine xg_iincN hX (lv' := [(16, .int (nI (s_ + 1))), (23, .int (nI 0)), (14, .int (nI 0)), (22, .int (nI 0)), (21, .int (nI (k % 16))), (20, .int (nI (k / 16))), (19, .int (nI 0)), (18, .int (nI 0)), (15, .int (nI 1)), (13, .int (nI (zn + 1))), (17, .int (nI k)), (0, .ref mq), (4, .int b), (6, .int (bI (!hasD (rdD M (tn n) (tn a)) 0 200))), (7, .int (bI (blM M n a))), (8, .int (nI vf)), (9, .int (nI vi)), (10, .int (bI vs)), (11, .int (nI vl)), (12, .int (nI vc))]) (s_ + 1) 19 dM_edit_756 rfl (xn_inc _) (by decide) rfl ?_
                    refine xg_goto hX 96 dM_edit_759 (by decide) ?_
                    refine xg_iload hX 8 dM_edit_96 rfl ?_
                    refine xg_if_eqN hX 762 (by omega) dM_edit_98 (by decide) (fun h => absurd h (by decide)) (fun _ => ?_)
                    refine xg_iload hX 2 dM_edit_101 rfl ?_
                    refine xg_if_eqN hX 762 (by omega) dM_edit_103 (by decide) (fun _ => ?_) (fun h => absurd h (by decide))
                    refine xg_iload hX 2 dM_edit_762 rfl ?_
                    refine xg_if_eqN hX 772 (by omega) dM_edit_764 (by decide) (fun _ => ?_) (fun h => absurd h (by decide))
                    refine xg_bipush hX ((-2)) dM_edit_772 (by decide) ?_
                    exact hret ((-2), M, rdD M (tn n) (tn a), Vw, men) _ _ _ rfl (show ((-2), M, men) = editM M men xw n a p b from (by have hF : edPM M xw n a p = none := (fo_la hq hnx (by omega) (by omega)); unfold editM; rw [if_pos h5, if_pos g1, hF])) dM_edit_774
                ·
                  refine xg_iload hX 9 dM_edit_106 rfl ?_
                  refine xg_if_ltN hX 123 (by omega) dM_edit_108 (by decide) ?_
                  refine xg_iload hX 9 dM_edit_111 rfl ?_
                  refine xg_sipush hX (nI 256) dM_edit_113 (by decide) ?_
                  refine xg_icmp_geN hX 123 (by omega) (by omega) dM_edit_116 (by decide) (fun h116 => absurd h116 (by omega)) (fun h116 => ?_)
                  refine xg_iconst hX (nI 1) dM_edit_119 (by decide) ?_
                  refine xg_goto hX 124 dM_edit_120 (by decide) ?_
                  refine xg_istore hX (lv' := [(14, .int (nI 1)), (0, .ref mq), (4, .int b), (6, .int (bI (!hasD (rdD M (tn n) (tn a)) 0 200))), (7, .int (bI (blM M n a))), (8, .int (nI vf)), (9, .int (nI vi)), (10, .int (bI vs)), (11, .int (nI vl)), (12, .int (nI vc)), (13, .int (nI zn)), (15, .int (nI 1)), (16, .int (nI s_))]) dM_edit_124 (by decide) rfl ?_
                  refine xg_iload hX 0 dM_edit_126 rfl ?_
                  refine xg_if_eqN hX 141 (by omega) dM_edit_128 (by decide) (fun h => absurd h (by decide)) (fun _ => ?_)
                  refine xg_aload_n hX 1 dM_edit_131 rfl rfl ?_
                  refine xg_get hX (ci := 3) rfl hinM 0 rfl 0 (by decide) mt_324 rfl dM_edit_132 ?_
                  refine xg_iload hX 10 dM_edit_135 rfl ?_
                  refine xg_iald hX 1 zn rfl (by omega) (by decide) dM_edit_137 ?_
                  refine xg_top (nI k) (by rw [hk4]) ?_
                  refine xg_goto hX 142 dM_edit_138 (by decide) ?_
                  refine xg_istore hX (lv' := [(17, .int (nI k)), (14, .int (nI 1)), (0, .ref mq), (4, .int b), (6, .int (bI (!hasD (rdD M (tn n) (tn a)) 0 200))), (7, .int (bI (blM M n a))), (8, .int (nI vf)), (9, .int (nI vi)), (10, .int (bI vs)), (11, .int (nI vl)), (12, .int (nI vc)), (13, .int (nI zn)), (15, .int (nI 1)), (16, .int (nI s_))]) dM_edit_142 (by decide) rfl ?_
                  refine xg_iincN hX (lv' := [(13, .int (nI (zn + 1))), (17, .int (nI k)), (14, .int (nI 1)), (0, .ref mq), (4, .int b), (6, .int (bI (!hasD (rdD M (tn n) (tn a)) 0 200))), (7, .int (bI (blM M n a))), (8, .int (nI vf)), (9, .int (nI vi)), (10, .int (bI vs)), (11, .int (nI vl)), (12, .int (nI vc)), (15, .int (nI 1)), (16, .int (nI s_))]) (zn + 1) 11 dM_edit_144 rfl (xn_inc _) (by decide) rfl ?_
                  refine xg_iload hX 1 dM_edit_147 rfl ?_
                  refine xg_if_eqN hX 156 (by omega) dM_edit_149 (by decide) (fun hh_717 => absurd hh_717 (by omega)) (fun hh_717 => ?_)
                  refine xg_iconst hX (nI 1) dM_edit_152 (by decide) ?_
                  refine xg_goto hX 157 dM_edit_153 (by decide) ?_
                  refine xg_istore hX (lv' := [(15, .int (nI 1)), (13, .int (nI (zn + 1))), (17, .int (nI k)), (14, .int (nI 1)), (0, .ref mq), (4, .int b), (6, .int (bI (!hasD (rdD M (tn n) (tn a)) 0 200))), (7, .int (bI (blM M n a))), (8, .int (nI vf)), (9, .int (nI vi)), (10, .int (bI vs)), (11, .int (nI vl)), (12, .int (nI vc)), (16, .int (nI s_))]) dM_edit_157 (by decide) rfl ?_
                  refine xg_iload hX 3 dM_edit_159 rfl ?_
                  refine xg_if_eqN hX 180 (by omega) dM_edit_161 (by decide) (fun h => absurd h (by decide)) (fun _ => ?_)
                  refine xg_iload hX 13 dM_edit_164 rfl ?_
                  refine xg_bipush hX (nI 64) dM_edit_166 (by decide) ?_
                  refine xg_icmp_ltN hX 176 (by omega) (by omega) dM_edit_168 (by decide) (fun h168 => ?_) (fun h168 => ?_)
                  ·
                    refine xg_iconst hX (nI 1) dM_edit_176 (by decide) ?_
                    refine xg_goto hX 181 dM_edit_177 (by decide) ?_
                    refine xg_istore hX (lv' := [(14, .int (nI 1)), (15, .int (nI 1)), (13, .int (nI (zn + 1))), (17, .int (nI k)), (0, .ref mq), (4, .int b), (6, .int (bI (!hasD (rdD M (tn n) (tn a)) 0 200))), (7, .int (bI (blM M n a))), (8, .int (nI vf)), (9, .int (nI vi)), (10, .int (bI vs)), (11, .int (nI vl)), (12, .int (nI vc)), (16, .int (nI s_))]) dM_edit_181 (by decide) rfl ?_
                    refine xg_iload hX 3 dM_edit_183 rfl ?_
                    refine xg_iconst hX (nI 4) dM_edit_185 (by decide) ?_
                    refine xg_icmp_ltN hX 200 (by omega) (by omega) dM_edit_186 (by decide) (fun hh_719 => absurd hh_719 (by omega)) (fun hh_719 => ?_)
                    refine xg_iload hX 3 dM_edit_189 rfl ?_
                    refine xg_bipush hX (nI 8) dM_edit_191 (by decide) ?_
                    refine xg_icmp_gtN hX 200 (by omega) (by omega) dM_edit_193 (by decide) (fun hh_720 => ?_) (fun hh_720 => absurd hh_720 (by omega))
                    refine xg_iconst hX (nI 0) dM_edit_200 (by decide) ?_
                    refine xg_istore hX (lv' := [(18, .int (nI 0)), (14, .int (nI 1)), (15, .int (nI 1)), (13, .int (nI (zn + 1))), (17, .int (nI k)), (0, .ref mq), (4, .int b), (6, .int (bI (!hasD (rdD M (tn n) (tn a)) 0 200))), (7, .int (bI (blM M n a))), (8, .int (nI vf)), (9, .int (nI vi)), (10, .int (bI vs)), (11, .int (nI vl)), (12, .int (nI vc)), (16, .int (nI s_))]) dM_edit_201 (by decide) rfl ?_
                    refine xg_iload hX 0 dM_edit_203 rfl ?_
                    refine xg_if_eqN hX 228 (by omega) dM_edit_205 (by decide) (fun _ => ?_) (fun h => absurd h (by decide))
                    refine xg_iload hX 0 dM_edit_228 rfl ?_
                    refine xg_if_eqN hX 248 (by omega) dM_edit_230 (by decide) (fun _ => ?_) (fun h => absurd h (by decide))
                    refine xg_iconst hX (nI 0) dM_edit_248 (by decide) ?_
                    refine xg_istore hX (lv' := [(19, .int (nI 0)), (18, .int (nI 0)), (14, .int (nI 1)), (15, .int (nI 1)), (13, .int (nI (zn + 1))), (17, .int (nI k)), (0, .ref mq), (4, .int b), (6, .int (bI (!hasD (rdD M (tn n) (tn a)) 0 200))), (7, .int (bI (blM M n a))), (8, .int (nI vf)), (9, .int (nI vi)), (10, .int (bI vs)), (11, .int (nI vl)), (12, .int (nI vc)), (16, .int (nI s_))]) dM_edit_249 (by decide) rfl ?_
                    refine xg_iload hX 1 dM_edit_251 rfl ?_
                    refine xg_if_eqN hX 259 (by omega) dM_edit_253 (by decide) (fun _ => ?_) (fun h => absurd h (by decide))
                    refine xg_iload hX 5 dM_edit_259 rfl ?_
                    refine xg_bipush hX (nI 16) dM_edit_261 (by decide) ?_
                    refine xg_idivN hX (by omega) (by omega) (by omega) dM_edit_263 ?_
                    refine xg_istore hX (lv' := [(20, .int (nI (k / 16))), (19, .int (nI 0)), (18, .int (nI 0)), (14, .int (nI 1)), (15, .int (nI 1)), (13, .int (nI (zn + 1))), (17, .int (nI k)), (0, .ref mq), (4, .int b), (6, .int (bI (!hasD (rdD M (tn n) (tn a)) 0 200))), (7, .int (bI (blM M n a))), (8, .int (nI vf)), (9, .int (nI vi)), (10, .int (bI vs)), (11, .int (nI vl)), (12, .int (nI vc)), (16, .int (nI s_))]) dM_edit_264 (by decide) rfl ?_
                    refine xg_iload hX 6 dM_edit_266 rfl ?_
                    refine xg_bipush hX (nI 16) dM_edit_268 (by decide) ?_
                    refine xg_iremN hX (by omega) (by omega) (by omega) dM_edit_270 ?_
                    refine xg_istore hX (lv' := [(21, .int (nI (k % 16))), (20, .int (nI (k / 16))), (19, .int (nI 0)), (18, .int (nI 0)), (14, .int (nI 1)), (15, .int (nI 1)), (13, .int (nI (zn + 1))), (17, .int (nI k)), (0, .ref mq), (4, .int b), (6, .int (bI (!hasD (rdD M (tn n) (tn a)) 0 200))), (7, .int (bI (blM M n a))), (8, .int (nI vf)), (9, .int (nI vi)), (10, .int (bI vs)), (11, .int (nI vl)), (12, .int (nI vc)), (16, .int (nI s_))]) dM_edit_271 (by decide) rfl ?_
                    refine xg_iload hX 1 dM_edit_273 rfl ?_
                    refine xg_bipush hX (nI 8) dM_edit_275 (by decide) ?_
                    refine xg_icmp_ltN hX 296 (by omega) (by omega) dM_edit_277 (by decide) (fun hh_724 => absurd hh_724 (by omega)) (fun hh_724 => ?_)
                    refine xg_iload hX 1 dM_edit_280 rfl ?_
                    refine xg_bipush hX (nI 10) dM_edit_282 (by decide) ?_
                    refine xg_icmp_gtN hX 296 (by omega) (by omega) dM_edit_284 (by decide) (fun hh_725 => absurd hh_725 (by omega)) (fun hh_725 => ?_)
                    refine xg_iload hX 0 dM_edit_287 rfl ?_
                    refine xg_if_leN hX 296 (by omega) dM_edit_289 (by decide) (fun hh_726 => absurd hh_726 (by omega)) (fun hh_726 => ?_)
                    refine xg_iconst hX (nI 1) dM_edit_292 (by decide) ?_
                    refine xg_goto hX 297 dM_edit_293 (by decide) ?_
                    refine xg_istore hX (lv' := [(22, .int (nI 1)), (21, .int (nI (k % 16))), (20, .int (nI (k / 16))), (19, .int (nI 0)), (18, .int (nI 0)), (14, .int (nI 1)), (15, .int (nI 1)), (13, .int (nI (zn + 1))), (17, .int (nI k)), (0, .ref mq), (4, .int b), (6, .int (bI (!hasD (rdD M (tn n) (tn a)) 0 200))), (7, .int (bI (blM M n a))), (8, .int (nI vf)), (9, .int (nI vi)), (10, .int (bI vs)), (11, .int (nI vl)), (12, .int (nI vc)), (16, .int (nI s_))]) dM_edit_297 (by decide) rfl ?_
                    refine xg_iload hX 5 dM_edit_299 rfl ?_
                    refine xg_if_eqN hX 320 (by omega) dM_edit_301 (by decide) (fun h => absurd h (by decide)) (fun _ => ?_)
                    refine xg_iload hX 8 dM_edit_304 rfl ?_
                    refine xg_bipush hX (nI 8) dM_edit_306 (by decide) ?_
                    refine xg_icmp_leN hX 316 (by omega) (by omega) dM_edit_308 (by decide) (fun hh_728 => absurd hh_728 (by omega)) (fun hh_728 => ?_)
                    refine xg_iload hX 0 dM_edit_311 rfl ?_
                    refine xg_if_eqN hX 320 (by omega) dM_edit_313 (by decide) (fun h => absurd h (by decide)) (fun _ => ?_)
                    refine xg_iconst hX (nI 1) dM_edit_316 (by decide) ?_
                    refine xg_goto hX 321 dM_edit_317 (by decide) ?_
                    refine xg_istore hX (lv' := [(14, .int (nI 1)), (22, .int (nI 1)), (21, .int (nI (k % 16))), (20, .int (nI (k / 16))), (19, .int (nI 0)), (18, .int (nI 0)), (15, .int (nI 1)), (13, .int (nI (zn + 1))), (17, .int (nI k)), (0, .ref mq), (4, .int b), (6, .int (bI (!hasD (rdD M (tn n) (tn a)) 0 200))), (7, .int (bI (blM M n a))), (8, .int (nI vf)), (9, .int (nI vi)), (10, .int (bI vs)), (11, .int (nI vl)), (12, .int (nI vc)), (16, .int (nI s_))]) dM_edit_321 (by decide) rfl ?_
                    refine xg_iload hX 0 dM_edit_323 rfl ?_
                    refine xg_if_eqN hX 337 (by omega) dM_edit_325 (by decide) (fun h => absurd h (by decide)) (fun _ => ?_)
                    refine xg_iload hX 8 dM_edit_328 rfl ?_
                    refine xg_iconst hX (nI 1) dM_edit_330 (by decide) ?_
                    refine xg_icmp_neN hX 337 (by omega) (by omega) dM_edit_331 (by decide) (fun hh_731 => ?_) (fun hh_731 => absurd hh_731 (by omega))
                    refine xg_iload hX 0 dM_edit_337 rfl ?_
                    refine xg_if_eqN hX 351 (by omega) dM_edit_339 (by decide) (fun h => absurd h (by decide)) (fun _ => ?_)
                    refine xg_iload hX 8 dM_edit_342 rfl ?_
                    refine xg_iconst hX (nI 2) dM_edit_344 (by decide) ?_
                    refine xg_icmp_neN hX 351 (by omega) (by omega) dM_edit_345 (by decide) (fun hh_733 => ?_) (fun hh_733 => absurd hh_733 (by omega))
                    refine xg_iload hX 0 dM_edit_351 rfl ?_
                    refine xg_if_eqN hX 366 (by omega) dM_edit_353 (by decide) (fun h => absurd h (by decide)) (fun _ => ?_)
                    refine xg_iload hX 8 dM_edit_356 rfl ?_
                    refine xg_iconst hX (nI 4) dM_edit_358 (by decide) ?_
                    refine xg_icmp_neN hX 366 (by omega) (by omega) dM_edit_359 (by decide) (fun hh_735 => ?_) (fun hh_735 => absurd hh_735 (by omega))
                    refine xg_iload hX 0 dM_edit_366 rfl ?_
                    refine xg_if_eqN hX 386 (by omega) dM_edit_368 (by decide) (fun h => absurd h (by decide)) (fun _ => ?_)
                    refine xg_iload hX 8 dM_edit_371 rfl ?_
                    refine xg_iconst hX (nI 5) dM_edit_373 (by decide) ?_
                    refine xg_icmp_neN hX 386 (by omega) (by omega) dM_edit_374 (by decide) (fun hh_737 => ?_) (fun hh_737 => absurd hh_737 (by omega))
                    refine xg_iload hX 0 dM_edit_386 rfl ?_
                    refine xg_if_eqN hX 407 (by omega) dM_edit_388 (by decide) (fun h => absurd h (by decide)) (fun _ => ?_)
                    refine xg_iload hX 8 dM_edit_391 rfl ?_
                    refine xg_bipush hX (nI 6) dM_edit_393 (by decide) ?_
                    refine xg_icmp_neN hX 407 (by omega) (by omega) dM_edit_395 (by decide) (fun hh_739 => ?_) (fun hh_739 => absurd hh_739 (by omega))
                    refine xg_iload hX 0 dM_edit_407 rfl ?_
                    refine xg_if_eqN hX 473 (by omega) dM_edit_409 (by decide) (fun h => absurd h (by decide)) (fun _ => ?_)
                    refine xg_iload hX 8 dM_edit_412 rfl ?_
                    refine xg_bipush hX (nI 8) dM_edit_414 (by decide) ?_
                    refine xg_icmp_neN hX 473 (by omega) (by omega) dM_edit_416 (by decide) (fun hh_741 => ?_) (fun hh_741 => absurd hh_741 (by omega))
                    refine xg_iload hX 0 dM_edit_473 rfl ?_
                    refine xg_if_eqN hX 543 (by omega) dM_edit_475 (by decide) (fun h => absurd h (by decide)) (fun _ => ?_)
                    refine xg_iload hX 8 dM_edit_478 rfl ?_
                    refine xg_iconst hX (nI 3) dM_edit_480 (by decide) ?_
                    refine xg_icmp_eqN hX 491 (by omega) (by omega) dM_edit_481 (by decide) (fun hh_743 => absurd hh_743 (by omega)) (fun hh_743 => ?_)
                    refine xg_iload hX 8 dM_edit_484 rfl ?_
                    refine xg_bipush hX (nI 7) dM_edit_486 (by decide) ?_
                    refine xg_icmp_neN hX 543 (by omega) (by omega) dM_edit_488 (by decide) (fun hh_744 => ?_) (fun hh_744 => absurd hh_744 (by omega))
                    refine xg_iconst hX (nI 0) dM_edit_543 (by decide) ?_
                    refine xg_istore hX (lv' := [(23, .int (nI 0)), (14, .int (nI 1)), (22, .int (nI 1)), (21, .int (nI (k % 16))), (20, .int (nI (k / 16))), (19, .int (nI 0)), (18, .int (nI 0)), (15, .int (nI 1)), (13, .int (nI (zn + 1))), (17, .int (nI k)), (0, .ref mq), (4, .int b), (6, .int (bI (!hasD (rdD M (tn n) (tn a)) 0 200))), (7, .int (bI (blM M n a))), (8, .int (nI vf)), (9, .int (nI vi)), (10, .int (bI vs)), (11, .int (nI vl)), (12, .int (nI vc)), (16, .int (nI s_))]) dM_edit_544 (by decide) rfl ?_
                    have lp745 : ∀ (fu746 : Nat) (i : Nat) (Wv : Nat → Nat) (wc : Nat), (i ≤ k % 16) → (wc ≤ 64) → (pFl (k % 16) (Vw, vc, vl, vs, vf, vi) = pFl (k % 16 - i) (Wv, wc, vl, vs, vf, vi)) → k % 16 - i < fu746 → GG D X 0 0 546 [(mq, .inr (3, [.ref mm, .ref m1, .ref m2, .ref mo, .ref mr, .int (bI o1), .int (bI o2), .int (bI oo), .ref mw, .int (bI men)])), (mm, .inl (cI, 256, .inl (nf M))), (m1, .inl (cI, 200, .inl (nf (rdD M (tn n) (tn a))))), (mw, .inl (cI, 80, .inl (nf Wv)))] [(0, .ref mq), (4, .int b), (6, .int (bI (!hasD (rdD M (tn n) (tn a)) 0 200))), (7, .int (bI (blM M n a))), (8, .int (nI vf)), (9, .int (nI vi)), (10, .int (bI vs)), (11, .int (nI vl)), (12, .int (nI wc)), (13, .int (nI (zn + 1))), (14, .int (nI 1)), (15, .int (nI 1)), (16, .int (nI s_)), (17, .int (nI k)), (20, .int (nI (k / 16))), (21, .int (nI (k % 16))), (22, .int (nI 1)), (23, .int (nI i))] [] := by
                      intro fu746
                      induction fu746 with
                      | zero => intro i Wv wc hi hwc hq2 hm748; exact absurd hm748 (Nat.not_lt_zero _)
                      | succ fu746 ih747 =>
                        intro i Wv wc hi hwc hq2 hm748
                        refine xg_iload hX 10 dM_edit_546 rfl ?_
                        refine xg_if_eqN hX 756 (by omega) dM_edit_548 (by decide) (fun h => absurd h (by decide)) (fun _ => ?_)
                        refine xg_iload hX 16 dM_edit_551 rfl ?_
                        refine xg_if_eqN hX 756 (by omega) dM_edit_553 (by decide) (fun h => absurd h (by decide)) (fun _ => ?_)
                        refine xg_iload hX 17 dM_edit_556 rfl ?_
                        refine xg_iload hX 15 dM_edit_558 rfl ?_
                        refine xg_icmp_geN hX 756 (by omega) (by omega) dM_edit_560 (by decide) (fun h560 => ?_) (fun h560 => ?_)
                        ·
                          refine xg_iincN hX (lv' := [(16, .int (nI (s_ + 1))), (0, .ref mq), (4, .int b), (6, .int (bI (!hasD (rdD M (tn n) (tn a)) 0 200))), (7, .int (bI (blM M n a))), (8, .int (nI vf)), (9, .int (nI vi)), (10, .int (bI vs)), (11, .int (nI vl)), (12, .int (nI wc)), (13, .int (nI (zn + 1))), (14, .int (nI 1)), (15, .int (nI 1)), (17, .int (nI k)), (20, .int (nI (k / 16))), (21, .int (nI (k % 16))), (22, .int (nI 1)), (23, .int (nI i))]) (s_ + 1) 12 dM_edit_756 rfl (xn_inc _) (by decide) rfl ?_
                          refine xg_goto hX 96 dM_edit_759 (by decide) ?_
                          refine xg_lv hX (lv' := [(0, .ref mq), (4, .int b), (6, .int (bI (!hasD (rdD M (tn n) (tn a)) 0 200))), (7, .int (bI (blM M n a))), (8, .int (nI vf)), (9, .int (nI vi)), (10, .int (bI vs)), (11, .int (nI vl)), (12, .int (nI wc)), (13, .int (nI (zn + 1))), (14, .int (nI 1)), (15, .int (nI 1)), (16, .int (nI (s_ + 1)))]) [1, 2, 3, 4, 5, 6, 7, 8, 9, 10, 11, 12, 0] rfl ?_
                          exact ih5 (s_ + 1) (nI (zn + 1)) Wv wc vl vs vf vi (by omega) (by omega) (by omega) (by omega) (fo_st1 hq hnx (by omega) h168 (tk_f (by omega)) ((ob_f (by omega)).trans (by rw [hq2, show k % 16 - i = 0 by omega]; rfl))) (by omega)
                        ·
                          refine xg_iload hX 14 dM_edit_563 rfl ?_
                          refine xg_bipush hX (nI 8) dM_edit_565 (by decide) ?_
                          refine xg_icmp_eqN hX 575 (by omega) (by omega) dM_edit_567 (by decide) (fun hh_751 => ?_) (fun hh_751 => absurd hh_751 (by omega))
                          refine xg_iconst hX (nI 1) dM_edit_575 (by decide) ?_
                          refine xg_goto hX 580 dM_edit_576 (by decide) ?_
                          refine xg_istore hX (lv' := [(14, .int (nI 1)), (0, .ref mq), (4, .int b), (6, .int (bI (!hasD (rdD M (tn n) (tn a)) 0 200))), (7, .int (bI (blM M n a))), (8, .int (nI vf)), (9, .int (nI vi)), (10, .int (bI vs)), (11, .int (nI vl)), (12, .int (nI wc)), (13, .int (nI (zn + 1))), (15, .int (nI 1)), (16, .int (nI s_)), (17, .int (nI k)), (20, .int (nI (k / 16))), (21, .int (nI (k % 16))), (22, .int (nI 1)), (23, .int (nI i))]) dM_edit_580 (by decide) rfl ?_
                          refine xg_iload hX 0 dM_edit_582 rfl ?_
                          refine xg_if_eqN hX 606 (by omega) dM_edit_584 (by decide) (fun h => absurd h (by decide)) (fun _ => ?_)
                          refine xg_iload hX 14 dM_edit_587 rfl ?_
                          refine xg_bipush hX (nI 8) dM_edit_589 (by decide) ?_
                          refine xg_icmp_leN hX 606 (by omega) (by omega) dM_edit_591 (by decide) (fun hh_753 => ?_) (fun hh_753 => absurd hh_753 (by omega))
                          refine xg_iconst hX (nI 0) dM_edit_606 (by decide) ?_
                          refine xg_istore hX (lv' := [(24, .int (nI 0)), (14, .int (nI 1)), (0, .ref mq), (4, .int b), (6, .int (bI (!hasD (rdD M (tn n) (tn a)) 0 200))), (7, .int (bI (blM M n a))), (8, .int (nI vf)), (9, .int (nI vi)), (10, .int (bI vs)), (11, .int (nI vl)), (12, .int (nI wc)), (13, .int (nI (zn + 1))), (15, .int (nI 1)), (16, .int (nI s_)), (17, .int (nI k)), (20, .int (nI (k / 16))), (21, .int (nI (k % 16))), (22, .int (nI 1)), (23, .int (nI i))]) dM_edit_607 (by decide) rfl ?_
                          refine xg_iload hX 9 dM_edit_609 rfl ?_
                          refine xg_iload hX 15 dM_edit_611 rfl ?_
                          refine xg_bipush hX (nI 8) dM_edit_613 (by decide) ?_
                          refine xg_icmp_leN hX 622 (by omega) (by omega) dM_edit_615 (by decide) (fun hh_754 => ?_) (fun hh_754 => absurd hh_754 (by omega))
                          refine xg_iconst hX (nI 0) dM_edit_622 (by decide) ?_
                          refine xg_isubN hX (by omega) dM_edit_623 ?_
                          refine xg_top (nI vl) rfl ?_
                          refine xg_istore hX (lv' := [(11, .int (nI vl)), (24, .int (nI 0)), (14, .int (nI 1)), (0, .ref mq), (4, .int b), (6, .int (bI (!hasD (rdD M (tn n) (tn a)) 0 200))), (7, .int (bI (blM M n a))), (8, .int (nI vf)), (9, .int (nI vi)), (10, .int (bI vs)), (12, .int (nI wc)), (13, .int (nI (zn + 1))), (15, .int (nI 1)), (16, .int (nI s_)), (17, .int (nI k)), (20, .int (nI (k / 16))), (21, .int (nI (k % 16))), (22, .int (nI 1)), (23, .int (nI i))]) dM_edit_624 (by decide) rfl ?_
                          refine xg_iload hX 2 dM_edit_626 rfl ?_
                          refine xg_if_eqN hX 679 (by omega) dM_edit_628 (by decide) (fun h => absurd h (by decide)) (fun _ => ?_)
                          refine xg_iload hX 15 dM_edit_631 rfl ?_
                          refine xg_bipush hX (nI 10) dM_edit_633 (by decide) ?_
                          refine xg_icmp_neN hX 679 (by omega) (by omega) dM_edit_635 (by decide) (fun hh_756 => ?_) (fun hh_756 => absurd hh_756 (by omega))
                          refine xg_iload hX 15 dM_edit_679 rfl ?_
                          refine xg_bipush hX (nI 8) dM_edit_681 (by decide) ?_
                          refine xg_icmp_leN hX 694 (by omega) (by omega) dM_edit_683 (by decide) (fun hh_757 => ?_) (fun hh_757 => absurd hh_757 (by omega))
                          refine xg_iload hX 2 dM_edit_694 rfl ?_
                          refine xg_if_eqN hX 710 (by omega) dM_edit_696 (by decide) (fun h => absurd h (by decide)) (fun _ => ?_)
                          refine xg_iload hX 10 dM_edit_699 rfl ?_
                          refine xg_bipush hX (nI 64) dM_edit_701 (by decide) ?_
                          refine xg_icmp_geN hX 710 (by omega) (by omega) dM_edit_703 (by decide) (fun h703 => ?_) (fun h703 => ?_)
                          ·
                            refine xg_iconst hX (nI 0) dM_edit_710 (by decide) ?_
                            refine xg_istore hX (lv' := [(14, .int (nI 0)), (11, .int (nI vl)), (24, .int (nI 0)), (0, .ref mq), (4, .int b), (6, .int (bI (!hasD (rdD M (tn n) (tn a)) 0 200))), (7, .int (bI (blM M n a))), (8, .int (nI vf)), (9, .int (nI vi)), (10, .int (bI vs)), (12, .int (nI wc)), (13, .int (nI (zn + 1))), (15, .int (nI 1)), (16, .int (nI s_)), (17, .int (nI k)), (20, .int (nI (k / 16))), (21, .int (nI (k % 16))), (22, .int (nI 1)), (23, .int (nI i))]) dM_edit_711 (by decide) rfl ?_
                            refine xg_iload hX 0 dM_edit_713 rfl ?_
                            refine xg_if_eqN hX 747 (by omega) dM_edit_715 (by decide) (fun _ => ?_) (fun h => absurd h (by decide))
                            refine xg_iincN hX (lv' := [(12, .int (nI (wc + 1))), (14, .int (nI 0)), (11, .int (nI vl)), (24, .int (nI 0)), (0, .ref mq), (4, .int b), (6, .int (bI (!hasD (rdD M (tn n) (tn a)) 0 200))), (7, .int (bI (blM M n a))), (8, .int (nI vf)), (9, .int (nI vi)), (10, .int (bI vs)), (13, .int (nI (zn + 1))), (15, .int (nI 1)), (16, .int (nI s_)), (17, .int (nI k)), (20, .int (nI (k / 16))), (21, .int (nI (k % 16))), (22, .int (nI 1)), (23, .int (nI i))]) (wc + 1) 10 dM_edit_747 rfl (xn_inc _) (by decide) rfl ?_
                            refine xg_iincN hX (lv' := [(23, .int (nI (i + 1))), (12, .int (nI (wc + 1))), (14, .int (nI 0)), (11, .int (nI vl)), (24, .int (nI 0)), (0, .ref mq), (4, .int b), (6, .int (bI (!hasD (rdD M (tn n) (tn a)) 0 200))), (7, .int (bI (blM M n a))), (8, .int (nI vf)), (9, .int (nI vi)), (10, .int (bI vs)), (13, .int (nI (zn + 1))), (15, .int (nI 1)), (16, .int (nI s_)), (17, .int (nI k)), (20, .int (nI (k / 16))), (21, .int (nI (k % 16))), (22, .int (nI 1))]) (i + 1) 18 dM_edit_750 rfl (xn_inc _) (by decide) rfl ?_
                            refine xg_goto hX 546 dM_edit_753 (by decide) ?_
                            refine xg_iload hX 2 dM_edit_546 rfl ?_
                            refine xg_if_eqN hX 756 (by omega) dM_edit_548 (by decide) (fun _ => ?_) (fun h => absurd h (by decide))
                            refine xg_iincN hX (lv' := [(16, .int (nI (s_ + 1))), (23, .int (nI (i + 1))), (12, .int (nI (wc + 1))), (14, .int (nI 0)), (11, .int (nI vl)), (24, .int (nI 0)), (0, .ref mq), (4, .int b), (6, .int (bI (!hasD (rdD M (tn n) (tn a)) 0 200))), (7, .int (bI (blM M n a))), (8, .int (nI vf)), (9, .int (nI vi)), (10, .int (bI vs)), (13, .int (nI (zn + 1))), (15, .int (nI 1)), (17, .int (nI k)), (20, .int (nI (k / 16))), (21, .int (nI (k % 16))), (22, .int (nI 1))]) (s_ + 1) 14 dM_edit_756 rfl (xn_inc _) (by decide) rfl ?_
                            refine xg_goto hX 96 dM_edit_759 (by decide) ?_
                            refine xg_iload hX 14 dM_edit_96 rfl ?_
                            refine xg_if_eqN hX 762 (by omega) dM_edit_98 (by decide) (fun h => absurd h (by decide)) (fun _ => ?_)
                            refine xg_iload hX 3 dM_edit_101 rfl ?_
                            refine xg_if_eqN hX 762 (by omega) dM_edit_103 (by decide) (fun _ => ?_) (fun h => absurd h (by decide))
                            refine xg_iload hX 3 dM_edit_762 rfl ?_
                            refine xg_if_eqN hX 772 (by omega) dM_edit_764 (by decide) (fun _ => ?_) (fun h => absurd h (by decide))
                            refine xg_bipush hX ((-2)) dM_edit_772 (by decide) ?_
                            exact hret ((-2), M, rdD M (tn n) (tn a), Wv, men) _ _ _ rfl (show ((-2), M, men) = editM M men xw n a p b from (by have hF : edPM M xw n a p = none := (fo_no hq hnx (by omega) h168 ((ob_f (by omega)).trans (by rw [hq2, show k % 16 - i = (k % 16 - (i + 1)) + 1 by omega, pFl_s, pWr_no h703]; rfl))); unfold editM; rw [if_pos h5, if_pos g1, hF])) dM_edit_774
                          ·
                            refine xg_iconst hX (nI 1) dM_edit_706 (by decide) ?_
                            refine xg_goto hX 711 dM_edit_707 (by decide) ?_
                            refine xg_istore hX (lv' := [(14, .int (nI 1)), (11, .int (nI vl)), (24, .int (nI 0)), (0, .ref mq), (4, .int b), (6, .int (bI (!hasD (rdD M (tn n) (tn a)) 0 200))), (7, .int (bI (blM M n a))), (8, .int (nI vf)), (9, .int (nI vi)), (10, .int (bI vs)), (12, .int (nI wc)), (13, .int (nI (zn + 1))), (15, .int (nI 1)), (16, .int (nI s_)), (17, .int (nI k)), (20, .int (nI (k / 16))), (21, .int (nI (k % 16))), (22, .int (nI 1)), (23, .int (nI i))]) dM_edit_711 (by decide) rfl ?_
                            refine xg_iload hX 0 dM_edit_713 rfl ?_
                            refine xg_if_eqN hX 747 (by omega) dM_edit_715 (by decide) (fun h => absurd h (by decide)) (fun _ => ?_)
                            refine xg_aload_n hX 3 dM_edit_718 rfl rfl ?_
                            refine xg_get hX (ci := 3) rfl hinM 0 rfl 8 (by decide) mt_332 rfl dM_edit_719 ?_
                            refine xg_iload hX 10 dM_edit_722 rfl ?_
                            refine xg_iload hX 15 dM_edit_724 rfl ?_
                            refine xg_bipush hX (nI 8) dM_edit_726 (by decide) ?_
                            refine xg_icmp_leN hX 744 (by omega) (by omega) dM_edit_728 (by decide) (fun hh_765 => ?_) (fun hh_765 => absurd hh_765 (by omega))
                            refine xg_iload hX 7 dM_edit_744 rfl ?_
                            refine xg_iast hX (ws' := [(mq, .inr (3, [.ref mm, .ref m1, .ref m2, .ref mo, .ref mr, .int (bI o1), .int (bI o2), .int (bI oo), .ref mw, .int (bI men)])), (mm, .inl (cI, 256, .inl (nf M))), (m1, .inl (cI, 200, .inl (nf (rdD M (tn n) (tn a))))), (mw, .inl (cI, 80, .inl (nf (up Wv wc vf))))]) 3 wc vf rfl (by omega) (by decide) rfl dM_edit_746 ?_
                            refine xg_iincN hX (lv' := [(12, .int (nI (wc + 1))), (14, .int (nI 1)), (11, .int (nI vl)), (24, .int (nI 0)), (0, .ref mq), (4, .int b), (6, .int (bI (!hasD (rdD M (tn n) (tn a)) 0 200))), (7, .int (bI (blM M n a))), (8, .int (nI vf)), (9, .int (nI vi)), (10, .int (bI vs)), (13, .int (nI (zn + 1))), (15, .int (nI 1)), (16, .int (nI s_)), (17, .int (nI k)), (20, .int (nI (k / 16))), (21, .int (nI (k % 16))), (22, .int (nI 1)), (23, .int (nI i))]) (wc + 1) 10 dM_edit_747 rfl (xn_inc _) (by decide) rfl ?_
                            refine xg_iincN hX (lv' := [(23, .int (nI (i + 1))), (12, .int (nI (wc + 1))), (14, .int (nI 1)), (11, .int (nI vl)), (24, .int (nI 0)), (0, .ref mq), (4, .int b), (6, .int (bI (!hasD (rdD M (tn n) (tn a)) 0 200))), (7, .int (bI (blM M n a))), (8, .int (nI vf)), (9, .int (nI vi)), (10, .int (bI vs)), (13, .int (nI (zn + 1))), (15, .int (nI 1)), (16, .int (nI s_)), (17, .int (nI k)), (20, .int (nI (k / 16))), (21, .int (nI (k % 16))), (22, .int (nI 1))]) (i + 1) 18 dM_edit_750 rfl (xn_inc _) (by decide) rfl ?_
                            refine xg_goto hX 546 dM_edit_753 (by decide) ?_
                            refine xg_lv hX (lv' := [(0, .ref mq), (4, .int b), (6, .int (bI (!hasD (rdD M (tn n) (tn a)) 0 200))), (7, .int (bI (blM M n a))), (8, .int (nI vf)), (9, .int (nI vi)), (10, .int (bI vs)), (11, .int (nI vl)), (12, .int (nI (wc + 1))), (13, .int (nI (zn + 1))), (14, .int (nI 1)), (15, .int (nI 1)), (16, .int (nI s_)), (17, .int (nI k)), (20, .int (nI (k / 16))), (21, .int (nI (k % 16))), (22, .int (nI 1)), (23, .int (nI (i + 1)))]) [5, 6, 7, 8, 9, 10, 11, 3, 1, 12, 2, 13, 14, 15, 16, 17, 18, 0] rfl ?_
                            exact ih747 (i + 1) (up Wv wc vf) (wc + 1) (by omega) (by omega) (by rw [hq2, show k % 16 - i = (k % 16 - (i + 1)) + 1 by omega, pFl_s, pWr_lt h703]; rfl) (by omega)
                    refine xg_lv hX (lv' := [(0, .ref mq), (4, .int b), (6, .int (bI (!hasD (rdD M (tn n) (tn a)) 0 200))), (7, .int (bI (blM M n a))), (8, .int (nI vf)), (9, .int (nI vi)), (10, .int (bI vs)), (11, .int (nI vl)), (12, .int (nI vc)), (13, .int (nI (zn + 1))), (14, .int (nI 1)), (15, .int (nI 1)), (16, .int (nI s_)), (17, .int (nI k)), (20, .int (nI (k / 16))), (21, .int (nI (k % 16))), (22, .int (nI 1)), (23, .int (nI 0))]) [10, 11, 12, 13, 14, 15, 16, 17, 18, 8, 1, 7, 19, 9, 4, 3, 2, 0] rfl ?_
                    exact lp745 (k % 16 - 0 + 1) 0 Vw vc (by omega) hvc rfl (Nat.lt_succ_self _)
                  ·
                    refine xg_iload hX 0 dM_edit_171 rfl ?_
                    refine xg_if_neN hX 180 (by omega) dM_edit_173 (by decide) (fun _ => ?_) (fun h => absurd h (by decide))
                    refine xg_iconst hX (nI 0) dM_edit_180 (by decide) ?_
                    refine xg_istore hX (lv' := [(14, .int (nI 0)), (15, .int (nI 1)), (13, .int (nI (zn + 1))), (17, .int (nI k)), (0, .ref mq), (4, .int b), (6, .int (bI (!hasD (rdD M (tn n) (tn a)) 0 200))), (7, .int (bI (blM M n a))), (8, .int (nI vf)), (9, .int (nI vi)), (10, .int (bI vs)), (11, .int (nI vl)), (12, .int (nI vc)), (16, .int (nI s_))]) dM_edit_181 (by decide) rfl ?_
                    refine xg_iload hX 3 dM_edit_183 rfl ?_
                    refine xg_iconst hX (nI 4) dM_edit_185 (by decide) ?_
                    refine xg_icmp_ltN hX 200 (by omega) (by omega) dM_edit_186 (by decide) (fun hh_767 => absurd hh_767 (by omega)) (fun hh_767 => ?_)
                    refine xg_iload hX 3 dM_edit_189 rfl ?_
                    refine xg_bipush hX (nI 8) dM_edit_191 (by decide) ?_
                    refine xg_icmp_gtN hX 200 (by omega) (by omega) dM_edit_193 (by decide) (fun hh_768 => ?_) (fun hh_768 => absurd hh_768 (by omega))
                    refine xg_iconst hX (nI 0) dM_edit_200 (by decide) ?_
                    refine xg_istore hX (lv' := [(18, .int (nI 0)), (14, .int (nI 0)), (15, .int (nI 1)), (13, .int (nI (zn + 1))), (17, .int (nI k)), (0, .ref mq), (4, .int b), (6, .int (bI (!hasD (rdD M (tn n) (tn a)) 0 200))), (7, .int (bI (blM M n a))), (8, .int (nI vf)), (9, .int (nI vi)), (10, .int (bI vs)), (11, .int (nI vl)), (12, .int (nI vc)), (16, .int (nI s_))]) dM_edit_201 (by decide) rfl ?_
                    refine xg_iload hX 0 dM_edit_203 rfl ?_
                    refine xg_if_eqN hX 228 (by omega) dM_edit_205 (by decide) (fun _ => ?_) (fun h => absurd h (by decide))
                    refine xg_iload hX 0 dM_edit_228 rfl ?_
                    refine xg_if_eqN hX 248 (by omega) dM_edit_230 (by decide) (fun _ => ?_) (fun h => absurd h (by decide))
                    refine xg_iconst hX (nI 0) dM_edit_248 (by decide) ?_
                    refine xg_istore hX (lv' := [(19, .int (nI 0)), (18, .int (nI 0)), (14, .int (nI 0)), (15, .int (nI 1)), (13, .int (nI (zn + 1))), (17, .int (nI k)), (0, .ref mq), (4, .int b), (6, .int (bI (!hasD (rdD M (tn n) (tn a)) 0 200))), (7, .int (bI (blM M n a))), (8, .int (nI vf)), (9, .int (nI vi)), (10, .int (bI vs)), (11, .int (nI vl)), (12, .int (nI vc)), (16, .int (nI s_))]) dM_edit_249 (by decide) rfl ?_
                    refine xg_iload hX 1 dM_edit_251 rfl ?_
                    refine xg_if_eqN hX 259 (by omega) dM_edit_253 (by decide) (fun _ => ?_) (fun h => absurd h (by decide))
                    refine xg_iload hX 5 dM_edit_259 rfl ?_
                    refine xg_bipush hX (nI 16) dM_edit_261 (by decide) ?_
                    refine xg_idivN hX (by omega) (by omega) (by omega) dM_edit_263 ?_
                    refine xg_istore hX (lv' := [(20, .int (nI (k / 16))), (19, .int (nI 0)), (18, .int (nI 0)), (14, .int (nI 0)), (15, .int (nI 1)), (13, .int (nI (zn + 1))), (17, .int (nI k)), (0, .ref mq), (4, .int b), (6, .int (bI (!hasD (rdD M (tn n) (tn a)) 0 200))), (7, .int (bI (blM M n a))), (8, .int (nI vf)), (9, .int (nI vi)), (10, .int (bI vs)), (11, .int (nI vl)), (12, .int (nI vc)), (16, .int (nI s_))]) dM_edit_264 (by decide) rfl ?_
                    refine xg_iload hX 6 dM_edit_266 rfl ?_
                    refine xg_bipush hX (nI 16) dM_edit_268 (by decide) ?_
                    refine xg_iremN hX (by omega) (by omega) (by omega) dM_edit_270 ?_
                    refine xg_istore hX (lv' := [(21, .int (nI (k % 16))), (20, .int (nI (k / 16))), (19, .int (nI 0)), (18, .int (nI 0)), (14, .int (nI 0)), (15, .int (nI 1)), (13, .int (nI (zn + 1))), (17, .int (nI k)), (0, .ref mq), (4, .int b), (6, .int (bI (!hasD (rdD M (tn n) (tn a)) 0 200))), (7, .int (bI (blM M n a))), (8, .int (nI vf)), (9, .int (nI vi)), (10, .int (bI vs)), (11, .int (nI vl)), (12, .int (nI vc)), (16, .int (nI s_))]) dM_edit_271 (by decide) rfl ?_
                    refine xg_iload hX 1 dM_edit_273 rfl ?_
                    refine xg_bipush hX (nI 8) dM_edit_275 (by decide) ?_
                    refine xg_icmp_ltN hX 296 (by omega) (by omega) dM_edit_277 (by decide) (fun hh_772 => absurd hh_772 (by omega)) (fun hh_772 => ?_)
                    refine xg_iload hX 1 dM_edit_280 rfl ?_
                    refine xg_bipush hX (nI 10) dM_edit_282 (by decide) ?_
                    refine xg_icmp_gtN hX 296 (by omega) (by omega) dM_edit_284 (by decide) (fun hh_773 => absurd hh_773 (by omega)) (fun hh_773 => ?_)
                    refine xg_iload hX 0 dM_edit_287 rfl ?_
                    refine xg_if_leN hX 296 (by omega) dM_edit_289 (by decide) (fun hh_774 => absurd hh_774 (by omega)) (fun hh_774 => ?_)
                    refine xg_iconst hX (nI 1) dM_edit_292 (by decide) ?_
                    refine xg_goto hX 297 dM_edit_293 (by decide) ?_
                    refine xg_istore hX (lv' := [(22, .int (nI 1)), (21, .int (nI (k % 16))), (20, .int (nI (k / 16))), (19, .int (nI 0)), (18, .int (nI 0)), (14, .int (nI 0)), (15, .int (nI 1)), (13, .int (nI (zn + 1))), (17, .int (nI k)), (0, .ref mq), (4, .int b), (6, .int (bI (!hasD (rdD M (tn n) (tn a)) 0 200))), (7, .int (bI (blM M n a))), (8, .int (nI vf)), (9, .int (nI vi)), (10, .int (bI vs)), (11, .int (nI vl)), (12, .int (nI vc)), (16, .int (nI s_))]) dM_edit_297 (by decide) rfl ?_
                    refine xg_iload hX 5 dM_edit_299 rfl ?_
                    refine xg_if_eqN hX 320 (by omega) dM_edit_301 (by decide) (fun _ => ?_) (fun h => absurd h (by decide))
                    refine xg_iconst hX (nI 0) dM_edit_320 (by decide) ?_
                    refine xg_istore hX (lv' := [(14, .int (nI 0)), (22, .int (nI 1)), (21, .int (nI (k % 16))), (20, .int (nI (k / 16))), (19, .int (nI 0)), (18, .int (nI 0)), (15, .int (nI 1)), (13, .int (nI (zn + 1))), (17, .int (nI k)), (0, .ref mq), (4, .int b), (6, .int (bI (!hasD (rdD M (tn n) (tn a)) 0 200))), (7, .int (bI (blM M n a))), (8, .int (nI vf)), (9, .int (nI vi)), (10, .int (bI vs)), (11, .int (nI vl)), (12, .int (nI vc)), (16, .int (nI s_))]) dM_edit_321 (by decide) rfl ?_
                    refine xg_iload hX 0 dM_edit_323 rfl ?_
                    refine xg_if_eqN hX 337 (by omega) dM_edit_325 (by decide) (fun _ => ?_) (fun h => absurd h (by decide))
                    refine xg_iload hX 0 dM_edit_337 rfl ?_
                    refine xg_if_eqN hX 351 (by omega) dM_edit_339 (by decide) (fun _ => ?_) (fun h => absurd h (by decide))
                    refine xg_iload hX 0 dM_edit_351 rfl ?_
                    refine xg_if_eqN hX 366 (by omega) dM_edit_353 (by decide) (fun _ => ?_) (fun h => absurd h (by decide))
                    refine xg_iload hX 0 dM_edit_366 rfl ?_
                    refine xg_if_eqN hX 386 (by omega) dM_edit_368 (by decide) (fun _ => ?_) (fun h => absurd h (by decide))
                    refine xg_iload hX 0 dM_edit_386 rfl ?_
                    refine xg_if_eqN hX 407 (by omega) dM_edit_388 (by decide) (fun _ => ?_) (fun h => absurd h (by decide))
                    refine xg_iload hX 0 dM_edit_407 rfl ?_
                    refine xg_if_eqN hX 473 (by omega) dM_edit_409 (by decide) (fun _ => ?_) (fun h => absurd h (by decide))
                    refine xg_iload hX 0 dM_edit_473 rfl ?_
                    refine xg_if_eqN hX 543 (by omega) dM_edit_475 (by decide) (fun _ => ?_) (fun h => absurd h (by decide))
                    refine xg_iconst hX (nI 0) dM_edit_543 (by decide) ?_
                    refine xg_istore hX (lv' := [(23, .int (nI 0)), (14, .int (nI 0)), (22, .int (nI 1)), (21, .int (nI (k % 16))), (20, .int (nI (k / 16))), (19, .int (nI 0)), (18, .int (nI 0)), (15, .int (nI 1)), (13, .int (nI (zn + 1))), (17, .int (nI k)), (0, .ref mq), (4, .int b), (6, .int (bI (!hasD (rdD M (tn n) (tn a)) 0 200))), (7, .int (bI (blM M n a))), (8, .int (nI vf)), (9, .int (nI vi)), (10, .int (bI vs)), (11, .int (nI vl)), (12, .int (nI vc)), (16, .int (nI s_))]) dM_edit_544 (by decide) rfl ?_
                    refine xg_iload hX 1 dM_edit_546 rfl ?_
                    refine xg_if_eqN hX 756 (by omega) dM_edit_548 (by decide) (fun _ => ?_) (fun h => absurd h (by decide))
                    refine xg_iincN hX (lv' := [(16, .int (nI (s_ + 1))), (23, .int (nI 0)), (14, .int (nI 0)), (22, .int (nI 1)), (21, .int (nI (k % 16))), (20, .int (nI (k / 16))), (19, .int (nI 0)), (18, .int (nI 0)), (15, .int (nI 1)), (13, .int (nI (zn + 1))), (17, .int (nI k)), (0, .ref mq), (4, .int b), (6, .int (bI (!hasD (rdD M (tn n) (tn a)) 0 200))), (7, .int (bI (blM M n a))), (8, .int (nI vf)), (9, .int (nI vi)), (10, .int (bI vs)), (11, .int (nI vl)), (12, .int (nI vc))]) (s_ + 1) 19 dM_edit_756 rfl (xn_inc _) (by decide) rfl ?_
                    refine xg_goto hX 96 dM_edit_759 (by decide) ?_
                    refine xg_iload hX 8 dM_edit_96 rfl ?_
                    refine xg_if_eqN hX 762 (by omega) dM_edit_98 (by decide) (fun h => absurd h (by decide)) (fun _ => ?_)
                    refine xg_iload hX 2 dM_edit_101 rfl ?_
                    refine xg_if_eqN hX 762 (by omega) dM_edit_103 (by decide) (fun _ => ?_) (fun h => absurd h (by decide))
                    refine xg_iload hX 2 dM_edit_762 rfl ?_
                    refine xg_if_eqN hX 772 (by omega) dM_edit_764 (by decide) (fun _ => ?_) (fun h => absurd h (by decide))
                    refine xg_bipush hX ((-2)) dM_edit_772 (by decide) ?_
                    exact hret ((-2), M, rdD M (tn n) (tn a), Vw, men) _ _ _ rfl (show ((-2), M, men) = editM M men xw n a p b from (by have hF : edPM M xw n a p = none := (fo_la hq hnx (by omega) (by omega)); unfold editM; rw [if_pos h5, if_pos g1, hF])) dM_edit_774
                ·
                  refine xg_iload hX 9 dM_edit_106 rfl ?_
                  refine xg_if_ltN hX 123 (by omega) dM_edit_108 (by decide) ?_
                  refine xg_iload hX 9 dM_edit_111 rfl ?_
                  refine xg_sipush hX (nI 256) dM_edit_113 (by decide) ?_
                  refine xg_icmp_geN hX 123 (by omega) (by omega) dM_edit_116 (by decide) (fun h116 => absurd h116 (by omega)) (fun h116 => ?_)
                  refine xg_iconst hX (nI 1) dM_edit_119 (by decide) ?_
                  refine xg_goto hX 124 dM_edit_120 (by decide) ?_
                  refine xg_istore hX (lv' := [(14, .int (nI 1)), (0, .ref mq), (4, .int b), (6, .int (bI (!hasD (rdD M (tn n) (tn a)) 0 200))), (7, .int (bI (blM M n a))), (8, .int (nI vf)), (9, .int (nI vi)), (10, .int (bI vs)), (11, .int (nI vl)), (12, .int (nI vc)), (13, .int (nI zn)), (15, .int (nI 1)), (16, .int (nI s_))]) dM_edit_124 (by decide) rfl ?_
                  refine xg_iload hX 0 dM_edit_126 rfl ?_
                  refine xg_if_eqN hX 141 (by omega) dM_edit_128 (by decide) (fun h => absurd h (by decide)) (fun _ => ?_)
                  refine xg_aload_n hX 1 dM_edit_131 rfl rfl ?_
                  refine xg_get hX (ci := 3) rfl hinM 0 rfl 0 (by decide) mt_324 rfl dM_edit_132 ?_
                  refine xg_iload hX 10 dM_edit_135 rfl ?_
                  refine xg_iald hX 1 zn rfl (by omega) (by decide) dM_edit_137 ?_
                  refine xg_top (nI k) (by rw [hk4]) ?_
                  refine xg_goto hX 142 dM_edit_138 (by decide) ?_
                  refine xg_istore hX (lv' := [(17, .int (nI k)), (14, .int (nI 1)), (0, .ref mq), (4, .int b), (6, .int (bI (!hasD (rdD M (tn n) (tn a)) 0 200))), (7, .int (bI (blM M n a))), (8, .int (nI vf)), (9, .int (nI vi)), (10, .int (bI vs)), (11, .int (nI vl)), (12, .int (nI vc)), (13, .int (nI zn)), (15, .int (nI 1)), (16, .int (nI s_))]) dM_edit_142 (by decide) rfl ?_
                  refine xg_iincN hX (lv' := [(13, .int (nI (zn + 1))), (17, .int (nI k)), (14, .int (nI 1)), (0, .ref mq), (4, .int b), (6, .int (bI (!hasD (rdD M (tn n) (tn a)) 0 200))), (7, .int (bI (blM M n a))), (8, .int (nI vf)), (9, .int (nI vi)), (10, .int (bI vs)), (11, .int (nI vl)), (12, .int (nI vc)), (15, .int (nI 1)), (16, .int (nI s_))]) (zn + 1) 11 dM_edit_144 rfl (xn_inc _) (by decide) rfl ?_
                  refine xg_iload hX 1 dM_edit_147 rfl ?_
                  refine xg_if_eqN hX 156 (by omega) dM_edit_149 (by decide) (fun hh_788 => absurd hh_788 (by omega)) (fun hh_788 => ?_)
                  refine xg_iconst hX (nI 1) dM_edit_152 (by decide) ?_
                  refine xg_goto hX 157 dM_edit_153 (by decide) ?_
                  refine xg_istore hX (lv' := [(15, .int (nI 1)), (13, .int (nI (zn + 1))), (17, .int (nI k)), (14, .int (nI 1)), (0, .ref mq), (4, .int b), (6, .int (bI (!hasD (rdD M (tn n) (tn a)) 0 200))), (7, .int (bI (blM M n a))), (8, .int (nI vf)), (9, .int (nI vi)), (10, .int (bI vs)), (11, .int (nI vl)), (12, .int (nI vc)), (16, .int (nI s_))]) dM_edit_157 (by decide) rfl ?_
                  refine xg_iload hX 3 dM_edit_159 rfl ?_
                  refine xg_if_eqN hX 180 (by omega) dM_edit_161 (by decide) (fun h => absurd h (by decide)) (fun _ => ?_)
                  refine xg_iload hX 13 dM_edit_164 rfl ?_
                  refine xg_bipush hX (nI 64) dM_edit_166 (by decide) ?_
                  refine xg_icmp_ltN hX 176 (by omega) (by omega) dM_edit_168 (by decide) (fun h168 => ?_) (fun h168 => ?_)
                  ·
                    refine xg_iconst hX (nI 1) dM_edit_176 (by decide) ?_
                    refine xg_goto hX 181 dM_edit_177 (by decide) ?_
                    refine xg_istore hX (lv' := [(14, .int (nI 1)), (15, .int (nI 1)), (13, .int (nI (zn + 1))), (17, .int (nI k)), (0, .ref mq), (4, .int b), (6, .int (bI (!hasD (rdD M (tn n) (tn a)) 0 200))), (7, .int (bI (blM M n a))), (8, .int (nI vf)), (9, .int (nI vi)), (10, .int (bI vs)), (11, .int (nI vl)), (12, .int (nI vc)), (16, .int (nI s_))]) dM_edit_181 (by decide) rfl ?_
                    refine xg_iload hX 3 dM_edit_183 rfl ?_
                    refine xg_iconst hX (nI 4) dM_edit_185 (by decide) ?_
                    refine xg_icmp_ltN hX 200 (by omega) (by omega) dM_edit_186 (by decide) (fun hh_790 => absurd hh_790 (by omega)) (fun hh_790 => ?_)
                    refine xg_iload hX 3 dM_edit_189 rfl ?_
                    refine xg_bipush hX (nI 8) dM_edit_191 (by decide) ?_
                    refine xg_icmp_gtN hX 200 (by omega) (by omega) dM_edit_193 (by decide) (fun hh_791 => ?_) (fun hh_791 => absurd hh_791 (by omega))
                    refine xg_iconst hX (nI 0) dM_edit_200 (by decide) ?_
                    refine xg_istore hX (lv' := [(18, .int (nI 0)), (14, .int (nI 1)), (15, .int (nI 1)), (13, .int (nI (zn + 1))), (17, .int (nI k)), (0, .ref mq), (4, .int b), (6, .int (bI (!hasD (rdD M (tn n) (tn a)) 0 200))), (7, .int (bI (blM M n a))), (8, .int (nI vf)), (9, .int (nI vi)), (10, .int (bI vs)), (11, .int (nI vl)), (12, .int (nI vc)), (16, .int (nI s_))]) dM_edit_201 (by decide) rfl ?_
                    refine xg_iload hX 0 dM_edit_203 rfl ?_
                    refine xg_if_eqN hX 228 (by omega) dM_edit_205 (by decide) (fun _ => ?_) (fun h => absurd h (by decide))
                    refine xg_iload hX 0 dM_edit_228 rfl ?_
                    refine xg_if_eqN hX 248 (by omega) dM_edit_230 (by decide) (fun _ => ?_) (fun h => absurd h (by decide))
                    refine xg_iconst hX (nI 0) dM_edit_248 (by decide) ?_
                    refine xg_istore hX (lv' := [(19, .int (nI 0)), (18, .int (nI 0)), (14, .int (nI 1)), (15, .int (nI 1)), (13, .int (nI (zn + 1))), (17, .int (nI k)), (0, .ref mq), (4, .int b), (6, .int (bI (!hasD (rdD M (tn n) (tn a)) 0 200))), (7, .int (bI (blM M n a))), (8, .int (nI vf)), (9, .int (nI vi)), (10, .int (bI vs)), (11, .int (nI vl)), (12, .int (nI vc)), (16, .int (nI s_))]) dM_edit_249 (by decide) rfl ?_
                    refine xg_iload hX 1 dM_edit_251 rfl ?_
                    refine xg_if_eqN hX 259 (by omega) dM_edit_253 (by decide) (fun _ => ?_) (fun h => absurd h (by decide))
                    refine xg_iload hX 5 dM_edit_259 rfl ?_
                    refine xg_bipush hX (nI 16) dM_edit_261 (by decide) ?_
                    refine xg_idivN hX (by omega) (by omega) (by omega) dM_edit_263 ?_
                    refine xg_istore hX (lv' := [(20, .int (nI (k / 16))), (19, .int (nI 0)), (18, .int (nI 0)), (14, .int (nI 1)), (15, .int (nI 1)), (13, .int (nI (zn + 1))), (17, .int (nI k)), (0, .ref mq), (4, .int b), (6, .int (bI (!hasD (rdD M (tn n) (tn a)) 0 200))), (7, .int (bI (blM M n a))), (8, .int (nI vf)), (9, .int (nI vi)), (10, .int (bI vs)), (11, .int (nI vl)), (12, .int (nI vc)), (16, .int (nI s_))]) dM_edit_264 (by decide) rfl ?_
                    refine xg_iload hX 6 dM_edit_266 rfl ?_
                    refine xg_bipush hX (nI 16) dM_edit_268 (by decide) ?_
                    refine xg_iremN hX (by omega) (by omega) (by omega) dM_edit_270 ?_
                    refine xg_istore hX (lv' := [(21, .int (nI (k % 16))), (20, .int (nI (k / 16))), (19, .int (nI 0)), (18, .int (nI 0)), (14, .int (nI 1)), (15, .int (nI 1)), (13, .int (nI (zn + 1))), (17, .int (nI k)), (0, .ref mq), (4, .int b), (6, .int (bI (!hasD (rdD M (tn n) (tn a)) 0 200))), (7, .int (bI (blM M n a))), (8, .int (nI vf)), (9, .int (nI vi)), (10, .int (bI vs)), (11, .int (nI vl)), (12, .int (nI vc)), (16, .int (nI s_))]) dM_edit_271 (by decide) rfl ?_
                    refine xg_iload hX 1 dM_edit_273 rfl ?_
                    refine xg_bipush hX (nI 8) dM_edit_275 (by decide) ?_
                    refine xg_icmp_ltN hX 296 (by omega) (by omega) dM_edit_277 (by decide) (fun hh_795 => absurd hh_795 (by omega)) (fun hh_795 => ?_)
                    refine xg_iload hX 1 dM_edit_280 rfl ?_
                    refine xg_bipush hX (nI 10) dM_edit_282 (by decide) ?_
                    refine xg_icmp_gtN hX 296 (by omega) (by omega) dM_edit_284 (by decide) (fun hh_796 => absurd hh_796 (by omega)) (fun hh_796 => ?_)
                    refine xg_iload hX 0 dM_edit_287 rfl ?_
                    refine xg_if_leN hX 296 (by omega) dM_edit_289 (by decide) (fun hh_797 => ?_) (fun hh_797 => absurd hh_797 (by omega))
                    refine xg_iconst hX (nI 0) dM_edit_296 (by decide) ?_
                    refine xg_istore hX (lv' := [(22, .int (nI 0)), (21, .int (nI (k % 16))), (20, .int (nI (k / 16))), (19, .int (nI 0)), (18, .int (nI 0)), (14, .int (nI 1)), (15, .int (nI 1)), (13, .int (nI (zn + 1))), (17, .int (nI k)), (0, .ref mq), (4, .int b), (6, .int (bI (!hasD (rdD M (tn n) (tn a)) 0 200))), (7, .int (bI (blM M n a))), (8, .int (nI vf)), (9, .int (nI vi)), (10, .int (bI vs)), (11, .int (nI vl)), (12, .int (nI vc)), (16, .int (nI s_))]) dM_edit_297 (by decide) rfl ?_
                    refine xg_iload hX 5 dM_edit_299 rfl ?_
                    refine xg_if_eqN hX 320 (by omega) dM_edit_301 (by decide) (fun h => absurd h (by decide)) (fun _ => ?_)
                    refine xg_iload hX 8 dM_edit_304 rfl ?_
                    refine xg_bipush hX (nI 8) dM_edit_306 (by decide) ?_
                    refine xg_icmp_leN hX 316 (by omega) (by omega) dM_edit_308 (by decide) (fun hh_799 => absurd hh_799 (by omega)) (fun hh_799 => ?_)
                    refine xg_iload hX 0 dM_edit_311 rfl ?_
                    refine xg_if_eqN hX 320 (by omega) dM_edit_313 (by decide) (fun _ => ?_) (fun h => absurd h (by decide))
                    refine xg_iconst hX (nI 0) dM_edit_320 (by decide) ?_
                    refine xg_istore hX (lv' := [(14, .int (nI 0)), (22, .int (nI 0)), (21, .int (nI (k % 16))), (20, .int (nI (k / 16))), (19, .int (nI 0)), (18, .int (nI 0)), (15, .int (nI 1)), (13, .int (nI (zn + 1))), (17, .int (nI k)), (0, .ref mq), (4, .int b), (6, .int (bI (!hasD (rdD M (tn n) (tn a)) 0 200))), (7, .int (bI (blM M n a))), (8, .int (nI vf)), (9, .int (nI vi)), (10, .int (bI vs)), (11, .int (nI vl)), (12, .int (nI vc)), (16, .int (nI s_))]) dM_edit_321 (by decide) rfl ?_
                    refine xg_iload hX 0 dM_edit_323 rfl ?_
                    refine xg_if_eqN hX 337 (by omega) dM_edit_325 (by decide) (fun _ => ?_) (fun h => absurd h (by decide))
                    refine xg_iload hX 0 dM_edit_337 rfl ?_
                    refine xg_if_eqN hX 351 (by omega) dM_edit_339 (by decide) (fun _ => ?_) (fun h => absurd h (by decide))
                    refine xg_iload hX 0 dM_edit_351 rfl ?_
                    refine xg_if_eqN hX 366 (by omega) dM_edit_353 (by decide) (fun _ => ?_) (fun h => absurd h (by decide))
                    refine xg_iload hX 0 dM_edit_366 rfl ?_
                    refine xg_if_eqN hX 386 (by omega) dM_edit_368 (by decide) (fun _ => ?_) (fun h => absurd h (by decide))
                    refine xg_iload hX 0 dM_edit_386 rfl ?_
                    refine xg_if_eqN hX 407 (by omega) dM_edit_388 (by decide) (fun _ => ?_) (fun h => absurd h (by decide))
                    refine xg_iload hX 0 dM_edit_407 rfl ?_
                    refine xg_if_eqN hX 473 (by omega) dM_edit_409 (by decide) (fun _ => ?_) (fun h => absurd h (by decide))
                    refine xg_iload hX 0 dM_edit_473 rfl ?_
                    refine xg_if_eqN hX 543 (by omega) dM_edit_475 (by decide) (fun _ => ?_) (fun h => absurd h (by decide))
                    refine xg_iconst hX (nI 0) dM_edit_543 (by decide) ?_
                    refine xg_istore hX (lv' := [(23, .int (nI 0)), (14, .int (nI 0)), (22, .int (nI 0)), (21, .int (nI (k % 16))), (20, .int (nI (k / 16))), (19, .int (nI 0)), (18, .int (nI 0)), (15, .int (nI 1)), (13, .int (nI (zn + 1))), (17, .int (nI k)), (0, .ref mq), (4, .int b), (6, .int (bI (!hasD (rdD M (tn n) (tn a)) 0 200))), (7, .int (bI (blM M n a))), (8, .int (nI vf)), (9, .int (nI vi)), (10, .int (bI vs)), (11, .int (nI vl)), (12, .int (nI vc)), (16, .int (nI s_))]) dM_edit_544 (by decide) rfl ?_
                    refine xg_iload hX 1 dM_edit_546 rfl ?_
                    refine xg_if_eqN hX 756 (by omega) dM_edit_548 (by decide) (fun _ => ?_) (fun h => absurd h (by decide))
                    refine xg_iincN hX (lv' := [(16, .int (nI (s_ + 1))), (23, .int (nI 0)), (14, .int (nI 0)), (22, .int (nI 0)), (21, .int (nI (k % 16))), (20, .int (nI (k / 16))), (19, .int (nI 0)), (18, .int (nI 0)), (15, .int (nI 1)), (13, .int (nI (zn + 1))), (17, .int (nI k)), (0, .ref mq), (4, .int b), (6, .int (bI (!hasD (rdD M (tn n) (tn a)) 0 200))), (7, .int (bI (blM M n a))), (8, .int (nI vf)), (9, .int (nI vi)), (10, .int (bI vs)), (11, .int (nI vl)), (12, .int (nI vc))]) (s_ + 1) 19 dM_edit_756 rfl (xn_inc _) (by decide) rfl ?_
                    refine xg_goto hX 96 dM_edit_759 (by decide) ?_
                    refine xg_iload hX 8 dM_edit_96 rfl ?_
                    refine xg_if_eqN hX 762 (by omega) dM_edit_98 (by decide) (fun h => absurd h (by decide)) (fun _ => ?_)
                    refine xg_iload hX 2 dM_edit_101 rfl ?_
                    refine xg_if_eqN hX 762 (by omega) dM_edit_103 (by decide) (fun _ => ?_) (fun h => absurd h (by decide))
                    refine xg_iload hX 2 dM_edit_762 rfl ?_
                    refine xg_if_eqN hX 772 (by omega) dM_edit_764 (by decide) (fun _ => ?_) (fun h => absurd h (by decide))
                    refine xg_bipush hX ((-2)) dM_edit_772 (by decide) ?_
                    exact hret ((-2), M, rdD M (tn n) (tn a), Vw, men) _ _ _ rfl (show ((-2), M, men) = editM M men xw n a p b from (by have hF : edPM M xw n a p = none := (fo_no hq hnx (by omega) h168 (ob_x (by omega))); unfold editM; rw [if_pos h5, if_pos g1, hF])) dM_edit_774
                  ·
                    refine xg_iload hX 0 dM_edit_171 rfl ?_
                    refine xg_if_neN hX 180 (by omega) dM_edit_173 (by decide) (fun _ => ?_) (fun h => absurd h (by decide))
                    refine xg_iconst hX (nI 0) dM_edit_180 (by decide) ?_
                    refine xg_istore hX (lv' := [(14, .int (nI 0)), (15, .int (nI 1)), (13, .int (nI (zn + 1))), (17, .int (nI k)), (0, .ref mq), (4, .int b), (6, .int (bI (!hasD (rdD M (tn n) (tn a)) 0 200))), (7, .int (bI (blM M n a))), (8, .int (nI vf)), (9, .int (nI vi)), (10, .int (bI vs)), (11, .int (nI vl)), (12, .int (nI vc)), (16, .int (nI s_))]) dM_edit_181 (by decide) rfl ?_
                    refine xg_iload hX 3 dM_edit_183 rfl ?_
                    refine xg_iconst hX (nI 4) dM_edit_185 (by decide) ?_
                    refine xg_icmp_ltN hX 200 (by omega) (by omega) dM_edit_186 (by decide) (fun hh_813 => absurd hh_813 (by omega)) (fun hh_813 => ?_)
                    refine xg_iload hX 3 dM_edit_189 rfl ?_
                    refine xg_bipush hX (nI 8) dM_edit_191 (by decide) ?_
                    refine xg_icmp_gtN hX 200 (by omega) (by omega) dM_edit_193 (by decide) (fun hh_814 => ?_) (fun hh_814 => absurd hh_814 (by omega))
                    refine xg_iconst hX (nI 0) dM_edit_200 (by decide) ?_
                    refine xg_istore hX (lv' := [(18, .int (nI 0)), (14, .int (nI 0)), (15, .int (nI 1)), (13, .int (nI (zn + 1))), (17, .int (nI k)), (0, .ref mq), (4, .int b), (6, .int (bI (!hasD (rdD M (tn n) (tn a)) 0 200))), (7, .int (bI (blM M n a))), (8, .int (nI vf)), (9, .int (nI vi)), (10, .int (bI vs)), (11, .int (nI vl)), (12, .int (nI vc)), (16, .int (nI s_))]) dM_edit_201 (by decide) rfl ?_
                    refine xg_iload hX 0 dM_edit_203 rfl ?_
                    refine xg_if_eqN hX 228 (by omega) dM_edit_205 (by decide) (fun _ => ?_) (fun h => absurd h (by decide))
                    refine xg_iload hX 0 dM_edit_228 rfl ?_
                    refine xg_if_eqN hX 248 (by omega) dM_edit_230 (by decide) (fun _ => ?_) (fun h => absurd h (by decide))
                    refine xg_iconst hX (nI 0) dM_edit_248 (by decide) ?_
                    refine xg_istore hX (lv' := [(19, .int (nI 0)), (18, .int (nI 0)), (14, .int (nI 0)), (15, .int (nI 1)), (13, .int (nI (zn + 1))), (17, .int (nI k)), (0, .ref mq), (4, .int b), (6, .int (bI (!hasD (rdD M (tn n) (tn a)) 0 200))), (7, .int (bI (blM M n a))), (8, .int (nI vf)), (9, .int (nI vi)), (10, .int (bI vs)), (11, .int (nI vl)), (12, .int (nI vc)), (16, .int (nI s_))]) dM_edit_249 (by decide) rfl ?_
                    refine xg_iload hX 1 dM_edit_251 rfl ?_
                    refine xg_if_eqN hX 259 (by omega) dM_edit_253 (by decide) (fun _ => ?_) (fun h => absurd h (by decide))
                    refine xg_iload hX 5 dM_edit_259 rfl ?_
                    refine xg_bipush hX (nI 16) dM_edit_261 (by decide) ?_
                    refine xg_idivN hX (by omega) (by omega) (by omega) dM_edit_263 ?_
                    refine xg_istore hX (lv' := [(20, .int (nI (k / 16))), (19, .int (nI 0)), (18, .int (nI 0)), (14, .int (nI 0)), (15, .int (nI 1)), (13, .int (nI (zn + 1))), (17, .int (nI k)), (0, .ref mq), (4, .int b), (6, .int (bI (!hasD (rdD M (tn n) (tn a)) 0 200))), (7, .int (bI (blM M n a))), (8, .int (nI vf)), (9, .int (nI vi)), (10, .int (bI vs)), (11, .int (nI vl)), (12, .int (nI vc)), (16, .int (nI s_))]) dM_edit_264 (by decide) rfl ?_
                    refine xg_iload hX 6 dM_edit_266 rfl ?_
                    refine xg_bipush hX (nI 16) dM_edit_268 (by decide) ?_
                    refine xg_iremN hX (by omega) (by omega) (by omega) dM_edit_270 ?_
                    refine xg_istore hX (lv' := [(21, .int (nI (k % 16))), (20, .int (nI (k / 16))), (19, .int (nI 0)), (18, .int (nI 0)), (14, .int (nI 0)), (15, .int (nI 1)), (13, .int (nI (zn + 1))), (17, .int (nI k)), (0, .ref mq), (4, .int b), (6, .int (bI (!hasD (rdD M (tn n) (tn a)) 0 200))), (7, .int (bI (blM M n a))), (8, .int (nI vf)), (9, .int (nI vi)), (10, .int (bI vs)), (11, .int (nI vl)), (12, .int (nI vc)), (16, .int (nI s_))]) dM_edit_271 (by decide) rfl ?_
                    refine xg_iload hX 1 dM_edit_273 rfl ?_
                    refine xg_bipush hX (nI 8) dM_edit_275 (by decide) ?_
                    refine xg_icmp_ltN hX 296 (by omega) (by omega) dM_edit_277 (by decide) (fun hh_818 => absurd hh_818 (by omega)) (fun hh_818 => ?_)
                    refine xg_iload hX 1 dM_edit_280 rfl ?_
                    refine xg_bipush hX (nI 10) dM_edit_282 (by decide) ?_
                    refine xg_icmp_gtN hX 296 (by omega) (by omega) dM_edit_284 (by decide) (fun hh_819 => absurd hh_819 (by omega)) (fun hh_819 => ?_)
                    refine xg_iload hX 0 dM_edit_287 rfl ?_
                    refine xg_if_leN hX 296 (by omega) dM_edit_289 (by decide) (fun hh_820 => ?_) (fun hh_820 => absurd hh_820 (by omega))
                    refine xg_iconst hX (nI 0) dM_edit_296 (by decide) ?_
                    refine xg_istore hX (lv' := [(22, .int (nI 0)), (21, .int (nI (k % 16))), (20, .int (nI (k / 16))), (19, .int (nI 0)), (18, .int (nI 0)), (14, .int (nI 0)), (15, .int (nI 1)), (13, .int (nI (zn + 1))), (17, .int (nI k)), (0, .ref mq), (4, .int b), (6, .int (bI (!hasD (rdD M (tn n) (tn a)) 0 200))), (7, .int (bI (blM M n a))), (8, .int (nI vf)), (9, .int (nI vi)), (10, .int (bI vs)), (11, .int (nI vl)), (12, .int (nI vc)), (16, .int (nI s_))]) dM_edit_297 (by decide) rfl ?_
                    refine xg_iload hX 5 dM_edit_299 rfl ?_
                    refine xg_if_eqN hX 320 (by omega) dM_edit_301 (by decide) (fun _ => ?_) (fun h => absurd h (by decide))
                    refine xg_iconst hX (nI 0) dM_edit_320 (by decide) ?_
                    refine xg_istore hX (lv' := [(14, .int (nI 0)), (22, .int (nI 0)), (21, .int (nI (k % 16))), (20, .int (nI (k / 16))), (19, .int (nI 0)), (18, .int (nI 0)), (15, .int (nI 1)), (13, .int (nI (zn + 1))), (17, .int (nI k)), (0, .ref mq), (4, .int b), (6, .int (bI (!hasD (rdD M (tn n) (tn a)) 0 200))), (7, .int (bI (blM M n a))), (8, .int (nI vf)), (9, .int (nI vi)), (10, .int (bI vs)), (11, .int (nI vl)), (12, .int (nI vc)), (16, .int (nI s_))]) dM_edit_321 (by decide) rfl ?_
                    refine xg_iload hX 0 dM_edit_323 rfl ?_
                    refine xg_if_eqN hX 337 (by omega) dM_edit_325 (by decide) (fun _ => ?_) (fun h => absurd h (by decide))
                    refine xg_iload hX 0 dM_edit_337 rfl ?_
                    refine xg_if_eqN hX 351 (by omega) dM_edit_339 (by decide) (fun _ => ?_) (fun h => absurd h (by decide))
                    refine xg_iload hX 0 dM_edit_351 rfl ?_
                    refine xg_if_eqN hX 366 (by omega) dM_edit_353 (by decide) (fun _ => ?_) (fun h => absurd h (by decide))
                    refine xg_iload hX 0 dM_edit_366 rfl ?_
                    refine xg_if_eqN hX 386 (by omega) dM_edit_368 (by decide) (fun _ => ?_) (fun h => absurd h (by decide))
                    refine xg_iload hX 0 dM_edit_386 rfl ?_
                    refine xg_if_eqN hX 407 (by omega) dM_edit_388 (by decide) (fun _ => ?_) (fun h => absurd h (by decide))
                    refine xg_iload hX 0 dM_edit_407 rfl ?_
                    refine xg_if_eqN hX 473 (by omega) dM_edit_409 (by decide) (fun _ => ?_) (fun h => absurd h (by decide))
                    refine xg_iload hX 0 dM_edit_473 rfl ?_
                    refine xg_if_eqN hX 543 (by omega) dM_edit_475 (by decide) (fun _ => ?_) (fun h => absurd h (by decide))
                    refine xg_iconst hX (nI 0) dM_edit_543 (by decide) ?_
                    refine xg_istore hX (lv' := [(23, .int (nI 0)), (14, .int (nI 0)), (22, .int (nI 0)), (21, .int (nI (k % 16))), (20, .int (nI (k / 16))), (19, .int (nI 0)), (18, .int (nI 0)), (15, .int (nI 1)), (13, .int (nI (zn + 1))), (17, .int (nI k)), (0, .ref mq), (4, .int b), (6, .int (bI (!hasD (rdD M (tn n) (tn a)) 0 200))), (7, .int (bI (blM M n a))), (8, .int (nI vf)), (9, .int (nI vi)), (10, .int (bI vs)), (11, .int (nI vl)), (12, .int (nI vc)), (16, .int (nI s_))]) dM_edit_544 (by decide) rfl ?_
                    refine xg_iload hX 1 dM_edit_546 rfl ?_
                    refine xg_if_eqN hX 756 (by omega) dM_edit_548 (by decide) (fun _ => ?_) (fun h => absurd h (by decide))
                    refine xg_iincN hX (lv' := [(16, .int (nI (s_ + 1))), (23, .int (nI 0)), (14, .int (nI 0)), (22, .int (nI 0)), (21, .int (nI (k % 16))), (20, .int (nI (k / 16))), (19, .int (nI 0)), (18, .int (nI 0)), (15, .int (nI 1)), (13, .int (nI (zn + 1))), (17, .int (nI k)), (0, .ref mq), (4, .int b), (6, .int (bI (!hasD (rdD M (tn n) (tn a)) 0 200))), (7, .int (bI (blM M n a))), (8, .int (nI vf)), (9, .int (nI vi)), (10, .int (bI vs)), (11, .int (nI vl)), (12, .int (nI vc))]) (s_ + 1) 19 dM_edit_756 rfl (xn_inc _) (by decide) rfl ?_
                    refine xg_goto hX 96 dM_edit_759 (by decide) ?_
                    refine xg_iload hX 8 dM_edit_96 rfl ?_
                    refine xg_if_eqN hX 762 (by omega) dM_edit_98 (by decide) (fun h => absurd h (by decide)) (fun _ => ?_)
                    refine xg_iload hX 2 dM_edit_101 rfl ?_
                    refine xg_if_eqN hX 762 (by omega) dM_edit_103 (by decide) (fun _ => ?_) (fun h => absurd h (by decide))
                    refine xg_iload hX 2 dM_edit_762 rfl ?_
                    refine xg_if_eqN hX 772 (by omega) dM_edit_764 (by decide) (fun _ => ?_) (fun h => absurd h (by decide))
                    refine xg_bipush hX ((-2)) dM_edit_772 (by decide) ?_
                    exact hret ((-2), M, rdD M (tn n) (tn a), Vw, men) _ _ _ rfl (show ((-2), M, men) = editM M men xw n a p b from (by have hF : edPM M xw n a p = none := (fo_la hq hnx (by omega) (by omega)); unfold editM; rw [if_pos h5, if_pos g1, hF])) dM_edit_774
                ·
                  refine xg_iload hX 9 dM_edit_106 rfl ?_
                  refine xg_if_ltN hX 123 (by omega) dM_edit_108 (by decide) ?_
                  refine xg_iload hX 9 dM_edit_111 rfl ?_
                  refine xg_sipush hX (nI 256) dM_edit_113 (by decide) ?_
                  refine xg_icmp_geN hX 123 (by omega) (by omega) dM_edit_116 (by decide) (fun h116 => absurd h116 (by omega)) (fun h116 => ?_)
                  refine xg_iconst hX (nI 1) dM_edit_119 (by decide) ?_
                  refine xg_goto hX 124 dM_edit_120 (by decide) ?_
                  refine xg_istore hX (lv' := [(14, .int (nI 1)), (0, .ref mq), (4, .int b), (6, .int (bI (!hasD (rdD M (tn n) (tn a)) 0 200))), (7, .int (bI (blM M n a))), (8, .int (nI vf)), (9, .int (nI vi)), (10, .int (bI vs)), (11, .int (nI vl)), (12, .int (nI vc)), (13, .int (nI zn)), (15, .int (nI 1)), (16, .int (nI s_))]) dM_edit_124 (by decide) rfl ?_
                  refine xg_iload hX 0 dM_edit_126 rfl ?_
                  refine xg_if_eqN hX 141 (by omega) dM_edit_128 (by decide) (fun h => absurd h (by decide)) (fun _ => ?_)
                  refine xg_aload_n hX 1 dM_edit_131 rfl rfl ?_
                  refine xg_get hX (ci := 3) rfl hinM 0 rfl 0 (by decide) mt_324 rfl dM_edit_132 ?_
                  refine xg_iload hX 10 dM_edit_135 rfl ?_
                  refine xg_iald hX 1 zn rfl (by omega) (by decide) dM_edit_137 ?_
                  refine xg_top (nI k) (by rw [hk4]) ?_
                  refine xg_goto hX 142 dM_edit_138 (by decide) ?_
                  refine xg_istore hX (lv' := [(17, .int (nI k)), (14, .int (nI 1)), (0, .ref mq), (4, .int b), (6, .int (bI (!hasD (rdD M (tn n) (tn a)) 0 200))), (7, .int (bI (blM M n a))), (8, .int (nI vf)), (9, .int (nI vi)), (10, .int (bI vs)), (11, .int (nI vl)), (12, .int (nI vc)), (13, .int (nI zn)), (15, .int (nI 1)), (16, .int (nI s_))]) dM_edit_142 (by decide) rfl ?_
                  refine xg_iincN hX (lv' := [(13, .int (nI (zn + 1))), (17, .int (nI k)), (14, .int (nI 1)), (0, .ref mq), (4, .int b), (6, .int (bI (!hasD (rdD M (tn n) (tn a)) 0 200))), (7, .int (bI (blM M n a))), (8, .int (nI vf)), (9, .int (nI vi)), (10, .int (bI vs)), (11, .int (nI vl)), (12, .int (nI vc)), (15, .int (nI 1)), (16, .int (nI s_))]) (zn + 1) 11 dM_edit_144 rfl (xn_inc _) (by decide) rfl ?_
                  refine xg_iload hX 1 dM_edit_147 rfl ?_
                  refine xg_if_eqN hX 156 (by omega) dM_edit_149 (by decide) (fun hh_834 => absurd hh_834 (by omega)) (fun hh_834 => ?_)
                  refine xg_iconst hX (nI 1) dM_edit_152 (by decide) ?_
                  refine xg_goto hX 157 dM_edit_153 (by decide) ?_
                  refine xg_istore hX (lv' := [(15, .int (nI 1)), (13, .int (nI (zn + 1))), (17, .int (nI k)), (14, .int (nI 1)), (0, .ref mq), (4, .int b), (6, .int (bI (!hasD (rdD M (tn n) (tn a)) 0 200))), (7, .int (bI (blM M n a))), (8, .int (nI vf)), (9, .int (nI vi)), (10, .int (bI vs)), (11, .int (nI vl)), (12, .int (nI vc)), (16, .int (nI s_))]) dM_edit_157 (by decide) rfl ?_
                  refine xg_iload hX 3 dM_edit_159 rfl ?_
                  refine xg_if_eqN hX 180 (by omega) dM_edit_161 (by decide) (fun h => absurd h (by decide)) (fun _ => ?_)
                  refine xg_iload hX 13 dM_edit_164 rfl ?_
                  refine xg_bipush hX (nI 64) dM_edit_166 (by decide) ?_
                  refine xg_icmp_ltN hX 176 (by omega) (by omega) dM_edit_168 (by decide) (fun h168 => ?_) (fun h168 => ?_)
                  ·
                    refine xg_iconst hX (nI 1) dM_edit_176 (by decide) ?_
                    refine xg_goto hX 181 dM_edit_177 (by decide) ?_
                    refine xg_istore hX (lv' := [(14, .int (nI 1)), (15, .int (nI 1)), (13, .int (nI (zn + 1))), (17, .int (nI k)), (0, .ref mq), (4, .int b), (6, .int (bI (!hasD (rdD M (tn n) (tn a)) 0 200))), (7, .int (bI (blM M n a))), (8, .int (nI vf)), (9, .int (nI vi)), (10, .int (bI vs)), (11, .int (nI vl)), (12, .int (nI vc)), (16, .int (nI s_))]) dM_edit_181 (by decide) rfl ?_
                    refine xg_iload hX 3 dM_edit_183 rfl ?_
                    refine xg_iconst hX (nI 4) dM_edit_185 (by decide) ?_
                    refine xg_icmp_ltN hX 200 (by omega) (by omega) dM_edit_186 (by decide) (fun hh_836 => absurd hh_836 (by omega)) (fun hh_836 => ?_)
                    refine xg_iload hX 3 dM_edit_189 rfl ?_
                    refine xg_bipush hX (nI 8) dM_edit_191 (by decide) ?_
                    refine xg_icmp_gtN hX 200 (by omega) (by omega) dM_edit_193 (by decide) (fun hh_837 => ?_) (fun hh_837 => absurd hh_837 (by omega))
                    refine xg_iconst hX (nI 0) dM_edit_200 (by decide) ?_
                    refine xg_istore hX (lv' := [(18, .int (nI 0)), (14, .int (nI 1)), (15, .int (nI 1)), (13, .int (nI (zn + 1))), (17, .int (nI k)), (0, .ref mq), (4, .int b), (6, .int (bI (!hasD (rdD M (tn n) (tn a)) 0 200))), (7, .int (bI (blM M n a))), (8, .int (nI vf)), (9, .int (nI vi)), (10, .int (bI vs)), (11, .int (nI vl)), (12, .int (nI vc)), (16, .int (nI s_))]) dM_edit_201 (by decide) rfl ?_
                    refine xg_iload hX 0 dM_edit_203 rfl ?_
                    refine xg_if_eqN hX 228 (by omega) dM_edit_205 (by decide) (fun _ => ?_) (fun h => absurd h (by decide))
                    refine xg_iload hX 0 dM_edit_228 rfl ?_
                    refine xg_if_eqN hX 248 (by omega) dM_edit_230 (by decide) (fun _ => ?_) (fun h => absurd h (by decide))
                    refine xg_iconst hX (nI 0) dM_edit_248 (by decide) ?_
                    refine xg_istore hX (lv' := [(19, .int (nI 0)), (18, .int (nI 0)), (14, .int (nI 1)), (15, .int (nI 1)), (13, .int (nI (zn + 1))), (17, .int (nI k)), (0, .ref mq), (4, .int b), (6, .int (bI (!hasD (rdD M (tn n) (tn a)) 0 200))), (7, .int (bI (blM M n a))), (8, .int (nI vf)), (9, .int (nI vi)), (10, .int (bI vs)), (11, .int (nI vl)), (12, .int (nI vc)), (16, .int (nI s_))]) dM_edit_249 (by decide) rfl ?_
                    refine xg_iload hX 1 dM_edit_251 rfl ?_
                    refine xg_if_eqN hX 259 (by omega) dM_edit_253 (by decide) (fun _ => ?_) (fun h => absurd h (by decide))
                    refine xg_iload hX 5 dM_edit_259 rfl ?_
                    refine xg_bipush hX (nI 16) dM_edit_261 (by decide) ?_
                    refine xg_idivN hX (by omega) (by omega) (by omega) dM_edit_263 ?_
                    refine xg_istore hX (lv' := [(20, .int (nI (k / 16))), (19, .int (nI 0)), (18, .int (nI 0)), (14, .int (nI 1)), (15, .int (nI 1)), (13, .int (nI (zn + 1))), (17, .int (nI k)), (0, .ref mq), (4, .int b), (6, .int (bI (!hasD (rdD M (tn n) (tn a)) 0 200))), (7, .int (bI (blM M n a))), (8, .int (nI vf)), (9, .int (nI vi)), (10, .int (bI vs)), (11, .int (nI vl)), (12, .int (nI vc)), (16, .int (nI s_))]) dM_edit_264 (by decide) rfl ?_
                    refine xg_iload hX 6 dM_edit_266 rfl ?_
                    refine xg_bipush hX (nI 16) dM_edit_268 (by decide) ?_
                    refine xg_iremN hX (by omega) (by omega) (by omega) dM_edit_270 ?_
                    refine xg_istore hX (lv' := [(21, .int (nI (k % 16))), (20, .int (nI (k / 16))), (19, .int (nI 0)), (18, .int (nI 0)), (14, .int (nI 1)), (15, .int (nI 1)), (13, .int (nI (zn + 1))), (17, .int (nI k)), (0, .ref mq), (4, .int b), (6, .int (bI (!hasD (rdD M (tn n) (tn a)) 0 200))), (7, .int (bI (blM M n a))), (8, .int (nI vf)), (9, .int (nI vi)), (10, .int (bI vs)), (11, .int (nI vl)), (12, .int (nI vc)), (16, .int (nI s_))]) dM_edit_271 (by decide) rfl ?_
                    refine xg_iload hX 1 dM_edit_273 rfl ?_
                    refine xg_bipush hX (nI 8) dM_edit_275 (by decide) ?_
                    refine xg_icmp_ltN hX 296 (by omega) (by omega) dM_edit_277 (by decide) (fun hh_841 => absurd hh_841 (by omega)) (fun hh_841 => ?_)
                    refine xg_iload hX 1 dM_edit_280 rfl ?_
                    refine xg_bipush hX (nI 10) dM_edit_282 (by decide) ?_
                    refine xg_icmp_gtN hX 296 (by omega) (by omega) dM_edit_284 (by decide) (fun hh_842 => absurd hh_842 (by omega)) (fun hh_842 => ?_)
                    refine xg_iload hX 0 dM_edit_287 rfl ?_
                    refine xg_if_leN hX 296 (by omega) dM_edit_289 (by decide) (fun hh_843 => absurd hh_843 (by omega)) (fun hh_843 => ?_)
                    refine xg_iconst hX (nI 1) dM_edit_292 (by decide) ?_
                    refine xg_goto hX 297 dM_edit_293 (by decide) ?_
                    refine xg_istore hX (lv' := [(22, .int (nI 1)), (21, .int (nI (k % 16))), (20, .int (nI (k / 16))), (19, .int (nI 0)), (18, .int (nI 0)), (14, .int (nI 1)), (15, .int (nI 1)), (13, .int (nI (zn + 1))), (17, .int (nI k)), (0, .ref mq), (4, .int b), (6, .int (bI (!hasD (rdD M (tn n) (tn a)) 0 200))), (7, .int (bI (blM M n a))), (8, .int (nI vf)), (9, .int (nI vi)), (10, .int (bI vs)), (11, .int (nI vl)), (12, .int (nI vc)), (16, .int (nI s_))]) dM_edit_297 (by decide) rfl ?_
                    refine xg_iload hX 5 dM_edit_299 rfl ?_
                    refine xg_if_eqN hX 320 (by omega) dM_edit_301 (by decide) (fun h => absurd h (by decide)) (fun _ => ?_)
                    refine xg_iload hX 8 dM_edit_304 rfl ?_
                    refine xg_bipush hX (nI 8) dM_edit_306 (by decide) ?_
                    refine xg_icmp_leN hX 316 (by omega) (by omega) dM_edit_308 (by decide) (fun hh_845 => absurd hh_845 (by omega)) (fun hh_845 => ?_)
                    refine xg_iload hX 0 dM_edit_311 rfl ?_
                    refine xg_if_eqN hX 320 (by omega) dM_edit_313 (by decide) (fun h => absurd h (by decide)) (fun _ => ?_)
                    refine xg_iconst hX (nI 1) dM_edit_316 (by decide) ?_
                    refine xg_goto hX 321 dM_edit_317 (by decide) ?_
                    refine xg_istore hX (lv' := [(14, .int (nI 1)), (22, .int (nI 1)), (21, .int (nI (k % 16))), (20, .int (nI (k / 16))), (19, .int (nI 0)), (18, .int (nI 0)), (15, .int (nI 1)), (13, .int (nI (zn + 1))), (17, .int (nI k)), (0, .ref mq), (4, .int b), (6, .int (bI (!hasD (rdD M (tn n) (tn a)) 0 200))), (7, .int (bI (blM M n a))), (8, .int (nI vf)), (9, .int (nI vi)), (10, .int (bI vs)), (11, .int (nI vl)), (12, .int (nI vc)), (16, .int (nI s_))]) dM_edit_321 (by decide) rfl ?_
                    refine xg_iload hX 0 dM_edit_323 rfl ?_
                    refine xg_if_eqN hX 337 (by omega) dM_edit_325 (by decide) (fun h => absurd h (by decide)) (fun _ => ?_)
                    refine xg_iload hX 8 dM_edit_328 rfl ?_
                    refine xg_iconst hX (nI 1) dM_edit_330 (by decide) ?_
                    refine xg_icmp_neN hX 337 (by omega) (by omega) dM_edit_331 (by decide) (fun hh_848 => ?_) (fun hh_848 => absurd hh_848 (by omega))
                    refine xg_iload hX 0 dM_edit_337 rfl ?_
                    refine xg_if_eqN hX 351 (by omega) dM_edit_339 (by decide) (fun h => absurd h (by decide)) (fun _ => ?_)
                    refine xg_iload hX 8 dM_edit_342 rfl ?_
                    refine xg_iconst hX (nI 2) dM_edit_344 (by decide) ?_
                    refine xg_icmp_neN hX 351 (by omega) (by omega) dM_edit_345 (by decide) (fun hh_850 => ?_) (fun hh_850 => absurd hh_850 (by omega))
                    refine xg_iload hX 0 dM_edit_351 rfl ?_
                    refine xg_if_eqN hX 366 (by omega) dM_edit_353 (by decide) (fun h => absurd h (by decide)) (fun _ => ?_)
                    refine xg_iload hX 8 dM_edit_356 rfl ?_
                    refine xg_iconst hX (nI 4) dM_edit_358 (by decide) ?_
                    refine xg_icmp_neN hX 366 (by omega) (by omega) dM_edit_359 (by decide) (fun hh_852 => ?_) (fun hh_852 => absurd hh_852 (by omega))
                    refine xg_iload hX 0 dM_edit_366 rfl ?_
                    refine xg_if_eqN hX 386 (by omega) dM_edit_368 (by decide) (fun h => absurd h (by decide)) (fun _ => ?_)
                    refine xg_iload hX 8 dM_edit_371 rfl ?_
                    refine xg_iconst hX (nI 5) dM_edit_373 (by decide) ?_
                    refine xg_icmp_neN hX 386 (by omega) (by omega) dM_edit_374 (by decide) (fun hh_854 => ?_) (fun hh_854 => absurd hh_854 (by omega))
                    refine xg_iload hX 0 dM_edit_386 rfl ?_
                    refine xg_if_eqN hX 407 (by omega) dM_edit_388 (by decide) (fun h => absurd h (by decide)) (fun _ => ?_)
                    refine xg_iload hX 8 dM_edit_391 rfl ?_
                    refine xg_bipush hX (nI 6) dM_edit_393 (by decide) ?_
                    refine xg_icmp_neN hX 407 (by omega) (by omega) dM_edit_395 (by decide) (fun hh_856 => ?_) (fun hh_856 => absurd hh_856 (by omega))
                    refine xg_iload hX 0 dM_edit_407 rfl ?_
                    refine xg_if_eqN hX 473 (by omega) dM_edit_409 (by decide) (fun h => absurd h (by decide)) (fun _ => ?_)
                    refine xg_iload hX 8 dM_edit_412 rfl ?_
                    refine xg_bipush hX (nI 8) dM_edit_414 (by decide) ?_
                    refine xg_icmp_neN hX 473 (by omega) (by omega) dM_edit_416 (by decide) (fun hh_858 => ?_) (fun hh_858 => absurd hh_858 (by omega))
                    refine xg_iload hX 0 dM_edit_473 rfl ?_
                    refine xg_if_eqN hX 543 (by omega) dM_edit_475 (by decide) (fun h => absurd h (by decide)) (fun _ => ?_)
                    refine xg_iload hX 8 dM_edit_478 rfl ?_
                    refine xg_iconst hX (nI 3) dM_edit_480 (by decide) ?_
                    refine xg_icmp_eqN hX 491 (by omega) (by omega) dM_edit_481 (by decide) (fun hh_860 => absurd hh_860 (by omega)) (fun hh_860 => ?_)
                    refine xg_iload hX 8 dM_edit_484 rfl ?_
                    refine xg_bipush hX (nI 7) dM_edit_486 (by decide) ?_
                    refine xg_icmp_neN hX 543 (by omega) (by omega) dM_edit_488 (by decide) (fun hh_861 => ?_) (fun hh_861 => absurd hh_861 (by omega))
                    refine xg_iconst hX (nI 0) dM_edit_543 (by decide) ?_
                    refine xg_istore hX (lv' := [(23, .int (nI 0)), (14, .int (nI 1)), (22, .int (nI 1)), (21, .int (nI (k % 16))), (20, .int (nI (k / 16))), (19, .int (nI 0)), (18, .int (nI 0)), (15, .int (nI 1)), (13, .int (nI (zn + 1))), (17, .int (nI k)), (0, .ref mq), (4, .int b), (6, .int (bI (!hasD (rdD M (tn n) (tn a)) 0 200))), (7, .int (bI (blM M n a))), (8, .int (nI vf)), (9, .int (nI vi)), (10, .int (bI vs)), (11, .int (nI vl)), (12, .int (nI vc)), (16, .int (nI s_))]) dM_edit_544 (by decide) rfl ?_
                    have lp862 : ∀ (fu863 : Nat) (i : Nat) (Wv : Nat → Nat) (wc : Nat) (wl : Nat) (ws : Bool), (i ≤ k % 16) → (wc ≤ 64) → (wl ≤ 31) → (pDs (rdD M (tn n) (tn a)) false (k % 16) (Vw, vc, vl, vs, vf, vi) = pDs (rdD M (tn n) (tn a)) false (k % 16 - i) (Wv, wc, wl, ws, vf, vi)) → k % 16 - i < fu863 → GG D X 0 0 546 [(mq, .inr (3, [.ref mm, .ref m1, .ref m2, .ref mo, .ref mr, .int (bI o1), .int (bI o2), .int (bI oo), .ref mw, .int (bI men)])), (mm, .inl (cI, 256, .inl (nf M))), (m1, .inl (cI, 200, .inl (nf (rdD M (tn n) (tn a))))), (mw, .inl (cI, 80, .inl (nf Wv)))] [(0, .ref mq), (4, .int b), (6, .int (bI (!hasD (rdD M (tn n) (tn a)) 0 200))), (7, .int (bI (blM M n a))), (8, .int (nI vf)), (9, .int (nI vi)), (10, .int (bI ws)), (11, .int (nI wl)), (12, .int (nI wc)), (13, .int (nI (zn + 1))), (14, .int (nI 1)), (15, .int (nI 1)), (16, .int (nI s_)), (17, .int (nI k)), (20, .int (nI (k / 16))), (21, .int (nI (k % 16))), (22, .int (nI 1)), (23, .int (nI i))] [] := by
                      intro fu863
                      induction fu863 with
                      | zero => intro i Wv wc wl ws hi hwc hwl hq2 hm865; exact absurd hm865 (Nat.not_lt_zero _)
                      | succ fu863 ih864 =>
                        intro i Wv wc wl ws hi hwc hwl hq2 hm865
                        have eT := hx.1 (wl - 1)
                        refine xg_iload hX 10 dM_edit_546 rfl ?_
                        refine xg_if_eqN hX 756 (by omega) dM_edit_548 (by decide) (fun h => absurd h (by decide)) (fun _ => ?_)
                        refine xg_iload hX 16 dM_edit_551 rfl ?_
                        refine xg_if_eqN hX 756 (by omega) dM_edit_553 (by decide) (fun h => absurd h (by decide)) (fun _ => ?_)
                        refine xg_iload hX 17 dM_edit_556 rfl ?_
                        refine xg_iload hX 15 dM_edit_558 rfl ?_
                        refine xg_icmp_geN hX 756 (by omega) (by omega) dM_edit_560 (by decide) (fun h560 => ?_) (fun h560 => ?_)
                        ·
                          refine xg_iincN hX (lv' := [(16, .int (nI (s_ + 1))), (0, .ref mq), (4, .int b), (6, .int (bI (!hasD (rdD M (tn n) (tn a)) 0 200))), (7, .int (bI (blM M n a))), (8, .int (nI vf)), (9, .int (nI vi)), (10, .int (bI ws)), (11, .int (nI wl)), (12, .int (nI wc)), (13, .int (nI (zn + 1))), (14, .int (nI 1)), (15, .int (nI 1)), (17, .int (nI k)), (20, .int (nI (k / 16))), (21, .int (nI (k % 16))), (22, .int (nI 1)), (23, .int (nI i))]) (s_ + 1) 12 dM_edit_756 rfl (xn_inc _) (by decide) rfl ?_
                          refine xg_goto hX 96 dM_edit_759 (by decide) ?_
                          refine xg_lv hX (lv' := [(0, .ref mq), (4, .int b), (6, .int (bI (!hasD (rdD M (tn n) (tn a)) 0 200))), (7, .int (bI (blM M n a))), (8, .int (nI vf)), (9, .int (nI vi)), (10, .int (bI ws)), (11, .int (nI wl)), (12, .int (nI wc)), (13, .int (nI (zn + 1))), (14, .int (nI 1)), (15, .int (nI 1)), (16, .int (nI (s_ + 1)))]) [1, 2, 3, 4, 5, 6, 7, 8, 9, 10, 11, 12, 0] rfl ?_
                          exact ih5 (s_ + 1) (nI (zn + 1)) Wv wc wl ws vf vi (by omega) (by omega) (by omega) (by omega) (fo_st1 hq hnx (by omega) h168 (tk_f (by omega)) ((ob_d (by omega)).trans (by rw [hq2, show k % 16 - i = 0 by omega]; rfl))) (by omega)
                        ·
                          refine xg_iload hX 14 dM_edit_563 rfl ?_
                          refine xg_bipush hX (nI 8) dM_edit_565 (by decide) ?_
                          refine xg_icmp_eqN hX 575 (by omega) (by omega) dM_edit_567 (by decide) (fun hh_868 => absurd hh_868 (by omega)) (fun hh_868 => ?_)
                          refine xg_iload hX 7 dM_edit_570 rfl ?_
                          refine xg_if_leN hX 579 (by omega) dM_edit_572 (by decide) (fun h572 => ?_) (fun h572 => ?_)
                          ·
                            refine xg_iconst hX (nI 0) dM_edit_579 (by decide) ?_
                            refine xg_istore hX (lv' := [(14, .int (nI 0)), (0, .ref mq), (4, .int b), (6, .int (bI (!hasD (rdD M (tn n) (tn a)) 0 200))), (7, .int (bI (blM M n a))), (8, .int (nI vf)), (9, .int (nI vi)), (10, .int (bI ws)), (11, .int (nI wl)), (12, .int (nI wc)), (13, .int (nI (zn + 1))), (15, .int (nI 1)), (16, .int (nI s_)), (17, .int (nI k)), (20, .int (nI (k / 16))), (21, .int (nI (k % 16))), (22, .int (nI 1)), (23, .int (nI i))]) dM_edit_580 (by decide) rfl ?_
                            refine xg_iload hX 0 dM_edit_582 rfl ?_
                            refine xg_if_eqN hX 606 (by omega) dM_edit_584 (by decide) (fun _ => ?_) (fun h => absurd h (by decide))
                            refine xg_iconst hX (nI 0) dM_edit_606 (by decide) ?_
                            refine xg_istore hX (lv' := [(24, .int (nI 0)), (14, .int (nI 0)), (0, .ref mq), (4, .int b), (6, .int (bI (!hasD (rdD M (tn n) (tn a)) 0 200))), (7, .int (bI (blM M n a))), (8, .int (nI vf)), (9, .int (nI vi)), (10, .int (bI ws)), (11, .int (nI wl)), (12, .int (nI wc)), (13, .int (nI (zn + 1))), (15, .int (nI 1)), (16, .int (nI s_)), (17, .int (nI k)), (20, .int (nI (k / 16))), (21, .int (nI (k % 16))), (22, .int (nI 1)), (23, .int (nI i))]) dM_edit_607 (by decide) rfl ?_
                            refine xg_iload hX 9 dM_edit_609 rfl ?_
                            refine xg_iload hX 15 dM_edit_611 rfl ?_
                            refine xg_bipush hX (nI 8) dM_edit_613 (by decide) ?_
                            refine xg_icmp_leN hX 622 (by omega) (by omega) dM_edit_615 (by decide) (fun hh_870 => absurd hh_870 (by omega)) (fun hh_870 => ?_)
                            refine xg_iconst hX (nI 1) dM_edit_618 (by decide) ?_
                            refine xg_goto hX 623 dM_edit_619 (by decide) ?_
                            refine xg_isub hX dM_edit_623 ?_
                            refine xg_top ((nI wl) - (nI 1)) rfl ?_
                            refine xg_istore hX (lv' := [(11, .int ((nI wl) - (nI 1))), (24, .int (nI 0)), (14, .int (nI 0)), (0, .ref mq), (4, .int b), (6, .int (bI (!hasD (rdD M (tn n) (tn a)) 0 200))), (7, .int (bI (blM M n a))), (8, .int (nI vf)), (9, .int (nI vi)), (10, .int (bI ws)), (12, .int (nI wc)), (13, .int (nI (zn + 1))), (15, .int (nI 1)), (16, .int (nI s_)), (17, .int (nI k)), (20, .int (nI (k / 16))), (21, .int (nI (k % 16))), (22, .int (nI 1)), (23, .int (nI i))]) dM_edit_624 (by decide) rfl ?_
                            refine xg_iload hX 2 dM_edit_626 rfl ?_
                            refine xg_if_eqN hX 679 (by omega) dM_edit_628 (by decide) (fun _ => ?_) (fun h => absurd h (by decide))
                            refine xg_iload hX 15 dM_edit_679 rfl ?_
                            refine xg_bipush hX (nI 8) dM_edit_681 (by decide) ?_
                            refine xg_icmp_leN hX 694 (by omega) (by omega) dM_edit_683 (by decide) (fun hh_872 => absurd hh_872 (by omega)) (fun hh_872 => ?_)
                            refine xg_iload hX 1 dM_edit_686 rfl ?_
                            refine xg_if_leN hX 694 (by omega) dM_edit_688 (by decide) (fun _ => ?_) (fun h => absurd h (by decide))
                            refine xg_iload hX 2 dM_edit_694 rfl ?_
                            refine xg_if_eqN hX 710 (by omega) dM_edit_696 (by decide) (fun _ => ?_) (fun h => absurd h (by decide))
                            refine xg_iconst hX (nI 0) dM_edit_710 (by decide) ?_
                            refine xg_istore hX (lv' := [(14, .int (nI 0)), (11, .int ((nI wl) - (nI 1))), (24, .int (nI 0)), (0, .ref mq), (4, .int b), (6, .int (bI (!hasD (rdD M (tn n) (tn a)) 0 200))), (7, .int (bI (blM M n a))), (8, .int (nI vf)), (9, .int (nI vi)), (10, .int (bI ws)), (12, .int (nI wc)), (13, .int (nI (zn + 1))), (15, .int (nI 1)), (16, .int (nI s_)), (17, .int (nI k)), (20, .int (nI (k / 16))), (21, .int (nI (k % 16))), (22, .int (nI 1)), (23, .int (nI i))]) dM_edit_711 (by decide) rfl ?_
                            refine xg_iload hX 0 dM_edit_713 rfl ?_
                            refine xg_if_eqN hX 747 (by omega) dM_edit_715 (by decide) (fun _ => ?_) (fun h => absurd h (by decide))
                            refine xg_iincN hX (lv' := [(12, .int (nI (wc + 1))), (14, .int (nI 0)), (11, .int ((nI wl) - (nI 1))), (24, .int (nI 0)), (0, .ref mq), (4, .int b), (6, .int (bI (!hasD (rdD M (tn n) (tn a)) 0 200))), (7, .int (bI (blM M n a))), (8, .int (nI vf)), (9, .int (nI vi)), (10, .int (bI ws)), (13, .int (nI (zn + 1))), (15, .int (nI 1)), (16, .int (nI s_)), (17, .int (nI k)), (20, .int (nI (k / 16))), (21, .int (nI (k % 16))), (22, .int (nI 1)), (23, .int (nI i))]) (wc + 1) 10 dM_edit_747 rfl (xn_inc _) (by decide) rfl ?_
                            refine xg_iincN hX (lv' := [(23, .int (nI (i + 1))), (12, .int (nI (wc + 1))), (14, .int (nI 0)), (11, .int ((nI wl) - (nI 1))), (24, .int (nI 0)), (0, .ref mq), (4, .int b), (6, .int (bI (!hasD (rdD M (tn n) (tn a)) 0 200))), (7, .int (bI (blM M n a))), (8, .int (nI vf)), (9, .int (nI vi)), (10, .int (bI ws)), (13, .int (nI (zn + 1))), (15, .int (nI 1)), (16, .int (nI s_)), (17, .int (nI k)), (20, .int (nI (k / 16))), (21, .int (nI (k % 16))), (22, .int (nI 1))]) (i + 1) 18 dM_edit_750 rfl (xn_inc _) (by decide) rfl ?_
                            refine xg_goto hX 546 dM_edit_753 (by decide) ?_
                            refine xg_iload hX 2 dM_edit_546 rfl ?_
                            refine xg_if_eqN hX 756 (by omega) dM_edit_548 (by decide) (fun _ => ?_) (fun h => absurd h (by decide))
                            refine xg_iincN hX (lv' := [(16, .int (nI (s_ + 1))), (23, .int (nI (i + 1))), (12, .int (nI (wc + 1))), (14, .int (nI 0)), (11, .int ((nI wl) - (nI 1))), (24, .int (nI 0)), (0, .ref mq), (4, .int b), (6, .int (bI (!hasD (rdD M (tn n) (tn a)) 0 200))), (7, .int (bI (blM M n a))), (8, .int (nI vf)), (9, .int (nI vi)), (10, .int (bI ws)), (13, .int (nI (zn + 1))), (15, .int (nI 1)), (17, .int (nI k)), (20, .int (nI (k / 16))), (21, .int (nI (k % 16))), (22, .int (nI 1))]) (s_ + 1) 14 dM_edit_756 rfl (xn_inc _) (by decide) rfl ?_
                            refine xg_goto hX 96 dM_edit_759 (by decide) ?_
                            refine xg_iload hX 14 dM_edit_96 rfl ?_
                            refine xg_if_eqN hX 762 (by omega) dM_edit_98 (by decide) (fun h => absurd h (by decide)) (fun _ => ?_)
                            refine xg_iload hX 3 dM_edit_101 rfl ?_
                            refine xg_if_eqN hX 762 (by omega) dM_edit_103 (by decide) (fun _ => ?_) (fun h => absurd h (by decide))
                            refine xg_iload hX 3 dM_edit_762 rfl ?_
                            refine xg_if_eqN hX 772 (by omega) dM_edit_764 (by decide) (fun _ => ?_) (fun h => absurd h (by decide))
                            refine xg_bipush hX ((-2)) dM_edit_772 (by decide) ?_
                            exact hret ((-2), M, rdD M (tn n) (tn a), Wv, men) _ _ _ rfl (show ((-2), M, men) = editM M men xw n a p b from (by have hF : edPM M xw n a p = none := (fo_no hq hnx (by omega) h168 ((ob_d (by omega)).trans (by rw [hq2, show k % 16 - i = (k % 16 - (i + 1)) + 1 by omega, pDs_no h572]))); unfold editM; rw [if_pos h5, if_pos g1, hF])) dM_edit_774
                          ·
                            refine xg_iconst hX (nI 1) dM_edit_575 (by decide) ?_
                            refine xg_goto hX 580 dM_edit_576 (by decide) ?_
                            refine xg_istore hX (lv' := [(14, .int (nI 1)), (0, .ref mq), (4, .int b), (6, .int (bI (!hasD (rdD M (tn n) (tn a)) 0 200))), (7, .int (bI (blM M n a))), (8, .int (nI vf)), (9, .int (nI vi)), (10, .int (bI ws)), (11, .int (nI wl)), (12, .int (nI wc)), (13, .int (nI (zn + 1))), (15, .int (nI 1)), (16, .int (nI s_)), (17, .int (nI k)), (20, .int (nI (k / 16))), (21, .int (nI (k % 16))), (22, .int (nI 1)), (23, .int (nI i))]) dM_edit_580 (by decide) rfl ?_
                            refine xg_iload hX 0 dM_edit_582 rfl ?_
                            refine xg_if_eqN hX 606 (by omega) dM_edit_584 (by decide) (fun h => absurd h (by decide)) (fun _ => ?_)
                            refine xg_iload hX 14 dM_edit_587 rfl ?_
                            refine xg_bipush hX (nI 8) dM_edit_589 (by decide) ?_
                            refine xg_icmp_leN hX 606 (by omega) (by omega) dM_edit_591 (by decide) (fun hh_880 => absurd hh_880 (by omega)) (fun hh_880 => ?_)
                            refine xg_aload_n hX 1 dM_edit_594 rfl rfl ?_
                            refine xg_get hX (ci := 3) rfl hinM 0 rfl 1 (by decide) mt_325 rfl dM_edit_595 ?_
                            refine xg_iload hX 8 dM_edit_598 rfl ?_
                            refine xg_iconst hX (nI 1) dM_edit_600 (by decide) ?_
                            refine xg_isubN hX (by omega) dM_edit_601 ?_
                            refine xg_iald hX 2 (wl - 1) rfl (by omega) (by decide) dM_edit_602 ?_
                            refine xg_goto hX 607 dM_edit_603 (by decide) ?_
                            refine xg_istore hX (lv' := [(24, .int (nI ((rdD M (tn n) (tn a)) (wl - 1)))), (14, .int (nI 1)), (0, .ref mq), (4, .int b), (6, .int (bI (!hasD (rdD M (tn n) (tn a)) 0 200))), (7, .int (bI (blM M n a))), (8, .int (nI vf)), (9, .int (nI vi)), (10, .int (bI ws)), (11, .int (nI wl)), (12, .int (nI wc)), (13, .int (nI (zn + 1))), (15, .int (nI 1)), (16, .int (nI s_)), (17, .int (nI k)), (20, .int (nI (k / 16))), (21, .int (nI (k % 16))), (22, .int (nI 1)), (23, .int (nI i))]) dM_edit_607 (by decide) rfl ?_
                            refine xg_iload hX 9 dM_edit_609 rfl ?_
                            refine xg_iload hX 15 dM_edit_611 rfl ?_
                            refine xg_bipush hX (nI 8) dM_edit_613 (by decide) ?_
                            refine xg_icmp_leN hX 622 (by omega) (by omega) dM_edit_615 (by decide) (fun hh_881 => absurd hh_881 (by omega)) (fun hh_881 => ?_)
                            refine xg_iconst hX (nI 1) dM_edit_618 (by decide) ?_
                            refine xg_goto hX 623 dM_edit_619 (by decide) ?_
                            refine xg_isubN hX (by omega) dM_edit_623 ?_
                            refine xg_top (nI (wl - 1)) rfl ?_
                            refine xg_istore hX (lv' := [(11, .int (nI (wl - 1))), (24, .int (nI ((rdD M (tn n) (tn a)) (wl - 1)))), (14, .int (nI 1)), (0, .ref mq), (4, .int b), (6, .int (bI (!hasD (rdD M (tn n) (tn a)) 0 200))), (7, .int (bI (blM M n a))), (8, .int (nI vf)), (9, .int (nI vi)), (10, .int (bI ws)), (12, .int (nI wc)), (13, .int (nI (zn + 1))), (15, .int (nI 1)), (16, .int (nI s_)), (17, .int (nI k)), (20, .int (nI (k / 16))), (21, .int (nI (k % 16))), (22, .int (nI 1)), (23, .int (nI i))]) dM_edit_624 (by decide) rfl ?_
                            refine xg_iload hX 2 dM_edit_626 rfl ?_
                            refine xg_if_eqN hX 679 (by omega) dM_edit_628 (by decide) (fun h => absurd h (by decide)) (fun _ => ?_)
                            refine xg_iload hX 15 dM_edit_631 rfl ?_
                            refine xg_bipush hX (nI 10) dM_edit_633 (by decide) ?_
                            refine xg_icmp_neN hX 679 (by omega) (by omega) dM_edit_635 (by decide) (fun hh_883 => ?_) (fun hh_883 => absurd hh_883 (by omega))
                            refine xg_iload hX 15 dM_edit_679 rfl ?_
                            refine xg_bipush hX (nI 8) dM_edit_681 (by decide) ?_
                            refine xg_icmp_leN hX 694 (by omega) (by omega) dM_edit_683 (by decide) (fun hh_884 => absurd hh_884 (by omega)) (fun hh_884 => ?_)
                            refine xg_iload hX 1 dM_edit_686 rfl ?_
                            refine xg_if_leN hX 694 (by omega) dM_edit_688 (by decide) (fun h688 => ?_) (fun h688 => ?_)
                            ·
                              refine xg_iload hX 2 dM_edit_694 rfl ?_
                              refine xg_if_eqN hX 710 (by omega) dM_edit_696 (by decide) (fun h => absurd h (by decide)) (fun _ => ?_)
                              refine xg_iload hX 10 dM_edit_699 rfl ?_
                              refine xg_bipush hX (nI 64) dM_edit_701 (by decide) ?_
                              refine xg_icmp_geN hX 710 (by omega) (by omega) dM_edit_703 (by decide) (fun h703 => ?_) (fun h703 => ?_)
                              ·
                                refine xg_iconst hX (nI 0) dM_edit_710 (by decide) ?_
                                refine xg_istore hX (lv' := [(14, .int (nI 0)), (11, .int (nI (wl - 1))), (24, .int (nI ((rdD M (tn n) (tn a)) (wl - 1)))), (0, .ref mq), (4, .int b), (6, .int (bI (!hasD (rdD M (tn n) (tn a)) 0 200))), (7, .int (bI (blM M n a))), (8, .int (nI vf)), (9, .int (nI vi)), (10, .int (bI ws)), (12, .int (nI wc)), (13, .int (nI (zn + 1))), (15, .int (nI 1)), (16, .int (nI s_)), (17, .int (nI k)), (20, .int (nI (k / 16))), (21, .int (nI (k % 16))), (22, .int (nI 1)), (23, .int (nI i))]) dM_edit_711 (by decide) rfl ?_
                                refine xg_iload hX 0 dM_edit_713 rfl ?_
                                refine xg_if_eqN hX 747 (by omega) dM_edit_715 (by decide) (fun _ => ?_) (fun h => absurd h (by decide))
                                refine xg_iincN hX (lv' := [(12, .int (nI (wc + 1))), (14, .int (nI 0)), (11, .int (nI (wl - 1))), (24, .int (nI ((rdD M (tn n) (tn a)) (wl - 1)))), (0, .ref mq), (4, .int b), (6, .int (bI (!hasD (rdD M (tn n) (tn a)) 0 200))), (7, .int (bI (blM M n a))), (8, .int (nI vf)), (9, .int (nI vi)), (10, .int (bI ws)), (13, .int (nI (zn + 1))), (15, .int (nI 1)), (16, .int (nI s_)), (17, .int (nI k)), (20, .int (nI (k / 16))), (21, .int (nI (k % 16))), (22, .int (nI 1)), (23, .int (nI i))]) (wc + 1) 10 dM_edit_747 rfl (xn_inc _) (by decide) rfl ?_
                                refine xg_iincN hX (lv' := [(23, .int (nI (i + 1))), (12, .int (nI (wc + 1))), (14, .int (nI 0)), (11, .int (nI (wl - 1))), (24, .int (nI ((rdD M (tn n) (tn a)) (wl - 1)))), (0, .ref mq), (4, .int b), (6, .int (bI (!hasD (rdD M (tn n) (tn a)) 0 200))), (7, .int (bI (blM M n a))), (8, .int (nI vf)), (9, .int (nI vi)), (10, .int (bI ws)), (13, .int (nI (zn + 1))), (15, .int (nI 1)), (16, .int (nI s_)), (17, .int (nI k)), (20, .int (nI (k / 16))), (21, .int (nI (k % 16))), (22, .int (nI 1))]) (i + 1) 18 dM_edit_750 rfl (xn_inc _) (by decide) rfl ?_
                                refine xg_goto hX 546 dM_edit_753 (by decide) ?_
                                refine xg_iload hX 2 dM_edit_546 rfl ?_
                                refine xg_if_eqN hX 756 (by omega) dM_edit_548 (by decide) (fun _ => ?_) (fun h => absurd h (by decide))
                                refine xg_iincN hX (lv' := [(16, .int (nI (s_ + 1))), (23, .int (nI (i + 1))), (12, .int (nI (wc + 1))), (14, .int (nI 0)), (11, .int (nI (wl - 1))), (24, .int (nI ((rdD M (tn n) (tn a)) (wl - 1)))), (0, .ref mq), (4, .int b), (6, .int (bI (!hasD (rdD M (tn n) (tn a)) 0 200))), (7, .int (bI (blM M n a))), (8, .int (nI vf)), (9, .int (nI vi)), (10, .int (bI ws)), (13, .int (nI (zn + 1))), (15, .int (nI 1)), (17, .int (nI k)), (20, .int (nI (k / 16))), (21, .int (nI (k % 16))), (22, .int (nI 1))]) (s_ + 1) 14 dM_edit_756 rfl (xn_inc _) (by decide) rfl ?_
                                refine xg_goto hX 96 dM_edit_759 (by decide) ?_
                                refine xg_iload hX 14 dM_edit_96 rfl ?_
                                refine xg_if_eqN hX 762 (by omega) dM_edit_98 (by decide) (fun h => absurd h (by decide)) (fun _ => ?_)
                                refine xg_iload hX 3 dM_edit_101 rfl ?_
                                refine xg_if_eqN hX 762 (by omega) dM_edit_103 (by decide) (fun _ => ?_) (fun h => absurd h (by decide))
                                refine xg_iload hX 3 dM_edit_762 rfl ?_
                                refine xg_if_eqN hX 772 (by omega) dM_edit_764 (by decide) (fun _ => ?_) (fun h => absurd h (by decide))
                                refine xg_bipush hX ((-2)) dM_edit_772 (by decide) ?_
                                exact hret ((-2), M, rdD M (tn n) (tn a), Wv, men) _ _ _ rfl (show ((-2), M, men) = editM M men xw n a p b from (by have hF : edPM M xw n a p = none := (fo_no hq hnx (by omega) h168 ((ob_d (by omega)).trans (by rw [hq2, show k % 16 - i = (k % 16 - (i + 1)) + 1 by omega, pDs_s (by omega), show pDg (rdD M (tn n) (tn a)) _ (Wv, wc, wl, ws, vf, vi) = none by cases hws : ws with | false => rw [dg_f h688 rfl, pWr_no h703] | true => rw [dg_0 rfl, pWr_no h703]]; rfl))); unfold editM; rw [if_pos h5, if_pos g1, hF])) dM_edit_774
                              ·
                                refine xg_iconst hX (nI 1) dM_edit_706 (by decide) ?_
                                refine xg_goto hX 711 dM_edit_707 (by decide) ?_
                                refine xg_istore hX (lv' := [(14, .int (nI 1)), (11, .int (nI (wl - 1))), (24, .int (nI ((rdD M (tn n) (tn a)) (wl - 1)))), (0, .ref mq), (4, .int b), (6, .int (bI (!hasD (rdD M (tn n) (tn a)) 0 200))), (7, .int (bI (blM M n a))), (8, .int (nI vf)), (9, .int (nI vi)), (10, .int (bI ws)), (12, .int (nI wc)), (13, .int (nI (zn + 1))), (15, .int (nI 1)), (16, .int (nI s_)), (17, .int (nI k)), (20, .int (nI (k / 16))), (21, .int (nI (k % 16))), (22, .int (nI 1)), (23, .int (nI i))]) dM_edit_711 (by decide) rfl ?_
                                refine xg_iload hX 0 dM_edit_713 rfl ?_
                                refine xg_if_eqN hX 747 (by omega) dM_edit_715 (by decide) (fun h => absurd h (by decide)) (fun _ => ?_)
                                refine xg_aload_n hX 3 dM_edit_718 rfl rfl ?_
                                refine xg_get hX (ci := 3) rfl hinM 0 rfl 8 (by decide) mt_332 rfl dM_edit_719 ?_
                                refine xg_iload hX 10 dM_edit_722 rfl ?_
                                refine xg_iload hX 15 dM_edit_724 rfl ?_
                                refine xg_bipush hX (nI 8) dM_edit_726 (by decide) ?_
                                refine xg_icmp_leN hX 744 (by omega) (by omega) dM_edit_728 (by decide) (fun hh_892 => absurd hh_892 (by omega)) (fun hh_892 => ?_)
                                refine xg_iload hX 9 dM_edit_731 rfl ?_
                                refine xg_if_eqB hX 744 dM_edit_733 (by decide) (fun h733 => ?_) (fun h733 => ?_)
                                ·
                                  refine xg_iload hX 7 dM_edit_744 rfl ?_
                                  refine xg_iast hX (ws' := [(mq, .inr (3, [.ref mm, .ref m1, .ref m2, .ref mo, .ref mr, .int (bI o1), .int (bI o2), .int (bI oo), .ref mw, .int (bI men)])), (mm, .inl (cI, 256, .inl (nf M))), (m1, .inl (cI, 200, .inl (nf (rdD M (tn n) (tn a))))), (mw, .inl (cI, 80, .inl (nf (up Wv wc vf))))]) 3 wc vf rfl (by omega) (by decide) rfl dM_edit_746 ?_
                                  refine xg_iincN hX (lv' := [(12, .int (nI (wc + 1))), (14, .int (nI 1)), (11, .int (nI (wl - 1))), (24, .int (nI ((rdD M (tn n) (tn a)) (wl - 1)))), (0, .ref mq), (4, .int b), (6, .int (bI (!hasD (rdD M (tn n) (tn a)) 0 200))), (7, .int (bI (blM M n a))), (8, .int (nI vf)), (9, .int (nI vi)), (10, .int (bI ws)), (13, .int (nI (zn + 1))), (15, .int (nI 1)), (16, .int (nI s_)), (17, .int (nI k)), (20, .int (nI (k / 16))), (21, .int (nI (k % 16))), (22, .int (nI 1)), (23, .int (nI i))]) (wc + 1) 10 dM_edit_747 rfl (xn_inc _) (by decide) rfl ?_
                                  refine xg_iincN hX (lv' := [(23, .int (nI (i + 1))), (12, .int (nI (wc + 1))), (14, .int (nI 1)), (11, .int (nI (wl - 1))), (24, .int (nI ((rdD M (tn n) (tn a)) (wl - 1)))), (0, .ref mq), (4, .int b), (6, .int (bI (!hasD (rdD M (tn n) (tn a)) 0 200))), (7, .int (bI (blM M n a))), (8, .int (nI vf)), (9, .int (nI vi)), (10, .int (bI ws)), (13, .int (nI (zn + 1))), (15, .int (nI 1)), (16, .int (nI s_)), (17, .int (nI k)), (20, .int (nI (k / 16))), (21, .int (nI (k % 16))), (22, .int (nI 1))]) (i + 1) 18 dM_edit_750 rfl (xn_inc _) (by decide) rfl ?_
                                  refine xg_goto hX 546 dM_edit_753 (by decide) ?_
                                  refine xg_lv hX (lv' := [(0, .ref mq), (4, .int b), (6, .int (bI (!hasD (rdD M (tn n) (tn a)) 0 200))), (7, .int (bI (blM M n a))), (8, .int (nI vf)), (9, .int (nI vi)), (10, .int (bI ws)), (11, .int (nI (wl - 1))), (12, .int (nI (wc + 1))), (13, .int (nI (zn + 1))), (14, .int (nI 1)), (15, .int (nI 1)), (16, .int (nI s_)), (17, .int (nI k)), (20, .int (nI (k / 16))), (21, .int (nI (k % 16))), (22, .int (nI 1)), (23, .int (nI (i + 1)))]) [5, 6, 7, 8, 9, 10, 11, 3, 1, 12, 2, 13, 14, 15, 16, 17, 18, 0] rfl ?_
                                  exact ih864 (i + 1) (up Wv wc vf) (wc + 1) (wl - 1) ws (by omega) (by omega) (by omega) (by rw [hq2, show k % 16 - i = (k % 16 - (i + 1)) + 1 by omega, pDs_s (by omega), dg_f h688 h733, pWr_lt h703]; rfl) (by omega)
                                ·
                                  refine xg_bipush hX (nI 48) dM_edit_736 (by decide) ?_
                                  refine xg_iload hX 2 dM_edit_738 rfl ?_
                                  refine xg_iaddN hX dM_edit_740 ?_
                                  refine xg_goto hX 746 dM_edit_741 (by decide) ?_
                                  refine xg_iast hX (ws' := [(mq, .inr (3, [.ref mm, .ref m1, .ref m2, .ref mo, .ref mr, .int (bI o1), .int (bI o2), .int (bI oo), .ref mw, .int (bI men)])), (mm, .inl (cI, 256, .inl (nf M))), (m1, .inl (cI, 200, .inl (nf (rdD M (tn n) (tn a))))), (mw, .inl (cI, 80, .inl (nf (up Wv wc (48 + ((rdD M (tn n) (tn a)) (wl - 1)))))))]) 3 wc (48 + ((rdD M (tn n) (tn a)) (wl - 1))) rfl (by omega) (by decide) rfl dM_edit_746 ?_
                                  refine xg_iincN hX (lv' := [(12, .int (nI (wc + 1))), (14, .int (nI 1)), (11, .int (nI (wl - 1))), (24, .int (nI ((rdD M (tn n) (tn a)) (wl - 1)))), (0, .ref mq), (4, .int b), (6, .int (bI (!hasD (rdD M (tn n) (tn a)) 0 200))), (7, .int (bI (blM M n a))), (8, .int (nI vf)), (9, .int (nI vi)), (10, .int (bI ws)), (13, .int (nI (zn + 1))), (15, .int (nI 1)), (16, .int (nI s_)), (17, .int (nI k)), (20, .int (nI (k / 16))), (21, .int (nI (k % 16))), (22, .int (nI 1)), (23, .int (nI i))]) (wc + 1) 10 dM_edit_747 rfl (xn_inc _) (by decide) rfl ?_
                                  refine xg_iincN hX (lv' := [(23, .int (nI (i + 1))), (12, .int (nI (wc + 1))), (14, .int (nI 1)), (11, .int (nI (wl - 1))), (24, .int (nI ((rdD M (tn n) (tn a)) (wl - 1)))), (0, .ref mq), (4, .int b), (6, .int (bI (!hasD (rdD M (tn n) (tn a)) 0 200))), (7, .int (bI (blM M n a))), (8, .int (nI vf)), (9, .int (nI vi)), (10, .int (bI ws)), (13, .int (nI (zn + 1))), (15, .int (nI 1)), (16, .int (nI s_)), (17, .int (nI k)), (20, .int (nI (k / 16))), (21, .int (nI (k % 16))), (22, .int (nI 1))]) (i + 1) 18 dM_edit_750 rfl (xn_inc _) (by decide) rfl ?_
                                  refine xg_goto hX 546 dM_edit_753 (by decide) ?_
                                  refine xg_lv hX (lv' := [(0, .ref mq), (4, .int b), (6, .int (bI (!hasD (rdD M (tn n) (tn a)) 0 200))), (7, .int (bI (blM M n a))), (8, .int (nI vf)), (9, .int (nI vi)), (10, .int (bI ws)), (11, .int (nI (wl - 1))), (12, .int (nI (wc + 1))), (13, .int (nI (zn + 1))), (14, .int (nI 1)), (15, .int (nI 1)), (16, .int (nI s_)), (17, .int (nI k)), (20, .int (nI (k / 16))), (21, .int (nI (k % 16))), (22, .int (nI 1)), (23, .int (nI (i + 1)))]) [5, 6, 7, 8, 9, 10, 11, 3, 1, 12, 2, 13, 14, 15, 16, 17, 18, 0] rfl ?_
                                  exact ih864 (i + 1) (up Wv wc (48 + ((rdD M (tn n) (tn a)) (wl - 1)))) (wc + 1) (wl - 1) ws (by omega) (by omega) (by omega) (by rw [hq2, show k % 16 - i = (k % 16 - (i + 1)) + 1 by omega, pDs_s (by omega), dg_0 h733, pWr_lt h703, h733] <;> rfl) (by omega)
                            ·
                              refine xg_iconst hX (nI 1) dM_edit_691 (by decide) ?_
                              refine xg_istore hX (lv' := [(10, .int (nI 1)), (11, .int (nI (wl - 1))), (24, .int (nI ((rdD M (tn n) (tn a)) (wl - 1)))), (14, .int (nI 1)), (0, .ref mq), (4, .int b), (6, .int (bI (!hasD (rdD M (tn n) (tn a)) 0 200))), (7, .int (bI (blM M n a))), (8, .int (nI vf)), (9, .int (nI vi)), (12, .int (nI wc)), (13, .int (nI (zn + 1))), (15, .int (nI 1)), (16, .int (nI s_)), (17, .int (nI k)), (20, .int (nI (k / 16))), (21, .int (nI (k % 16))), (22, .int (nI 1)), (23, .int (nI i))]) dM_edit_692 (by decide) rfl ?_
                              refine xg_iload hX 3 dM_edit_694 rfl ?_
                              refine xg_if_eqN hX 710 (by omega) dM_edit_696 (by decide) (fun h => absurd h (by decide)) (fun _ => ?_)
                              refine xg_iload hX 10 dM_edit_699 rfl ?_
                              refine xg_bipush hX (nI 64) dM_edit_701 (by decide) ?_
                              refine xg_icmp_geN hX 710 (by omega) (by omega) dM_edit_703 (by decide) (fun h703 => ?_) (fun h703 => ?_)
                              ·
                                refine xg_iconst hX (nI 0) dM_edit_710 (by decide) ?_
                                refine xg_istore hX (lv' := [(14, .int (nI 0)), (10, .int (nI 1)), (11, .int (nI (wl - 1))), (24, .int (nI ((rdD M (tn n) (tn a)) (wl - 1)))), (0, .ref mq), (4, .int b), (6, .int (bI (!hasD (rdD M (tn n) (tn a)) 0 200))), (7, .int (bI (blM M n a))), (8, .int (nI vf)), (9, .int (nI vi)), (12, .int (nI wc)), (13, .int (nI (zn + 1))), (15, .int (nI 1)), (16, .int (nI s_)), (17, .int (nI k)), (20, .int (nI (k / 16))), (21, .int (nI (k % 16))), (22, .int (nI 1)), (23, .int (nI i))]) dM_edit_711 (by decide) rfl ?_
                                refine xg_iload hX 0 dM_edit_713 rfl ?_
                                refine xg_if_eqN hX 747 (by omega) dM_edit_715 (by decide) (fun _ => ?_) (fun h => absurd h (by decide))
                                refine xg_iincN hX (lv' := [(12, .int (nI (wc + 1))), (14, .int (nI 0)), (10, .int (nI 1)), (11, .int (nI (wl - 1))), (24, .int (nI ((rdD M (tn n) (tn a)) (wl - 1)))), (0, .ref mq), (4, .int b), (6, .int (bI (!hasD (rdD M (tn n) (tn a)) 0 200))), (7, .int (bI (blM M n a))), (8, .int (nI vf)), (9, .int (nI vi)), (13, .int (nI (zn + 1))), (15, .int (nI 1)), (16, .int (nI s_)), (17, .int (nI k)), (20, .int (nI (k / 16))), (21, .int (nI (k % 16))), (22, .int (nI 1)), (23, .int (nI i))]) (wc + 1) 10 dM_edit_747 rfl (xn_inc _) (by decide) rfl ?_
                                refine xg_iincN hX (lv' := [(23, .int (nI (i + 1))), (12, .int (nI (wc + 1))), (14, .int (nI 0)), (10, .int (nI 1)), (11, .int (nI (wl - 1))), (24, .int (nI ((rdD M (tn n) (tn a)) (wl - 1)))), (0, .ref mq), (4, .int b), (6, .int (bI (!hasD (rdD M (tn n) (tn a)) 0 200))), (7, .int (bI (blM M n a))), (8, .int (nI vf)), (9, .int (nI vi)), (13, .int (nI (zn + 1))), (15, .int (nI 1)), (16, .int (nI s_)), (17, .int (nI k)), (20, .int (nI (k / 16))), (21, .int (nI (k % 16))), (22, .int (nI 1))]) (i + 1) 18 dM_edit_750 rfl (xn_inc _) (by decide) rfl ?_
                                refine xg_goto hX 546 dM_edit_753 (by decide) ?_
                                refine xg_iload hX 2 dM_edit_546 rfl ?_
                                refine xg_if_eqN hX 756 (by omega) dM_edit_548 (by decide) (fun _ => ?_) (fun h => absurd h (by decide))
                                refine xg_iincN hX (lv' := [(16, .int (nI (s_ + 1))), (23, .int (nI (i + 1))), (12, .int (nI (wc + 1))), (14, .int (nI 0)), (10, .int (nI 1)), (11, .int (nI (wl - 1))), (24, .int (nI ((rdD M (tn n) (tn a)) (wl - 1)))), (0, .ref mq), (4, .int b), (6, .int (bI (!hasD (rdD M (tn n) (tn a)) 0 200))), (7, .int (bI (blM M n a))), (8, .int (nI vf)), (9, .int (nI vi)), (13, .int (nI (zn + 1))), (15, .int (nI 1)), (17, .int (nI k)), (20, .int (nI (k / 16))), (21, .int (nI (k % 16))), (22, .int (nI 1))]) (s_ + 1) 14 dM_edit_756 rfl (xn_inc _) (by decide) rfl ?_
                                refine xg_goto hX 96 dM_edit_759 (by decide) ?_
                                refine xg_iload hX 14 dM_edit_96 rfl ?_
                                refine xg_if_eqN hX 762 (by omega) dM_edit_98 (by decide) (fun h => absurd h (by decide)) (fun _ => ?_)
                                refine xg_iload hX 3 dM_edit_101 rfl ?_
                                refine xg_if_eqN hX 762 (by omega) dM_edit_103 (by decide) (fun _ => ?_) (fun h => absurd h (by decide))
                                refine xg_iload hX 3 dM_edit_762 rfl ?_
                                refine xg_if_eqN hX 772 (by omega) dM_edit_764 (by decide) (fun _ => ?_) (fun h => absurd h (by decide))
                                refine xg_bipush hX ((-2)) dM_edit_772 (by decide) ?_
                                exact hret ((-2), M, rdD M (tn n) (tn a), Wv, men) _ _ _ rfl (show ((-2), M, men) = editM M men xw n a p b from (by have hF : edPM M xw n a p = none := (fo_no hq hnx (by omega) h168 ((ob_d (by omega)).trans (by rw [hq2, show k % 16 - i = (k % 16 - (i + 1)) + 1 by omega, pDs_s (by omega), dg_n h688 rfl, pWr_no h703]; rfl))); unfold editM; rw [if_pos h5, if_pos g1, hF])) dM_edit_774
                              ·
                                refine xg_iconst hX (nI 1) dM_edit_706 (by decide) ?_
                                refine xg_goto hX 711 dM_edit_707 (by decide) ?_
                                refine xg_istore hX (lv' := [(14, .int (nI 1)), (10, .int (nI 1)), (11, .int (nI (wl - 1))), (24, .int (nI ((rdD M (tn n) (tn a)) (wl - 1)))), (0, .ref mq), (4, .int b), (6, .int (bI (!hasD (rdD M (tn n) (tn a)) 0 200))), (7, .int (bI (blM M n a))), (8, .int (nI vf)), (9, .int (nI vi)), (12, .int (nI wc)), (13, .int (nI (zn + 1))), (15, .int (nI 1)), (16, .int (nI s_)), (17, .int (nI k)), (20, .int (nI (k / 16))), (21, .int (nI (k % 16))), (22, .int (nI 1)), (23, .int (nI i))]) dM_edit_711 (by decide) rfl ?_
                                refine xg_iload hX 0 dM_edit_713 rfl ?_
                                refine xg_if_eqN hX 747 (by omega) dM_edit_715 (by decide) (fun h => absurd h (by decide)) (fun _ => ?_)
                                refine xg_aload_n hX 4 dM_edit_718 rfl rfl ?_
                                refine xg_get hX (ci := 3) rfl hinM 0 rfl 8 (by decide) mt_332 rfl dM_edit_719 ?_
                                refine xg_iload hX 10 dM_edit_722 rfl ?_
                                refine xg_iload hX 15 dM_edit_724 rfl ?_
                                refine xg_bipush hX (nI 8) dM_edit_726 (by decide) ?_
                                refine xg_icmp_leN hX 744 (by omega) (by omega) dM_edit_728 (by decide) (fun hh_900 => absurd hh_900 (by omega)) (fun hh_900 => ?_)
                                refine xg_iload hX 1 dM_edit_731 rfl ?_
                                refine xg_if_eqN hX 744 (by omega) dM_edit_733 (by decide) (fun h => absurd h (by decide)) (fun _ => ?_)
                                refine xg_bipush hX (nI 48) dM_edit_736 (by decide) ?_
                                refine xg_iload hX 3 dM_edit_738 rfl ?_
                                refine xg_iaddN hX dM_edit_740 ?_
                                refine xg_goto hX 746 dM_edit_741 (by decide) ?_
                                refine xg_iast hX (ws' := [(mq, .inr (3, [.ref mm, .ref m1, .ref m2, .ref mo, .ref mr, .int (bI o1), .int (bI o2), .int (bI oo), .ref mw, .int (bI men)])), (mm, .inl (cI, 256, .inl (nf M))), (m1, .inl (cI, 200, .inl (nf (rdD M (tn n) (tn a))))), (mw, .inl (cI, 80, .inl (nf (up Wv wc (48 + ((rdD M (tn n) (tn a)) (wl - 1)))))))]) 3 wc (48 + ((rdD M (tn n) (tn a)) (wl - 1))) rfl (by omega) (by decide) rfl dM_edit_746 ?_
                                refine xg_iincN hX (lv' := [(12, .int (nI (wc + 1))), (14, .int (nI 1)), (10, .int (nI 1)), (11, .int (nI (wl - 1))), (24, .int (nI ((rdD M (tn n) (tn a)) (wl - 1)))), (0, .ref mq), (4, .int b), (6, .int (bI (!hasD (rdD M (tn n) (tn a)) 0 200))), (7, .int (bI (blM M n a))), (8, .int (nI vf)), (9, .int (nI vi)), (13, .int (nI (zn + 1))), (15, .int (nI 1)), (16, .int (nI s_)), (17, .int (nI k)), (20, .int (nI (k / 16))), (21, .int (nI (k % 16))), (22, .int (nI 1)), (23, .int (nI i))]) (wc + 1) 10 dM_edit_747 rfl (xn_inc _) (by decide) rfl ?_
                                refine xg_iincN hX (lv' := [(23, .int (nI (i + 1))), (12, .int (nI (wc + 1))), (14, .int (nI 1)), (10, .int (nI 1)), (11, .int (nI (wl - 1))), (24, .int (nI ((rdD M (tn n) (tn a)) (wl - 1)))), (0, .ref mq), (4, .int b), (6, .int (bI (!hasD (rdD M (tn n) (tn a)) 0 200))), (7, .int (bI (blM M n a))), (8, .int (nI vf)), (9, .int (nI vi)), (13, .int (nI (zn + 1))), (15, .int (nI 1)), (16, .int (nI s_)), (17, .int (nI k)), (20, .int (nI (k / 16))), (21, .int (nI (k % 16))), (22, .int (nI 1))]) (i + 1) 18 dM_edit_750 rfl (xn_inc _) (by decide) rfl ?_
                                refine xg_goto hX 546 dM_edit_753 (by decide) ?_
                                refine xg_lv hX (lv' := [(0, .ref mq), (4, .int b), (6, .int (bI (!hasD (rdD M (tn n) (tn a)) 0 200))), (7, .int (bI (blM M n a))), (8, .int (nI vf)), (9, .int (nI vi)), (10, .int (nI 1)), (11, .int (nI (wl - 1))), (12, .int (nI (wc + 1))), (13, .int (nI (zn + 1))), (14, .int (nI 1)), (15, .int (nI 1)), (16, .int (nI s_)), (17, .int (nI k)), (20, .int (nI (k / 16))), (21, .int (nI (k % 16))), (22, .int (nI 1)), (23, .int (nI (i + 1)))]) [6, 7, 8, 9, 10, 11, 3, 4, 1, 12, 2, 13, 14, 15, 16, 17, 18, 0] rfl ?_
                                refine xg_lvE (lv' := [(0, .ref mq), (4, .int b), (6, .int (bI (!hasD (rdD M (tn n) (tn a)) 0 200))), (7, .int (bI (blM M n a))), (8, .int (nI vf)), (9, .int (nI vi)), (10, .int (bI true)), (11, .int (nI (wl - 1))), (12, .int (nI (wc + 1))), (13, .int (nI (zn + 1))), (14, .int (nI 1)), (15, .int (nI 1)), (16, .int (nI s_)), (17, .int (nI k)), (20, .int (nI (k / 16))), (21, .int (nI (k % 16))), (22, .int (nI 1)), (23, .int (nI (i + 1)))]) (by rw [← (show (nI 1 : Int32) = bI true from (by first | rfl | decide))]) ?_
                                exact ih864 (i + 1) (up Wv wc (48 + ((rdD M (tn n) (tn a)) (wl - 1)))) (wc + 1) (wl - 1) true (by omega) (by omega) (by omega) (by rw [hq2, show k % 16 - i = (k % 16 - (i + 1)) + 1 by omega, pDs_s (by omega), dg_n h688 rfl, pWr_lt h703]; rfl) (by omega)
                    refine xg_lv hX (lv' := [(0, .ref mq), (4, .int b), (6, .int (bI (!hasD (rdD M (tn n) (tn a)) 0 200))), (7, .int (bI (blM M n a))), (8, .int (nI vf)), (9, .int (nI vi)), (10, .int (bI vs)), (11, .int (nI vl)), (12, .int (nI vc)), (13, .int (nI (zn + 1))), (14, .int (nI 1)), (15, .int (nI 1)), (16, .int (nI s_)), (17, .int (nI k)), (20, .int (nI (k / 16))), (21, .int (nI (k % 16))), (22, .int (nI 1)), (23, .int (nI 0))]) [10, 11, 12, 13, 14, 15, 16, 17, 18, 8, 1, 7, 19, 9, 4, 3, 2, 0] rfl ?_
                    exact lp862 (k % 16 - 0 + 1) 0 Vw vc vl vs (by omega) hvc hvl rfl (Nat.lt_succ_self _)
                  ·
                    refine xg_iload hX 0 dM_edit_171 rfl ?_
                    refine xg_if_neN hX 180 (by omega) dM_edit_173 (by decide) (fun _ => ?_) (fun h => absurd h (by decide))
                    refine xg_iconst hX (nI 0) dM_edit_180 (by decide) ?_
                    refine xg_istore hX (lv' := [(14, .int (nI 0)), (15, .int (nI 1)), (13, .int (nI (zn + 1))), (17, .int (nI k)), (0, .ref mq), (4, .int b), (6, .int (bI (!hasD (rdD M (tn n) (tn a)) 0 200))), (7, .int (bI (blM M n a))), (8, .int (nI vf)), (9, .int (nI vi)), (10, .int (bI vs)), (11, .int (nI vl)), (12, .int (nI vc)), (16, .int (nI s_))]) dM_edit_181 (by decide) rfl ?_
                    refine xg_iload hX 3 dM_edit_183 rfl ?_
                    refine xg_iconst hX (nI 4) dM_edit_185 (by decide) ?_
                    refine xg_icmp_ltN hX 200 (by omega) (by omega) dM_edit_186 (by decide) (fun hh_902 => absurd hh_902 (by omega)) (fun hh_902 => ?_)
                    refine xg_iload hX 3 dM_edit_189 rfl ?_
                    refine xg_bipush hX (nI 8) dM_edit_191 (by decide) ?_
                    refine xg_icmp_gtN hX 200 (by omega) (by omega) dM_edit_193 (by decide) (fun hh_903 => ?_) (fun hh_903 => absurd hh_903 (by omega))
                    refine xg_iconst hX (nI 0) dM_edit_200 (by decide) ?_
                    refine xg_istore hX (lv' := [(18, .int (nI 0)), (14, .int (nI 0)), (15, .int (nI 1)), (13, .int (nI (zn + 1))), (17, .int (nI k)), (0, .ref mq), (4, .int b), (6, .int (bI (!hasD (rdD M (tn n) (tn a)) 0 200))), (7, .int (bI (blM M n a))), (8, .int (nI vf)), (9, .int (nI vi)), (10, .int (bI vs)), (11, .int (nI vl)), (12, .int (nI vc)), (16, .int (nI s_))]) dM_edit_201 (by decide) rfl ?_
                    refine xg_iload hX 0 dM_edit_203 rfl ?_
                    refine xg_if_eqN hX 228 (by omega) dM_edit_205 (by decide) (fun _ => ?_) (fun h => absurd h (by decide))
                    refine xg_iload hX 0 dM_edit_228 rfl ?_
                    refine xg_if_eqN hX 248 (by omega) dM_edit_230 (by decide) (fun _ => ?_) (fun h => absurd h (by decide))
                    refine xg_iconst hX (nI 0) dM_edit_248 (by decide) ?_
                    refine xg_istore hX (lv' := [(19, .int (nI 0)), (18, .int (nI 0)), (14, .int (nI 0)), (15, .int (nI 1)), (13, .int (nI (zn + 1))), (17, .int (nI k)), (0, .ref mq), (4, .int b), (6, .int (bI (!hasD (rdD M (tn n) (tn a)) 0 200))), (7, .int (bI (blM M n a))), (8, .int (nI vf)), (9, .int (nI vi)), (10, .int (bI vs)), (11, .int (nI vl)), (12, .int (nI vc)), (16, .int (nI s_))]) dM_edit_249 (by decide) rfl ?_
                    refine xg_iload hX 1 dM_edit_251 rfl ?_
                    refine xg_if_eqN hX 259 (by omega) dM_edit_253 (by decide) (fun _ => ?_) (fun h => absurd h (by decide))
                    refine xg_iload hX 5 dM_edit_259 rfl ?_
                    refine xg_bipush hX (nI 16) dM_edit_261 (by decide) ?_
                    refine xg_idivN hX (by omega) (by omega) (by omega) dM_edit_263 ?_
                    refine xg_istore hX (lv' := [(20, .int (nI (k / 16))), (19, .int (nI 0)), (18, .int (nI 0)), (14, .int (nI 0)), (15, .int (nI 1)), (13, .int (nI (zn + 1))), (17, .int (nI k)), (0, .ref mq), (4, .int b), (6, .int (bI (!hasD (rdD M (tn n) (tn a)) 0 200))), (7, .int (bI (blM M n a))), (8, .int (nI vf)), (9, .int (nI vi)), (10, .int (bI vs)), (11, .int (nI vl)), (12, .int (nI vc)), (16, .int (nI s_))]) dM_edit_264 (by decide) rfl ?_
                    refine xg_iload hX 6 dM_edit_266 rfl ?_
                    refine xg_bipush hX (nI 16) dM_edit_268 (by decide) ?_
                    refine xg_iremN hX (by omega) (by omega) (by omega) dM_edit_270 ?_
                    refine xg_istore hX (lv' := [(21, .int (nI (k % 16))), (20, .int (nI (k / 16))), (19, .int (nI 0)), (18, .int (nI 0)), (14, .int (nI 0)), (15, .int (nI 1)), (13, .int (nI (zn + 1))), (17, .int (nI k)), (0, .ref mq), (4, .int b), (6, .int (bI (!hasD (rdD M (tn n) (tn a)) 0 200))), (7, .int (bI (blM M n a))), (8, .int (nI vf)), (9, .int (nI vi)), (10, .int (bI vs)), (11, .int (nI vl)), (12, .int (nI vc)), (16, .int (nI s_))]) dM_edit_271 (by decide) rfl ?_
                    refine xg_iload hX 1 dM_edit_273 rfl ?_
                    refine xg_bipush hX (nI 8) dM_edit_275 (by decide) ?_
                    refine xg_icmp_ltN hX 296 (by omega) (by omega) dM_edit_277 (by decide) (fun hh_907 => absurd hh_907 (by omega)) (fun hh_907 => ?_)
                    refine xg_iload hX 1 dM_edit_280 rfl ?_
                    refine xg_bipush hX (nI 10) dM_edit_282 (by decide) ?_
                    refine xg_icmp_gtN hX 296 (by omega) (by omega) dM_edit_284 (by decide) (fun hh_908 => absurd hh_908 (by omega)) (fun hh_908 => ?_)
                    refine xg_iload hX 0 dM_edit_287 rfl ?_
                    refine xg_if_leN hX 296 (by omega) dM_edit_289 (by decide) (fun hh_909 => absurd hh_909 (by omega)) (fun hh_909 => ?_)
                    refine xg_iconst hX (nI 1) dM_edit_292 (by decide) ?_
                    refine xg_goto hX 297 dM_edit_293 (by decide) ?_
                    refine xg_istore hX (lv' := [(22, .int (nI 1)), (21, .int (nI (k % 16))), (20, .int (nI (k / 16))), (19, .int (nI 0)), (18, .int (nI 0)), (14, .int (nI 0)), (15, .int (nI 1)), (13, .int (nI (zn + 1))), (17, .int (nI k)), (0, .ref mq), (4, .int b), (6, .int (bI (!hasD (rdD M (tn n) (tn a)) 0 200))), (7, .int (bI (blM M n a))), (8, .int (nI vf)), (9, .int (nI vi)), (10, .int (bI vs)), (11, .int (nI vl)), (12, .int (nI vc)), (16, .int (nI s_))]) dM_edit_297 (by decide) rfl ?_
                    refine xg_iload hX 5 dM_edit_299 rfl ?_
                    refine xg_if_eqN hX 320 (by omega) dM_edit_301 (by decide) (fun _ => ?_) (fun h => absurd h (by decide))
                    refine xg_iconst hX (nI 0) dM_edit_320 (by decide) ?_
                    refine xg_istore hX (lv' := [(14, .int (nI 0)), (22, .int (nI 1)), (21, .int (nI (k % 16))), (20, .int (nI (k / 16))), (19, .int (nI 0)), (18, .int (nI 0)), (15, .int (nI 1)), (13, .int (nI (zn + 1))), (17, .int (nI k)), (0, .ref mq), (4, .int b), (6, .int (bI (!hasD (rdD M (tn n) (tn a)) 0 200))), (7, .int (bI (blM M n a))), (8, .int (nI vf)), (9, .int (nI vi)), (10, .int (bI vs)), (11, .int (nI vl)), (12, .int (nI vc)), (16, .int (nI s_))]) dM_edit_321 (by decide) rfl ?_
                    refine xg_iload hX 0 dM_edit_323 rfl ?_
                    refine xg_if_eqN hX 337 (by omega) dM_edit_325 (by decide) (fun _ => ?_) (fun h => absurd h (by decide))
                    refine xg_iload hX 0 dM_edit_337 rfl ?_
                    refine xg_if_eqN hX 351 (by omega) dM_edit_339 (by decide) (fun _ => ?_) (fun h => absurd h (by decide))
                    refine xg_iload hX 0 dM_edit_351 rfl ?_
                    refine xg_if_eqN hX 366 (by omega) dM_edit_353 (by decide) (fun _ => ?_) (fun h => absurd h (by decide))
                    refine xg_iload hX 0 dM_edit_366 rfl ?_
                    refine xg_if_eqN hX 386 (by omega) dM_edit_368 (by decide) (fun _ => ?_) (fun h => absurd h (by decide))
                    refine xg_iload hX 0 dM_edit_386 rfl ?_
                    refine xg_if_eqN hX 407 (by omega) dM_edit_388 (by decide) (fun _ => ?_) (fun h => absurd h (by decide))
                    refine xg_iload hX 0 dM_edit_407 rfl ?_
                    refine xg_if_eqN hX 473 (by omega) dM_edit_409 (by decide) (fun _ => ?_) (fun h => absurd h (by decide))
                    refine xg_iload hX 0 dM_edit_473 rfl ?_
                    refine xg_if_eqN hX 543 (by omega) dM_edit_475 (by decide) (fun _ => ?_) (fun h => absurd h (by decide))
                    refine xg_iconst hX (nI 0) dM_edit_543 (by decide) ?_
                    refine xg_istore hX (lv' := [(23, .int (nI 0)), (14, .int (nI 0)), (22, .int (nI 1)), (21, .int (nI (k % 16))), (20, .int (nI (k / 16))), (19, .int (nI 0)), (18, .int (nI 0)), (15, .int (nI 1)), (13, .int (nI (zn + 1))), (17, .int (nI k)), (0, .ref mq), (4, .int b), (6, .int (bI (!hasD (rdD M (tn n) (tn a)) 0 200))), (7, .int (bI (blM M n a))), (8, .int (nI vf)), (9, .int (nI vi)), (10, .int (bI vs)), (11, .int (nI vl)), (12, .int (nI vc)), (16, .int (nI s_))]) dM_edit_544 (by decide) rfl ?_
                    refine xg_iload hX 1 dM_edit_546 rfl ?_
                    refine xg_if_eqN hX 756 (by omega) dM_edit_548 (by decide) (fun _ => ?_) (fun h => absurd h (by decide))
                    refine xg_iincN hX (lv' := [(16, .int (nI (s_ + 1))), (23, .int (nI 0)), (14, .int (nI 0)), (22, .int (nI 1)), (21, .int (nI (k % 16))), (20, .int (nI (k / 16))), (19, .int (nI 0)), (18, .int (nI 0)), (15, .int (nI 1)), (13, .int (nI (zn + 1))), (17, .int (nI k)), (0, .ref mq), (4, .int b), (6, .int (bI (!hasD (rdD M (tn n) (tn a)) 0 200))), (7, .int (bI (blM M n a))), (8, .int (nI vf)), (9, .int (nI vi)), (10, .int (bI vs)), (11, .int (nI vl)), (12, .int (nI vc))]) (s_ + 1) 19 dM_edit_756 rfl (xn_inc _) (by decide) rfl ?_
                    refine xg_goto hX 96 dM_edit_759 (by decide) ?_
                    refine xg_iload hX 8 dM_edit_96 rfl ?_
                    refine xg_if_eqN hX 762 (by omega) dM_edit_98 (by decide) (fun h => absurd h (by decide)) (fun _ => ?_)
                    refine xg_iload hX 2 dM_edit_101 rfl ?_
                    refine xg_if_eqN hX 762 (by omega) dM_edit_103 (by decide) (fun _ => ?_) (fun h => absurd h (by decide))
                    refine xg_iload hX 2 dM_edit_762 rfl ?_
                    refine xg_if_eqN hX 772 (by omega) dM_edit_764 (by decide) (fun _ => ?_) (fun h => absurd h (by decide))
                    refine xg_bipush hX ((-2)) dM_edit_772 (by decide) ?_
                    exact hret ((-2), M, rdD M (tn n) (tn a), Vw, men) _ _ _ rfl (show ((-2), M, men) = editM M men xw n a p b from (by have hF : edPM M xw n a p = none := (fo_la hq hnx (by omega) (by omega)); unfold editM; rw [if_pos h5, if_pos g1, hF])) dM_edit_774
                ·
                  refine xg_iload hX 9 dM_edit_106 rfl ?_
                  refine xg_if_ltN hX 123 (by omega) dM_edit_108 (by decide) ?_
                  refine xg_iload hX 9 dM_edit_111 rfl ?_
                  refine xg_sipush hX (nI 256) dM_edit_113 (by decide) ?_
                  refine xg_icmp_geN hX 123 (by omega) (by omega) dM_edit_116 (by decide) (fun h116 => absurd h116 (by omega)) (fun h116 => ?_)
                  refine xg_iconst hX (nI 1) dM_edit_119 (by decide) ?_
                  refine xg_goto hX 124 dM_edit_120 (by decide) ?_
                  refine xg_istore hX (lv' := [(14, .int (nI 1)), (0, .ref mq), (4, .int b), (6, .int (bI (!hasD (rdD M (tn n) (tn a)) 0 200))), (7, .int (bI (blM M n a))), (8, .int (nI vf)), (9, .int (nI vi)), (10, .int (bI vs)), (11, .int (nI vl)), (12, .int (nI vc)), (13, .int (nI zn)), (15, .int (nI 1)), (16, .int (nI s_))]) dM_edit_124 (by decide) rfl ?_
                  refine xg_iload hX 0 dM_edit_126 rfl ?_
                  refine xg_if_eqN hX 141 (by omega) dM_edit_128 (by decide) (fun h => absurd h (by decide)) (fun _ => ?_)
                  refine xg_aload_n hX 1 dM_edit_131 rfl rfl ?_
                  refine xg_get hX (ci := 3) rfl hinM 0 rfl 0 (by decide) mt_324 rfl dM_edit_132 ?_
                  refine xg_iload hX 10 dM_edit_135 rfl ?_
                  refine xg_iald hX 1 zn rfl (by omega) (by decide) dM_edit_137 ?_
                  refine xg_top (nI k) (by rw [hk4]) ?_
                  refine xg_goto hX 142 dM_edit_138 (by decide) ?_
                  refine xg_istore hX (lv' := [(17, .int (nI k)), (14, .int (nI 1)), (0, .ref mq), (4, .int b), (6, .int (bI (!hasD (rdD M (tn n) (tn a)) 0 200))), (7, .int (bI (blM M n a))), (8, .int (nI vf)), (9, .int (nI vi)), (10, .int (bI vs)), (11, .int (nI vl)), (12, .int (nI vc)), (13, .int (nI zn)), (15, .int (nI 1)), (16, .int (nI s_))]) dM_edit_142 (by decide) rfl ?_
                  refine xg_iincN hX (lv' := [(13, .int (nI (zn + 1))), (17, .int (nI k)), (14, .int (nI 1)), (0, .ref mq), (4, .int b), (6, .int (bI (!hasD (rdD M (tn n) (tn a)) 0 200))), (7, .int (bI (blM M n a))), (8, .int (nI vf)), (9, .int (nI vi)), (10, .int (bI vs)), (11, .int (nI vl)), (12, .int (nI vc)), (15, .int (nI 1)), (16, .int (nI s_))]) (zn + 1) 11 dM_edit_144 rfl (xn_inc _) (by decide) rfl ?_
                  refine xg_iload hX 1 dM_edit_147 rfl ?_
                  refine xg_if_eqN hX 156 (by omega) dM_edit_149 (by decide) (fun hh_923 => absurd hh_923 (by omega)) (fun hh_923 => ?_)
                  refine xg_iconst hX (nI 1) dM_edit_152 (by decide) ?_
                  refine xg_goto hX 157 dM_edit_153 (by decide) ?_
                  refine xg_istore hX (lv' := [(15, .int (nI 1)), (13, .int (nI (zn + 1))), (17, .int (nI k)), (14, .int (nI 1)), (0, .ref mq), (4, .int b), (6, .int (bI (!hasD (rdD M (tn n) (tn a)) 0 200))), (7, .int (bI (blM M n a))), (8, .int (nI vf)), (9, .int (nI vi)), (10, .int (bI vs)), (11, .int (nI vl)), (12, .int (nI vc)), (16, .int (nI s_))]) dM_edit_157 (by decide) rfl ?_
                  refine xg_iload hX 3 dM_edit_159 rfl ?_
                  refine xg_if_eqN hX 180 (by omega) dM_edit_161 (by decide) (fun h => absurd h (by decide)) (fun _ => ?_)
                  refine xg_iload hX 13 dM_edit_164 rfl ?_
                  refine xg_bipush hX (nI 64) dM_edit_166 (by decide) ?_
                  refine xg_icmp_ltN hX 176 (by omega) (by omega) dM_edit_168 (by decide) (fun h168 => ?_) (fun h168 => ?_)
                  ·
                    refine xg_iconst hX (nI 1) dM_edit_176 (by decide) ?_
                    refine xg_goto hX 181 dM_edit_177 (by decide) ?_
                    refine xg_istore hX (lv' := [(14, .int (nI 1)), (15, .int (nI 1)), (13, .int (nI (zn + 1))), (17, .int (nI k)), (0, .ref mq), (4, .int b), (6, .int (bI (!hasD (rdD M (tn n) (tn a)) 0 200))), (7, .int (bI (blM M n a))), (8, .int (nI vf)), (9, .int (nI vi)), (10, .int (bI vs)), (11, .int (nI vl)), (12, .int (nI vc)), (16, .int (nI s_))]) dM_edit_181 (by decide) rfl ?_
                    refine xg_iload hX 3 dM_edit_183 rfl ?_
                    refine xg_iconst hX (nI 4) dM_edit_185 (by decide) ?_
                    refine xg_icmp_ltN hX 200 (by omega) (by omega) dM_edit_186 (by decide) (fun hh_925 => absurd hh_925 (by omega)) (fun hh_925 => ?_)
                    refine xg_iload hX 3 dM_edit_189 rfl ?_
                    refine xg_bipush hX (nI 8) dM_edit_191 (by decide) ?_
                    refine xg_icmp_gtN hX 200 (by omega) (by omega) dM_edit_193 (by decide) (fun hh_926 => ?_) (fun hh_926 => absurd hh_926 (by omega))
                    refine xg_iconst hX (nI 0) dM_edit_200 (by decide) ?_
                    refine xg_istore hX (lv' := [(18, .int (nI 0)), (14, .int (nI 1)), (15, .int (nI 1)), (13, .int (nI (zn + 1))), (17, .int (nI k)), (0, .ref mq), (4, .int b), (6, .int (bI (!hasD (rdD M (tn n) (tn a)) 0 200))), (7, .int (bI (blM M n a))), (8, .int (nI vf)), (9, .int (nI vi)), (10, .int (bI vs)), (11, .int (nI vl)), (12, .int (nI vc)), (16, .int (nI s_))]) dM_edit_201 (by decide) rfl ?_
                    refine xg_iload hX 0 dM_edit_203 rfl ?_
                    refine xg_if_eqN hX 228 (by omega) dM_edit_205 (by decide) (fun _ => ?_) (fun h => absurd h (by decide))
                    refine xg_iload hX 0 dM_edit_228 rfl ?_
                    refine xg_if_eqN hX 248 (by omega) dM_edit_230 (by decide) (fun _ => ?_) (fun h => absurd h (by decide))
                    refine xg_iconst hX (nI 0) dM_edit_248 (by decide) ?_
                    refine xg_istore hX (lv' := [(19, .int (nI 0)), (18, .int (nI 0)), (14, .int (nI 1)), (15, .int (nI 1)), (13, .int (nI (zn + 1))), (17, .int (nI k)), (0, .ref mq), (4, .int b), (6, .int (bI (!hasD (rdD M (tn n) (tn a)) 0 200))), (7, .int (bI (blM M n a))), (8, .int (nI vf)), (9, .int (nI vi)), (10, .int (bI vs)), (11, .int (nI vl)), (12, .int (nI vc)), (16, .int (nI s_))]) dM_edit_249 (by decide) rfl ?_
                    refine xg_iload hX 1 dM_edit_251 rfl ?_
                    refine xg_if_eqN hX 259 (by omega) dM_edit_253 (by decide) (fun _ => ?_) (fun h => absurd h (by decide))
                    refine xg_iload hX 5 dM_edit_259 rfl ?_
                    refine xg_bipush hX (nI 16) dM_edit_261 (by decide) ?_
                    refine xg_idivN hX (by omega) (by omega) (by omega) dM_edit_263 ?_
                    refine xg_istore hX (lv' := [(20, .int (nI (k / 16))), (19, .int (nI 0)), (18, .int (nI 0)), (14, .int (nI 1)), (15, .int (nI 1)), (13, .int (nI (zn + 1))), (17, .int (nI k)), (0, .ref mq), (4, .int b), (6, .int (bI (!hasD (rdD M (tn n) (tn a)) 0 200))), (7, .int (bI (blM M n a))), (8, .int (nI vf)), (9, .int (nI vi)), (10, .int (bI vs)), (11, .int (nI vl)), (12, .int (nI vc)), (16, .int (nI s_))]) dM_edit_264 (by decide) rfl ?_
                    refine xg_iload hX 6 dM_edit_266 rfl ?_
                    refine xg_bipush hX (nI 16) dM_edit_268 (by decide) ?_
                    refine xg_iremN hX (by omega) (by omega) (by omega) dM_edit_270 ?_
                    refine xg_istore hX (lv' := [(21, .int (nI (k % 16))), (20, .int (nI (k / 16))), (19, .int (nI 0)), (18, .int (nI 0)), (14, .int (nI 1)), (15, .int (nI 1)), (13, .int (nI (zn + 1))), (17, .int (nI k)), (0, .ref mq), (4, .int b), (6, .int (bI (!hasD (rdD M (tn n) (tn a)) 0 200))), (7, .int (bI (blM M n a))), (8, .int (nI vf)), (9, .int (nI vi)), (10, .int (bI vs)), (11, .int (nI vl)), (12, .int (nI vc)), (16, .int (nI s_))]) dM_edit_271 (by decide) rfl ?_
                    refine xg_iload hX 1 dM_edit_273 rfl ?_
                    refine xg_bipush hX (nI 8) dM_edit_275 (by decide) ?_
                    refine xg_icmp_ltN hX 296 (by omega) (by omega) dM_edit_277 (by decide) (fun hh_930 => absurd hh_930 (by omega)) (fun hh_930 => ?_)
                    refine xg_iload hX 1 dM_edit_280 rfl ?_
                    refine xg_bipush hX (nI 10) dM_edit_282 (by decide) ?_
                    refine xg_icmp_gtN hX 296 (by omega) (by omega) dM_edit_284 (by decide) (fun hh_931 => absurd hh_931 (by omega)) (fun hh_931 => ?_)
                    refine xg_iload hX 0 dM_edit_287 rfl ?_
                    refine xg_if_leN hX 296 (by omega) dM_edit_289 (by decide) (fun hh_932 => ?_) (fun hh_932 => absurd hh_932 (by omega))
                    refine xg_iconst hX (nI 0) dM_edit_296 (by decide) ?_
                    refine xg_istore hX (lv' := [(22, .int (nI 0)), (21, .int (nI (k % 16))), (20, .int (nI (k / 16))), (19, .int (nI 0)), (18, .int (nI 0)), (14, .int (nI 1)), (15, .int (nI 1)), (13, .int (nI (zn + 1))), (17, .int (nI k)), (0, .ref mq), (4, .int b), (6, .int (bI (!hasD (rdD M (tn n) (tn a)) 0 200))), (7, .int (bI (blM M n a))), (8, .int (nI vf)), (9, .int (nI vi)), (10, .int (bI vs)), (11, .int (nI vl)), (12, .int (nI vc)), (16, .int (nI s_))]) dM_edit_297 (by decide) rfl ?_
                    refine xg_iload hX 5 dM_edit_299 rfl ?_
                    refine xg_if_eqN hX 320 (by omega) dM_edit_301 (by decide) (fun h => absurd h (by decide)) (fun _ => ?_)
                    refine xg_iload hX 8 dM_edit_304 rfl ?_
                    refine xg_bipush hX (nI 8) dM_edit_306 (by decide) ?_
                    refine xg_icmp_leN hX 316 (by omega) (by omega) dM_edit_308 (by decide) (fun hh_934 => absurd hh_934 (by omega)) (fun hh_934 => ?_)
                    refine xg_iload hX 0 dM_edit_311 rfl ?_
                    refine xg_if_eqN hX 320 (by omega) dM_edit_313 (by decide) (fun _ => ?_) (fun h => absurd h (by decide))
                    refine xg_iconst hX (nI 0) dM_edit_320 (by decide) ?_
                    refine xg_istore hX (lv' := [(14, .int (nI 0)), (22, .int (nI 0)), (21, .int (nI (k % 16))), (20, .int (nI (k / 16))), (19, .int (nI 0)), (18, .int (nI 0)), (15, .int (nI 1)), (13, .int (nI (zn + 1))), (17, .int (nI k)), (0, .ref mq), (4, .int b), (6, .int (bI (!hasD (rdD M (tn n) (tn a)) 0 200))), (7, .int (bI (blM M n a))), (8, .int (nI vf)), (9, .int (nI vi)), (10, .int (bI vs)), (11, .int (nI vl)), (12, .int (nI vc)), (16, .int (nI s_))]) dM_edit_321 (by decide) rfl ?_
                    refine xg_iload hX 0 dM_edit_323 rfl ?_
                    refine xg_if_eqN hX 337 (by omega) dM_edit_325 (by decide) (fun _ => ?_) (fun h => absurd h (by decide))
                    refine xg_iload hX 0 dM_edit_337 rfl ?_
                    refine xg_if_eqN hX 351 (by omega) dM_edit_339 (by decide) (fun _ => ?_) (fun h => absurd h (by decide))
                    refine xg_iload hX 0 dM_edit_351 rfl ?_
                    refine xg_if_eqN hX 366 (by omega) dM_edit_353 (by decide) (fun _ => ?_) (fun h => absurd h (by decide))
                    refine xg_iload hX 0 dM_edit_366 rfl ?_
                    refine xg_if_eqN hX 386 (by omega) dM_edit_368 (by decide) (fun _ => ?_) (fun h => absurd h (by decide))
                    refine xg_iload hX 0 dM_edit_386 rfl ?_
                    refine xg_if_eqN hX 407 (by omega) dM_edit_388 (by decide) (fun _ => ?_) (fun h => absurd h (by decide))
                    refine xg_iload hX 0 dM_edit_407 rfl ?_
                    refine xg_if_eqN hX 473 (by omega) dM_edit_409 (by decide) (fun _ => ?_) (fun h => absurd h (by decide))
                    refine xg_iload hX 0 dM_edit_473 rfl ?_
                    refine xg_if_eqN hX 543 (by omega) dM_edit_475 (by decide) (fun _ => ?_) (fun h => absurd h (by decide))
                    refine xg_iconst hX (nI 0) dM_edit_543 (by decide) ?_
                    refine xg_istore hX (lv' := [(23, .int (nI 0)), (14, .int (nI 0)), (22, .int (nI 0)), (21, .int (nI (k % 16))), (20, .int (nI (k / 16))), (19, .int (nI 0)), (18, .int (nI 0)), (15, .int (nI 1)), (13, .int (nI (zn + 1))), (17, .int (nI k)), (0, .ref mq), (4, .int b), (6, .int (bI (!hasD (rdD M (tn n) (tn a)) 0 200))), (7, .int (bI (blM M n a))), (8, .int (nI vf)), (9, .int (nI vi)), (10, .int (bI vs)), (11, .int (nI vl)), (12, .int (nI vc)), (16, .int (nI s_))]) dM_edit_544 (by decide) rfl ?_
                    refine xg_iload hX 1 dM_edit_546 rfl ?_
                    refine xg_if_eqN hX 756 (by omega) dM_edit_548 (by decide) (fun _ => ?_) (fun h => absurd h (by decide))
                    refine xg_iincN hX (lv' := [(16, .int (nI (s_ + 1))), (23, .int (nI 0)), (14, .int (nI 0)), (22, .int (nI 0)), (21, .int (nI (k % 16))), (20, .int (nI (k / 16))), (19, .int (nI 0)), (18, .int (nI 0)), (15, .int (nI 1)), (13, .int (nI (zn + 1))), (17, .int (nI k)), (0, .ref mq), (4, .int b), (6, .int (bI (!hasD (rdD M (tn n) (tn a)) 0 200))), (7, .int (bI (blM M n a))), (8, .int (nI vf)), (9, .int (nI vi)), (10, .int (bI vs)), (11, .int (nI vl)), (12, .int (nI vc))]) (s_ + 1) 19 dM_edit_756 rfl (xn_inc _) (by decide) rfl ?_
                    refine xg_goto hX 96 dM_edit_759 (by decide) ?_
                    refine xg_iload hX 8 dM_edit_96 rfl ?_
                    refine xg_if_eqN hX 762 (by omega) dM_edit_98 (by decide) (fun h => absurd h (by decide)) (fun _ => ?_)
                    refine xg_iload hX 2 dM_edit_101 rfl ?_
                    refine xg_if_eqN hX 762 (by omega) dM_edit_103 (by decide) (fun _ => ?_) (fun h => absurd h (by decide))
                    refine xg_iload hX 2 dM_edit_762 rfl ?_
                    refine xg_if_eqN hX 772 (by omega) dM_edit_764 (by decide) (fun _ => ?_) (fun h => absurd h (by decide))
                    refine xg_bipush hX ((-2)) dM_edit_772 (by decide) ?_
                    exact hret ((-2), M, rdD M (tn n) (tn a), Vw, men) _ _ _ rfl (show ((-2), M, men) = editM M men xw n a p b from (by have hF : edPM M xw n a p = none := (fo_no hq hnx (by omega) h168 (ob_x (by omega))); unfold editM; rw [if_pos h5, if_pos g1, hF])) dM_edit_774
                  ·
                    refine xg_iload hX 0 dM_edit_171 rfl ?_
                    refine xg_if_neN hX 180 (by omega) dM_edit_173 (by decide) (fun _ => ?_) (fun h => absurd h (by decide))
                    refine xg_iconst hX (nI 0) dM_edit_180 (by decide) ?_
                    refine xg_istore hX (lv' := [(14, .int (nI 0)), (15, .int (nI 1)), (13, .int (nI (zn + 1))), (17, .int (nI k)), (0, .ref mq), (4, .int b), (6, .int (bI (!hasD (rdD M (tn n) (tn a)) 0 200))), (7, .int (bI (blM M n a))), (8, .int (nI vf)), (9, .int (nI vi)), (10, .int (bI vs)), (11, .int (nI vl)), (12, .int (nI vc)), (16, .int (nI s_))]) dM_edit_181 (by decide) rfl ?_
                    refine xg_iload hX 3 dM_edit_183 rfl ?_
                    refine xg_iconst hX (nI 4) dM_edit_185 (by decide) ?_
                    refine xg_icmp_ltN hX 200 (by omega) (by omega) dM_edit_186 (by decide) (fun hh_948 => absurd hh_948 (by omega)) (fun hh_948 => ?_)
                    refine xg_iload hX 3 dM_edit_189 rfl ?_
                    refine xg_bipush hX (nI 8) dM_edit_191 (by decide) ?_
                    refine xg_icmp_gtN hX 200 (by omega) (by omega) dM_edit_193 (by decide) (fun hh_949 => ?_) (fun hh_949 => absurd hh_949 (by omega))
                    refine xg_iconst hX (nI 0) dM_edit_200 (by decide) ?_
                    refine xg_istore hX (lv' := [(18, .int (nI 0)), (14, .int (nI 0)), (15, .int (nI 1)), (13, .int (nI (zn + 1))), (17, .int (nI k)), (0, .ref mq), (4, .int b), (6, .int (bI (!hasD (rdD M (tn n) (tn a)) 0 200))), (7, .int (bI (blM M n a))), (8, .int (nI vf)), (9, .int (nI vi)), (10, .int (bI vs)), (11, .int (nI vl)), (12, .int (nI vc)), (16, .int (nI s_))]) dM_edit_201 (by decide) rfl ?_
                    refine xg_iload hX 0 dM_edit_203 rfl ?_
                    refine xg_if_eqN hX 228 (by omega) dM_edit_205 (by decide) (fun _ => ?_) (fun h => absurd h (by decide))
                    refine xg_iload hX 0 dM_edit_228 rfl ?_
                    refine xg_if_eqN hX 248 (by omega) dM_edit_230 (by decide) (fun _ => ?_) (fun h => absurd h (by decide))
                    refine xg_iconst hX (nI 0) dM_edit_248 (by decide) ?_
                    refine xg_istore hX (lv' := [(19, .int (nI 0)), (18, .int (nI 0)), (14, .int (nI 0)), (15, .int (nI 1)), (13, .int (nI (zn + 1))), (17, .int (nI k)), (0, .ref mq), (4, .int b), (6, .int (bI (!hasD (rdD M (tn n) (tn a)) 0 200))), (7, .int (bI (blM M n a))), (8, .int (nI vf)), (9, .int (nI vi)), (10, .int (bI vs)), (11, .int (nI vl)), (12, .int (nI vc)), (16, .int (nI s_))]) dM_edit_249 (by decide) rfl ?_
                    refine xg_iload hX 1 dM_edit_251 rfl ?_
                    refine xg_if_eqN hX 259 (by omega) dM_edit_253 (by decide) (fun _ => ?_) (fun h => absurd h (by decide))
                    refine xg_iload hX 5 dM_edit_259 rfl ?_
                    refine xg_bipush hX (nI 16) dM_edit_261 (by decide) ?_
                    refine xg_idivN hX (by omega) (by omega) (by omega) dM_edit_263 ?_
                    refine xg_istore hX (lv' := [(20, .int (nI (k / 16))), (19, .int (nI 0)), (18, .int (nI 0)), (14, .int (nI 0)), (15, .int (nI 1)), (13, .int (nI (zn + 1))), (17, .int (nI k)), (0, .ref mq), (4, .int b), (6, .int (bI (!hasD (rdD M (tn n) (tn a)) 0 200))), (7, .int (bI (blM M n a))), (8, .int (nI vf)), (9, .int (nI vi)), (10, .int (bI vs)), (11, .int (nI vl)), (12, .int (nI vc)), (16, .int (nI s_))]) dM_edit_264 (by decide) rfl ?_
                    refine xg_iload hX 6 dM_edit_266 rfl ?_
                    refine xg_bipush hX (nI 16) dM_edit_268 (by decide) ?_
                    refine xg_iremN hX (by omega) (by omega) (by omega) dM_edit_270 ?_
                    refine xg_istore hX (lv' := [(21, .int (nI (k % 16))), (20, .int (nI (k / 16))), (19, .int (nI 0)), (18, .int (nI 0)), (14, .int (nI 0)), (15, .int (nI 1)), (13, .int (nI (zn + 1))), (17, .int (nI k)), (0, .ref mq), (4, .int b), (6, .int (bI (!hasD (rdD M (tn n) (tn a)) 0 200))), (7, .int (bI (blM M n a))), (8, .int (nI vf)), (9, .int (nI vi)), (10, .int (bI vs)), (11, .int (nI vl)), (12, .int (nI vc)), (16, .int (nI s_))]) dM_edit_271 (by decide) rfl ?_
                    refine xg_iload hX 1 dM_edit_273 rfl ?_
                    refine xg_bipush hX (nI 8) dM_edit_275 (by decide) ?_
                    refine xg_icmp_ltN hX 296 (by omega) (by omega) dM_edit_277 (by decide) (fun hh_953 => absurd hh_953 (by omega)) (fun hh_953 => ?_)
                    refine xg_iload hX 1 dM_edit_280 rfl ?_
                    refine xg_bipush hX (nI 10) dM_edit_282 (by decide) ?_
                    refine xg_icmp_gtN hX 296 (by omega) (by omega) dM_edit_284 (by decide) (fun hh_954 => absurd hh_954 (by omega)) (fun hh_954 => ?_)
                    refine xg_iload hX 0 dM_edit_287 rfl ?_
                    refine xg_if_leN hX 296 (by omega) dM_edit_289 (by decide) (fun hh_955 => ?_) (fun hh_955 => absurd hh_955 (by omega))
                    refine xg_iconst hX (nI 0) dM_edit_296 (by decide) ?_
                    refine xg_istore hX (lv' := [(22, .int (nI 0)), (21, .int (nI (k % 16))), (20, .int (nI (k / 16))), (19, .int (nI 0)), (18, .int (nI 0)), (14, .int (nI 0)), (15, .int (nI 1)), (13, .int (nI (zn + 1))), (17, .int (nI k)), (0, .ref mq), (4, .int b), (6, .int (bI (!hasD (rdD M (tn n) (tn a)) 0 200))), (7, .int (bI (blM M n a))), (8, .int (nI vf)), (9, .int (nI vi)), (10, .int (bI vs)), (11, .int (nI vl)), (12, .int (nI vc)), (16, .int (nI s_))]) dM_edit_297 (by decide) rfl ?_
                    refine xg_iload hX 5 dM_edit_299 rfl ?_
                    refine xg_if_eqN hX 320 (by omega) dM_edit_301 (by decide) (fun _ => ?_) (fun h => absurd h (by decide))
                    refine xg_iconst hX (nI 0) dM_edit_320 (by decide) ?_
                    refine xg_istore hX (lv' := [(14, .int (nI 0)), (22, .int (nI 0)), (21, .int (nI (k % 16))), (20, .int (nI (k / 16))), (19, .int (nI 0)), (18, .int (nI 0)), (15, .int (nI 1)), (13, .int (nI (zn + 1))), (17, .int (nI k)), (0, .ref mq), (4, .int b), (6, .int (bI (!hasD (rdD M (tn n) (tn a)) 0 200))), (7, .int (bI (blM M n a))), (8, .int (nI vf)), (9, .int (nI vi)), (10, .int (bI vs)), (11, .int (nI vl)), (12, .int (nI vc)), (16, .int (nI s_))]) dM_edit_321 (by decide) rfl ?_
                    refine xg_iload hX 0 dM_edit_323 rfl ?_
                    refine xg_if_eqN hX 337 (by omega) dM_edit_325 (by decide) (fun _ => ?_) (fun h => absurd h (by decide))
                    refine xg_iload hX 0 dM_edit_337 rfl ?_
                    refine xg_if_eqN hX 351 (by omega) dM_edit_339 (by decide) (fun _ => ?_) (fun h => absurd h (by decide))
                    refine xg_iload hX 0 dM_edit_351 rfl ?_
                    refine xg_if_eqN hX 366 (by omega) dM_edit_353 (by decide) (fun _ => ?_) (fun h => absurd h (by decide))
                    refine xg_iload hX 0 dM_edit_366 rfl ?_
                    refine xg_if_eqN hX 386 (by omega) dM_edit_368 (by decide) (fun _ => ?_) (fun h => absurd h (by decide))
                    refine xg_iload hX 0 dM_edit_386 rfl ?_
                    refine xg_if_eqN hX 407 (by omega) dM_edit_388 (by decide) (fun _ => ?_) (fun h => absurd h (by decide))
                    refine xg_iload hX 0 dM_edit_407 rfl ?_
                    refine xg_if_eqN hX 473 (by omega) dM_edit_409 (by decide) (fun _ => ?_) (fun h => absurd h (by decide))
                    refine xg_iload hX 0 dM_edit_473 rfl ?_
                    refine xg_if_eqN hX 543 (by omega) dM_edit_475 (by decide) (fun _ => ?_) (fun h => absurd h (by decide))
                    refine xg_iconst hX (nI 0) dM_edit_543 (by decide) ?_
                    refine xg_istore hX (lv' := [(23, .int (nI 0)), (14, .int (nI 0)), (22, .int (nI 0)), (21, .int (nI (k % 16))), (20, .int (nI (k / 16))), (19, .int (nI 0)), (18, .int (nI 0)), (15, .int (nI 1)), (13, .int (nI (zn + 1))), (17, .int (nI k)), (0, .ref mq), (4, .int b), (6, .int (bI (!hasD (rdD M (tn n) (tn a)) 0 200))), (7, .int (bI (blM M n a))), (8, .int (nI vf)), (9, .int (nI vi)), (10, .int (bI vs)), (11, .int (nI vl)), (12, .int (nI vc)), (16, .int (nI s_))]) dM_edit_544 (by decide) rfl ?_
                    refine xg_iload hX 1 dM_edit_546 rfl ?_
                    refine xg_if_eqN hX 756 (by omega) dM_edit_548 (by decide) (fun _ => ?_) (fun h => absurd h (by decide))
                    refine xg_iincN hX (lv' := [(16, .int (nI (s_ + 1))), (23, .int (nI 0)), (14, .int (nI 0)), (22, .int (nI 0)), (21, .int (nI (k % 16))), (20, .int (nI (k / 16))), (19, .int (nI 0)), (18, .int (nI 0)), (15, .int (nI 1)), (13, .int (nI (zn + 1))), (17, .int (nI k)), (0, .ref mq), (4, .int b), (6, .int (bI (!hasD (rdD M (tn n) (tn a)) 0 200))), (7, .int (bI (blM M n a))), (8, .int (nI vf)), (9, .int (nI vi)), (10, .int (bI vs)), (11, .int (nI vl)), (12, .int (nI vc))]) (s_ + 1) 19 dM_edit_756 rfl (xn_inc _) (by decide) rfl ?_
                    refine xg_goto hX 96 dM_edit_759 (by decide) ?_
                    refine xg_iload hX 8 dM_edit_96 rfl ?_
                    refine xg_if_eqN hX 762 (by omega) dM_edit_98 (by decide) (fun h => absurd h (by decide)) (fun _ => ?_)
                    refine xg_iload hX 2 dM_edit_101 rfl ?_
                    refine xg_if_eqN hX 762 (by omega) dM_edit_103 (by decide) (fun _ => ?_) (fun h => absurd h (by decide))
                    refine xg_iload hX 2 dM_edit_762 rfl ?_
                    refine xg_if_eqN hX 772 (by omega) dM_edit_764 (by decide) (fun _ => ?_) (fun h => absurd h (by decide))
                    refine xg_bipush hX ((-2)) dM_edit_772 (by decide) ?_
                    exact hret ((-2), M, rdD M (tn n) (tn a), Vw, men) _ _ _ rfl (show ((-2), M, men) = editM M men xw n a p b from (by have hF : edPM M xw n a p = none := (fo_la hq hnx (by omega) (by omega)); unfold editM; rw [if_pos h5, if_pos g1, hF])) dM_edit_774
                ·
                  refine xg_iload hX 9 dM_edit_106 rfl ?_
                  refine xg_if_ltN hX 123 (by omega) dM_edit_108 (by decide) ?_
                  refine xg_iload hX 9 dM_edit_111 rfl ?_
                  refine xg_sipush hX (nI 256) dM_edit_113 (by decide) ?_
                  refine xg_icmp_geN hX 123 (by omega) (by omega) dM_edit_116 (by decide) (fun h116 => absurd h116 (by omega)) (fun h116 => ?_)
                  refine xg_iconst hX (nI 1) dM_edit_119 (by decide) ?_
                  refine xg_goto hX 124 dM_edit_120 (by decide) ?_
                  refine xg_istore hX (lv' := [(14, .int (nI 1)), (0, .ref mq), (4, .int b), (6, .int (bI (!hasD (rdD M (tn n) (tn a)) 0 200))), (7, .int (bI (blM M n a))), (8, .int (nI vf)), (9, .int (nI vi)), (10, .int (bI vs)), (11, .int (nI vl)), (12, .int (nI vc)), (13, .int (nI zn)), (15, .int (nI 1)), (16, .int (nI s_))]) dM_edit_124 (by decide) rfl ?_
                  refine xg_iload hX 0 dM_edit_126 rfl ?_
                  refine xg_if_eqN hX 141 (by omega) dM_edit_128 (by decide) (fun h => absurd h (by decide)) (fun _ => ?_)
                  refine xg_aload_n hX 1 dM_edit_131 rfl rfl ?_
                  refine xg_get hX (ci := 3) rfl hinM 0 rfl 0 (by decide) mt_324 rfl dM_edit_132 ?_
                  refine xg_iload hX 10 dM_edit_135 rfl ?_
                  refine xg_iald hX 1 zn rfl (by omega) (by decide) dM_edit_137 ?_
                  refine xg_top (nI k) (by rw [hk4]) ?_
                  refine xg_goto hX 142 dM_edit_138 (by decide) ?_
                  refine xg_istore hX (lv' := [(17, .int (nI k)), (14, .int (nI 1)), (0, .ref mq), (4, .int b), (6, .int (bI (!hasD (rdD M (tn n) (tn a)) 0 200))), (7, .int (bI (blM M n a))), (8, .int (nI vf)), (9, .int (nI vi)), (10, .int (bI vs)), (11, .int (nI vl)), (12, .int (nI vc)), (13, .int (nI zn)), (15, .int (nI 1)), (16, .int (nI s_))]) dM_edit_142 (by decide) rfl ?_
                  refine xg_iincN hX (lv' := [(13, .int (nI (zn + 1))), (17, .int (nI k)), (14, .int (nI 1)), (0, .ref mq), (4, .int b), (6, .int (bI (!hasD (rdD M (tn n) (tn a)) 0 200))), (7, .int (bI (blM M n a))), (8, .int (nI vf)), (9, .int (nI vi)), (10, .int (bI vs)), (11, .int (nI vl)), (12, .int (nI vc)), (15, .int (nI 1)), (16, .int (nI s_))]) (zn + 1) 11 dM_edit_144 rfl (xn_inc _) (by decide) rfl ?_
                  refine xg_iload hX 1 dM_edit_147 rfl ?_
                  refine xg_if_eqN hX 156 (by omega) dM_edit_149 (by decide) (fun hh_969 => absurd hh_969 (by omega)) (fun hh_969 => ?_)
                  refine xg_iconst hX (nI 1) dM_edit_152 (by decide) ?_
                  refine xg_goto hX 157 dM_edit_153 (by decide) ?_
                  refine xg_istore hX (lv' := [(15, .int (nI 1)), (13, .int (nI (zn + 1))), (17, .int (nI k)), (14, .int (nI 1)), (0, .ref mq), (4, .int b), (6, .int (bI (!hasD (rdD M (tn n) (tn a)) 0 200))), (7, .int (bI (blM M n a))), (8, .int (nI vf)), (9, .int (nI vi)), (10, .int (bI vs)), (11, .int (nI vl)), (12, .int (nI vc)), (16, .int (nI s_))]) dM_edit_157 (by decide) rfl ?_
                  refine xg_iload hX 3 dM_edit_159 rfl ?_
                  refine xg_if_eqN hX 180 (by omega) dM_edit_161 (by decide) (fun h => absurd h (by decide)) (fun _ => ?_)
                  refine xg_iload hX 13 dM_edit_164 rfl ?_
                  refine xg_bipush hX (nI 64) dM_edit_166 (by decide) ?_
                  refine xg_icmp_ltN hX 176 (by omega) (by omega) dM_edit_168 (by decide) (fun h168 => ?_) (fun h168 => ?_)
                  ·
                    refine xg_iconst hX (nI 1) dM_edit_176 (by decide) ?_
                    refine xg_goto hX 181 dM_edit_177 (by decide) ?_
                    refine xg_istore hX (lv' := [(14, .int (nI 1)), (15, .int (nI 1)), (13, .int (nI (zn + 1))), (17, .int (nI k)), (0, .ref mq), (4, .int b), (6, .int (bI (!hasD (rdD M (tn n) (tn a)) 0 200))), (7, .int (bI (blM M n a))), (8, .int (nI vf)), (9, .int (nI vi)), (10, .int (bI vs)), (11, .int (nI vl)), (12, .int (nI vc)), (16, .int (nI s_))]) dM_edit_181 (by decide) rfl ?_
                    refine xg_iload hX 3 dM_edit_183 rfl ?_
                    refine xg_iconst hX (nI 4) dM_edit_185 (by decide) ?_
                    refine xg_icmp_ltN hX 200 (by omega) (by omega) dM_edit_186 (by decide) (fun hh_971 => absurd hh_971 (by omega)) (fun hh_971 => ?_)
                    refine xg_iload hX 3 dM_edit_189 rfl ?_
                    refine xg_bipush hX (nI 8) dM_edit_191 (by decide) ?_
                    refine xg_icmp_gtN hX 200 (by omega) (by omega) dM_edit_193 (by decide) (fun hh_972 => ?_) (fun hh_972 => absurd hh_972 (by omega))
                    refine xg_iconst hX (nI 0) dM_edit_200 (by decide) ?_
                    refine xg_istore hX (lv' := [(18, .int (nI 0)), (14, .int (nI 1)), (15, .int (nI 1)), (13, .int (nI (zn + 1))), (17, .int (nI k)), (0, .ref mq), (4, .int b), (6, .int (bI (!hasD (rdD M (tn n) (tn a)) 0 200))), (7, .int (bI (blM M n a))), (8, .int (nI vf)), (9, .int (nI vi)), (10, .int (bI vs)), (11, .int (nI vl)), (12, .int (nI vc)), (16, .int (nI s_))]) dM_edit_201 (by decide) rfl ?_
                    refine xg_iload hX 0 dM_edit_203 rfl ?_
                    refine xg_if_eqN hX 228 (by omega) dM_edit_205 (by decide) (fun _ => ?_) (fun h => absurd h (by decide))
                    refine xg_iload hX 0 dM_edit_228 rfl ?_
                    refine xg_if_eqN hX 248 (by omega) dM_edit_230 (by decide) (fun _ => ?_) (fun h => absurd h (by decide))
                    refine xg_iconst hX (nI 0) dM_edit_248 (by decide) ?_
                    refine xg_istore hX (lv' := [(19, .int (nI 0)), (18, .int (nI 0)), (14, .int (nI 1)), (15, .int (nI 1)), (13, .int (nI (zn + 1))), (17, .int (nI k)), (0, .ref mq), (4, .int b), (6, .int (bI (!hasD (rdD M (tn n) (tn a)) 0 200))), (7, .int (bI (blM M n a))), (8, .int (nI vf)), (9, .int (nI vi)), (10, .int (bI vs)), (11, .int (nI vl)), (12, .int (nI vc)), (16, .int (nI s_))]) dM_edit_249 (by decide) rfl ?_
                    refine xg_iload hX 1 dM_edit_251 rfl ?_
                    refine xg_if_eqN hX 259 (by omega) dM_edit_253 (by decide) (fun _ => ?_) (fun h => absurd h (by decide))
                    refine xg_iload hX 5 dM_edit_259 rfl ?_
                    refine xg_bipush hX (nI 16) dM_edit_261 (by decide) ?_
                    refine xg_idivN hX (by omega) (by omega) (by omega) dM_edit_263 ?_
                    refine xg_istore hX (lv' := [(20, .int (nI (k / 16))), (19, .int (nI 0)), (18, .int (nI 0)), (14, .int (nI 1)), (15, .int (nI 1)), (13, .int (nI (zn + 1))), (17, .int (nI k)), (0, .ref mq), (4, .int b), (6, .int (bI (!hasD (rdD M (tn n) (tn a)) 0 200))), (7, .int (bI (blM M n a))), (8, .int (nI vf)), (9, .int (nI vi)), (10, .int (bI vs)), (11, .int (nI vl)), (12, .int (nI vc)), (16, .int (nI s_))]) dM_edit_264 (by decide) rfl ?_
                    refine xg_iload hX 6 dM_edit_266 rfl ?_
                    refine xg_bipush hX (nI 16) dM_edit_268 (by decide) ?_
                    refine xg_iremN hX (by omega) (by omega) (by omega) dM_edit_270 ?_
                    refine xg_istore hX (lv' := [(21, .int (nI (k % 16))), (20, .int (nI (k / 16))), (19, .int (nI 0)), (18, .int (nI 0)), (14, .int (nI 1)), (15, .int (nI 1)), (13, .int (nI (zn + 1))), (17, .int (nI k)), (0, .ref mq), (4, .int b), (6, .int (bI (!hasD (rdD M (tn n) (tn a)) 0 200))), (7, .int (bI (blM M n a))), (8, .int (nI vf)), (9, .int (nI vi)), (10, .int (bI vs)), (11, .int (nI vl)), (12, .int (nI vc)), (16, .int (nI s_))]) dM_edit_271 (by decide) rfl ?_
                    refine xg_iload hX 1 dM_edit_273 rfl ?_
                    refine xg_bipush hX (nI 8) dM_edit_275 (by decide) ?_
                    refine xg_icmp_ltN hX 296 (by omega) (by omega) dM_edit_277 (by decide) (fun hh_976 => absurd hh_976 (by omega)) (fun hh_976 => ?_)
                    refine xg_iload hX 1 dM_edit_280 rfl ?_
                    refine xg_bipush hX (nI 10) dM_edit_282 (by decide) ?_
                    refine xg_icmp_gtN hX 296 (by omega) (by omega) dM_edit_284 (by decide) (fun hh_977 => absurd hh_977 (by omega)) (fun hh_977 => ?_)
                    refine xg_iload hX 0 dM_edit_287 rfl ?_
                    refine xg_if_leN hX 296 (by omega) dM_edit_289 (by decide) (fun hh_978 => absurd hh_978 (by omega)) (fun hh_978 => ?_)
                    refine xg_iconst hX (nI 1) dM_edit_292 (by decide) ?_
                    refine xg_goto hX 297 dM_edit_293 (by decide) ?_
                    refine xg_istore hX (lv' := [(22, .int (nI 1)), (21, .int (nI (k % 16))), (20, .int (nI (k / 16))), (19, .int (nI 0)), (18, .int (nI 0)), (14, .int (nI 1)), (15, .int (nI 1)), (13, .int (nI (zn + 1))), (17, .int (nI k)), (0, .ref mq), (4, .int b), (6, .int (bI (!hasD (rdD M (tn n) (tn a)) 0 200))), (7, .int (bI (blM M n a))), (8, .int (nI vf)), (9, .int (nI vi)), (10, .int (bI vs)), (11, .int (nI vl)), (12, .int (nI vc)), (16, .int (nI s_))]) dM_edit_297 (by decide) rfl ?_
                    refine xg_iload hX 5 dM_edit_299 rfl ?_
                    refine xg_if_eqN hX 320 (by omega) dM_edit_301 (by decide) (fun h => absurd h (by decide)) (fun _ => ?_)
                    refine xg_iload hX 8 dM_edit_304 rfl ?_
                    refine xg_bipush hX (nI 8) dM_edit_306 (by decide) ?_
                    refine xg_icmp_leN hX 316 (by omega) (by omega) dM_edit_308 (by decide) (fun hh_980 => absurd hh_980 (by omega)) (fun hh_980 => ?_)
                    refine xg_iload hX 0 dM_edit_311 rfl ?_
                    refine xg_if_eqN hX 320 (by omega) dM_edit_313 (by decide) (fun h => absurd h (by decide)) (fun _ => ?_)
                    refine xg_iconst hX (nI 1) dM_edit_316 (by decide) ?_
                    refine xg_goto hX 321 dM_edit_317 (by decide) ?_
                    refine xg_istore hX (lv' := [(14, .int (nI 1)), (22, .int (nI 1)), (21, .int (nI (k % 16))), (20, .int (nI (k / 16))), (19, .int (nI 0)), (18, .int (nI 0)), (15, .int (nI 1)), (13, .int (nI (zn + 1))), (17, .int (nI k)), (0, .ref mq), (4, .int b), (6, .int (bI (!hasD (rdD M (tn n) (tn a)) 0 200))), (7, .int (bI (blM M n a))), (8, .int (nI vf)), (9, .int (nI vi)), (10, .int (bI vs)), (11, .int (nI vl)), (12, .int (nI vc)), (16, .int (nI s_))]) dM_edit_321 (by decide) rfl ?_
                    refine xg_iload hX 0 dM_edit_323 rfl ?_
                    refine xg_if_eqN hX 337 (by omega) dM_edit_325 (by decide) (fun h => absurd h (by decide)) (fun _ => ?_)
                    refine xg_iload hX 8 dM_edit_328 rfl ?_
                    refine xg_iconst hX (nI 1) dM_edit_330 (by decide) ?_
                    refine xg_icmp_neN hX 337 (by omega) (by omega) dM_edit_331 (by decide) (fun hh_983 => ?_) (fun hh_983 => absurd hh_983 (by omega))
                    refine xg_iload hX 0 dM_edit_337 rfl ?_
                    refine xg_if_eqN hX 351 (by omega) dM_edit_339 (by decide) (fun h => absurd h (by decide)) (fun _ => ?_)
                    refine xg_iload hX 8 dM_edit_342 rfl ?_
                    refine xg_iconst hX (nI 2) dM_edit_344 (by decide) ?_
                    refine xg_icmp_neN hX 351 (by omega) (by omega) dM_edit_345 (by decide) (fun hh_985 => ?_) (fun hh_985 => absurd hh_985 (by omega))
                    refine xg_iload hX 0 dM_edit_351 rfl ?_
                    refine xg_if_eqN hX 366 (by omega) dM_edit_353 (by decide) (fun h => absurd h (by decide)) (fun _ => ?_)
                    refine xg_iload hX 8 dM_edit_356 rfl ?_
                    refine xg_iconst hX (nI 4) dM_edit_358 (by decide) ?_
                    refine xg_icmp_neN hX 366 (by omega) (by omega) dM_edit_359 (by decide) (fun hh_987 => ?_) (fun hh_987 => absurd hh_987 (by omega))
                    refine xg_iload hX 0 dM_edit_366 rfl ?_
                    refine xg_if_eqN hX 386 (by omega) dM_edit_368 (by decide) (fun h => absurd h (by decide)) (fun _ => ?_)
                    refine xg_iload hX 8 dM_edit_371 rfl ?_
                    refine xg_iconst hX (nI 5) dM_edit_373 (by decide) ?_
                    refine xg_icmp_neN hX 386 (by omega) (by omega) dM_edit_374 (by decide) (fun hh_989 => ?_) (fun hh_989 => absurd hh_989 (by omega))
                    refine xg_iload hX 0 dM_edit_386 rfl ?_
                    refine xg_if_eqN hX 407 (by omega) dM_edit_388 (by decide) (fun h => absurd h (by decide)) (fun _ => ?_)
                    refine xg_iload hX 8 dM_edit_391 rfl ?_
                    refine xg_bipush hX (nI 6) dM_edit_393 (by decide) ?_
                    refine xg_icmp_neN hX 407 (by omega) (by omega) dM_edit_395 (by decide) (fun hh_991 => ?_) (fun hh_991 => absurd hh_991 (by omega))
                    refine xg_iload hX 0 dM_edit_407 rfl ?_
                    refine xg_if_eqN hX 473 (by omega) dM_edit_409 (by decide) (fun h => absurd h (by decide)) (fun _ => ?_)
                    refine xg_iload hX 8 dM_edit_412 rfl ?_
                    refine xg_bipush hX (nI 8) dM_edit_414 (by decide) ?_
                    refine xg_icmp_neN hX 473 (by omega) (by omega) dM_edit_416 (by decide) (fun hh_993 => ?_) (fun hh_993 => absurd hh_993 (by omega))
                    refine xg_iload hX 0 dM_edit_473 rfl ?_
                    refine xg_if_eqN hX 543 (by omega) dM_edit_475 (by decide) (fun h => absurd h (by decide)) (fun _ => ?_)
                    refine xg_iload hX 8 dM_edit_478 rfl ?_
                    refine xg_iconst hX (nI 3) dM_edit_480 (by decide) ?_
                    refine xg_icmp_eqN hX 491 (by omega) (by omega) dM_edit_481 (by decide) (fun hh_995 => absurd hh_995 (by omega)) (fun hh_995 => ?_)
                    refine xg_iload hX 8 dM_edit_484 rfl ?_
                    refine xg_bipush hX (nI 7) dM_edit_486 (by decide) ?_
                    refine xg_icmp_neN hX 543 (by omega) (by omega) dM_edit_488 (by decide) (fun hh_996 => ?_) (fun hh_996 => absurd hh_996 (by omega))
                    refine xg_iconst hX (nI 0) dM_edit_543 (by decide) ?_
                    refine xg_istore hX (lv' := [(23, .int (nI 0)), (14, .int (nI 1)), (22, .int (nI 1)), (21, .int (nI (k % 16))), (20, .int (nI (k / 16))), (19, .int (nI 0)), (18, .int (nI 0)), (15, .int (nI 1)), (13, .int (nI (zn + 1))), (17, .int (nI k)), (0, .ref mq), (4, .int b), (6, .int (bI (!hasD (rdD M (tn n) (tn a)) 0 200))), (7, .int (bI (blM M n a))), (8, .int (nI vf)), (9, .int (nI vi)), (10, .int (bI vs)), (11, .int (nI vl)), (12, .int (nI vc)), (16, .int (nI s_))]) dM_edit_544 (by decide) rfl ?_
                    have lp997 : ∀ (fu998 : Nat) (i : Nat) (Wv : Nat → Nat) (wc : Nat) (wl : Nat) (ws : Bool), (i ≤ k % 16) → (wc ≤ 64) → (wl ≤ 31) → (pDs (rdD M (tn n) (tn a)) true (k % 16) (Vw, vc, vl, vs, vf, vi) = pDs (rdD M (tn n) (tn a)) true (k % 16 - i) (Wv, wc, wl, ws, vf, vi)) → k % 16 - i < fu998 → GG D X 0 0 546 [(mq, .inr (3, [.ref mm, .ref m1, .ref m2, .ref mo, .ref mr, .int (bI o1), .int (bI o2), .int (bI oo), .ref mw, .int (bI men)])), (mm, .inl (cI, 256, .inl (nf M))), (m1, .inl (cI, 200, .inl (nf (rdD M (tn n) (tn a))))), (mw, .inl (cI, 80, .inl (nf Wv)))] [(0, .ref mq), (4, .int b), (6, .int (bI (!hasD (rdD M (tn n) (tn a)) 0 200))), (7, .int (bI (blM M n a))), (8, .int (nI vf)), (9, .int (nI vi)), (10, .int (bI ws)), (11, .int (nI wl)), (12, .int (nI wc)), (13, .int (nI (zn + 1))), (14, .int (nI 1)), (15, .int (nI 1)), (16, .int (nI s_)), (17, .int (nI k)), (20, .int (nI (k / 16))), (21, .int (nI (k % 16))), (22, .int (nI 1)), (23, .int (nI i))] [] := by
                      intro fu998
                      induction fu998 with
                      | zero => intro i Wv wc wl ws hi hwc hwl hq2 hm1000; exact absurd hm1000 (Nat.not_lt_zero _)
                      | succ fu998 ih999 =>
                        intro i Wv wc wl ws hi hwc hwl hq2 hm1000
                        have eT := hx.1 (wl - 1)
                        refine xg_iload hX 10 dM_edit_546 rfl ?_
                        refine xg_if_eqN hX 756 (by omega) dM_edit_548 (by decide) (fun h => absurd h (by decide)) (fun _ => ?_)
                        refine xg_iload hX 16 dM_edit_551 rfl ?_
                        refine xg_if_eqN hX 756 (by omega) dM_edit_553 (by decide) (fun h => absurd h (by decide)) (fun _ => ?_)
                        refine xg_iload hX 17 dM_edit_556 rfl ?_
                        refine xg_iload hX 15 dM_edit_558 rfl ?_
                        refine xg_icmp_geN hX 756 (by omega) (by omega) dM_edit_560 (by decide) (fun h560 => ?_) (fun h560 => ?_)
                        ·
                          refine xg_iincN hX (lv' := [(16, .int (nI (s_ + 1))), (0, .ref mq), (4, .int b), (6, .int (bI (!hasD (rdD M (tn n) (tn a)) 0 200))), (7, .int (bI (blM M n a))), (8, .int (nI vf)), (9, .int (nI vi)), (10, .int (bI ws)), (11, .int (nI wl)), (12, .int (nI wc)), (13, .int (nI (zn + 1))), (14, .int (nI 1)), (15, .int (nI 1)), (17, .int (nI k)), (20, .int (nI (k / 16))), (21, .int (nI (k % 16))), (22, .int (nI 1)), (23, .int (nI i))]) (s_ + 1) 12 dM_edit_756 rfl (xn_inc _) (by decide) rfl ?_
                          refine xg_goto hX 96 dM_edit_759 (by decide) ?_
                          refine xg_lv hX (lv' := [(0, .ref mq), (4, .int b), (6, .int (bI (!hasD (rdD M (tn n) (tn a)) 0 200))), (7, .int (bI (blM M n a))), (8, .int (nI vf)), (9, .int (nI vi)), (10, .int (bI ws)), (11, .int (nI wl)), (12, .int (nI wc)), (13, .int (nI (zn + 1))), (14, .int (nI 1)), (15, .int (nI 1)), (16, .int (nI (s_ + 1)))]) [1, 2, 3, 4, 5, 6, 7, 8, 9, 10, 11, 12, 0] rfl ?_
                          exact ih5 (s_ + 1) (nI (zn + 1)) Wv wc wl ws vf vi (by omega) (by omega) (by omega) (by omega) (fo_st1 hq hnx (by omega) h168 (tk_f (by omega)) ((ob_s (by omega)).trans (by rw [hq2, show k % 16 - i = 0 by omega]; rfl))) (by omega)
                        ·
                          refine xg_iload hX 14 dM_edit_563 rfl ?_
                          refine xg_bipush hX (nI 8) dM_edit_565 (by decide) ?_
                          refine xg_icmp_eqN hX 575 (by omega) (by omega) dM_edit_567 (by decide) (fun hh_1003 => absurd hh_1003 (by omega)) (fun hh_1003 => ?_)
                          refine xg_iload hX 7 dM_edit_570 rfl ?_
                          refine xg_if_leN hX 579 (by omega) dM_edit_572 (by decide) (fun h572 => ?_) (fun h572 => ?_)
                          ·
                            refine xg_iconst hX (nI 0) dM_edit_579 (by decide) ?_
                            refine xg_istore hX (lv' := [(14, .int (nI 0)), (0, .ref mq), (4, .int b), (6, .int (bI (!hasD (rdD M (tn n) (tn a)) 0 200))), (7, .int (bI (blM M n a))), (8, .int (nI vf)), (9, .int (nI vi)), (10, .int (bI ws)), (11, .int (nI wl)), (12, .int (nI wc)), (13, .int (nI (zn + 1))), (15, .int (nI 1)), (16, .int (nI s_)), (17, .int (nI k)), (20, .int (nI (k / 16))), (21, .int (nI (k % 16))), (22, .int (nI 1)), (23, .int (nI i))]) dM_edit_580 (by decide) rfl ?_
                            refine xg_iload hX 0 dM_edit_582 rfl ?_
                            refine xg_if_eqN hX 606 (by omega) dM_edit_584 (by decide) (fun _ => ?_) (fun h => absurd h (by decide))
                            refine xg_iconst hX (nI 0) dM_edit_606 (by decide) ?_
                            refine xg_istore hX (lv' := [(24, .int (nI 0)), (14, .int (nI 0)), (0, .ref mq), (4, .int b), (6, .int (bI (!hasD (rdD M (tn n) (tn a)) 0 200))), (7, .int (bI (blM M n a))), (8, .int (nI vf)), (9, .int (nI vi)), (10, .int (bI ws)), (11, .int (nI wl)), (12, .int (nI wc)), (13, .int (nI (zn + 1))), (15, .int (nI 1)), (16, .int (nI s_)), (17, .int (nI k)), (20, .int (nI (k / 16))), (21, .int (nI (k % 16))), (22, .int (nI 1)), (23, .int (nI i))]) dM_edit_607 (by decide) rfl ?_
                            refine xg_iload hX 9 dM_edit_609 rfl ?_
                            refine xg_iload hX 15 dM_edit_611 rfl ?_
                            refine xg_bipush hX (nI 8) dM_edit_613 (by decide) ?_
                            refine xg_icmp_leN hX 622 (by omega) (by omega) dM_edit_615 (by decide) (fun hh_1005 => absurd hh_1005 (by omega)) (fun hh_1005 => ?_)
                            refine xg_iconst hX (nI 1) dM_edit_618 (by decide) ?_
                            refine xg_goto hX 623 dM_edit_619 (by decide) ?_
                            refine xg_isub hX dM_edit_623 ?_
                            refine xg_top ((nI wl) - (nI 1)) rfl ?_
                            refine xg_istore hX (lv' := [(11, .int ((nI wl) - (nI 1))), (24, .int (nI 0)), (14, .int (nI 0)), (0, .ref mq), (4, .int b), (6, .int (bI (!hasD (rdD M (tn n) (tn a)) 0 200))), (7, .int (bI (blM M n a))), (8, .int (nI vf)), (9, .int (nI vi)), (10, .int (bI ws)), (12, .int (nI wc)), (13, .int (nI (zn + 1))), (15, .int (nI 1)), (16, .int (nI s_)), (17, .int (nI k)), (20, .int (nI (k / 16))), (21, .int (nI (k % 16))), (22, .int (nI 1)), (23, .int (nI i))]) dM_edit_624 (by decide) rfl ?_
                            refine xg_iload hX 2 dM_edit_626 rfl ?_
                            refine xg_if_eqN hX 679 (by omega) dM_edit_628 (by decide) (fun _ => ?_) (fun h => absurd h (by decide))
                            refine xg_iload hX 15 dM_edit_679 rfl ?_
                            refine xg_bipush hX (nI 8) dM_edit_681 (by decide) ?_
                            refine xg_icmp_leN hX 694 (by omega) (by omega) dM_edit_683 (by decide) (fun hh_1007 => absurd hh_1007 (by omega)) (fun hh_1007 => ?_)
                            refine xg_iload hX 1 dM_edit_686 rfl ?_
                            refine xg_if_leN hX 694 (by omega) dM_edit_688 (by decide) (fun _ => ?_) (fun h => absurd h (by decide))
                            refine xg_iload hX 2 dM_edit_694 rfl ?_
                            refine xg_if_eqN hX 710 (by omega) dM_edit_696 (by decide) (fun _ => ?_) (fun h => absurd h (by decide))
                            refine xg_iconst hX (nI 0) dM_edit_710 (by decide) ?_
                            refine xg_istore hX (lv' := [(14, .int (nI 0)), (11, .int ((nI wl) - (nI 1))), (24, .int (nI 0)), (0, .ref mq), (4, .int b), (6, .int (bI (!hasD (rdD M (tn n) (tn a)) 0 200))), (7, .int (bI (blM M n a))), (8, .int (nI vf)), (9, .int (nI vi)), (10, .int (bI ws)), (12, .int (nI wc)), (13, .int (nI (zn + 1))), (15, .int (nI 1)), (16, .int (nI s_)), (17, .int (nI k)), (20, .int (nI (k / 16))), (21, .int (nI (k % 16))), (22, .int (nI 1)), (23, .int (nI i))]) dM_edit_711 (by decide) rfl ?_
                            refine xg_iload hX 0 dM_edit_713 rfl ?_
                            refine xg_if_eqN hX 747 (by omega) dM_edit_715 (by decide) (fun _ => ?_) (fun h => absurd h (by decide))
                            refine xg_iincN hX (lv' := [(12, .int (nI (wc + 1))), (14, .int (nI 0)), (11, .int ((nI wl) - (nI 1))), (24, .int (nI 0)), (0, .ref mq), (4, .int b), (6, .int (bI (!hasD (rdD M (tn n) (tn a)) 0 200))), (7, .int (bI (blM M n a))), (8, .int (nI vf)), (9, .int (nI vi)), (10, .int (bI ws)), (13, .int (nI (zn + 1))), (15, .int (nI 1)), (16, .int (nI s_)), (17, .int (nI k)), (20, .int (nI (k / 16))), (21, .int (nI (k % 16))), (22, .int (nI 1)), (23, .int (nI i))]) (wc + 1) 10 dM_edit_747 rfl (xn_inc _) (by decide) rfl ?_
                            refine xg_iincN hX (lv' := [(23, .int (nI (i + 1))), (12, .int (nI (wc + 1))), (14, .int (nI 0)), (11, .int ((nI wl) - (nI 1))), (24, .int (nI 0)), (0, .ref mq), (4, .int b), (6, .int (bI (!hasD (rdD M (tn n) (tn a)) 0 200))), (7, .int (bI (blM M n a))), (8, .int (nI vf)), (9, .int (nI vi)), (10, .int (bI ws)), (13, .int (nI (zn + 1))), (15, .int (nI 1)), (16, .int (nI s_)), (17, .int (nI k)), (20, .int (nI (k / 16))), (21, .int (nI (k % 16))), (22, .int (nI 1))]) (i + 1) 18 dM_edit_750 rfl (xn_inc _) (by decide) rfl ?_
                            refine xg_goto hX 546 dM_edit_753 (by decide) ?_
                            refine xg_iload hX 2 dM_edit_546 rfl ?_
                            refine xg_if_eqN hX 756 (by omega) dM_edit_548 (by decide) (fun _ => ?_) (fun h => absurd h (by decide))
                            refine xg_iincN hX (lv' := [(16, .int (nI (s_ + 1))), (23, .int (nI (i + 1))), (12, .int (nI (wc + 1))), (14, .int (nI 0)), (11, .int ((nI wl) - (nI 1))), (24, .int (nI 0)), (0, .ref mq), (4, .int b), (6, .int (bI (!hasD (rdD M (tn n) (tn a)) 0 200))), (7, .int (bI (blM M n a))), (8, .int (nI vf)), (9, .int (nI vi)), (10, .int (bI ws)), (13, .int (nI (zn + 1))), (15, .int (nI 1)), (17, .int (nI k)), (20, .int (nI (k / 16))), (21, .int (nI (k % 16))), (22, .int (nI 1))]) (s_ + 1) 14 dM_edit_756 rfl (xn_inc _) (by decide) rfl ?_
                            refine xg_goto hX 96 dM_edit_759 (by decide) ?_
                            refine xg_iload hX 14 dM_edit_96 rfl ?_
                            refine xg_if_eqN hX 762 (by omega) dM_edit_98 (by decide) (fun h => absurd h (by decide)) (fun _ => ?_)
                            refine xg_iload hX 3 dM_edit_101 rfl ?_
                            refine xg_if_eqN hX 762 (by omega) dM_edit_103 (by decide) (fun _ => ?_) (fun h => absurd h (by decide))
                            refine xg_iload hX 3 dM_edit_762 rfl ?_
                            refine xg_if_eqN hX 772 (by omega) dM_edit_764 (by decide) (fun _ => ?_) (fun h => absurd h (by decide))
                            refine xg_bipush hX ((-2)) dM_edit_772 (by decide) ?_
                            exact hret ((-2), M, rdD M (tn n) (tn a), Wv, men) _ _ _ rfl (show ((-2), M, men) = editM M men xw n a p b from (by have hF : edPM M xw n a p = none := (fo_no hq hnx (by omega) h168 ((ob_s (by omega)).trans (by rw [hq2, show k % 16 - i = (k % 16 - (i + 1)) + 1 by omega, pDs_no h572]))); unfold editM; rw [if_pos h5, if_pos g1, hF])) dM_edit_774
                          ·
                            refine xg_iconst hX (nI 1) dM_edit_575 (by decide) ?_
                            refine xg_goto hX 580 dM_edit_576 (by decide) ?_
                            refine xg_istore hX (lv' := [(14, .int (nI 1)), (0, .ref mq), (4, .int b), (6, .int (bI (!hasD (rdD M (tn n) (tn a)) 0 200))), (7, .int (bI (blM M n a))), (8, .int (nI vf)), (9, .int (nI vi)), (10, .int (bI ws)), (11, .int (nI wl)), (12, .int (nI wc)), (13, .int (nI (zn + 1))), (15, .int (nI 1)), (16, .int (nI s_)), (17, .int (nI k)), (20, .int (nI (k / 16))), (21, .int (nI (k % 16))), (22, .int (nI 1)), (23, .int (nI i))]) dM_edit_580 (by decide) rfl ?_
                            refine xg_iload hX 0 dM_edit_582 rfl ?_
                            refine xg_if_eqN hX 606 (by omega) dM_edit_584 (by decide) (fun h => absurd h (by decide)) (fun _ => ?_)
                            refine xg_iload hX 14 dM_edit_587 rfl ?_
                            refine xg_bipush hX (nI 8) dM_edit_589 (by decide) ?_
                            refine xg_icmp_leN hX 606 (by omega) (by omega) dM_edit_591 (by decide) (fun hh_1015 => absurd hh_1015 (by omega)) (fun hh_1015 => ?_)
                            refine xg_aload_n hX 1 dM_edit_594 rfl rfl ?_
                            refine xg_get hX (ci := 3) rfl hinM 0 rfl 1 (by decide) mt_325 rfl dM_edit_595 ?_
                            refine xg_iload hX 8 dM_edit_598 rfl ?_
                            refine xg_iconst hX (nI 1) dM_edit_600 (by decide) ?_
                            refine xg_isubN hX (by omega) dM_edit_601 ?_
                            refine xg_iald hX 2 (wl - 1) rfl (by omega) (by decide) dM_edit_602 ?_
                            refine xg_goto hX 607 dM_edit_603 (by decide) ?_
                            refine xg_istore hX (lv' := [(24, .int (nI ((rdD M (tn n) (tn a)) (wl - 1)))), (14, .int (nI 1)), (0, .ref mq), (4, .int b), (6, .int (bI (!hasD (rdD M (tn n) (tn a)) 0 200))), (7, .int (bI (blM M n a))), (8, .int (nI vf)), (9, .int (nI vi)), (10, .int (bI ws)), (11, .int (nI wl)), (12, .int (nI wc)), (13, .int (nI (zn + 1))), (15, .int (nI 1)), (16, .int (nI s_)), (17, .int (nI k)), (20, .int (nI (k / 16))), (21, .int (nI (k % 16))), (22, .int (nI 1)), (23, .int (nI i))]) dM_edit_607 (by decide) rfl ?_
                            refine xg_iload hX 9 dM_edit_609 rfl ?_
                            refine xg_iload hX 15 dM_edit_611 rfl ?_
                            refine xg_bipush hX (nI 8) dM_edit_613 (by decide) ?_
                            refine xg_icmp_leN hX 622 (by omega) (by omega) dM_edit_615 (by decide) (fun hh_1016 => absurd hh_1016 (by omega)) (fun hh_1016 => ?_)
                            refine xg_iconst hX (nI 1) dM_edit_618 (by decide) ?_
                            refine xg_goto hX 623 dM_edit_619 (by decide) ?_
                            refine xg_isubN hX (by omega) dM_edit_623 ?_
                            refine xg_top (nI (wl - 1)) rfl ?_
                            refine xg_istore hX (lv' := [(11, .int (nI (wl - 1))), (24, .int (nI ((rdD M (tn n) (tn a)) (wl - 1)))), (14, .int (nI 1)), (0, .ref mq), (4, .int b), (6, .int (bI (!hasD (rdD M (tn n) (tn a)) 0 200))), (7, .int (bI (blM M n a))), (8, .int (nI vf)), (9, .int (nI vi)), (10, .int (bI ws)), (12, .int (nI wc)), (13, .int (nI (zn + 1))), (15, .int (nI 1)), (16, .int (nI s_)), (17, .int (nI k)), (20, .int (nI (k / 16))), (21, .int (nI (k % 16))), (22, .int (nI 1)), (23, .int (nI i))]) dM_edit_624 (by decide) rfl ?_
                            refine xg_iload hX 2 dM_edit_626 rfl ?_
                            refine xg_if_eqN hX 679 (by omega) dM_edit_628 (by decide) (fun h => absurd h (by decide)) (fun _ => ?_)
                            refine xg_iload hX 15 dM_edit_631 rfl ?_
                            refine xg_bipush hX (nI 10) dM_edit_633 (by decide) ?_
                            refine xg_icmp_neN hX 679 (by omega) (by omega) dM_edit_635 (by decide) (fun hh_1018 => absurd hh_1018 (by omega)) (fun hh_1018 => ?_)
                            refine xg_iload hX 1 dM_edit_638 rfl ?_
                            refine xg_if_leN hX 679 (by omega) dM_edit_640 (by decide) (fun h640 => ?_) (fun h640 => ?_)
                            ·
                              refine xg_iload hX 15 dM_edit_679 rfl ?_
                              refine xg_bipush hX (nI 8) dM_edit_681 (by decide) ?_
                              refine xg_icmp_leN hX 694 (by omega) (by omega) dM_edit_683 (by decide) (fun hh_1019 => absurd hh_1019 (by omega)) (fun hh_1019 => ?_)
                              refine xg_iload hX 1 dM_edit_686 rfl ?_
                              refine xg_if_leN hX 694 (by omega) dM_edit_688 (by decide) (fun h688 => ?_) (fun h688 => absurd h688 (by omega))
                              refine xg_iload hX 2 dM_edit_694 rfl ?_
                              refine xg_if_eqN hX 710 (by omega) dM_edit_696 (by decide) (fun h => absurd h (by decide)) (fun _ => ?_)
                              refine xg_iload hX 10 dM_edit_699 rfl ?_
                              refine xg_bipush hX (nI 64) dM_edit_701 (by decide) ?_
                              refine xg_icmp_geN hX 710 (by omega) (by omega) dM_edit_703 (by decide) (fun h703 => ?_) (fun h703 => ?_)
                              ·
                                refine xg_iconst hX (nI 0) dM_edit_710 (by decide) ?_
                                refine xg_istore hX (lv' := [(14, .int (nI 0)), (11, .int (nI (wl - 1))), (24, .int (nI ((rdD M (tn n) (tn a)) (wl - 1)))), (0, .ref mq), (4, .int b), (6, .int (bI (!hasD (rdD M (tn n) (tn a)) 0 200))), (7, .int (bI (blM M n a))), (8, .int (nI vf)), (9, .int (nI vi)), (10, .int (bI ws)), (12, .int (nI wc)), (13, .int (nI (zn + 1))), (15, .int (nI 1)), (16, .int (nI s_)), (17, .int (nI k)), (20, .int (nI (k / 16))), (21, .int (nI (k % 16))), (22, .int (nI 1)), (23, .int (nI i))]) dM_edit_711 (by decide) rfl ?_
                                refine xg_iload hX 0 dM_edit_713 rfl ?_
                                refine xg_if_eqN hX 747 (by omega) dM_edit_715 (by decide) (fun _ => ?_) (fun h => absurd h (by decide))
                                refine xg_iincN hX (lv' := [(12, .int (nI (wc + 1))), (14, .int (nI 0)), (11, .int (nI (wl - 1))), (24, .int (nI ((rdD M (tn n) (tn a)) (wl - 1)))), (0, .ref mq), (4, .int b), (6, .int (bI (!hasD (rdD M (tn n) (tn a)) 0 200))), (7, .int (bI (blM M n a))), (8, .int (nI vf)), (9, .int (nI vi)), (10, .int (bI ws)), (13, .int (nI (zn + 1))), (15, .int (nI 1)), (16, .int (nI s_)), (17, .int (nI k)), (20, .int (nI (k / 16))), (21, .int (nI (k % 16))), (22, .int (nI 1)), (23, .int (nI i))]) (wc + 1) 10 dM_edit_747 rfl (xn_inc _) (by decide) rfl ?_
                                refine xg_iincN hX (lv' := [(23, .int (nI (i + 1))), (12, .int (nI (wc + 1))), (14, .int (nI 0)), (11, .int (nI (wl - 1))), (24, .int (nI ((rdD M (tn n) (tn a)) (wl - 1)))), (0, .ref mq), (4, .int b), (6, .int (bI (!hasD (rdD M (tn n) (tn a)) 0 200))), (7, .int (bI (blM M n a))), (8, .int (nI vf)), (9, .int (nI vi)), (10, .int (bI ws)), (13, .int (nI (zn + 1))), (15, .int (nI 1)), (16, .int (nI s_)), (17, .int (nI k)), (20, .int (nI (k / 16))), (21, .int (nI (k % 16))), (22, .int (nI 1))]) (i + 1) 18 dM_edit_750 rfl (xn_inc _) (by decide) rfl ?_
                                refine xg_goto hX 546 dM_edit_753 (by decide) ?_
                                refine xg_iload hX 2 dM_edit_546 rfl ?_
                                refine xg_if_eqN hX 756 (by omega) dM_edit_548 (by decide) (fun _ => ?_) (fun h => absurd h (by decide))
                                refine xg_iincN hX (lv' := [(16, .int (nI (s_ + 1))), (23, .int (nI (i + 1))), (12, .int (nI (wc + 1))), (14, .int (nI 0)), (11, .int (nI (wl - 1))), (24, .int (nI ((rdD M (tn n) (tn a)) (wl - 1)))), (0, .ref mq), (4, .int b), (6, .int (bI (!hasD (rdD M (tn n) (tn a)) 0 200))), (7, .int (bI (blM M n a))), (8, .int (nI vf)), (9, .int (nI vi)), (10, .int (bI ws)), (13, .int (nI (zn + 1))), (15, .int (nI 1)), (17, .int (nI k)), (20, .int (nI (k / 16))), (21, .int (nI (k % 16))), (22, .int (nI 1))]) (s_ + 1) 14 dM_edit_756 rfl (xn_inc _) (by decide) rfl ?_
                                refine xg_goto hX 96 dM_edit_759 (by decide) ?_
                                refine xg_iload hX 14 dM_edit_96 rfl ?_
                                refine xg_if_eqN hX 762 (by omega) dM_edit_98 (by decide) (fun h => absurd h (by decide)) (fun _ => ?_)
                                refine xg_iload hX 3 dM_edit_101 rfl ?_
                                refine xg_if_eqN hX 762 (by omega) dM_edit_103 (by decide) (fun _ => ?_) (fun h => absurd h (by decide))
                                refine xg_iload hX 3 dM_edit_762 rfl ?_
                                refine xg_if_eqN hX 772 (by omega) dM_edit_764 (by decide) (fun _ => ?_) (fun h => absurd h (by decide))
                                refine xg_bipush hX ((-2)) dM_edit_772 (by decide) ?_
                                exact hret ((-2), M, rdD M (tn n) (tn a), Wv, men) _ _ _ rfl (show ((-2), M, men) = editM M men xw n a p b from (by have hF : edPM M xw n a p = none := (fo_no hq hnx (by omega) h168 ((ob_s (by omega)).trans (by rw [hq2, show k % 16 - i = (k % 16 - (i + 1)) + 1 by omega, pDs_s (by omega), show pDg (rdD M (tn n) (tn a)) _ (Wv, wc, wl, ws, vf, vi) = none by cases hws : ws with | false => rw [dg_f h688 rfl, pWr_no h703] | true => rw [dg_0 rfl, pWr_no h703]]; rfl))); unfold editM; rw [if_pos h5, if_pos g1, hF])) dM_edit_774
                              ·
                                refine xg_iconst hX (nI 1) dM_edit_706 (by decide) ?_
                                refine xg_goto hX 711 dM_edit_707 (by decide) ?_
                                refine xg_istore hX (lv' := [(14, .int (nI 1)), (11, .int (nI (wl - 1))), (24, .int (nI ((rdD M (tn n) (tn a)) (wl - 1)))), (0, .ref mq), (4, .int b), (6, .int (bI (!hasD (rdD M (tn n) (tn a)) 0 200))), (7, .int (bI (blM M n a))), (8, .int (nI vf)), (9, .int (nI vi)), (10, .int (bI ws)), (12, .int (nI wc)), (13, .int (nI (zn + 1))), (15, .int (nI 1)), (16, .int (nI s_)), (17, .int (nI k)), (20, .int (nI (k / 16))), (21, .int (nI (k % 16))), (22, .int (nI 1)), (23, .int (nI i))]) dM_edit_711 (by decide) rfl ?_
                                refine xg_iload hX 0 dM_edit_713 rfl ?_
                                refine xg_if_eqN hX 747 (by omega) dM_edit_715 (by decide) (fun h => absurd h (by decide)) (fun _ => ?_)
                                refine xg_aload_n hX 3 dM_edit_718 rfl rfl ?_
                                refine xg_get hX (ci := 3) rfl hinM 0 rfl 8 (by decide) mt_332 rfl dM_edit_719 ?_
                                refine xg_iload hX 10 dM_edit_722 rfl ?_
                                refine xg_iload hX 15 dM_edit_724 rfl ?_
                                refine xg_bipush hX (nI 8) dM_edit_726 (by decide) ?_
                                refine xg_icmp_leN hX 744 (by omega) (by omega) dM_edit_728 (by decide) (fun hh_1027 => absurd hh_1027 (by omega)) (fun hh_1027 => ?_)
                                refine xg_iload hX 9 dM_edit_731 rfl ?_
                                refine xg_if_eqB hX 744 dM_edit_733 (by decide) (fun h733 => ?_) (fun h733 => ?_)
                                ·
                                  refine xg_iload hX 7 dM_edit_744 rfl ?_
                                  refine xg_iast hX (ws' := [(mq, .inr (3, [.ref mm, .ref m1, .ref m2, .ref mo, .ref mr, .int (bI o1), .int (bI o2), .int (bI oo), .ref mw, .int (bI men)])), (mm, .inl (cI, 256, .inl (nf M))), (m1, .inl (cI, 200, .inl (nf (rdD M (tn n) (tn a))))), (mw, .inl (cI, 80, .inl (nf (up Wv wc vf))))]) 3 wc vf rfl (by omega) (by decide) rfl dM_edit_746 ?_
                                  refine xg_iincN hX (lv' := [(12, .int (nI (wc + 1))), (14, .int (nI 1)), (11, .int (nI (wl - 1))), (24, .int (nI ((rdD M (tn n) (tn a)) (wl - 1)))), (0, .ref mq), (4, .int b), (6, .int (bI (!hasD (rdD M (tn n) (tn a)) 0 200))), (7, .int (bI (blM M n a))), (8, .int (nI vf)), (9, .int (nI vi)), (10, .int (bI ws)), (13, .int (nI (zn + 1))), (15, .int (nI 1)), (16, .int (nI s_)), (17, .int (nI k)), (20, .int (nI (k / 16))), (21, .int (nI (k % 16))), (22, .int (nI 1)), (23, .int (nI i))]) (wc + 1) 10 dM_edit_747 rfl (xn_inc _) (by decide) rfl ?_
                                  refine xg_iincN hX (lv' := [(23, .int (nI (i + 1))), (12, .int (nI (wc + 1))), (14, .int (nI 1)), (11, .int (nI (wl - 1))), (24, .int (nI ((rdD M (tn n) (tn a)) (wl - 1)))), (0, .ref mq), (4, .int b), (6, .int (bI (!hasD (rdD M (tn n) (tn a)) 0 200))), (7, .int (bI (blM M n a))), (8, .int (nI vf)), (9, .int (nI vi)), (10, .int (bI ws)), (13, .int (nI (zn + 1))), (15, .int (nI 1)), (16, .int (nI s_)), (17, .int (nI k)), (20, .int (nI (k / 16))), (21, .int (nI (k % 16))), (22, .int (nI 1))]) (i + 1) 18 dM_edit_750 rfl (xn_inc _) (by decide) rfl ?_
                                  refine xg_goto hX 546 dM_edit_753 (by decide) ?_
                                  refine xg_lv hX (lv' := [(0, .ref mq), (4, .int b), (6, .int (bI (!hasD (rdD M (tn n) (tn a)) 0 200))), (7, .int (bI (blM M n a))), (8, .int (nI vf)), (9, .int (nI vi)), (10, .int (bI ws)), (11, .int (nI (wl - 1))), (12, .int (nI (wc + 1))), (13, .int (nI (zn + 1))), (14, .int (nI 1)), (15, .int (nI 1)), (16, .int (nI s_)), (17, .int (nI k)), (20, .int (nI (k / 16))), (21, .int (nI (k % 16))), (22, .int (nI 1)), (23, .int (nI (i + 1)))]) [5, 6, 7, 8, 9, 10, 11, 3, 1, 12, 2, 13, 14, 15, 16, 17, 18, 0] rfl ?_
                                  exact ih999 (i + 1) (up Wv wc vf) (wc + 1) (wl - 1) ws (by omega) (by omega) (by omega) (by rw [hq2, show k % 16 - i = (k % 16 - (i + 1)) + 1 by omega, pDs_s (by omega), dg_f h688 h733, pWr_lt h703]; rfl) (by omega)
                                ·
                                  refine xg_bipush hX (nI 48) dM_edit_736 (by decide) ?_
                                  refine xg_iload hX 2 dM_edit_738 rfl ?_
                                  refine xg_iaddN hX dM_edit_740 ?_
                                  refine xg_goto hX 746 dM_edit_741 (by decide) ?_
                                  refine xg_iast hX (ws' := [(mq, .inr (3, [.ref mm, .ref m1, .ref m2, .ref mo, .ref mr, .int (bI o1), .int (bI o2), .int (bI oo), .ref mw, .int (bI men)])), (mm, .inl (cI, 256, .inl (nf M))), (m1, .inl (cI, 200, .inl (nf (rdD M (tn n) (tn a))))), (mw, .inl (cI, 80, .inl (nf (up Wv wc (48 + ((rdD M (tn n) (tn a)) (wl - 1)))))))]) 3 wc (48 + ((rdD M (tn n) (tn a)) (wl - 1))) rfl (by omega) (by decide) rfl dM_edit_746 ?_
                                  refine xg_iincN hX (lv' := [(12, .int (nI (wc + 1))), (14, .int (nI 1)), (11, .int (nI (wl - 1))), (24, .int (nI ((rdD M (tn n) (tn a)) (wl - 1)))), (0, .ref mq), (4, .int b), (6, .int (bI (!hasD (rdD M (tn n) (tn a)) 0 200))), (7, .int (bI (blM M n a))), (8, .int (nI vf)), (9, .int (nI vi)), (10, .int (bI ws)), (13, .int (nI (zn + 1))), (15, .int (nI 1)), (16, .int (nI s_)), (17, .int (nI k)), (20, .int (nI (k / 16))), (21, .int (nI (k % 16))), (22, .int (nI 1)), (23, .int (nI i))]) (wc + 1) 10 dM_edit_747 rfl (xn_inc _) (by decide) rfl ?_
                                  refine xg_iincN hX (lv' := [(23, .int (nI (i + 1))), (12, .int (nI (wc + 1))), (14, .int (nI 1)), (11, .int (nI (wl - 1))), (24, .int (nI ((rdD M (tn n) (tn a)) (wl - 1)))), (0, .ref mq), (4, .int b), (6, .int (bI (!hasD (rdD M (tn n) (tn a)) 0 200))), (7, .int (bI (blM M n a))), (8, .int (nI vf)), (9, .int (nI vi)), (10, .int (bI ws)), (13, .int (nI (zn + 1))), (15, .int (nI 1)), (16, .int (nI s_)), (17, .int (nI k)), (20, .int (nI (k / 16))), (21, .int (nI (k % 16))), (22, .int (nI 1))]) (i + 1) 18 dM_edit_750 rfl (xn_inc _) (by decide) rfl ?_
                                  refine xg_goto hX 546 dM_edit_753 (by decide) ?_
                                  refine xg_lv hX (lv' := [(0, .ref mq), (4, .int b), (6, .int (bI (!hasD (rdD M (tn n) (tn a)) 0 200))), (7, .int (bI (blM M n a))), (8, .int (nI vf)), (9, .int (nI vi)), (10, .int (bI ws)), (11, .int (nI (wl - 1))), (12, .int (nI (wc + 1))), (13, .int (nI (zn + 1))), (14, .int (nI 1)), (15, .int (nI 1)), (16, .int (nI s_)), (17, .int (nI k)), (20, .int (nI (k / 16))), (21, .int (nI (k % 16))), (22, .int (nI 1)), (23, .int (nI (i + 1)))]) [5, 6, 7, 8, 9, 10, 11, 3, 1, 12, 2, 13, 14, 15, 16, 17, 18, 0] rfl ?_
                                  exact ih999 (i + 1) (up Wv wc (48 + ((rdD M (tn n) (tn a)) (wl - 1)))) (wc + 1) (wl - 1) ws (by omega) (by omega) (by omega) (by rw [hq2, show k % 16 - i = (k % 16 - (i + 1)) + 1 by omega, pDs_s (by omega), dg_0 h733, pWr_lt h703, h733] <;> rfl) (by omega)
                            ·
                              refine xg_iload hX 9 dM_edit_643 rfl ?_
                              refine xg_if_neB hX 679 dM_edit_645 (by decide) (fun h645 => ?_) (fun h645 => ?_)
                              ·
                                refine xg_iload hX 15 dM_edit_679 rfl ?_
                                refine xg_bipush hX (nI 8) dM_edit_681 (by decide) ?_
                                refine xg_icmp_leN hX 694 (by omega) (by omega) dM_edit_683 (by decide) (fun hh_1028 => absurd hh_1028 (by omega)) (fun hh_1028 => ?_)
                                refine xg_iload hX 1 dM_edit_686 rfl ?_
                                refine xg_if_leN hX 694 (by omega) dM_edit_688 (by decide) (fun h688 => absurd h688 (by omega)) (fun h688 => ?_)
                                refine xg_iconst hX (nI 1) dM_edit_691 (by decide) ?_
                                refine xg_istore hX (lv' := [(10, .int (nI 1)), (11, .int (nI (wl - 1))), (24, .int (nI ((rdD M (tn n) (tn a)) (wl - 1)))), (14, .int (nI 1)), (0, .ref mq), (4, .int b), (6, .int (bI (!hasD (rdD M (tn n) (tn a)) 0 200))), (7, .int (bI (blM M n a))), (8, .int (nI vf)), (9, .int (nI vi)), (12, .int (nI wc)), (13, .int (nI (zn + 1))), (15, .int (nI 1)), (16, .int (nI s_)), (17, .int (nI k)), (20, .int (nI (k / 16))), (21, .int (nI (k % 16))), (22, .int (nI 1)), (23, .int (nI i))]) dM_edit_692 (by decide) rfl ?_
                                refine xg_iload hX 3 dM_edit_694 rfl ?_
                                refine xg_if_eqN hX 710 (by omega) dM_edit_696 (by decide) (fun h => absurd h (by decide)) (fun _ => ?_)
                                refine xg_iload hX 10 dM_edit_699 rfl ?_
                                refine xg_bipush hX (nI 64) dM_edit_701 (by decide) ?_
                                refine xg_icmp_geN hX 710 (by omega) (by omega) dM_edit_703 (by decide) (fun h703 => ?_) (fun h703 => ?_)
                                ·
                                  refine xg_iconst hX (nI 0) dM_edit_710 (by decide) ?_
                                  refine xg_istore hX (lv' := [(14, .int (nI 0)), (10, .int (nI 1)), (11, .int (nI (wl - 1))), (24, .int (nI ((rdD M (tn n) (tn a)) (wl - 1)))), (0, .ref mq), (4, .int b), (6, .int (bI (!hasD (rdD M (tn n) (tn a)) 0 200))), (7, .int (bI (blM M n a))), (8, .int (nI vf)), (9, .int (nI vi)), (12, .int (nI wc)), (13, .int (nI (zn + 1))), (15, .int (nI 1)), (16, .int (nI s_)), (17, .int (nI k)), (20, .int (nI (k / 16))), (21, .int (nI (k % 16))), (22, .int (nI 1)), (23, .int (nI i))]) dM_edit_711 (by decide) rfl ?_
                                  refine xg_iload hX 0 dM_edit_713 rfl ?_
                                  refine xg_if_eqN hX 747 (by omega) dM_edit_715 (by decide) (fun _ => ?_) (fun h => absurd h (by decide))
                                  refine xg_iincN hX (lv' := [(12, .int (nI (wc + 1))), (14, .int (nI 0)), (10, .int (nI 1)), (11, .int (nI (wl - 1))), (24, .int (nI ((rdD M (tn n) (tn a)) (wl - 1)))), (0, .ref mq), (4, .int b), (6, .int (bI (!hasD (rdD M (tn n) (tn a)) 0 200))), (7, .int (bI (blM M n a))), (8, .int (nI vf)), (9, .int (nI vi)), (13, .int (nI (zn + 1))), (15, .int (nI 1)), (16, .int (nI s_)), (17, .int (nI k)), (20, .int (nI (k / 16))), (21, .int (nI (k % 16))), (22, .int (nI 1)), (23, .int (nI i))]) (wc + 1) 10 dM_edit_747 rfl (xn_inc _) (by decide) rfl ?_
                                  refine xg_iincN hX (lv' := [(23, .int (nI (i + 1))), (12, .int (nI (wc + 1))), (14, .int (nI 0)), (10, .int (nI 1)), (11, .int (nI (wl - 1))), (24, .int (nI ((rdD M (tn n) (tn a)) (wl - 1)))), (0, .ref mq), (4, .int b), (6, .int (bI (!hasD (rdD M (tn n) (tn a)) 0 200))), (7, .int (bI (blM M n a))), (8, .int (nI vf)), (9, .int (nI vi)), (13, .int (nI (zn + 1))), (15, .int (nI 1)), (16, .int (nI s_)), (17, .int (nI k)), (20, .int (nI (k / 16))), (21, .int (nI (k % 16))), (22, .int (nI 1))]) (i + 1) 18 dM_edit_750 rfl (xn_inc _) (by decide) rfl ?_
                                  refine xg_goto hX 546 dM_edit_753 (by decide) ?_
                                  refine xg_iload hX 2 dM_edit_546 rfl ?_
                                  refine xg_if_eqN hX 756 (by omega) dM_edit_548 (by decide) (fun _ => ?_) (fun h => absurd h (by decide))
                                  refine xg_iincN hX (lv' := [(16, .int (nI (s_ + 1))), (23, .int (nI (i + 1))), (12, .int (nI (wc + 1))), (14, .int (nI 0)), (10, .int (nI 1)), (11, .int (nI (wl - 1))), (24, .int (nI ((rdD M (tn n) (tn a)) (wl - 1)))), (0, .ref mq), (4, .int b), (6, .int (bI (!hasD (rdD M (tn n) (tn a)) 0 200))), (7, .int (bI (blM M n a))), (8, .int (nI vf)), (9, .int (nI vi)), (13, .int (nI (zn + 1))), (15, .int (nI 1)), (17, .int (nI k)), (20, .int (nI (k / 16))), (21, .int (nI (k % 16))), (22, .int (nI 1))]) (s_ + 1) 14 dM_edit_756 rfl (xn_inc _) (by decide) rfl ?_
                                  refine xg_goto hX 96 dM_edit_759 (by decide) ?_
                                  refine xg_iload hX 14 dM_edit_96 rfl ?_
                                  refine xg_if_eqN hX 762 (by omega) dM_edit_98 (by decide) (fun h => absurd h (by decide)) (fun _ => ?_)
                                  refine xg_iload hX 3 dM_edit_101 rfl ?_
                                  refine xg_if_eqN hX 762 (by omega) dM_edit_103 (by decide) (fun _ => ?_) (fun h => absurd h (by decide))
                                  refine xg_iload hX 3 dM_edit_762 rfl ?_
                                  refine xg_if_eqN hX 772 (by omega) dM_edit_764 (by decide) (fun _ => ?_) (fun h => absurd h (by decide))
                                  refine xg_bipush hX ((-2)) dM_edit_772 (by decide) ?_
                                  exact hret ((-2), M, rdD M (tn n) (tn a), Wv, men) _ _ _ rfl (show ((-2), M, men) = editM M men xw n a p b from (by have hF : edPM M xw n a p = none := (fo_no hq hnx (by omega) h168 ((ob_s (by omega)).trans (by rw [hq2, show k % 16 - i = (k % 16 - (i + 1)) + 1 by omega, pDs_s (by omega), dg_0 h645, pWr_no h703]; rfl))); unfold editM; rw [if_pos h5, if_pos g1, hF])) dM_edit_774
                                ·
                                  refine xg_iconst hX (nI 1) dM_edit_706 (by decide) ?_
                                  refine xg_goto hX 711 dM_edit_707 (by decide) ?_
                                  refine xg_istore hX (lv' := [(14, .int (nI 1)), (10, .int (nI 1)), (11, .int (nI (wl - 1))), (24, .int (nI ((rdD M (tn n) (tn a)) (wl - 1)))), (0, .ref mq), (4, .int b), (6, .int (bI (!hasD (rdD M (tn n) (tn a)) 0 200))), (7, .int (bI (blM M n a))), (8, .int (nI vf)), (9, .int (nI vi)), (12, .int (nI wc)), (13, .int (nI (zn + 1))), (15, .int (nI 1)), (16, .int (nI s_)), (17, .int (nI k)), (20, .int (nI (k / 16))), (21, .int (nI (k % 16))), (22, .int (nI 1)), (23, .int (nI i))]) dM_edit_711 (by decide) rfl ?_
                                  refine xg_iload hX 0 dM_edit_713 rfl ?_
                                  refine xg_if_eqN hX 747 (by omega) dM_edit_715 (by decide) (fun h => absurd h (by decide)) (fun _ => ?_)
                                  refine xg_aload_n hX 4 dM_edit_718 rfl rfl ?_
                                  refine xg_get hX (ci := 3) rfl hinM 0 rfl 8 (by decide) mt_332 rfl dM_edit_719 ?_
                                  refine xg_iload hX 10 dM_edit_722 rfl ?_
                                  refine xg_iload hX 15 dM_edit_724 rfl ?_
                                  refine xg_bipush hX (nI 8) dM_edit_726 (by decide) ?_
                                  refine xg_icmp_leN hX 744 (by omega) (by omega) dM_edit_728 (by decide) (fun hh_1036 => absurd hh_1036 (by omega)) (fun hh_1036 => ?_)
                                  refine xg_iload hX 1 dM_edit_731 rfl ?_
                                  refine xg_if_eqN hX 744 (by omega) dM_edit_733 (by decide) (fun h => absurd h (by decide)) (fun _ => ?_)
                                  refine xg_bipush hX (nI 48) dM_edit_736 (by decide) ?_
                                  refine xg_iload hX 3 dM_edit_738 rfl ?_
                                  refine xg_iaddN hX dM_edit_740 ?_
                                  refine xg_goto hX 746 dM_edit_741 (by decide) ?_
                                  refine xg_iast hX (ws' := [(mq, .inr (3, [.ref mm, .ref m1, .ref m2, .ref mo, .ref mr, .int (bI o1), .int (bI o2), .int (bI oo), .ref mw, .int (bI men)])), (mm, .inl (cI, 256, .inl (nf M))), (m1, .inl (cI, 200, .inl (nf (rdD M (tn n) (tn a))))), (mw, .inl (cI, 80, .inl (nf (up Wv wc (48 + ((rdD M (tn n) (tn a)) (wl - 1)))))))]) 3 wc (48 + ((rdD M (tn n) (tn a)) (wl - 1))) rfl (by omega) (by decide) rfl dM_edit_746 ?_
                                  refine xg_iincN hX (lv' := [(12, .int (nI (wc + 1))), (14, .int (nI 1)), (10, .int (nI 1)), (11, .int (nI (wl - 1))), (24, .int (nI ((rdD M (tn n) (tn a)) (wl - 1)))), (0, .ref mq), (4, .int b), (6, .int (bI (!hasD (rdD M (tn n) (tn a)) 0 200))), (7, .int (bI (blM M n a))), (8, .int (nI vf)), (9, .int (nI vi)), (13, .int (nI (zn + 1))), (15, .int (nI 1)), (16, .int (nI s_)), (17, .int (nI k)), (20, .int (nI (k / 16))), (21, .int (nI (k % 16))), (22, .int (nI 1)), (23, .int (nI i))]) (wc + 1) 10 dM_edit_747 rfl (xn_inc _) (by decide) rfl ?_
                                  refine xg_iincN hX (lv' := [(23, .int (nI (i + 1))), (12, .int (nI (wc + 1))), (14, .int (nI 1)), (10, .int (nI 1)), (11, .int (nI (wl - 1))), (24, .int (nI ((rdD M (tn n) (tn a)) (wl - 1)))), (0, .ref mq), (4, .int b), (6, .int (bI (!hasD (rdD M (tn n) (tn a)) 0 200))), (7, .int (bI (blM M n a))), (8, .int (nI vf)), (9, .int (nI vi)), (13, .int (nI (zn + 1))), (15, .int (nI 1)), (16, .int (nI s_)), (17, .int (nI k)), (20, .int (nI (k / 16))), (21, .int (nI (k % 16))), (22, .int (nI 1))]) (i + 1) 18 dM_edit_750 rfl (xn_inc _) (by decide) rfl ?_
                                  refine xg_goto hX 546 dM_edit_753 (by decide) ?_
                                  refine xg_lv hX (lv' := [(0, .ref mq), (4, .int b), (6, .int (bI (!hasD (rdD M (tn n) (tn a)) 0 200))), (7, .int (bI (blM M n a))), (8, .int (nI vf)), (9, .int (nI vi)), (10, .int (nI 1)), (11, .int (nI (wl - 1))), (12, .int (nI (wc + 1))), (13, .int (nI (zn + 1))), (14, .int (nI 1)), (15, .int (nI 1)), (16, .int (nI s_)), (17, .int (nI k)), (20, .int (nI (k / 16))), (21, .int (nI (k % 16))), (22, .int (nI 1)), (23, .int (nI (i + 1)))]) [6, 7, 8, 9, 10, 11, 3, 4, 1, 12, 2, 13, 14, 15, 16, 17, 18, 0] rfl ?_
                                  refine xg_lvE (lv' := [(0, .ref mq), (4, .int b), (6, .int (bI (!hasD (rdD M (tn n) (tn a)) 0 200))), (7, .int (bI (blM M n a))), (8, .int (nI vf)), (9, .int (nI vi)), (10, .int (bI true)), (11, .int (nI (wl - 1))), (12, .int (nI (wc + 1))), (13, .int (nI (zn + 1))), (14, .int (nI 1)), (15, .int (nI 1)), (16, .int (nI s_)), (17, .int (nI k)), (20, .int (nI (k / 16))), (21, .int (nI (k % 16))), (22, .int (nI 1)), (23, .int (nI (i + 1)))]) (by rw [← (show (nI 1 : Int32) = bI true from (by first | rfl | decide))]) ?_
                                  exact ih999 (i + 1) (up Wv wc (48 + ((rdD M (tn n) (tn a)) (wl - 1)))) (wc + 1) (wl - 1) true (by omega) (by omega) (by omega) (by rw [hq2, show k % 16 - i = (k % 16 - (i + 1)) + 1 by omega, pDs_s (by omega), dg_0 h645, pWr_lt h703]; rfl) (by omega)
                              ·
                                refine xg_iload hX 10 dM_edit_648 rfl ?_
                                refine xg_bipush hX (nI 64) dM_edit_650 (by decide) ?_
                                refine xg_icmp_geN hX 659 (by omega) (by omega) dM_edit_652 (by decide) (fun h652 => ?_) (fun h652 => ?_)
                                ·
                                  refine xg_iconst hX (nI 0) dM_edit_659 (by decide) ?_
                                  refine xg_istore hX (lv' := [(14, .int (nI 0)), (11, .int (nI (wl - 1))), (24, .int (nI ((rdD M (tn n) (tn a)) (wl - 1)))), (0, .ref mq), (4, .int b), (6, .int (bI (!hasD (rdD M (tn n) (tn a)) 0 200))), (7, .int (bI (blM M n a))), (8, .int (nI vf)), (9, .int (nI vi)), (10, .int (bI ws)), (12, .int (nI wc)), (13, .int (nI (zn + 1))), (15, .int (nI 1)), (16, .int (nI s_)), (17, .int (nI k)), (20, .int (nI (k / 16))), (21, .int (nI (k % 16))), (22, .int (nI 1)), (23, .int (nI i))]) dM_edit_660 (by decide) rfl ?_
                                  refine xg_iload hX 0 dM_edit_662 rfl ?_
                                  refine xg_if_eqN hX 676 (by omega) dM_edit_664 (by decide) (fun _ => ?_) (fun h => absurd h (by decide))
                                  refine xg_iincN hX (lv' := [(12, .int (nI (wc + 1))), (14, .int (nI 0)), (11, .int (nI (wl - 1))), (24, .int (nI ((rdD M (tn n) (tn a)) (wl - 1)))), (0, .ref mq), (4, .int b), (6, .int (bI (!hasD (rdD M (tn n) (tn a)) 0 200))), (7, .int (bI (blM M n a))), (8, .int (nI vf)), (9, .int (nI vi)), (10, .int (bI ws)), (13, .int (nI (zn + 1))), (15, .int (nI 1)), (16, .int (nI s_)), (17, .int (nI k)), (20, .int (nI (k / 16))), (21, .int (nI (k % 16))), (22, .int (nI 1)), (23, .int (nI i))]) (wc + 1) 10 dM_edit_676 rfl (xn_inc _) (by decide) rfl ?_
                                  refine xg_iload hX 15 dM_edit_679 rfl ?_
                                  refine xg_bipush hX (nI 8) dM_edit_681 (by decide) ?_
                                  refine xg_icmp_leN hX 694 (by omega) (by omega) dM_edit_683 (by decide) (fun hh_1038 => absurd hh_1038 (by omega)) (fun hh_1038 => ?_)
                                  refine xg_iload hX 3 dM_edit_686 rfl ?_
                                  refine xg_if_leN hX 694 (by omega) dM_edit_688 (by decide) (fun h688 => absurd h688 (by omega)) (fun h688 => ?_)
                                  refine xg_iconst hX (nI 1) dM_edit_691 (by decide) ?_
                                  refine xg_istore hX (lv' := [(10, .int (nI 1)), (12, .int (nI (wc + 1))), (14, .int (nI 0)), (11, .int (nI (wl - 1))), (24, .int (nI ((rdD M (tn n) (tn a)) (wl - 1)))), (0, .ref mq), (4, .int b), (6, .int (bI (!hasD (rdD M (tn n) (tn a)) 0 200))), (7, .int (bI (blM M n a))), (8, .int (nI vf)), (9, .int (nI vi)), (13, .int (nI (zn + 1))), (15, .int (nI 1)), (16, .int (nI s_)), (17, .int (nI k)), (20, .int (nI (k / 16))), (21, .int (nI (k % 16))), (22, .int (nI 1)), (23, .int (nI i))]) dM_edit_692 (by decide) rfl ?_
                                  refine xg_iload hX 2 dM_edit_694 rfl ?_
                                  refine xg_if_eqN hX 710 (by omega) dM_edit_696 (by decide) (fun _ => ?_) (fun h => absurd h (by decide))
                                  refine xg_iconst hX (nI 0) dM_edit_710 (by decide) ?_
                                  refine xg_istore hX (lv' := [(14, .int (nI 0)), (10, .int (nI 1)), (12, .int (nI (wc + 1))), (11, .int (nI (wl - 1))), (24, .int (nI ((rdD M (tn n) (tn a)) (wl - 1)))), (0, .ref mq), (4, .int b), (6, .int (bI (!hasD (rdD M (tn n) (tn a)) 0 200))), (7, .int (bI (blM M n a))), (8, .int (nI vf)), (9, .int (nI vi)), (13, .int (nI (zn + 1))), (15, .int (nI 1)), (16, .int (nI s_)), (17, .int (nI k)), (20, .int (nI (k / 16))), (21, .int (nI (k % 16))), (22, .int (nI 1)), (23, .int (nI i))]) dM_edit_711 (by decide) rfl ?_
                                  refine xg_iload hX 0 dM_edit_713 rfl ?_
                                  refine xg_if_eqN hX 747 (by omega) dM_edit_715 (by decide) (fun _ => ?_) (fun h => absurd h (by decide))
                                  refine xg_iincN hX (lv' := [(12, .int (nI (wc + 1 + 1))), (14, .int (nI 0)), (10, .int (nI 1)), (11, .int (nI (wl - 1))), (24, .int (nI ((rdD M (tn n) (tn a)) (wl - 1)))), (0, .ref mq), (4, .int b), (6, .int (bI (!hasD (rdD M (tn n) (tn a)) 0 200))), (7, .int (bI (blM M n a))), (8, .int (nI vf)), (9, .int (nI vi)), (13, .int (nI (zn + 1))), (15, .int (nI 1)), (16, .int (nI s_)), (17, .int (nI k)), (20, .int (nI (k / 16))), (21, .int (nI (k % 16))), (22, .int (nI 1)), (23, .int (nI i))]) (wc + 1 + 1) 2 dM_edit_747 rfl (xn_inc _) (by decide) rfl ?_
                                  refine xg_iincN hX (lv' := [(23, .int (nI (i + 1))), (12, .int (nI (wc + 1 + 1))), (14, .int (nI 0)), (10, .int (nI 1)), (11, .int (nI (wl - 1))), (24, .int (nI ((rdD M (tn n) (tn a)) (wl - 1)))), (0, .ref mq), (4, .int b), (6, .int (bI (!hasD (rdD M (tn n) (tn a)) 0 200))), (7, .int (bI (blM M n a))), (8, .int (nI vf)), (9, .int (nI vi)), (13, .int (nI (zn + 1))), (15, .int (nI 1)), (16, .int (nI s_)), (17, .int (nI k)), (20, .int (nI (k / 16))), (21, .int (nI (k % 16))), (22, .int (nI 1))]) (i + 1) 18 dM_edit_750 rfl (xn_inc _) (by decide) rfl ?_
                                  refine xg_goto hX 546 dM_edit_753 (by decide) ?_
                                  refine xg_iload hX 2 dM_edit_546 rfl ?_
                                  refine xg_if_eqN hX 756 (by omega) dM_edit_548 (by decide) (fun _ => ?_) (fun h => absurd h (by decide))
                                  refine xg_iincN hX (lv' := [(16, .int (nI (s_ + 1))), (23, .int (nI (i + 1))), (12, .int (nI (wc + 1 + 1))), (14, .int (nI 0)), (10, .int (nI 1)), (11, .int (nI (wl - 1))), (24, .int (nI ((rdD M (tn n) (tn a)) (wl - 1)))), (0, .ref mq), (4, .int b), (6, .int (bI (!hasD (rdD M (tn n) (tn a)) 0 200))), (7, .int (bI (blM M n a))), (8, .int (nI vf)), (9, .int (nI vi)), (13, .int (nI (zn + 1))), (15, .int (nI 1)), (17, .int (nI k)), (20, .int (nI (k / 16))), (21, .int (nI (k % 16))), (22, .int (nI 1))]) (s_ + 1) 14 dM_edit_756 rfl (xn_inc _) (by decide) rfl ?_
                                  refine xg_goto hX 96 dM_edit_759 (by decide) ?_
                                  refine xg_iload hX 14 dM_edit_96 rfl ?_
                                  refine xg_if_eqN hX 762 (by omega) dM_edit_98 (by decide) (fun h => absurd h (by decide)) (fun _ => ?_)
                                  refine xg_iload hX 3 dM_edit_101 rfl ?_
                                  refine xg_if_eqN hX 762 (by omega) dM_edit_103 (by decide) (fun _ => ?_) (fun h => absurd h (by decide))
                                  refine xg_iload hX 3 dM_edit_762 rfl ?_
                                  refine xg_if_eqN hX 772 (by omega) dM_edit_764 (by decide) (fun _ => ?_) (fun h => absurd h (by decide))
                                  refine xg_bipush hX ((-2)) dM_edit_772 (by decide) ?_
                                  exact hret ((-2), M, rdD M (tn n) (tn a), Wv, men) _ _ _ rfl (show ((-2), M, men) = editM M men xw n a p b from (by have hF : edPM M xw n a p = none := (fo_no hq hnx (by omega) h168 ((ob_s (by omega)).trans (by rw [hq2, show k % 16 - i = (k % 16 - (i + 1)) + 1 by omega, pDs_s (by omega), dg_s h640 rfl h645, pWr_no h652]; rfl))); unfold editM; rw [if_pos h5, if_pos g1, hF])) dM_edit_774
                                ·
                                  refine xg_iconst hX (nI 1) dM_edit_655 (by decide) ?_
                                  refine xg_goto hX 660 dM_edit_656 (by decide) ?_
                                  refine xg_istore hX (lv' := [(14, .int (nI 1)), (11, .int (nI (wl - 1))), (24, .int (nI ((rdD M (tn n) (tn a)) (wl - 1)))), (0, .ref mq), (4, .int b), (6, .int (bI (!hasD (rdD M (tn n) (tn a)) 0 200))), (7, .int (bI (blM M n a))), (8, .int (nI vf)), (9, .int (nI vi)), (10, .int (bI ws)), (12, .int (nI wc)), (13, .int (nI (zn + 1))), (15, .int (nI 1)), (16, .int (nI s_)), (17, .int (nI k)), (20, .int (nI (k / 16))), (21, .int (nI (k % 16))), (22, .int (nI 1)), (23, .int (nI i))]) dM_edit_660 (by decide) rfl ?_
                                  refine xg_iload hX 0 dM_edit_662 rfl ?_
                                  refine xg_if_eqN hX 676 (by omega) dM_edit_664 (by decide) (fun h => absurd h (by decide)) (fun _ => ?_)
                                  refine xg_aload_n hX 3 dM_edit_667 rfl rfl ?_
                                  refine xg_get hX (ci := 3) rfl hinM 0 rfl 8 (by decide) mt_332 rfl dM_edit_668 ?_
                                  refine xg_iload hX 10 dM_edit_671 rfl ?_
                                  refine xg_iload hX 8 dM_edit_673 rfl ?_
                                  refine xg_iast hX (ws' := [(mq, .inr (3, [.ref mm, .ref m1, .ref m2, .ref mo, .ref mr, .int (bI o1), .int (bI o2), .int (bI oo), .ref mw, .int (bI men)])), (mm, .inl (cI, 256, .inl (nf M))), (m1, .inl (cI, 200, .inl (nf (rdD M (tn n) (tn a))))), (mw, .inl (cI, 80, .inl (nf (up Wv wc vi))))]) 3 wc vi rfl (by omega) (by decide) rfl dM_edit_675 ?_
                                  refine xg_iincN hX (lv' := [(12, .int (nI (wc + 1))), (14, .int (nI 1)), (11, .int (nI (wl - 1))), (24, .int (nI ((rdD M (tn n) (tn a)) (wl - 1)))), (0, .ref mq), (4, .int b), (6, .int (bI (!hasD (rdD M (tn n) (tn a)) 0 200))), (7, .int (bI (blM M n a))), (8, .int (nI vf)), (9, .int (nI vi)), (10, .int (bI ws)), (13, .int (nI (zn + 1))), (15, .int (nI 1)), (16, .int (nI s_)), (17, .int (nI k)), (20, .int (nI (k / 16))), (21, .int (nI (k % 16))), (22, .int (nI 1)), (23, .int (nI i))]) (wc + 1) 10 dM_edit_676 rfl (xn_inc _) (by decide) rfl ?_
                                  refine xg_iload hX 15 dM_edit_679 rfl ?_
                                  refine xg_bipush hX (nI 8) dM_edit_681 (by decide) ?_
                                  refine xg_icmp_leN hX 694 (by omega) (by omega) dM_edit_683 (by decide) (fun hh_1046 => absurd hh_1046 (by omega)) (fun hh_1046 => ?_)
                                  refine xg_iload hX 3 dM_edit_686 rfl ?_
                                  refine xg_if_leN hX 694 (by omega) dM_edit_688 (by decide) (fun h688 => absurd h688 (by omega)) (fun h688 => ?_)
                                  refine xg_iconst hX (nI 1) dM_edit_691 (by decide) ?_
                                  refine xg_istore hX (lv' := [(10, .int (nI 1)), (12, .int (nI (wc + 1))), (14, .int (nI 1)), (11, .int (nI (wl - 1))), (24, .int (nI ((rdD M (tn n) (tn a)) (wl - 1)))), (0, .ref mq), (4, .int b), (6, .int (bI (!hasD (rdD M (tn n) (tn a)) 0 200))), (7, .int (bI (blM M n a))), (8, .int (nI vf)), (9, .int (nI vi)), (13, .int (nI (zn + 1))), (15, .int (nI 1)), (16, .int (nI s_)), (17, .int (nI k)), (20, .int (nI (k / 16))), (21, .int (nI (k % 16))), (22, .int (nI 1)), (23, .int (nI i))]) dM_edit_692 (by decide) rfl ?_
                                  refine xg_iload hX 2 dM_edit_694 rfl ?_
                                  refine xg_if_eqN hX 710 (by omega) dM_edit_696 (by decide) (fun h => absurd h (by decide)) (fun _ => ?_)
                                  refine xg_iload hX 1 dM_edit_699 rfl ?_
                                  refine xg_bipush hX (nI 64) dM_edit_701 (by decide) ?_
                                  refine xg_icmp_geN hX 710 (by omega) (by omega) dM_edit_703 (by decide) (fun h703 => ?_) (fun h703 => ?_)
                                  ·
                                    refine xg_iconst hX (nI 0) dM_edit_710 (by decide) ?_
                                    refine xg_istore hX (lv' := [(14, .int (nI 0)), (10, .int (nI 1)), (12, .int (nI (wc + 1))), (11, .int (nI (wl - 1))), (24, .int (nI ((rdD M (tn n) (tn a)) (wl - 1)))), (0, .ref mq), (4, .int b), (6, .int (bI (!hasD (rdD M (tn n) (tn a)) 0 200))), (7, .int (bI (blM M n a))), (8, .int (nI vf)), (9, .int (nI vi)), (13, .int (nI (zn + 1))), (15, .int (nI 1)), (16, .int (nI s_)), (17, .int (nI k)), (20, .int (nI (k / 16))), (21, .int (nI (k % 16))), (22, .int (nI 1)), (23, .int (nI i))]) dM_edit_711 (by decide) rfl ?_
                                    refine xg_iload hX 0 dM_edit_713 rfl ?_
                                    refine xg_if_eqN hX 747 (by omega) dM_edit_715 (by decide) (fun _ => ?_) (fun h => absurd h (by decide))
                                    refine xg_iincN hX (lv' := [(12, .int (nI (wc + 1 + 1))), (14, .int (nI 0)), (10, .int (nI 1)), (11, .int (nI (wl - 1))), (24, .int (nI ((rdD M (tn n) (tn a)) (wl - 1)))), (0, .ref mq), (4, .int b), (6, .int (bI (!hasD (rdD M (tn n) (tn a)) 0 200))), (7, .int (bI (blM M n a))), (8, .int (nI vf)), (9, .int (nI vi)), (13, .int (nI (zn + 1))), (15, .int (nI 1)), (16, .int (nI s_)), (17, .int (nI k)), (20, .int (nI (k / 16))), (21, .int (nI (k % 16))), (22, .int (nI 1)), (23, .int (nI i))]) (wc + 1 + 1) 2 dM_edit_747 rfl (xn_inc _) (by decide) rfl ?_
                                    refine xg_iincN hX (lv' := [(23, .int (nI (i + 1))), (12, .int (nI (wc + 1 + 1))), (14, .int (nI 0)), (10, .int (nI 1)), (11, .int (nI (wl - 1))), (24, .int (nI ((rdD M (tn n) (tn a)) (wl - 1)))), (0, .ref mq), (4, .int b), (6, .int (bI (!hasD (rdD M (tn n) (tn a)) 0 200))), (7, .int (bI (blM M n a))), (8, .int (nI vf)), (9, .int (nI vi)), (13, .int (nI (zn + 1))), (15, .int (nI 1)), (16, .int (nI s_)), (17, .int (nI k)), (20, .int (nI (k / 16))), (21, .int (nI (k % 16))), (22, .int (nI 1))]) (i + 1) 18 dM_edit_750 rfl (xn_inc _) (by decide) rfl ?_
                                    refine xg_goto hX 546 dM_edit_753 (by decide) ?_
                                    refine xg_iload hX 2 dM_edit_546 rfl ?_
                                    refine xg_if_eqN hX 756 (by omega) dM_edit_548 (by decide) (fun _ => ?_) (fun h => absurd h (by decide))
                                    refine xg_iincN hX (lv' := [(16, .int (nI (s_ + 1))), (23, .int (nI (i + 1))), (12, .int (nI (wc + 1 + 1))), (14, .int (nI 0)), (10, .int (nI 1)), (11, .int (nI (wl - 1))), (24, .int (nI ((rdD M (tn n) (tn a)) (wl - 1)))), (0, .ref mq), (4, .int b), (6, .int (bI (!hasD (rdD M (tn n) (tn a)) 0 200))), (7, .int (bI (blM M n a))), (8, .int (nI vf)), (9, .int (nI vi)), (13, .int (nI (zn + 1))), (15, .int (nI 1)), (17, .int (nI k)), (20, .int (nI (k / 16))), (21, .int (nI (k % 16))), (22, .int (nI 1))]) (s_ + 1) 14 dM_edit_756 rfl (xn_inc _) (by decide) rfl ?_
                                    refine xg_goto hX 96 dM_edit_759 (by decide) ?_
                                    refine xg_iload hX 14 dM_edit_96 rfl ?_
                                    refine xg_if_eqN hX 762 (by omega) dM_edit_98 (by decide) (fun h => absurd h (by decide)) (fun _ => ?_)
                                    refine xg_iload hX 3 dM_edit_101 rfl ?_
                                    refine xg_if_eqN hX 762 (by omega) dM_edit_103 (by decide) (fun _ => ?_) (fun h => absurd h (by decide))
                                    refine xg_iload hX 3 dM_edit_762 rfl ?_
                                    refine xg_if_eqN hX 772 (by omega) dM_edit_764 (by decide) (fun _ => ?_) (fun h => absurd h (by decide))
                                    refine xg_bipush hX ((-2)) dM_edit_772 (by decide) ?_
                                    exact hret ((-2), M, rdD M (tn n) (tn a), up Wv wc vi, men) _ _ _ rfl (show ((-2), M, men) = editM M men xw n a p b from (by have hF : edPM M xw n a p = none := (fo_no hq hnx (by omega) h168 ((ob_s (by omega)).trans (by rw [hq2, show k % 16 - i = (k % 16 - (i + 1)) + 1 by omega, pDs_s (by omega), dg_s h640 rfl h645, pWr_lt h652]; show Option.bind (pWr _ (up Wv wc vi, wc + 1, wl - 1, true, vf, vi)) _ = none; rw [pWr_no h703]; rfl))); unfold editM; rw [if_pos h5, if_pos g1, hF])) dM_edit_774
                                  ·
                                    refine xg_iconst hX (nI 1) dM_edit_706 (by decide) ?_
                                    refine xg_goto hX 711 dM_edit_707 (by decide) ?_
                                    refine xg_istore hX (lv' := [(14, .int (nI 1)), (10, .int (nI 1)), (12, .int (nI (wc + 1))), (11, .int (nI (wl - 1))), (24, .int (nI ((rdD M (tn n) (tn a)) (wl - 1)))), (0, .ref mq), (4, .int b), (6, .int (bI (!hasD (rdD M (tn n) (tn a)) 0 200))), (7, .int (bI (blM M n a))), (8, .int (nI vf)), (9, .int (nI vi)), (13, .int (nI (zn + 1))), (15, .int (nI 1)), (16, .int (nI s_)), (17, .int (nI k)), (20, .int (nI (k / 16))), (21, .int (nI (k % 16))), (22, .int (nI 1)), (23, .int (nI i))]) dM_edit_711 (by decide) rfl ?_
                                    refine xg_iload hX 0 dM_edit_713 rfl ?_
                                    refine xg_if_eqN hX 747 (by omega) dM_edit_715 (by decide) (fun h => absurd h (by decide)) (fun _ => ?_)
                                    refine xg_aload_n hX 5 dM_edit_718 rfl rfl ?_
                                    refine xg_get hX (ci := 3) rfl hinM 0 rfl 8 (by decide) mt_332 rfl dM_edit_719 ?_
                                    refine xg_iload hX 2 dM_edit_722 rfl ?_
                                    refine xg_iload hX 15 dM_edit_724 rfl ?_
                                    refine xg_bipush hX (nI 8) dM_edit_726 (by decide) ?_
                                    refine xg_icmp_leN hX 744 (by omega) (by omega) dM_edit_728 (by decide) (fun hh_1054 => absurd hh_1054 (by omega)) (fun hh_1054 => ?_)
                                    refine xg_iload hX 1 dM_edit_731 rfl ?_
                                    refine xg_if_eqN hX 744 (by omega) dM_edit_733 (by decide) (fun h => absurd h (by decide)) (fun _ => ?_)
                                    refine xg_bipush hX (nI 48) dM_edit_736 (by decide) ?_
                                    refine xg_iload hX 4 dM_edit_738 rfl ?_
                                    refine xg_iaddN hX dM_edit_740 ?_
                                    refine xg_goto hX 746 dM_edit_741 (by decide) ?_
                                    refine xg_iast hX (ws' := [(mq, .inr (3, [.ref mm, .ref m1, .ref m2, .ref mo, .ref mr, .int (bI o1), .int (bI o2), .int (bI oo), .ref mw, .int (bI men)])), (mm, .inl (cI, 256, .inl (nf M))), (m1, .inl (cI, 200, .inl (nf (rdD M (tn n) (tn a))))), (mw, .inl (cI, 80, .inl (nf (up (up Wv wc vi) (wc + 1) (48 + ((rdD M (tn n) (tn a)) (wl - 1)))))))]) 3 (wc + 1) (48 + ((rdD M (tn n) (tn a)) (wl - 1))) rfl (by omega) (by decide) rfl dM_edit_746 ?_
                                    refine xg_iincN hX (lv' := [(12, .int (nI (wc + 1 + 1))), (14, .int (nI 1)), (10, .int (nI 1)), (11, .int (nI (wl - 1))), (24, .int (nI ((rdD M (tn n) (tn a)) (wl - 1)))), (0, .ref mq), (4, .int b), (6, .int (bI (!hasD (rdD M (tn n) (tn a)) 0 200))), (7, .int (bI (blM M n a))), (8, .int (nI vf)), (9, .int (nI vi)), (13, .int (nI (zn + 1))), (15, .int (nI 1)), (16, .int (nI s_)), (17, .int (nI k)), (20, .int (nI (k / 16))), (21, .int (nI (k % 16))), (22, .int (nI 1)), (23, .int (nI i))]) (wc + 1 + 1) 2 dM_edit_747 rfl (xn_inc _) (by decide) rfl ?_
                                    refine xg_iincN hX (lv' := [(23, .int (nI (i + 1))), (12, .int (nI (wc + 1 + 1))), (14, .int (nI 1)), (10, .int (nI 1)), (11, .int (nI (wl - 1))), (24, .int (nI ((rdD M (tn n) (tn a)) (wl - 1)))), (0, .ref mq), (4, .int b), (6, .int (bI (!hasD (rdD M (tn n) (tn a)) 0 200))), (7, .int (bI (blM M n a))), (8, .int (nI vf)), (9, .int (nI vi)), (13, .int (nI (zn + 1))), (15, .int (nI 1)), (16, .int (nI s_)), (17, .int (nI k)), (20, .int (nI (k / 16))), (21, .int (nI (k % 16))), (22, .int (nI 1))]) (i + 1) 18 dM_edit_750 rfl (xn_inc _) (by decide) rfl ?_
                                    refine xg_goto hX 546 dM_edit_753 (by decide) ?_
                                    refine xg_lv hX (lv' := [(0, .ref mq), (4, .int b), (6, .int (bI (!hasD (rdD M (tn n) (tn a)) 0 200))), (7, .int (bI (blM M n a))), (8, .int (nI vf)), (9, .int (nI vi)), (10, .int (nI 1)), (11, .int (nI (wl - 1))), (12, .int (nI (wc + 1 + 1))), (13, .int (nI (zn + 1))), (14, .int (nI 1)), (15, .int (nI 1)), (16, .int (nI s_)), (17, .int (nI k)), (20, .int (nI (k / 16))), (21, .int (nI (k % 16))), (22, .int (nI 1)), (23, .int (nI (i + 1)))]) [6, 7, 8, 9, 10, 11, 3, 4, 1, 12, 2, 13, 14, 15, 16, 17, 18, 0] rfl ?_
                                    refine xg_lvE (lv' := [(0, .ref mq), (4, .int b), (6, .int (bI (!hasD (rdD M (tn n) (tn a)) 0 200))), (7, .int (bI (blM M n a))), (8, .int (nI vf)), (9, .int (nI vi)), (10, .int (bI true)), (11, .int (nI (wl - 1))), (12, .int (nI (wc + 1 + 1))), (13, .int (nI (zn + 1))), (14, .int (nI 1)), (15, .int (nI 1)), (16, .int (nI s_)), (17, .int (nI k)), (20, .int (nI (k / 16))), (21, .int (nI (k % 16))), (22, .int (nI 1)), (23, .int (nI (i + 1)))]) (by rw [← (show (nI 1 : Int32) = bI true from (by first | rfl | decide))]) ?_
                                    exact ih999 (i + 1) (up (up Wv wc vi) (wc + 1) (48 + ((rdD M (tn n) (tn a)) (wl - 1)))) (wc + 1 + 1) (wl - 1) true (by omega) (by omega) (by omega) (by rw [hq2, show k % 16 - i = (k % 16 - (i + 1)) + 1 by omega, pDs_s (by omega), dg_s h640 rfl h645, pWr_lt h652]; show (pWr _ (up Wv wc vi, wc + 1, wl - 1, true, vf, vi)).bind _ = _; rw [pWr_lt h703]; rfl) (by omega)
                    refine xg_lv hX (lv' := [(0, .ref mq), (4, .int b), (6, .int (bI (!hasD (rdD M (tn n) (tn a)) 0 200))), (7, .int (bI (blM M n a))), (8, .int (nI vf)), (9, .int (nI vi)), (10, .int (bI vs)), (11, .int (nI vl)), (12, .int (nI vc)), (13, .int (nI (zn + 1))), (14, .int (nI 1)), (15, .int (nI 1)), (16, .int (nI s_)), (17, .int (nI k)), (20, .int (nI (k / 16))), (21, .int (nI (k % 16))), (22, .int (nI 1)), (23, .int (nI 0))]) [10, 11, 12, 13, 14, 15, 16, 17, 18, 8, 1, 7, 19, 9, 4, 3, 2, 0] rfl ?_
                    exact lp997 (k % 16 - 0 + 1) 0 Vw vc vl vs (by omega) hvc hvl rfl (Nat.lt_succ_self _)
                  ·
                    refine xg_iload hX 0 dM_edit_171 rfl ?_
                    refine xg_if_neN hX 180 (by omega) dM_edit_173 (by decide) (fun _ => ?_) (fun h => absurd h (by decide))
                    refine xg_iconst hX (nI 0) dM_edit_180 (by decide) ?_
                    refine xg_istore hX (lv' := [(14, .int (nI 0)), (15, .int (nI 1)), (13, .int (nI (zn + 1))), (17, .int (nI k)), (0, .ref mq), (4, .int b), (6, .int (bI (!hasD (rdD M (tn n) (tn a)) 0 200))), (7, .int (bI (blM M n a))), (8, .int (nI vf)), (9, .int (nI vi)), (10, .int (bI vs)), (11, .int (nI vl)), (12, .int (nI vc)), (16, .int (nI s_))]) dM_edit_181 (by decide) rfl ?_
                    refine xg_iload hX 3 dM_edit_183 rfl ?_
                    refine xg_iconst hX (nI 4) dM_edit_185 (by decide) ?_
                    refine xg_icmp_ltN hX 200 (by omega) (by omega) dM_edit_186 (by decide) (fun hh_1056 => absurd hh_1056 (by omega)) (fun hh_1056 => ?_)
                    refine xg_iload hX 3 dM_edit_189 rfl ?_
                    refine xg_bipush hX (nI 8) dM_edit_191 (by decide) ?_
                    refine xg_icmp_gtN hX 200 (by omega) (by omega) dM_edit_193 (by decide) (fun hh_1057 => ?_) (fun hh_1057 => absurd hh_1057 (by omega))
                    refine xg_iconst hX (nI 0) dM_edit_200 (by decide) ?_
                    refine xg_istore hX (lv' := [(18, .int (nI 0)), (14, .int (nI 0)), (15, .int (nI 1)), (13, .int (nI (zn + 1))), (17, .int (nI k)), (0, .ref mq), (4, .int b), (6, .int (bI (!hasD (rdD M (tn n) (tn a)) 0 200))), (7, .int (bI (blM M n a))), (8, .int (nI vf)), (9, .int (nI vi)), (10, .int (bI vs)), (11, .int (nI vl)), (12, .int (nI vc)), (16, .int (nI s_))]) dM_edit_201 (by decide) rfl ?_
                    refine xg_iload hX 0 dM_edit_203 rfl ?_
                    refine xg_if_eqN hX 228 (by omega) dM_edit_205 (by decide) (fun _ => ?_) (fun h => absurd h (by decide))
                    refine xg_iload hX 0 dM_edit_228 rfl ?_
                    refine xg_if_eqN hX 248 (by omega) dM_edit_230 (by decide) (fun _ => ?_) (fun h => absurd h (by decide))
                    refine xg_iconst hX (nI 0) dM_edit_248 (by decide) ?_
                    refine xg_istore hX (lv' := [(19, .int (nI 0)), (18, .int (nI 0)), (14, .int (nI 0)), (15, .int (nI 1)), (13, .int (nI (zn + 1))), (17, .int (nI k)), (0, .ref mq), (4, .int b), (6, .int (bI (!hasD (rdD M (tn n) (tn a)) 0 200))), (7, .int (bI (blM M n a))), (8, .int (nI vf)), (9, .int (nI vi)), (10, .int (bI vs)), (11, .int (nI vl)), (12, .int (nI vc)), (16, .int (nI s_))]) dM_edit_249 (by decide) rfl ?_
                    refine xg_iload hX 1 dM_edit_251 rfl ?_
                    refine xg_if_eqN hX 259 (by omega) dM_edit_253 (by decide) (fun _ => ?_) (fun h => absurd h (by decide))
                    refine xg_iload hX 5 dM_edit_259 rfl ?_
                    refine xg_bipush hX (nI 16) dM_edit_261 (by decide) ?_
                    refine xg_idivN hX (by omega) (by omega) (by omega) dM_edit_263 ?_
                    refine xg_istore hX (lv' := [(20, .int (nI (k / 16))), (19, .int (nI 0)), (18, .int (nI 0)), (14, .int (nI 0)), (15, .int (nI 1)), (13, .int (nI (zn + 1))), (17, .int (nI k)), (0, .ref mq), (4, .int b), (6, .int (bI (!hasD (rdD M (tn n) (tn a)) 0 200))), (7, .int (bI (blM M n a))), (8, .int (nI vf)), (9, .int (nI vi)), (10, .int (bI vs)), (11, .int (nI vl)), (12, .int (nI vc)), (16, .int (nI s_))]) dM_edit_264 (by decide) rfl ?_
                    refine xg_iload hX 6 dM_edit_266 rfl ?_
                    refine xg_bipush hX (nI 16) dM_edit_268 (by decide) ?_
                    refine xg_iremN hX (by omega) (by omega) (by omega) dM_edit_270 ?_
                    refine xg_istore hX (lv' := [(21, .int (nI (k % 16))), (20, .int (nI (k / 16))), (19, .int (nI 0)), (18, .int (nI 0)), (14, .int (nI 0)), (15, .int (nI 1)), (13, .int (nI (zn + 1))), (17, .int (nI k)), (0, .ref mq), (4, .int b), (6, .int (bI (!hasD (rdD M (tn n) (tn a)) 0 200))), (7, .int (bI (blM M n a))), (8, .int (nI vf)), (9, .int (nI vi)), (10, .int (bI vs)), (11, .int (nI vl)), (12, .int (nI vc)), (16, .int (nI s_))]) dM_edit_271 (by decide) rfl ?_
                    refine xg_iload hX 1 dM_edit_273 rfl ?_
                    refine xg_bipush hX (nI 8) dM_edit_275 (by decide) ?_
                    refine xg_icmp_ltN hX 296 (by omega) (by omega) dM_edit_277 (by decide) (fun hh_1061 => absurd hh_1061 (by omega)) (fun hh_1061 => ?_)
                    refine xg_iload hX 1 dM_edit_280 rfl ?_
                    refine xg_bipush hX (nI 10) dM_edit_282 (by decide) ?_
                    refine xg_icmp_gtN hX 296 (by omega) (by omega) dM_edit_284 (by decide) (fun hh_1062 => absurd hh_1062 (by omega)) (fun hh_1062 => ?_)
                    refine xg_iload hX 0 dM_edit_287 rfl ?_
                    refine xg_if_leN hX 296 (by omega) dM_edit_289 (by decide) (fun hh_1063 => absurd hh_1063 (by omega)) (fun hh_1063 => ?_)
                    refine xg_iconst hX (nI 1) dM_edit_292 (by decide) ?_
                    refine xg_goto hX 297 dM_edit_293 (by decide) ?_
                    refine xg_istore hX (lv' := [(22, .int (nI 1)), (21, .int (nI (k % 16))), (20, .int (nI (k / 16))), (19, .int (nI 0)), (18, .int (nI 0)), (14, .int (nI 0)), (15, .int (nI 1)), (13, .int (nI (zn + 1))), (17, .int (nI k)), (0, .ref mq), (4, .int b), (6, .int (bI (!hasD (rdD M (tn n) (tn a)) 0 200))), (7, .int (bI (blM M n a))), (8, .int (nI vf)), (9, .int (nI vi)), (10, .int (bI vs)), (11, .int (nI vl)), (12, .int (nI vc)), (16, .int (nI s_))]) dM_edit_297 (by decide) rfl ?_
                    refine xg_iload hX 5 dM_edit_299 rfl ?_
                    refine xg_if_eqN hX 320 (by omega) dM_edit_301 (by decide) (fun _ => ?_) (fun h => absurd h (by decide))
                    refine xg_iconst hX (nI 0) dM_edit_320 (by decide) ?_
                    refine xg_istore hX (lv' := [(14, .int (nI 0)), (22, .int (nI 1)), (21, .int (nI (k % 16))), (20, .int (nI (k / 16))), (19, .int (nI 0)), (18, .int (nI 0)), (15, .int (nI 1)), (13, .int (nI (zn + 1))), (17, .int (nI k)), (0, .ref mq), (4, .int b), (6, .int (bI (!hasD (rdD M (tn n) (tn a)) 0 200))), (7, .int (bI (blM M n a))), (8, .int (nI vf)), (9, .int (nI vi)), (10, .int (bI vs)), (11, .int (nI vl)), (12, .int (nI vc)), (16, .int (nI s_))]) dM_edit_321 (by decide) rfl ?_
                    refine xg_iload hX 0 dM_edit_323 rfl ?_
                    refine xg_if_eqN hX 337 (by omega) dM_edit_325 (by decide) (fun _ => ?_) (fun h => absurd h (by decide))
                    refine xg_iload hX 0 dM_edit_337 rfl ?_
                    refine xg_if_eqN hX 351 (by omega) dM_edit_339 (by decide) (fun _ => ?_) (fun h => absurd h (by decide))
                    refine xg_iload hX 0 dM_edit_351 rfl ?_
                    refine xg_if_eqN hX 366 (by omega) dM_edit_353 (by decide) (fun _ => ?_) (fun h => absurd h (by decide))
                    refine xg_iload hX 0 dM_edit_366 rfl ?_
                    refine xg_if_eqN hX 386 (by omega) dM_edit_368 (by decide) (fun _ => ?_) (fun h => absurd h (by decide))
                    refine xg_iload hX 0 dM_edit_386 rfl ?_
                    refine xg_if_eqN hX 407 (by omega) dM_edit_388 (by decide) (fun _ => ?_) (fun h => absurd h (by decide))
                    refine xg_iload hX 0 dM_edit_407 rfl ?_
                    refine xg_if_eqN hX 473 (by omega) dM_edit_409 (by decide) (fun _ => ?_) (fun h => absurd h (by decide))
                    refine xg_iload hX 0 dM_edit_473 rfl ?_
                    refine xg_if_eqN hX 543 (by omega) dM_edit_475 (by decide) (fun _ => ?_) (fun h => absurd h (by decide))
                    refine xg_iconst hX (nI 0) dM_edit_543 (by decide) ?_
                    refine xg_istore hX (lv' := [(23, .int (nI 0)), (14, .int (nI 0)), (22, .int (nI 1)), (21, .int (nI (k % 16))), (20, .int (nI (k / 16))), (19, .int (nI 0)), (18, .int (nI 0)), (15, .int (nI 1)), (13, .int (nI (zn + 1))), (17, .int (nI k)), (0, .ref mq), (4, .int b), (6, .int (bI (!hasD (rdD M (tn n) (tn a)) 0 200))), (7, .int (bI (blM M n a))), (8, .int (nI vf)), (9, .int (nI vi)), (10, .int (bI vs)), (11, .int (nI vl)), (12, .int (nI vc)), (16, .int (nI s_))]) dM_edit_544 (by decide) rfl ?_
                    refine xg_iload hX 1 dM_edit_546 rfl ?_
                    refine xg_if_eqN hX 756 (by omega) dM_edit_548 (by decide) (fun _ => ?_) (fun h => absurd h (by decide))
                    refine xg_iincN hX (lv' := [(16, .int (nI (s_ + 1))), (23, .int (nI 0)), (14, .int (nI 0)), (22, .int (nI 1)), (21, .int (nI (k % 16))), (20, .int (nI (k / 16))), (19, .int (nI 0)), (18, .int (nI 0)), (15, .int (nI 1)), (13, .int (nI (zn + 1))), (17, .int (nI k)), (0, .ref mq), (4, .int b), (6, .int (bI (!hasD (rdD M (tn n) (tn a)) 0 200))), (7, .int (bI (blM M n a))), (8, .int (nI vf)), (9, .int (nI vi)), (10, .int (bI vs)), (11, .int (nI vl)), (12, .int (nI vc))]) (s_ + 1) 19 dM_edit_756 rfl (xn_inc _) (by decide) rfl ?_
                    refine xg_goto hX 96 dM_edit_759 (by decide) ?_
                    refine xg_iload hX 8 dM_edit_96 rfl ?_
                    refine xg_if_eqN hX 762 (by omega) dM_edit_98 (by decide) (fun h => absurd h (by decide)) (fun _ => ?_)
                    refine xg_iload hX 2 dM_edit_101 rfl ?_
                    refine xg_if_eqN hX 762 (by omega) dM_edit_103 (by decide) (fun _ => ?_) (fun h => absurd h (by decide))
                    refine xg_iload hX 2 dM_edit_762 rfl ?_
                    refine xg_if_eqN hX 772 (by omega) dM_edit_764 (by decide) (fun _ => ?_) (fun h => absurd h (by decide))
                    refine xg_bipush hX ((-2)) dM_edit_772 (by decide) ?_
                    exact hret ((-2), M, rdD M (tn n) (tn a), Vw, men) _ _ _ rfl (show ((-2), M, men) = editM M men xw n a p b from (by have hF : edPM M xw n a p = none := (fo_la hq hnx (by omega) (by omega)); unfold editM; rw [if_pos h5, if_pos g1, hF])) dM_edit_774
                ·
                  refine xg_iload hX 9 dM_edit_106 rfl ?_
                  refine xg_if_ltN hX 123 (by omega) dM_edit_108 (by decide) ?_
                  refine xg_iload hX 9 dM_edit_111 rfl ?_
                  refine xg_sipush hX (nI 256) dM_edit_113 (by decide) ?_
                  refine xg_icmp_geN hX 123 (by omega) (by omega) dM_edit_116 (by decide) (fun h116 => absurd h116 (by omega)) (fun h116 => ?_)
                  refine xg_iconst hX (nI 1) dM_edit_119 (by decide) ?_
                  refine xg_goto hX 124 dM_edit_120 (by decide) ?_
                  refine xg_istore hX (lv' := [(14, .int (nI 1)), (0, .ref mq), (4, .int b), (6, .int (bI (!hasD (rdD M (tn n) (tn a)) 0 200))), (7, .int (bI (blM M n a))), (8, .int (nI vf)), (9, .int (nI vi)), (10, .int (bI vs)), (11, .int (nI vl)), (12, .int (nI vc)), (13, .int (nI zn)), (15, .int (nI 1)), (16, .int (nI s_))]) dM_edit_124 (by decide) rfl ?_
                  refine xg_iload hX 0 dM_edit_126 rfl ?_
                  refine xg_if_eqN hX 141 (by omega) dM_edit_128 (by decide) (fun h => absurd h (by decide)) (fun _ => ?_)
                  refine xg_aload_n hX 1 dM_edit_131 rfl rfl ?_
                  refine xg_get hX (ci := 3) rfl hinM 0 rfl 0 (by decide) mt_324 rfl dM_edit_132 ?_
                  refine xg_iload hX 10 dM_edit_135 rfl ?_
                  refine xg_iald hX 1 zn rfl (by omega) (by decide) dM_edit_137 ?_
                  refine xg_top (nI k) (by rw [hk4]) ?_
                  refine xg_goto hX 142 dM_edit_138 (by decide) ?_
                  refine xg_istore hX (lv' := [(17, .int (nI k)), (14, .int (nI 1)), (0, .ref mq), (4, .int b), (6, .int (bI (!hasD (rdD M (tn n) (tn a)) 0 200))), (7, .int (bI (blM M n a))), (8, .int (nI vf)), (9, .int (nI vi)), (10, .int (bI vs)), (11, .int (nI vl)), (12, .int (nI vc)), (13, .int (nI zn)), (15, .int (nI 1)), (16, .int (nI s_))]) dM_edit_142 (by decide) rfl ?_
                  refine xg_iincN hX (lv' := [(13, .int (nI (zn + 1))), (17, .int (nI k)), (14, .int (nI 1)), (0, .ref mq), (4, .int b), (6, .int (bI (!hasD (rdD M (tn n) (tn a)) 0 200))), (7, .int (bI (blM M n a))), (8, .int (nI vf)), (9, .int (nI vi)), (10, .int (bI vs)), (11, .int (nI vl)), (12, .int (nI vc)), (15, .int (nI 1)), (16, .int (nI s_))]) (zn + 1) 11 dM_edit_144 rfl (xn_inc _) (by decide) rfl ?_
                  refine xg_iload hX 1 dM_edit_147 rfl ?_
                  refine xg_if_eqN hX 156 (by omega) dM_edit_149 (by decide) (fun hh_1077 => absurd hh_1077 (by omega)) (fun hh_1077 => ?_)
                  refine xg_iconst hX (nI 1) dM_edit_152 (by decide) ?_
                  refine xg_goto hX 157 dM_edit_153 (by decide) ?_
                  refine xg_istore hX (lv' := [(15, .int (nI 1)), (13, .int (nI (zn + 1))), (17, .int (nI k)), (14, .int (nI 1)), (0, .ref mq), (4, .int b), (6, .int (bI (!hasD (rdD M (tn n) (tn a)) 0 200))), (7, .int (bI (blM M n a))), (8, .int (nI vf)), (9, .int (nI vi)), (10, .int (bI vs)), (11, .int (nI vl)), (12, .int (nI vc)), (16, .int (nI s_))]) dM_edit_157 (by decide) rfl ?_
                  refine xg_iload hX 3 dM_edit_159 rfl ?_
                  refine xg_if_eqN hX 180 (by omega) dM_edit_161 (by decide) (fun h => absurd h (by decide)) (fun _ => ?_)
                  refine xg_iload hX 13 dM_edit_164 rfl ?_
                  refine xg_bipush hX (nI 64) dM_edit_166 (by decide) ?_
                  refine xg_icmp_ltN hX 176 (by omega) (by omega) dM_edit_168 (by decide) (fun h168 => ?_) (fun h168 => ?_)
                  ·
                    refine xg_iconst hX (nI 1) dM_edit_176 (by decide) ?_
                    refine xg_goto hX 181 dM_edit_177 (by decide) ?_
                    refine xg_istore hX (lv' := [(14, .int (nI 1)), (15, .int (nI 1)), (13, .int (nI (zn + 1))), (17, .int (nI k)), (0, .ref mq), (4, .int b), (6, .int (bI (!hasD (rdD M (tn n) (tn a)) 0 200))), (7, .int (bI (blM M n a))), (8, .int (nI vf)), (9, .int (nI vi)), (10, .int (bI vs)), (11, .int (nI vl)), (12, .int (nI vc)), (16, .int (nI s_))]) dM_edit_181 (by decide) rfl ?_
                    refine xg_iload hX 3 dM_edit_183 rfl ?_
                    refine xg_iconst hX (nI 4) dM_edit_185 (by decide) ?_
                    refine xg_icmp_ltN hX 200 (by omega) (by omega) dM_edit_186 (by decide) (fun hh_1079 => absurd hh_1079 (by omega)) (fun hh_1079 => ?_)
                    refine xg_iload hX 3 dM_edit_189 rfl ?_
                    refine xg_bipush hX (nI 8) dM_edit_191 (by decide) ?_
                    refine xg_icmp_gtN hX 200 (by omega) (by omega) dM_edit_193 (by decide) (fun hh_1080 => ?_) (fun hh_1080 => absurd hh_1080 (by omega))
                    refine xg_iconst hX (nI 0) dM_edit_200 (by decide) ?_
                    refine xg_istore hX (lv' := [(18, .int (nI 0)), (14, .int (nI 1)), (15, .int (nI 1)), (13, .int (nI (zn + 1))), (17, .int (nI k)), (0, .ref mq), (4, .int b), (6, .int (bI (!hasD (rdD M (tn n) (tn a)) 0 200))), (7, .int (bI (blM M n a))), (8, .int (nI vf)), (9, .int (nI vi)), (10, .int (bI vs)), (11, .int (nI vl)), (12, .int (nI vc)), (16, .int (nI s_))]) dM_edit_201 (by decide) rfl ?_
                    refine xg_iload hX 0 dM_edit_203 rfl ?_
                    refine xg_if_eqN hX 228 (by omega) dM_edit_205 (by decide) (fun _ => ?_) (fun h => absurd h (by decide))
                    refine xg_iload hX 0 dM_edit_228 rfl ?_
                    refine xg_if_eqN hX 248 (by omega) dM_edit_230 (by decide) (fun _ => ?_) (fun h => absurd h (by decide))
                    refine xg_iconst hX (nI 0) dM_edit_248 (by decide) ?_
                    refine xg_istore hX (lv' := [(19, .int (nI 0)), (18, .int (nI 0)), (14, .int (nI 1)), (15, .int (nI 1)), (13, .int (nI (zn + 1))), (17, .int (nI k)), (0, .ref mq), (4, .int b), (6, .int (bI (!hasD (rdD M (tn n) (tn a)) 0 200))), (7, .int (bI (blM M n a))), (8, .int (nI vf)), (9, .int (nI vi)), (10, .int (bI vs)), (11, .int (nI vl)), (12, .int (nI vc)), (16, .int (nI s_))]) dM_edit_249 (by decide) rfl ?_
                    refine xg_iload hX 1 dM_edit_251 rfl ?_
                    refine xg_if_eqN hX 259 (by omega) dM_edit_253 (by decide) (fun _ => ?_) (fun h => absurd h (by decide))
                    refine xg_iload hX 5 dM_edit_259 rfl ?_
                    refine xg_bipush hX (nI 16) dM_edit_261 (by decide) ?_
                    refine xg_idivN hX (by omega) (by omega) (by omega) dM_edit_263 ?_
                    refine xg_istore hX (lv' := [(20, .int (nI (k / 16))), (19, .int (nI 0)), (18, .int (nI 0)), (14, .int (nI 1)), (15, .int (nI 1)), (13, .int (nI (zn + 1))), (17, .int (nI k)), (0, .ref mq), (4, .int b), (6, .int (bI (!hasD (rdD M (tn n) (tn a)) 0 200))), (7, .int (bI (blM M n a))), (8, .int (nI vf)), (9, .int (nI vi)), (10, .int (bI vs)), (11, .int (nI vl)), (12, .int (nI vc)), (16, .int (nI s_))]) dM_edit_264 (by decide) rfl ?_
                    refine xg_iload hX 6 dM_edit_266 rfl ?_
                    refine xg_bipush hX (nI 16) dM_edit_268 (by decide) ?_
                    refine xg_iremN hX (by omega) (by omega) (by omega) dM_edit_270 ?_
                    refine xg_istore hX (lv' := [(21, .int (nI (k % 16))), (20, .int (nI (k / 16))), (19, .int (nI 0)), (18, .int (nI 0)), (14, .int (nI 1)), (15, .int (nI 1)), (13, .int (nI (zn + 1))), (17, .int (nI k)), (0, .ref mq), (4, .int b), (6, .int (bI (!hasD (rdD M (tn n) (tn a)) 0 200))), (7, .int (bI (blM M n a))), (8, .int (nI vf)), (9, .int (nI vi)), (10, .int (bI vs)), (11, .int (nI vl)), (12, .int (nI vc)), (16, .int (nI s_))]) dM_edit_271 (by decide) rfl ?_
                    refine xg_iload hX 1 dM_edit_273 rfl ?_
                    refine xg_bipush hX (nI 8) dM_edit_275 (by decide) ?_
                    refine xg_icmp_ltN hX 296 (by omega) (by omega) dM_edit_277 (by decide) (fun hh_1084 => absurd hh_1084 (by omega)) (fun hh_1084 => ?_)
                    refine xg_iload hX 1 dM_edit_280 rfl ?_
                    refine xg_bipush hX (nI 10) dM_edit_282 (by decide) ?_
                    refine xg_icmp_gtN hX 296 (by omega) (by omega) dM_edit_284 (by decide) (fun hh_1085 => ?_) (fun hh_1085 => absurd hh_1085 (by omega))
                    refine xg_iconst hX (nI 0) dM_edit_296 (by decide) ?_
                    refine xg_istore hX (lv' := [(22, .int (nI 0)), (21, .int (nI (k % 16))), (20, .int (nI (k / 16))), (19, .int (nI 0)), (18, .int (nI 0)), (14, .int (nI 1)), (15, .int (nI 1)), (13, .int (nI (zn + 1))), (17, .int (nI k)), (0, .ref mq), (4, .int b), (6, .int (bI (!hasD (rdD M (tn n) (tn a)) 0 200))), (7, .int (bI (blM M n a))), (8, .int (nI vf)), (9, .int (nI vi)), (10, .int (bI vs)), (11, .int (nI vl)), (12, .int (nI vc)), (16, .int (nI s_))]) dM_edit_297 (by decide) rfl ?_
                    refine xg_iload hX 5 dM_edit_299 rfl ?_
                    refine xg_if_eqN hX 320 (by omega) dM_edit_301 (by decide) (fun h => absurd h (by decide)) (fun _ => ?_)
                    refine xg_iload hX 8 dM_edit_304 rfl ?_
                    refine xg_bipush hX (nI 8) dM_edit_306 (by decide) ?_
                    refine xg_icmp_leN hX 316 (by omega) (by omega) dM_edit_308 (by decide) (fun hh_1087 => absurd hh_1087 (by omega)) (fun hh_1087 => ?_)
                    refine xg_iload hX 0 dM_edit_311 rfl ?_
                    refine xg_if_eqN hX 320 (by omega) dM_edit_313 (by decide) (fun _ => ?_) (fun h => absurd h (by decide))
                    refine xg_iconst hX (nI 0) dM_edit_320 (by decide) ?_
                    refine xg_istore hX (lv' := [(14, .int (nI 0)), (22, .int (nI 0)), (21, .int (nI (k % 16))), (20, .int (nI (k / 16))), (19, .int (nI 0)), (18, .int (nI 0)), (15, .int (nI 1)), (13, .int (nI (zn + 1))), (17, .int (nI k)), (0, .ref mq), (4, .int b), (6, .int (bI (!hasD (rdD M (tn n) (tn a)) 0 200))), (7, .int (bI (blM M n a))), (8, .int (nI vf)), (9, .int (nI vi)), (10, .int (bI vs)), (11, .int (nI vl)), (12, .int (nI vc)), (16, .int (nI s_))]) dM_edit_321 (by decide) rfl ?_
                    refine xg_iload hX 0 dM_edit_323 rfl ?_
                    refine xg_if_eqN hX 337 (by omega) dM_edit_325 (by decide) (fun _ => ?_) (fun h => absurd h (by decide))
                    refine xg_iload hX 0 dM_edit_337 rfl ?_
                    refine xg_if_eqN hX 351 (by omega) dM_edit_339 (by decide) (fun _ => ?_) (fun h => absurd h (by decide))
                    refine xg_iload hX 0 dM_edit_351 rfl ?_
                    refine xg_if_eqN hX 366 (by omega) dM_edit_353 (by decide) (fun _ => ?_) (fun h => absurd h (by decide))
                    refine xg_iload hX 0 dM_edit_366 rfl ?_
                    refine xg_if_eqN hX 386 (by omega) dM_edit_368 (by decide) (fun _ => ?_) (fun h => absurd h (by decide))
                    refine xg_iload hX 0 dM_edit_386 rfl ?_
                    refine xg_if_eqN hX 407 (by omega) dM_edit_388 (by decide) (fun _ => ?_) (fun h => absurd h (by decide))
                    refine xg_iload hX 0 dM_edit_407 rfl ?_
                    refine xg_if_eqN hX 473 (by omega) dM_edit_409 (by decide) (fun _ => ?_) (fun h => absurd h (by decide))
                    refine xg_iload hX 0 dM_edit_473 rfl ?_
                    refine xg_if_eqN hX 543 (by omega) dM_edit_475 (by decide) (fun _ => ?_) (fun h => absurd h (by decide))
                    refine xg_iconst hX (nI 0) dM_edit_543 (by decide) ?_
                    refine xg_istore hX (lv' := [(23, .int (nI 0)), (14, .int (nI 0)), (22, .int (nI 0)), (21, .int (nI (k % 16))), (20, .int (nI (k / 16))), (19, .int (nI 0)), (18, .int (nI 0)), (15, .int (nI 1)), (13, .int (nI (zn + 1))), (17, .int (nI k)), (0, .ref mq), (4, .int b), (6, .int (bI (!hasD (rdD M (tn n) (tn a)) 0 200))), (7, .int (bI (blM M n a))), (8, .int (nI vf)), (9, .int (nI vi)), (10, .int (bI vs)), (11, .int (nI vl)), (12, .int (nI vc)), (16, .int (nI s_))]) dM_edit_544 (by decide) rfl ?_
                    refine xg_iload hX 1 dM_edit_546 rfl ?_
                    refine xg_if_eqN hX 756 (by omega) dM_edit_548 (by decide) (fun _ => ?_) (fun h => absurd h (by decide))
                    refine xg_iincN hX (lv' := [(16, .int (nI (s_ + 1))), (23, .int (nI 0)), (14, .int (nI 0)), (22, .int (nI 0)), (21, .int (nI (k % 16))), (20, .int (nI (k / 16))), (19, .int (nI 0)), (18, .int (nI 0)), (15, .int (nI 1)), (13, .int (nI (zn + 1))), (17, .int (nI k)), (0, .ref mq), (4, .int b), (6, .int (bI (!hasD (rdD M (tn n) (tn a)) 0 200))), (7, .int (bI (blM M n a))), (8, .int (nI vf)), (9, .int (nI vi)), (10, .int (bI vs)), (11, .int (nI vl)), (12, .int (nI vc))]) (s_ + 1) 19 dM_edit_756 rfl (xn_inc _) (by decide) rfl ?_
                    refine xg_goto hX 96 dM_edit_759 (by decide) ?_
                    refine xg_iload hX 8 dM_edit_96 rfl ?_
                    refine xg_if_eqN hX 762 (by omega) dM_edit_98 (by decide) (fun h => absurd h (by decide)) (fun _ => ?_)
                    refine xg_iload hX 2 dM_edit_101 rfl ?_
                    refine xg_if_eqN hX 762 (by omega) dM_edit_103 (by decide) (fun _ => ?_) (fun h => absurd h (by decide))
                    refine xg_iload hX 2 dM_edit_762 rfl ?_
                    refine xg_if_eqN hX 772 (by omega) dM_edit_764 (by decide) (fun _ => ?_) (fun h => absurd h (by decide))
                    refine xg_bipush hX ((-2)) dM_edit_772 (by decide) ?_
                    exact hret ((-2), M, rdD M (tn n) (tn a), Vw, men) _ _ _ rfl (show ((-2), M, men) = editM M men xw n a p b from (by have hF : edPM M xw n a p = none := (fo_no hq hnx (by omega) h168 (ob_x (by omega))); unfold editM; rw [if_pos h5, if_pos g1, hF])) dM_edit_774
                  ·
                    refine xg_iload hX 0 dM_edit_171 rfl ?_
                    refine xg_if_neN hX 180 (by omega) dM_edit_173 (by decide) (fun _ => ?_) (fun h => absurd h (by decide))
                    refine xg_iconst hX (nI 0) dM_edit_180 (by decide) ?_
                    refine xg_istore hX (lv' := [(14, .int (nI 0)), (15, .int (nI 1)), (13, .int (nI (zn + 1))), (17, .int (nI k)), (0, .ref mq), (4, .int b), (6, .int (bI (!hasD (rdD M (tn n) (tn a)) 0 200))), (7, .int (bI (blM M n a))), (8, .int (nI vf)), (9, .int (nI vi)), (10, .int (bI vs)), (11, .int (nI vl)), (12, .int (nI vc)), (16, .int (nI s_))]) dM_edit_181 (by decide) rfl ?_
                    refine xg_iload hX 3 dM_edit_183 rfl ?_
                    refine xg_iconst hX (nI 4) dM_edit_185 (by decide) ?_
                    refine xg_icmp_ltN hX 200 (by omega) (by omega) dM_edit_186 (by decide) (fun hh_1101 => absurd hh_1101 (by omega)) (fun hh_1101 => ?_)
                    refine xg_iload hX 3 dM_edit_189 rfl ?_
                    refine xg_bipush hX (nI 8) dM_edit_191 (by decide) ?_
                    refine xg_icmp_gtN hX 200 (by omega) (by omega) dM_edit_193 (by decide) (fun hh_1102 => ?_) (fun hh_1102 => absurd hh_1102 (by omega))
                    refine xg_iconst hX (nI 0) dM_edit_200 (by decide) ?_
                    refine xg_istore hX (lv' := [(18, .int (nI 0)), (14, .int (nI 0)), (15, .int (nI 1)), (13, .int (nI (zn + 1))), (17, .int (nI k)), (0, .ref mq), (4, .int b), (6, .int (bI (!hasD (rdD M (tn n) (tn a)) 0 200))), (7, .int (bI (blM M n a))), (8, .int (nI vf)), (9, .int (nI vi)), (10, .int (bI vs)), (11, .int (nI vl)), (12, .int (nI vc)), (16, .int (nI s_))]) dM_edit_201 (by decide) rfl ?_
                    refine xg_iload hX 0 dM_edit_203 rfl ?_
                    refine xg_if_eqN hX 228 (by omega) dM_edit_205 (by decide) (fun _ => ?_) (fun h => absurd h (by decide))
                    refine xg_iload hX 0 dM_edit_228 rfl ?_
                    refine xg_if_eqN hX 248 (by omega) dM_edit_230 (by decide) (fun _ => ?_) (fun h => absurd h (by decide))
                    refine xg_iconst hX (nI 0) dM_edit_248 (by decide) ?_
                    refine xg_istore hX (lv' := [(19, .int (nI 0)), (18, .int (nI 0)), (14, .int (nI 0)), (15, .int (nI 1)), (13, .int (nI (zn + 1))), (17, .int (nI k)), (0, .ref mq), (4, .int b), (6, .int (bI (!hasD (rdD M (tn n) (tn a)) 0 200))), (7, .int (bI (blM M n a))), (8, .int (nI vf)), (9, .int (nI vi)), (10, .int (bI vs)), (11, .int (nI vl)), (12, .int (nI vc)), (16, .int (nI s_))]) dM_edit_249 (by decide) rfl ?_
                    refine xg_iload hX 1 dM_edit_251 rfl ?_
                    refine xg_if_eqN hX 259 (by omega) dM_edit_253 (by decide) (fun _ => ?_) (fun h => absurd h (by decide))
                    refine xg_iload hX 5 dM_edit_259 rfl ?_
                    refine xg_bipush hX (nI 16) dM_edit_261 (by decide) ?_
                    refine xg_idivN hX (by omega) (by omega) (by omega) dM_edit_263 ?_
                    refine xg_istore hX (lv' := [(20, .int (nI (k / 16))), (19, .int (nI 0)), (18, .int (nI 0)), (14, .int (nI 0)), (15, .int (nI 1)), (13, .int (nI (zn + 1))), (17, .int (nI k)), (0, .ref mq), (4, .int b), (6, .int (bI (!hasD (rdD M (tn n) (tn a)) 0 200))), (7, .int (bI (blM M n a))), (8, .int (nI vf)), (9, .int (nI vi)), (10, .int (bI vs)), (11, .int (nI vl)), (12, .int (nI vc)), (16, .int (nI s_))]) dM_edit_264 (by decide) rfl ?_
                    refine xg_iload hX 6 dM_edit_266 rfl ?_
                    refine xg_bipush hX (nI 16) dM_edit_268 (by decide) ?_
                    refine xg_iremN hX (by omega) (by omega) (by omega) dM_edit_270 ?_
                    refine xg_istore hX (lv' := [(21, .int (nI (k % 16))), (20, .int (nI (k / 16))), (19, .int (nI 0)), (18, .int (nI 0)), (14, .int (nI 0)), (15, .int (nI 1)), (13, .int (nI (zn + 1))), (17, .int (nI k)), (0, .ref mq), (4, .int b), (6, .int (bI (!hasD (rdD M (tn n) (tn a)) 0 200))), (7, .int (bI (blM M n a))), (8, .int (nI vf)), (9, .int (nI vi)), (10, .int (bI vs)), (11, .int (nI vl)), (12, .int (nI vc)), (16, .int (nI s_))]) dM_edit_271 (by decide) rfl ?_
                    refine xg_iload hX 1 dM_edit_273 rfl ?_
                    refine xg_bipush hX (nI 8) dM_edit_275 (by decide) ?_
                    refine xg_icmp_ltN hX 296 (by omega) (by omega) dM_edit_277 (by decide) (fun hh_1106 => absurd hh_1106 (by omega)) (fun hh_1106 => ?_)
                    refine xg_iload hX 1 dM_edit_280 rfl ?_
                    refine xg_bipush hX (nI 10) dM_edit_282 (by decide) ?_
                    refine xg_icmp_gtN hX 296 (by omega) (by omega) dM_edit_284 (by decide) (fun hh_1107 => ?_) (fun hh_1107 => absurd hh_1107 (by omega))
                    refine xg_iconst hX (nI 0) dM_edit_296 (by decide) ?_
                    refine xg_istore hX (lv' := [(22, .int (nI 0)), (21, .int (nI (k % 16))), (20, .int (nI (k / 16))), (19, .int (nI 0)), (18, .int (nI 0)), (14, .int (nI 0)), (15, .int (nI 1)), (13, .int (nI (zn + 1))), (17, .int (nI k)), (0, .ref mq), (4, .int b), (6, .int (bI (!hasD (rdD M (tn n) (tn a)) 0 200))), (7, .int (bI (blM M n a))), (8, .int (nI vf)), (9, .int (nI vi)), (10, .int (bI vs)), (11, .int (nI vl)), (12, .int (nI vc)), (16, .int (nI s_))]) dM_edit_297 (by decide) rfl ?_
                    refine xg_iload hX 5 dM_edit_299 rfl ?_
                    refine xg_if_eqN hX 320 (by omega) dM_edit_301 (by decide) (fun _ => ?_) (fun h => absurd h (by decide))
                    refine xg_iconst hX (nI 0) dM_edit_320 (by decide) ?_
                    refine xg_istore hX (lv' := [(14, .int (nI 0)), (22, .int (nI 0)), (21, .int (nI (k % 16))), (20, .int (nI (k / 16))), (19, .int (nI 0)), (18, .int (nI 0)), (15, .int (nI 1)), (13, .int (nI (zn + 1))), (17, .int (nI k)), (0, .ref mq), (4, .int b), (6, .int (bI (!hasD (rdD M (tn n) (tn a)) 0 200))), (7, .int (bI (blM M n a))), (8, .int (nI vf)), (9, .int (nI vi)), (10, .int (bI vs)), (11, .int (nI vl)), (12, .int (nI vc)), (16, .int (nI s_))]) dM_edit_321 (by decide) rfl ?_
                    refine xg_iload hX 0 dM_edit_323 rfl ?_
                    refine xg_if_eqN hX 337 (by omega) dM_edit_325 (by decide) (fun _ => ?_) (fun h => absurd h (by decide))
                    refine xg_iload hX 0 dM_edit_337 rfl ?_
                    refine xg_if_eqN hX 351 (by omega) dM_edit_339 (by decide) (fun _ => ?_) (fun h => absurd h (by decide))
                    refine xg_iload hX 0 dM_edit_351 rfl ?_
                    refine xg_if_eqN hX 366 (by omega) dM_edit_353 (by decide) (fun _ => ?_) (fun h => absurd h (by decide))
                    refine xg_iload hX 0 dM_edit_366 rfl ?_
                    refine xg_if_eqN hX 386 (by omega) dM_edit_368 (by decide) (fun _ => ?_) (fun h => absurd h (by decide))
                    refine xg_iload hX 0 dM_edit_386 rfl ?_
                    refine xg_if_eqN hX 407 (by omega) dM_edit_388 (by decide) (fun _ => ?_) (fun h => absurd h (by decide))
                    refine xg_iload hX 0 dM_edit_407 rfl ?_
                    refine xg_if_eqN hX 473 (by omega) dM_edit_409 (by decide) (fun _ => ?_) (fun h => absurd h (by decide))
                    refine xg_iload hX 0 dM_edit_473 rfl ?_
                    refine xg_if_eqN hX 543 (by omega) dM_edit_475 (by decide) (fun _ => ?_) (fun h => absurd h (by decide))
                    refine xg_iconst hX (nI 0) dM_edit_543 (by decide) ?_
                    refine xg_istore hX (lv' := [(23, .int (nI 0)), (14, .int (nI 0)), (22, .int (nI 0)), (21, .int (nI (k % 16))), (20, .int (nI (k / 16))), (19, .int (nI 0)), (18, .int (nI 0)), (15, .int (nI 1)), (13, .int (nI (zn + 1))), (17, .int (nI k)), (0, .ref mq), (4, .int b), (6, .int (bI (!hasD (rdD M (tn n) (tn a)) 0 200))), (7, .int (bI (blM M n a))), (8, .int (nI vf)), (9, .int (nI vi)), (10, .int (bI vs)), (11, .int (nI vl)), (12, .int (nI vc)), (16, .int (nI s_))]) dM_edit_544 (by decide) rfl ?_
                    refine xg_iload hX 1 dM_edit_546 rfl ?_
                    refine xg_if_eqN hX 756 (by omega) dM_edit_548 (by decide) (fun _ => ?_) (fun h => absurd h (by decide))
                    refine xg_iincN hX (lv' := [(16, .int (nI (s_ + 1))), (23, .int (nI 0)), (14, .int (nI 0)), (22, .int (nI 0)), (21, .int (nI (k % 16))), (20, .int (nI (k / 16))), (19, .int (nI 0)), (18, .int (nI 0)), (15, .int (nI 1)), (13, .int (nI (zn + 1))), (17, .int (nI k)), (0, .ref mq), (4, .int b), (6, .int (bI (!hasD (rdD M (tn n) (tn a)) 0 200))), (7, .int (bI (blM M n a))), (8, .int (nI vf)), (9, .int (nI vi)), (10, .int (bI vs)), (11, .int (nI vl)), (12, .int (nI vc))]) (s_ + 1) 19 dM_edit_756 rfl (xn_inc _) (by decide) rfl ?_
                    refine xg_goto hX 96 dM_edit_759 (by decide) ?_
                    refine xg_iload hX 8 dM_edit_96 rfl ?_
                    refine xg_if_eqN hX 762 (by omega) dM_edit_98 (by decide) (fun h => absurd h (by decide)) (fun _ => ?_)
                    refine xg_iload hX 2 dM_edit_101 rfl ?_
                    refine xg_if_eqN hX 762 (by omega) dM_edit_103 (by decide) (fun _ => ?_) (fun h => absurd h (by decide))
                    refine xg_iload hX 2 dM_edit_762 rfl ?_
                    refine xg_if_eqN hX 772 (by omega) dM_edit_764 (by decide) (fun _ => ?_) (fun h => absurd h (by decide))
                    refine xg_bipush hX ((-2)) dM_edit_772 (by decide) ?_
                    exact hret ((-2), M, rdD M (tn n) (tn a), Vw, men) _ _ _ rfl (show ((-2), M, men) = editM M men xw n a p b from (by have hF : edPM M xw n a p = none := (fo_la hq hnx (by omega) (by omega)); unfold editM; rw [if_pos h5, if_pos g1, hF])) dM_edit_774
          refine xg_lv hX (lv' := [(0, .ref mq), (4, .int b), (6, .int (bI (!hasD (rdD M (tn n) (tn a)) 0 200))), (7, .int (bI (blM M n a))), (8, .int (nI 32)), (9, .int (nI (if blM M n a = true then 45 else 32))), (10, .int (nI 0)), (11, .int (nI (tn n))), (12, .int (nI 0)), (13, .int p), (14, .int (nI 1)), (15, .int (nI 1)), (16, .int (nI 1))]) [8, 11, 12, 13, 14, 7, 6, 5, 4, 3, 2, 1, 0] rfl ?_
          refine xg_lvE (lv' := [(0, .ref mq), (4, .int b), (6, .int (bI (!hasD (rdD M (tn n) (tn a)) 0 200))), (7, .int (bI (blM M n a))), (8, .int (nI 32)), (9, .int (nI (if blM M n a = true then 45 else 32))), (10, .int (bI false)), (11, .int (nI (tn n))), (12, .int (nI 0)), (13, .int p), (14, .int (nI 1)), (15, .int (nI 1)), (16, .int (nI 1))]) (by rw [← (show (nI 0 : Int32) = bI false from (by first | rfl | decide))]) ?_
          exact lp3 (65 - 1 + 1) 1 p xw 0 (tn n) false 32 (if blM M n a = true then 45 else 32) (by omega) (by omega) (Nat.zero_le _) (df1 h5) rfl (Nat.lt_succ_self _)
        refine xg_if_eqB hX 71 dM_edit_63 (by decide) (fun h63 => ?_) (fun h63 => ?_)
        ·
          refine xg_bipush hX (nI 32) dM_edit_71 (by decide) ?_
          refine xg_top (nI (if blM M n a = true then 45 else 32)) (by rw [h63] <;> rfl) ?_
          refine xg_lv hX (lv' := [(0, .ref mq), (1, .int n), (3, .int p), (4, .int b), (6, .int (bI (!hasD (rdD M (tn n) (tn a)) 0 200))), (7, .int (bI (blM M n a))), (8, .int (nI 32))]) [2, 3, 4, 5, 6, 1, 0] rfl ?_
          exact jn2  
        ·
          refine xg_bipush hX (nI 45) dM_edit_66 (by decide) ?_
          refine xg_goto hX 73 dM_edit_68 (by decide) ?_
          refine xg_top (nI (if blM M n a = true then 45 else 32)) (by rw [h63] <;> rfl) ?_
          refine xg_lv hX (lv' := [(0, .ref mq), (1, .int n), (3, .int p), (4, .int b), (6, .int (bI (!hasD (rdD M (tn n) (tn a)) 0 200))), (7, .int (bI (blM M n a))), (8, .int (nI 32))]) [2, 3, 4, 5, 6, 1, 0] rfl ?_
          exact jn2  
      refine xg_icmp_neN hX 54 (by omega) (by omega) dM_edit_42 (by decide) (fun h42 => ?_) (fun h42 => ?_)
      ·
        refine xg_iconst hX (nI 0) dM_edit_54 (by decide) ?_
        refine xg_top (bI (blM M n a)) (by unfold blM; rw [← rdV_2 g1]; first | (rw [decide_eq_false h42] <;> rfl) | (rw [decide_eq_true h42, nb_t h47] <;> rfl) | (rw [decide_eq_true h42, nb_f h47] <;> rfl)) ?_
        refine xg_lv hX (lv' := [(0, .ref mq), (1, .int n), (3, .int p), (4, .int b), (6, .int (bI (!hasD (rdD M (tn n) (tn a)) 0 200)))]) [2, 3, 5, 6, 0] rfl ?_
        exact jn1  
      ·
        refine xg_iload hX 0 dM_edit_45 rfl ?_
        refine xg_if_neB hX 54 dM_edit_47 (by decide) (fun h47 => ?_) (fun h47 => ?_)
        ·
          refine xg_iconst hX (nI 0) dM_edit_54 (by decide) ?_
          refine xg_top (bI (blM M n a)) (by unfold blM; rw [← rdV_2 g1]; first | (rw [decide_eq_false h42] <;> rfl) | (rw [decide_eq_true h42, nb_t h47] <;> rfl) | (rw [decide_eq_true h42, nb_f h47] <;> rfl)) ?_
          refine xg_lv hX (lv' := [(0, .ref mq), (1, .int n), (3, .int p), (4, .int b), (6, .int (bI (!hasD (rdD M (tn n) (tn a)) 0 200)))]) [2, 3, 5, 6, 0] rfl ?_
          exact jn1  
        ·
          refine xg_iconst hX (nI 1) dM_edit_50 (by decide) ?_
          refine xg_goto hX 55 dM_edit_51 (by decide) ?_
          refine xg_top (bI (blM M n a)) (by unfold blM; rw [← rdV_2 g1]; first | (rw [decide_eq_false h42] <;> rfl) | (rw [decide_eq_true h42, nb_t h47] <;> rfl) | (rw [decide_eq_true h42, nb_f h47] <;> rfl)) ?_
          refine xg_lv hX (lv' := [(0, .ref mq), (1, .int n), (3, .int p), (4, .int b), (6, .int (bI (!hasD (rdD M (tn n) (tn a)) 0 200)))]) [2, 3, 5, 6, 0] rfl ?_
          exact jn1  
    ·
      refine xg_bipush hX ((-2)) dM_edit_27 (by decide) ?_
      exact hret ((-2), M, rdD M (tn n) (tn a), xw, men) _ _ _ rfl (show ((-2), M, men) = editM M men xw n a p b from (by unfold editM; rw [if_pos h5, if_neg (fun q => absurd ((rdV_0 h24).symm.trans q) (by decide))])) dM_edit_29
  ·
    refine xg_iconst hX ((-1)) dM_edit_8 (by decide) ?_
    exact hret ((-1), M, x1, xw, men) _ _ _ rfl (show ((-1), M, men) = editM M men xw n a p b from (by unfold editM; rw [if_neg (fun q => absurd (h5.symm.trans q) (by decide))])) dM_edit_9
