set_option maxHeartbeats 4000000 in
set_option maxRecDepth 100000 in
theorem xc_follow (l : Launch) (D : va_G) (cI : ClassId) (dq : Nat) (dm : Nat) (d1 : Nat) (d2 : Nat) (d3 : Nat) (d4 : Nat) (dw : Nat) (den : Bool) (M : Nat → Nat) (pw : Nat) (pt : Nat) (cn : Nat) (lf : Nat) (sg : Bool) (bl : Bool) (zr : Bool) (fi : Nat) (si : Nat) (W : Nat → Nat) (T : Nat → Nat) (p : Int32) (hM : ∀ j, M j < 256) (hT : ∀ j, T j < 10) (hcn : cn ≤ 64) (hlf : lf ≤ 31) : Ctr l D cI yD_followPattern cD_followPattern 5 (some .boolean) { frames := 4, cells := 0, slots := 0, locals := 90 } [.ref dq, .int p] [(dq, .inr (2, [.ref dm, .ref d1, .ref d2, .ref d3, .ref d4, .ref dw, .int (bI den)])), (dm, .inl (cI, 256, .inl (nf M))), (dw, .inr (1, [.ref pw, .ref pt, .int (nI cn), .int (nI lf), .int (bI sg), .int (bI bl), .int (bI zr), .int (nI fi), .int (nI si)])), (pw, .inl (cI, 64, .inl (nf W))), (pt, .inl (cI, 31, .inl (nf T)))] (fun u : Bool × (Nat → Nat) × Nat × Nat × Bool × Nat × Nat => match u with | (ok, W2, cn2, lf2, sg2, fi2, si2) => some (.int (bI ok))) (fun u : Bool × (Nat → Nat) × Nat × Nat × Bool × Nat × Nat => match u with | (ok, W2, cn2, lf2, sg2, fi2, si2) => pres ok (fol M T bl zr 64 p (W, cn, lf, sg, fi, si)) (W2, cn2, lf2, sg2, fi2, si2)) (fun u : Bool × (Nat → Nat) × Nat × Nat × Bool × Nat × Nat => match u with | (ok, W2, cn2, lf2, sg2, fi2, si2) => [(dq, .inr (2, [.ref dm, .ref d1, .ref d2, .ref d3, .ref d4, .ref dw, .int (bI den)])), (dm, .inl (cI, 256, .inl (nf M))), (dw, .inr (1, [.ref pw, .ref pt, .int (nI cn2), .int (nI lf2), .int (bI sg2), .int (bI bl), .int (bI zr), .int (nI fi2), .int (nI si2)])), (pw, .inl (cI, 64, .inl (nf W2))), (pt, .inl (cI, 31, .inl (nf T)))]) 0 0 := by
  refine xc_mkZ (by decide +kernel) (Nat.le_of_ble_eq_true rfl) (fun X hX hret => ?_)
  show GG D X 0 0 0 [(dq, .inr (2, [.ref dm, .ref d1, .ref d2, .ref d3, .ref d4, .ref dw, .int (bI den)])), (dm, .inl (cI, 256, .inl (nf M))), (dw, .inr (1, [.ref pw, .ref pt, .int (nI cn), .int (nI lf), .int (bI sg), .int (bI bl), .int (bI zr), .int (nI fi), .int (nI si)])), (pw, .inl (cI, 64, .inl (nf W))), (pt, .inl (cI, 31, .inl (nf T)))] [(0, .ref dq), (1, .int p)] []
  refine xg_iload_n hX 1 dD_followPattern_0 rfl rfl ?_
  refine xg_istore_n hX (lv' := [(2, .int p), (0, .ref dq), (1, .int p)]) dD_followPattern_1 rfl (by decide) rfl ?_
  refine xg_iconst hX (nI 1) dD_followPattern_2 (by decide) ?_
  refine xg_istore_n hX (lv' := [(3, .int (nI 1)), (2, .int p), (0, .ref dq), (1, .int p)]) dD_followPattern_3 rfl (by decide) rfl ?_
  have lp1 : ∀ (fu2 : Nat) (s_ : Nat) (z : Int32) (Vw : Nat → Nat) (vc : Nat) (vl : Nat) (vs : Bool) (vf : Nat) (vi : Nat), (1 ≤ s_) → (s_ ≤ 65) → (vc ≤ 64) → (vl ≤ 31) → (fol M T bl zr 64 p (W, cn, lf, sg, fi, si) = fol M T bl zr (65 - s_) z (Vw, vc, vl, vs, vf, vi)) → 65 - s_ < fu2 → GG D X 0 0 4 [(dq, .inr (2, [.ref dm, .ref d1, .ref d2, .ref d3, .ref d4, .ref dw, .int (bI den)])), (dm, .inl (cI, 256, .inl (nf M))), (dw, .inr (1, [.ref pw, .ref pt, .int (nI vc), .int (nI vl), .int (bI vs), .int (bI bl), .int (bI zr), .int (nI vf), .int (nI vi)])), (pw, .inl (cI, 64, .inl (nf Vw))), (pt, .inl (cI, 31, .inl (nf T)))] [(0, .ref dq), (1, .int p), (2, .int z), (3, .int (nI s_))] [] := by
    intro fu2
    induction fu2 with
    | zero => intro s_ z Vw vc vl vs vf vi hs1 hs2 hvc hvl hq hm4; exact absurd hm4 (Nat.not_lt_zero _)
    | succ fu2 ih3 =>
      intro s_ z Vw vc vl vs vf vi hs1 hs2 hvc hvl hq hm4
      refine xg_iload_n hX 3 dD_followPattern_4 rfl rfl ?_
      refine xg_bipush hX (nI 64) dD_followPattern_5 (by decide) ?_
      refine xg_icmp_gtN hX 94 (by omega) (by omega) dD_followPattern_7 (by decide) (fun h7 => ?_) (fun h7 => ?_)
      ·
        refine xg_iconst hX (nI 0) dD_followPattern_94 (by decide) ?_
        refine xg_top (bI false) rfl ?_
        exact hret (false, Vw, vc, vl, vs, vf, vi) _ _ _ rfl (xn_narB _) (show pres false (fol M T bl zr 64 p (W, cn, lf, sg, fi, si)) (Vw, vc, vl, vs, vf, vi) from (pres_f (by rw [hq, show 65 - s_ = 0 by omega]; rfl))) dD_followPattern_95
      ·
        refine xg_aload_n hX 0 dD_followPattern_10 rfl rfl ?_
        refine xg_iload_n hX 2 dD_followPattern_11 rfl rfl ?_
        refine xg_cV hX dq [.int z] (hM := xc_byteOf l D cI dq dm d1 d2 d3 d4 dw den M z) (wr := [(dw, .inr (1, [.ref pw, .ref pt, .int (nI vc), .int (nI vl), .int (bI vs), .int (bI bl), .int (bI zr), .int (nI vf), .int (nI vi)])), (pw, .inl (cI, 64, .inl (nf Vw))), (pt, .inl (cI, 31, .inl (nf T)))]) (ws' := fun _ => [(dq, .inr (2, [.ref dm, .ref d1, .ref d2, .ref d3, .ref d4, .ref dw, .int (bI den)])), (dm, .inl (cI, 256, .inl (nf M))), (dw, .inr (1, [.ref pw, .ref pt, .int (nI vc), .int (nI vl), .int (bI vs), .int (bI bl), .int (bI zr), .int (nI vf), .int (nI vi)])), (pw, .inl (cI, 64, .inl (nf Vw))), (pt, .inl (cI, 31, .inl (nf T)))]) (st' := fun _ => [.int (byt M z)]) [0, 1] [2, 3, 4] [3, 4, 0, 1, 2] [] rfl mt_97 mt_117 mt_1 mt_95 mt_96 0 rfl rfl hdD_byteOf (by decide) ⟨rfl, rfl⟩ (by decide) rfl rfl (by decide) rfl (by decide) (by decide) (by decide) (fun u => rfl) (fun u => rfl) (fun u => rfl) rfl rfl (by simp [Value.category]) dD_followPattern_12 (fun _ _ => ?_)
        refine xg_top (nxI (nxO M z)) (nxO_I M z) ?_
        cases hnx : nxO M z with
        | none =>
          show GG D X 0 0 15 [(dq, .inr (2, [.ref dm, .ref d1, .ref d2, .ref d3, .ref d4, .ref dw, .int (bI den)])), (dm, .inl (cI, 256, .inl (nf M))), (dw, .inr (1, [.ref pw, .ref pt, .int (nI vc), .int (nI vl), .int (bI vs), .int (bI bl), .int (bI zr), .int (nI vf), .int (nI vi)])), (pw, .inl (cI, 64, .inl (nf Vw))), (pt, .inl (cI, 31, .inl (nf T)))] [(0, .ref dq), (1, .int p), (2, .int z), (3, .int (nI s_))] [.int (-1)]
          refine xg_istore hX (lv' := [(4, .int (-1)), (0, .ref dq), (1, .int p), (2, .int z), (3, .int (nI s_))]) dD_followPattern_15 (by decide) rfl ?_
          refine xg_iload hX 0 dD_followPattern_17 rfl ?_
          refine xg_if_ne hX 38 dD_followPattern_19 (by decide) (fun _ => ?_) (fun h => absurd h (by decide))
          refine xg_iload hX 0 dD_followPattern_38 rfl ?_
          refine xg_if_lt hX 49 dD_followPattern_40 (by decide) (fun _ => ?_) (fun h => absurd (by decide) h)
          refine xg_iconst hX (nI 0) dD_followPattern_49 (by decide) ?_
          refine xg_top (bI false) rfl ?_
          exact hret (false, Vw, vc, vl, vs, vf, vi) _ _ _ rfl (xn_narB _) (show pres false (fol M T bl zr 64 p (W, cn, lf, sg, fi, si)) (Vw, vc, vl, vs, vf, vi) from (pres_f (by first | (rw [hq, fol_none hnx]; done) | (rw [hq, show 65 - s_ = 0 + 1 by omega]; exact fol_last hnx h19)))) dD_followPattern_50
        | some k =>
          have hk := nxO_lt hM z k hnx
          show GG D X 0 0 15 [(dq, .inr (2, [.ref dm, .ref d1, .ref d2, .ref d3, .ref d4, .ref dw, .int (bI den)])), (dm, .inl (cI, 256, .inl (nf M))), (dw, .inr (1, [.ref pw, .ref pt, .int (nI vc), .int (nI vl), .int (bI vs), .int (bI bl), .int (bI zr), .int (nI vf), .int (nI vi)])), (pw, .inl (cI, 64, .inl (nf Vw))), (pt, .inl (cI, 31, .inl (nf T)))] [(0, .ref dq), (1, .int p), (2, .int z), (3, .int (nI s_))] [.int (nI k)]
          refine xg_istore hX (lv' := [(4, .int (nI k)), (0, .ref dq), (1, .int p), (2, .int z), (3, .int (nI s_))]) dD_followPattern_15 (by decide) rfl ?_
          refine xg_iload hX 0 dD_followPattern_17 rfl ?_
          refine xg_if_neN hX 38 (by omega) dD_followPattern_19 (by decide) (fun h19 => ?_) (fun h19 => ?_)
          ·
            refine xg_iload hX 0 dD_followPattern_38 rfl ?_
            refine xg_if_ltN hX 49 (by omega) dD_followPattern_40 (by decide) ?_
            refine xg_iload_n hX 4 dD_followPattern_43 rfl rfl ?_
            refine xg_bipush hX (nI 64) dD_followPattern_44 (by decide) ?_
            refine xg_icmp_neN hX 51 (by omega) (by omega) dD_followPattern_46 (by decide) (fun h46 => ?_) (fun h46 => ?_)
            ·
              refine xg_aload_n hX 1 dD_followPattern_51 rfl rfl ?_
              refine xg_get hX (ci := 2) rfl hinD 0 rfl 5 (by decide) mt_73 rfl dD_followPattern_52 ?_
              refine xg_iload hX 0 dD_followPattern_55 rfl ?_
              refine xg_aload_n hX 1 dD_followPattern_57 rfl rfl ?_
              refine xg_iload_n hX 3 dD_followPattern_58 rfl rfl ?_
              refine xg_iconst hX (nI 1) dD_followPattern_59 (by decide) ?_
              refine xg_iadd hX dD_followPattern_60 ?_
              refine xg_cV hX dq [.int (z + (nI 1))] (hM := xc_byteOf l D cI dq dm d1 d2 d3 d4 dw den M (z + (nI 1))) (wr := [(dw, .inr (1, [.ref pw, .ref pt, .int (nI vc), .int (nI vl), .int (bI vs), .int (bI bl), .int (bI zr), .int (nI vf), .int (nI vi)])), (pw, .inl (cI, 64, .inl (nf Vw))), (pt, .inl (cI, 31, .inl (nf T)))]) (ws' := fun _ => [(dq, .inr (2, [.ref dm, .ref d1, .ref d2, .ref d3, .ref d4, .ref dw, .int (bI den)])), (dm, .inl (cI, 256, .inl (nf M))), (dw, .inr (1, [.ref pw, .ref pt, .int (nI vc), .int (nI vl), .int (bI vs), .int (bI bl), .int (bI zr), .int (nI vf), .int (nI vi)])), (pw, .inl (cI, 64, .inl (nf Vw))), (pt, .inl (cI, 31, .inl (nf T)))]) (st' := fun _ => [.int (byt M (z + (nI 1))), .int (nI k), .ref dw]) [0, 1] [2, 3, 4] [3, 4, 0, 1, 2] [.int (nI k), .ref dw] rfl mt_97 mt_117 mt_1 mt_95 mt_96 0 rfl rfl hdD_byteOf (by decide) ⟨rfl, rfl⟩ (by decide) rfl rfl (by decide) rfl (by decide) (by decide) (by decide) (fun u => rfl) (fun u => rfl) (fun u => rfl) rfl rfl (by simp [Value.category]) dD_followPattern_61 (fun _ _ => ?_)
              refine xg_top (nxI (nxO M (z + 1))) (nxO_I M (z + 1)) ?_
              refine xg_cV hX dw [.int (nI k), .int (nxI (nxO M (z + 1)))] (hM := xc_obey l D cI dw pw pt vc vl vs bl zr vf vi Vw T k (nxO M (z + 1)) (by omega) hk (nxO_lt hM (z + 1)) hvl hvc hT) (wr := [(dq, .inr (2, [.ref dm, .ref d1, .ref d2, .ref d3, .ref d4, .ref dw, .int (bI den)])), (dm, .inl (cI, 256, .inl (nf M)))]) (ws' := fun u => match u with | (okA, W2A, cn2A, lf2A, sg2A, fi2A, si2A) => [(dq, .inr (2, [.ref dm, .ref d1, .ref d2, .ref d3, .ref d4, .ref dw, .int (bI den)])), (dm, .inl (cI, 256, .inl (nf M))), (dw, .inr (1, [.ref pw, .ref pt, .int (nI cn2A), .int (nI lf2A), .int (bI sg2A), .int (bI bl), .int (bI zr), .int (nI fi2A), .int (nI si2A)])), (pw, .inl (cI, 64, .inl (nf W2A))), (pt, .inl (cI, 31, .inl (nf T)))]) (st' := fun u => match u with | (okA, W2A, cn2A, lf2A, sg2A, fi2A, si2A) => [.int (bI okA)]) [2, 3, 4] [0, 1] [0, 1, 2, 3, 4] [] rfl mt_278 mt_275 mt_3 mt_276 mt_277 0 rfl rfl hdW_obey (by decide) ⟨rfl, rfl⟩ (by decide) rfl rfl (by decide) rfl (by decide) (by decide) (by decide) (fun u => rfl) (fun u => rfl) (fun u => rfl) rfl rfl (by simp [Value.category]) dD_followPattern_64 (fun u hu => ?_)
              obtain ⟨okA, W2A, cn2A, lf2A, sg2A, fi2A, si2A⟩ := u
              have huA : pres okA (pOb T bl zr k (nxO M (z + 1)) (Vw, vc, vl, vs, vf, vi)) (W2A, cn2A, lf2A, sg2A, fi2A, si2A) := hu
              show GG D X 0 0 67 [(dq, .inr (2, [.ref dm, .ref d1, .ref d2, .ref d3, .ref d4, .ref dw, .int (bI den)])), (dm, .inl (cI, 256, .inl (nf M))), (dw, .inr (1, [.ref pw, .ref pt, .int (nI cn2A), .int (nI lf2A), .int (bI sg2A), .int (bI bl), .int (bI zr), .int (nI fi2A), .int (nI si2A)])), (pw, .inl (cI, 64, .inl (nf W2A))), (pt, .inl (cI, 31, .inl (nf T)))] [(4, .int (nI k)), (0, .ref dq), (1, .int p), (2, .int z), (3, .int (nI s_))] [.int (bI okA)]
              refine xg_if_neB hX 72 dD_followPattern_67 (by decide) (fun h67 => ?_) (fun h67 => ?_)
              ·
                have eA := pOb_le (pres_some huA h67) hvc
                refine xg_iload_n hX 3 dD_followPattern_72 rfl rfl ?_
                refine xg_iload hX 0 dD_followPattern_73 rfl ?_
                refine xg_cS hX [.int (nI k)] (hM := xc_takesNext l D cI k hk) (wr := [(dq, .inr (2, [.ref dm, .ref d1, .ref d2, .ref d3, .ref d4, .ref dw, .int (bI den)])), (dm, .inl (cI, 256, .inl (nf M))), (dw, .inr (1, [.ref pw, .ref pt, .int (nI cn2A), .int (nI lf2A), .int (bI sg2A), .int (bI bl), .int (bI zr), .int (nI fi2A), .int (nI si2A)])), (pw, .inl (cI, 64, .inl (nf W2A))), (pt, .inl (cI, 31, .inl (nf T)))]) (ws' := fun _ => [(dq, .inr (2, [.ref dm, .ref d1, .ref d2, .ref d3, .ref d4, .ref dw, .int (bI den)])), (dm, .inl (cI, 256, .inl (nf M))), (dw, .inr (1, [.ref pw, .ref pt, .int (nI cn2A), .int (nI lf2A), .int (bI sg2A), .int (bI bl), .int (bI zr), .int (nI fi2A), .int (nI si2A)])), (pw, .inl (cI, 64, .inl (nf W2A))), (pt, .inl (cI, 31, .inl (nf T)))]) (st' := fun _ => [.int (bI (takesN k)), .int z]) [] [0, 1, 2, 3, 4] [0, 1, 2, 3, 4] [.int z] rfl mt_300 mt_309 mt_3 mt_299 hdW_takesNext (by decide) ⟨rfl, rfl⟩ (by decide) rfl rfl (by decide) rfl (by decide) (by decide) (by decide) (fun u => rfl) (fun u => rfl) (fun u => rfl) rfl rfl (by simp [Value.category]) dD_followPattern_75 (fun _ _ => ?_)
                refine xg_if_eqB hX 85 dD_followPattern_78 (by decide) (fun h78 => ?_) (fun h78 => ?_)
                ·
                  refine xg_iconst hX (nI 1) dD_followPattern_85 (by decide) ?_
                  refine xg_iadd hX dD_followPattern_86 ?_
                  refine xg_istore_n hX (lv' := [(2, .int (z + (nI 1))), (4, .int (nI k)), (0, .ref dq), (1, .int p), (3, .int (nI s_))]) dD_followPattern_87 rfl (by decide) rfl ?_
                  refine xg_iincN hX (lv' := [(3, .int (nI (s_ + 1))), (2, .int (z + (nI 1))), (4, .int (nI k)), (0, .ref dq), (1, .int p)]) (s_ + 1) 4 dD_followPattern_88 rfl (xn_inc _) (by decide) rfl ?_
                  refine xg_goto hX 4 dD_followPattern_91 (by decide) ?_
                  refine xg_lv hX (lv' := [(0, .ref dq), (1, .int p), (2, .int (z + (nI 1))), (3, .int (nI (s_ + 1)))]) [3, 4, 1, 0] rfl ?_
                  exact ih3 (s_ + 1) (z + (nI 1)) W2A cn2A lf2A sg2A fi2A si2A (by omega) (by omega) eA.1 (Nat.le_trans eA.2 hvl) (by rw [hq, show 65 - s_ = (65 - (s_ + 1)) + 1 by omega, fol_s hnx h19 (by omega), pres_some huA h67, h78]; rfl) (by omega)
                ·
                  refine xg_iconst hX (nI 2) dD_followPattern_81 (by decide) ?_
                  refine xg_goto hX 86 dD_followPattern_82 (by decide) ?_
                  refine xg_iadd hX dD_followPattern_86 ?_
                  refine xg_istore_n hX (lv' := [(2, .int (z + (nI 2))), (4, .int (nI k)), (0, .ref dq), (1, .int p), (3, .int (nI s_))]) dD_followPattern_87 rfl (by decide) rfl ?_
                  refine xg_iincN hX (lv' := [(3, .int (nI (s_ + 1))), (2, .int (z + (nI 2))), (4, .int (nI k)), (0, .ref dq), (1, .int p)]) (s_ + 1) 4 dD_followPattern_88 rfl (xn_inc _) (by decide) rfl ?_
                  refine xg_goto hX 4 dD_followPattern_91 (by decide) ?_
                  refine xg_lv hX (lv' := [(0, .ref dq), (1, .int p), (2, .int (z + (nI 2))), (3, .int (nI (s_ + 1)))]) [3, 4, 1, 0] rfl ?_
                  exact ih3 (s_ + 1) (z + (nI 2)) W2A cn2A lf2A sg2A fi2A si2A (by omega) (by omega) eA.1 (Nat.le_trans eA.2 hvl) (by rw [hq, show 65 - s_ = (65 - (s_ + 1)) + 1 by omega, fol_s hnx h19 (by omega), pres_some huA h67, h78]; rfl) (by omega)
              ·
                refine xg_iconst hX (nI 0) dD_followPattern_70 (by decide) ?_
                refine xg_top (bI false) rfl ?_
                exact hret (false, W2A, cn2A, lf2A, sg2A, fi2A, si2A) _ _ _ rfl (xn_narB _) (show pres false (fol M T bl zr 64 p (W, cn, lf, sg, fi, si)) (W2A, cn2A, lf2A, sg2A, fi2A, si2A) from (pres_f (by rw [hq, show 65 - s_ = (64 - s_) + 1 by omega, fol_s hnx h19 (by omega), pres_none huA h67]; rfl))) dD_followPattern_71
            ·
              refine xg_iconst hX (nI 0) dD_followPattern_49 (by decide) ?_
              refine xg_top (bI false) rfl ?_
              exact hret (false, Vw, vc, vl, vs, vf, vi) _ _ _ rfl (xn_narB _) (show pres false (fol M T bl zr 64 p (W, cn, lf, sg, fi, si)) (Vw, vc, vl, vs, vf, vi) from (pres_f (by first | (rw [hq, fol_none hnx]; done) | (rw [hq, show 65 - s_ = 0 + 1 by omega]; exact fol_last hnx h19)))) dD_followPattern_50
          ·
            refine xg_aload_n hX 1 dD_followPattern_22 rfl rfl ?_
            refine xg_get hX (ci := 2) rfl hinD 0 rfl 5 (by decide) mt_73 rfl dD_followPattern_23 ?_
            refine xg_get hX (ci := 1) rfl hinW 2 rfl 3 (by decide) mt_42 rfl dD_followPattern_26 ?_
            refine xg_if_neN hX 36 (by omega) dD_followPattern_29 (by decide) (fun h29 => ?_) (fun h29 => ?_)
            ·
              refine xg_iconst hX (nI 0) dD_followPattern_36 (by decide) ?_
              refine xg_top (bI false) rfl ?_
              exact hret (false, Vw, vc, vl, vs, vf, vi) _ _ _ rfl (xn_narB _) (show pres false (fol M T bl zr 64 p (W, cn, lf, sg, fi, si)) (Vw, vc, vl, vs, vf, vi) from (by first | (apply pres_t; rw [hq, show 65 - s_ = (64 - s_) + 1 by omega, fol_0 (by rw [hnx, h19])]; exact if_pos h29) | (apply pres_f; rw [hq, show 65 - s_ = (64 - s_) + 1 by omega, fol_0 (by rw [hnx, h19])]; exact if_neg (show ¬ vl = 0 by omega)))) dD_followPattern_37
            ·
              refine xg_iconst hX (nI 1) dD_followPattern_32 (by decide) ?_
              refine xg_goto hX 37 dD_followPattern_33 (by decide) ?_
              refine xg_top (bI true) rfl ?_
              exact hret (true, Vw, vc, vl, vs, vf, vi) _ _ _ rfl (xn_narB _) (show pres true (fol M T bl zr 64 p (W, cn, lf, sg, fi, si)) (Vw, vc, vl, vs, vf, vi) from (by first | (apply pres_t; rw [hq, show 65 - s_ = (64 - s_) + 1 by omega, fol_0 (by rw [hnx, h19])]; exact if_pos h29) | (apply pres_f; rw [hq, show 65 - s_ = (64 - s_) + 1 by omega, fol_0 (by rw [hnx, h19])]; exact if_neg (show ¬ vl = 0 by omega)))) dD_followPattern_37
  refine xg_lv hX (lv' := [(0, .ref dq), (1, .int p), (2, .int p), (3, .int (nI 1))]) [2, 3, 1, 0] rfl ?_
  exact lp1 (65 - 1 + 1) 1 p W cn lf sg fi si (by omega) (by omega) (by omega) (by omega) rfl (Nat.lt_succ_self _)
set_option maxHeartbeats 4000000 in
set_option maxRecDepth 100000 in
theorem xc_edit (l : Launch) (D : va_G) (cI : ClassId) (dq : Nat) (dm : Nat) (d1 : Nat) (d2 : Nat) (d3 : Nat) (d4 : Nat) (dw : Nat) (den : Bool) (M : Nat → Nat) (p1 : Nat) (e1 : Nat → Nat) (s1 : Bool) (pw : Nat) (pt : Nat) (cn : Nat) (lf : Nat) (sg : Bool) (bl : Bool) (zr : Bool) (fi : Nat) (si : Nat) (W : Nat → Nat) (T : Nat → Nat) (n : Int32) (a : Int32) (p : Int32) (b : Int32) (hM : ∀ j, M j < 256) : Ctr l D cI yD_edit cD_edit 6 (some .int) { frames := 5, cells := 0, slots := 0, locals := 114 } [.ref dq, .int n, .int a, .int p, .int b] [(dq, .inr (2, [.ref dm, .ref d1, .ref d2, .ref d3, .ref d4, .ref dw, .int (bI den)])), (dm, .inl (cI, 256, .inl (nf M))), (d1, .inr (0, [.ref p1, .int (bI s1)])), (p1, .inl (cI, 130, .inl (nf e1))), (dw, .inr (1, [.ref pw, .ref pt, .int (nI cn), .int (nI lf), .int (bI sg), .int (bI bl), .int (bI zr), .int (nI fi), .int (nI si)])), (pw, .inl (cI, 64, .inl (nf W))), (pt, .inl (cI, 31, .inl (nf T)))] (fun u : Int32 × (Nat → Nat) × Bool × (Nat → Nat) × Bool × Nat × Nat × Bool × Bool × Bool × Nat × Nat × (Nat → Nat) × (Nat → Nat) => match u with | (r, M2, en2, e1_, s1_, cn2, lf2, sg2, bl2, zr2, fi2, si2, W2, T2) => some (.int r)) (fun u : Int32 × (Nat → Nat) × Bool × (Nat → Nat) × Bool × Nat × Nat × Bool × Bool × Bool × Nat × Nat × (Nat → Nat) × (Nat → Nat) => match u with | (r, M2, en2, e1_, s1_, cn2, lf2, sg2, bl2, zr2, fi2, si2, W2, T2) => (r, M2, en2) = editZ M den W n a p b) (fun u : Int32 × (Nat → Nat) × Bool × (Nat → Nat) × Bool × Nat × Nat × Bool × Bool × Bool × Nat × Nat × (Nat → Nat) × (Nat → Nat) => match u with | (r, M2, en2, e1_, s1_, cn2, lf2, sg2, bl2, zr2, fi2, si2, W2, T2) => [(dq, .inr (2, [.ref dm, .ref d1, .ref d2, .ref d3, .ref d4, .ref dw, .int (bI en2)])), (dm, .inl (cI, 256, .inl (nf M2))), (d1, .inr (0, [.ref p1, .int (bI s1_)])), (p1, .inl (cI, 130, .inl (nf e1_))), (dw, .inr (1, [.ref pw, .ref pt, .int (nI cn2), .int (nI lf2), .int (bI sg2), .int (bI bl2), .int (bI zr2), .int (nI fi2), .int (nI si2)])), (pw, .inl (cI, 64, .inl (nf W2))), (pt, .inl (cI, 31, .inl (nf T2)))]) 0 0 := by
  refine xc_mkI (by decide +kernel) (Nat.le_of_ble_eq_true rfl) (fun X hX hret => ?_)
  show GG D X 0 0 0 [(dq, .inr (2, [.ref dm, .ref d1, .ref d2, .ref d3, .ref d4, .ref dw, .int (bI den)])), (dm, .inl (cI, 256, .inl (nf M))), (d1, .inr (0, [.ref p1, .int (bI s1)])), (p1, .inl (cI, 130, .inl (nf e1))), (dw, .inr (1, [.ref pw, .ref pt, .int (nI cn), .int (nI lf), .int (bI sg), .int (bI bl), .int (bI zr), .int (nI fi), .int (nI si)])), (pw, .inl (cI, 64, .inl (nf W))), (pt, .inl (cI, 31, .inl (nf T)))] [(0, .ref dq), (1, .int n), (2, .int a), (3, .int p), (4, .int b)] []
  refine xg_iload_n hX 1 dD_edit_0 rfl rfl ?_
  refine xg_iload_n hX 2 dD_edit_1 rfl rfl ?_
  refine xg_cS hX [.int n, .int a] (hM := xc_dfits l D cI n a) (wr := [(dq, .inr (2, [.ref dm, .ref d1, .ref d2, .ref d3, .ref d4, .ref dw, .int (bI den)])), (dm, .inl (cI, 256, .inl (nf M))), (d1, .inr (0, [.ref p1, .int (bI s1)])), (p1, .inl (cI, 130, .inl (nf e1))), (dw, .inr (1, [.ref pw, .ref pt, .int (nI cn), .int (nI lf), .int (bI sg), .int (bI bl), .int (bI zr), .int (nI fi), .int (nI si)])), (pw, .inl (cI, 64, .inl (nf W))), (pt, .inl (cI, 31, .inl (nf T)))]) (ws' := fun _ => [(dq, .inr (2, [.ref dm, .ref d1, .ref d2, .ref d3, .ref d4, .ref dw, .int (bI den)])), (dm, .inl (cI, 256, .inl (nf M))), (d1, .inr (0, [.ref p1, .int (bI s1)])), (p1, .inl (cI, 130, .inl (nf e1))), (dw, .inr (1, [.ref pw, .ref pt, .int (nI cn), .int (nI lf), .int (bI sg), .int (bI bl), .int (bI zr), .int (nI fi), .int (nI si)])), (pw, .inl (cI, 64, .inl (nf W))), (pt, .inl (cI, 31, .inl (nf T)))]) (st' := fun _ => [.int (bI (dfits n a))]) [] [0, 1, 2, 3, 4, 5, 6] [0, 1, 2, 3, 4, 5, 6] [] rfl mt_108 mt_106 mt_1 mt_107 hdD_decimalFits (by decide) ⟨rfl, rfl⟩ (by decide) rfl rfl (by decide) rfl (by decide) (by decide) (by decide) (fun u => rfl) (fun u => rfl) (fun u => rfl) rfl rfl (by simp [Value.category]) dD_edit_2 (fun _ _ => ?_)
  refine xg_if_neB hX 10 dD_edit_5 (by decide) (fun h5 => ?_) (fun h5 => ?_)
  ·
    refine xg_aload_n hX 0 dD_edit_10 rfl rfl ?_
    refine xg_aload_n hX 0 dD_edit_11 rfl rfl ?_
    refine xg_get hX (ci := 2) rfl hinD 0 rfl 1 (by decide) mt_69 rfl dD_edit_12 ?_
    refine xg_iload_n hX 1 dD_edit_15 rfl rfl ?_
    refine xg_top (nI (tn n)) (df3 h5) ?_
    refine xg_iload_n hX 2 dD_edit_16 rfl rfl ?_
    refine xg_top (nI (tn a)) (df4 h5) ?_
    refine xg_cV hX dq [.ref d1, .int (nI (tn n)), .int (nI (tn a))] (hM := xc_readDecimal l D cI dq dm d1 d2 d3 d4 dw den M d1 p1 e1 s1 (tn n) (tn a) (df1 h5) (df2 h5) hM) (wr := [(dw, .inr (1, [.ref pw, .ref pt, .int (nI cn), .int (nI lf), .int (bI sg), .int (bI bl), .int (bI zr), .int (nI fi), .int (nI si)])), (pw, .inl (cI, 64, .inl (nf W))), (pt, .inl (cI, 31, .inl (nf T)))]) (ws' := fun u => match u with | (okA, tA, sA) => [(dq, .inr (2, [.ref dm, .ref d1, .ref d2, .ref d3, .ref d4, .ref dw, .int (bI den)])), (dm, .inl (cI, 256, .inl (nf M))), (d1, .inr (0, [.ref p1, .int (bI sA)])), (p1, .inl (cI, 130, .inl (nf tA))), (dw, .inr (1, [.ref pw, .ref pt, .int (nI cn), .int (nI lf), .int (bI sg), .int (bI bl), .int (bI zr), .int (nI fi), .int (nI si)])), (pw, .inl (cI, 64, .inl (nf W))), (pt, .inl (cI, 31, .inl (nf T)))]) (st' := fun u => match u with | (okA, tA, sA) => [.int (bI okA)]) [0, 1, 2, 3] [4, 5, 6] [3, 4, 5, 6, 0, 1, 2] [] rfl mt_112 mt_109 mt_1 mt_111 mp_1 0 rfl rfl hdD_readDecimal (by decide) ⟨rfl, rfl⟩ (by decide) rfl rfl (by decide) rfl (by decide) (by decide) (by decide) (fun u => rfl) (fun u => rfl) (fun u => rfl) rfl rfl (by simp [Value.category]) dD_edit_17 (fun u hu => ?_)
    obtain ⟨okA, tA, sA⟩ := u
    have huA : okA = rdb M (tn n) (tn a) ∧ (okA = true → tA = rdD M (tn n) (tn a) ∧ sA = rdS M (tn n) (tn a)) := hu
    show GG D X 0 0 20 [(dq, .inr (2, [.ref dm, .ref d1, .ref d2, .ref d3, .ref d4, .ref dw, .int (bI den)])), (dm, .inl (cI, 256, .inl (nf M))), (d1, .inr (0, [.ref p1, .int (bI sA)])), (p1, .inl (cI, 130, .inl (nf tA))), (dw, .inr (1, [.ref pw, .ref pt, .int (nI cn), .int (nI lf), .int (bI sg), .int (bI bl), .int (bI zr), .int (nI fi), .int (nI si)])), (pw, .inl (cI, 64, .inl (nf W))), (pt, .inl (cI, 31, .inl (nf T)))] [(0, .ref dq), (1, .int n), (2, .int a), (3, .int p), (4, .int b)] [.int (bI okA)]
    refine xg_if_neB hX 26 dD_edit_20 (by decide) (fun h20 => ?_) (fun h20 => ?_)
    ·
      have g1 := huA.1.symm.trans h20
      have hx := rd_lt g1
      obtain ⟨rfl, rfl⟩ := huA.2 h20
      refine xg_aload_n hX 0 dD_edit_26 rfl rfl ?_
      refine xg_get hX (ci := 2) rfl hinD 0 rfl 5 (by decide) mt_73 rfl dD_edit_27 ?_
      refine xg_aload_n hX 0 dD_edit_30 rfl rfl ?_
      refine xg_get hX (ci := 2) rfl hinD 0 rfl 1 (by decide) mt_69 rfl dD_edit_31 ?_
      refine xg_iload_n hX 1 dD_edit_34 rfl rfl ?_
      refine xg_top (nI (tn n)) (df3 h5) ?_
      refine xg_cV hX dw [.ref d1, .int (nI (tn n))] (hM := xc_begin l D cI dw pw pt cn lf sg bl zr fi si W T d1 p1 (rdD M (tn n) (tn a)) (rdS M (tn n) (tn a)) (tn n) hx) (wr := [(dq, .inr (2, [.ref dm, .ref d1, .ref d2, .ref d3, .ref d4, .ref dw, .int (bI den)])), (dm, .inl (cI, 256, .inl (nf M)))]) (ws' := fun _ => [(dq, .inr (2, [.ref dm, .ref d1, .ref d2, .ref d3, .ref d4, .ref dw, .int (bI den)])), (dm, .inl (cI, 256, .inl (nf M))), (d1, .inr (0, [.ref p1, .int (bI (rdS M (tn n) (tn a)))])), (p1, .inl (cI, 130, .inl (nf (rdD M (tn n) (tn a))))), (dw, .inr (1, [.ref pw, .ref pt, .int (nI 0), .int (nI (tn n)), .int (bI false), .int (bI (rdS M (tn n) (tn a))), .int (bI (!hasD (rdD M (tn n) (tn a)) 0 130)), .int (nI 32), .int (nI (if rdS M (tn n) (tn a) = true then 45 else 32))])), (pw, .inl (cI, 64, .inl (nf W))), (pt, .inl (cI, 31, .inl (nf (rdD M (tn n) (tn a)))))]) (st' := fun _ => []) [4, 5, 6, 2, 3] [0, 1] [0, 1, 5, 6, 2, 3, 4] [] rfl mt_268 mt_265 mt_3 mt_266 mt_267 0 rfl rfl hdW_begin (by decide) ⟨rfl, rfl⟩ (by decide) rfl rfl (by decide) rfl (by decide) (by decide) (by decide) (fun u => rfl) (fun u => rfl) (fun u => rfl) rfl rfl (by simp [Value.category]) dD_edit_35 (fun _ _ => ?_)
      refine xg_aload_n hX 0 dD_edit_38 rfl rfl ?_
      refine xg_iload_n hX 3 dD_edit_39 rfl rfl ?_
      refine xg_cV hX dq [.int p] (hM := xc_follow l D cI dq dm d1 d2 d3 d4 dw den M pw pt 0 (tn n) false (rdS M (tn n) (tn a)) (!hasD (rdD M (tn n) (tn a)) 0 130) 32 (if rdS M (tn n) (tn a) = true then 45 else 32) W (rdD M (tn n) (tn a)) p hM hx (Nat.zero_le _) (df1 h5)) (wr := [(d1, .inr (0, [.ref p1, .int (bI (rdS M (tn n) (tn a)))])), (p1, .inl (cI, 130, .inl (nf (rdD M (tn n) (tn a)))))]) (ws' := fun u => match u with | (okB, W2B, cn2B, lf2B, sg2B, fi2B, si2B) => [(dq, .inr (2, [.ref dm, .ref d1, .ref d2, .ref d3, .ref d4, .ref dw, .int (bI den)])), (dm, .inl (cI, 256, .inl (nf M))), (d1, .inr (0, [.ref p1, .int (bI (rdS M (tn n) (tn a)))])), (p1, .inl (cI, 130, .inl (nf (rdD M (tn n) (tn a))))), (dw, .inr (1, [.ref pw, .ref pt, .int (nI cn2B), .int (nI lf2B), .int (bI sg2B), .int (bI (rdS M (tn n) (tn a))), .int (bI (!hasD (rdD M (tn n) (tn a)) 0 130)), .int (nI fi2B), .int (nI si2B)])), (pw, .inl (cI, 64, .inl (nf W2B))), (pt, .inl (cI, 31, .inl (nf (rdD M (tn n) (tn a)))))]) (st' := fun u => match u with | (okB, W2B, cn2B, lf2B, sg2B, fi2B, si2B) => [.int (bI okB)]) [0, 1, 4, 5, 6] [2, 3] [2, 3, 0, 1, 4, 5, 6] [] rfl mt_274 mt_271 mt_1 mt_273 mp_10 0 rfl rfl hdD_followPattern (by decide) ⟨rfl, rfl⟩ (by decide) rfl rfl (by decide) rfl (by decide) (by decide) (by decide) (fun u => rfl) (fun u => rfl) (fun u => rfl) rfl rfl (by simp [Value.category]) dD_edit_40 (fun u hu => ?_)
      obtain ⟨okB, W2B, cn2B, lf2B, sg2B, fi2B, si2B⟩ := u
      have huB : pres okB (fol M (rdD M (tn n) (tn a)) (rdS M (tn n) (tn a)) (!hasD (rdD M (tn n) (tn a)) 0 130) 64 p (W, 0, tn n, false, 32, if rdS M (tn n) (tn a) = true then 45 else 32)) (W2B, cn2B, lf2B, sg2B, fi2B, si2B) := hu
      show GG D X 0 0 43 [(dq, .inr (2, [.ref dm, .ref d1, .ref d2, .ref d3, .ref d4, .ref dw, .int (bI den)])), (dm, .inl (cI, 256, .inl (nf M))), (d1, .inr (0, [.ref p1, .int (bI (rdS M (tn n) (tn a)))])), (p1, .inl (cI, 130, .inl (nf (rdD M (tn n) (tn a))))), (dw, .inr (1, [.ref pw, .ref pt, .int (nI cn2B), .int (nI lf2B), .int (bI sg2B), .int (bI (rdS M (tn n) (tn a))), .int (bI (!hasD (rdD M (tn n) (tn a)) 0 130)), .int (nI fi2B), .int (nI si2B)])), (pw, .inl (cI, 64, .inl (nf W2B))), (pt, .inl (cI, 31, .inl (nf (rdD M (tn n) (tn a)))))] [(0, .ref dq), (1, .int n), (2, .int a), (3, .int p), (4, .int b)] [.int (bI okB)]
      refine xg_if_neB hX 49 dD_edit_43 (by decide) (fun h43 => ?_) (fun h43 => ?_)
      ·
        have hp : edP M W n a p = some (W2B, cn2B, lf2B, sg2B, fi2B, si2B) := pres_some huB h43
        have eB : cn2B ≤ 64 := fol_le hp (Nat.zero_le _)
        have hW : ∀ j, j < cn2B → W2B j < 256 := fol_W hM hx hp
        refine xg_iload hX 4 dD_edit_49 rfl ?_
        refine xg_if_ltZ hX b.toInt rfl 78 dD_edit_51 (by decide) (fun h51 => ?_) (fun h51 => ?_)
        ·
          refine xg_iconst hX ((-1)) dD_edit_78 (by decide) ?_
          exact hret ((-1), M, den, rdD M (tn n) (tn a), rdS M (tn n) (tn a), cn2B, lf2B, sg2B, rdS M (tn n) (tn a), !hasD (rdD M (tn n) (tn a)) 0 130, fi2B, si2B, W2B, rdD M (tn n) (tn a)) _ _ _ rfl (show ((-1), M, den) = editZ M den W n a p b from (by unfold editZ; rw [if_pos h5, if_pos g1, hp]; show _ = if _ then _ else _; rw [if_neg (by unfold tn at *; show ¬ (0 ≤ b.toInt ∧ b.toInt ≤ 256 ∧ (cn2B : Int) ≤ 256 - b.toInt); omega)])) dD_edit_79
        ·
          refine xg_iload hX 4 dD_edit_54 rfl ?_
          refine xg_sipush hX (nI 256) dD_edit_56 (by decide) ?_
          refine xg_icmp_gtZ hX b.toInt (256 : Nat) rfl (xn_ti (by omega)) 78 dD_edit_59 (by decide) (fun h59 => ?_) (fun h59 => ?_)
          ·
            refine xg_iconst hX ((-1)) dD_edit_78 (by decide) ?_
            exact hret ((-1), M, den, rdD M (tn n) (tn a), rdS M (tn n) (tn a), cn2B, lf2B, sg2B, rdS M (tn n) (tn a), !hasD (rdD M (tn n) (tn a)) 0 130, fi2B, si2B, W2B, rdD M (tn n) (tn a)) _ _ _ rfl (show ((-1), M, den) = editZ M den W n a p b from (by unfold editZ; rw [if_pos h5, if_pos g1, hp]; show _ = if _ then _ else _; rw [if_neg (by unfold tn at *; show ¬ (0 ≤ b.toInt ∧ b.toInt ≤ 256 ∧ (cn2B : Int) ≤ 256 - b.toInt); omega)])) dD_edit_79
          ·
            refine xg_aload_n hX 0 dD_edit_62 rfl rfl ?_
            refine xg_get hX (ci := 2) rfl hinD 0 rfl 5 (by decide) mt_73 rfl dD_edit_63 ?_
            refine xg_get hX (ci := 1) rfl hinW 4 rfl 2 (by decide) mt_40 rfl dD_edit_66 ?_
            refine xg_sipush hX (nI 256) dD_edit_69 (by decide) ?_
            have e8 : tn b ≤ 256 := by unfold tn; omega
            refine xg_iload hX 4 dD_edit_72 rfl ?_
            refine xg_top (nI (tn b)) (xn_tn h51) ?_
            refine xg_isubN hX (by omega) dD_edit_74 ?_
            refine xg_icmp_leN hX 80 (by omega) (by omega) dD_edit_75 (by decide) (fun h75 => ?_) (fun h75 => ?_)
            ·
              refine xg_iconst hX (nI 0) dD_edit_80 (by decide) ?_
              refine xg_istore hX (lv' := [(5, .int (nI 0)), (0, .ref dq), (1, .int n), (2, .int a), (3, .int p), (4, .int b)]) dD_edit_81 (by decide) rfl ?_
              have lp1 : ∀ (fu2 : Nat) (i : Nat), (i ≤ cn2B) → cn2B - i < fu2 → GG D X 0 0 83 [(dq, .inr (2, [.ref dm, .ref d1, .ref d2, .ref d3, .ref d4, .ref dw, .int (bI den)])), (dm, .inl (cI, 256, .inl (nf (edM M W2B (tn b) i)))), (d1, .inr (0, [.ref p1, .int (bI (rdS M (tn n) (tn a)))])), (p1, .inl (cI, 130, .inl (nf (rdD M (tn n) (tn a))))), (dw, .inr (1, [.ref pw, .ref pt, .int (nI cn2B), .int (nI lf2B), .int (bI sg2B), .int (bI (rdS M (tn n) (tn a))), .int (bI (!hasD (rdD M (tn n) (tn a)) 0 130)), .int (nI fi2B), .int (nI si2B)])), (pw, .inl (cI, 64, .inl (nf W2B))), (pt, .inl (cI, 31, .inl (nf (rdD M (tn n) (tn a)))))] [(0, .ref dq), (4, .int b), (5, .int (nI i))] [] := by
                intro fu2
                induction fu2 with
                | zero => intro i hi hm4; exact absurd hm4 (Nat.not_lt_zero _)
                | succ fu2 ih3 =>
                  intro i hi hm4
                  refine xg_iload hX 2 dD_edit_83 rfl ?_
                  refine xg_aload_n hX 0 dD_edit_85 rfl rfl ?_
                  refine xg_get hX (ci := 2) rfl hinD 0 rfl 5 (by decide) mt_73 rfl dD_edit_86 ?_
                  refine xg_get hX (ci := 1) rfl hinW 4 rfl 2 (by decide) mt_40 rfl dD_edit_89 ?_
                  refine xg_icmp_geN hX 120 (by omega) (by omega) dD_edit_92 (by decide) (fun h92 => ?_) (fun h92 => ?_)
                  ·
                    refine xg_aload_n hX 0 dD_edit_120 rfl rfl ?_
                    refine xg_aload_n hX 0 dD_edit_121 rfl rfl ?_
                    refine xg_get hX (ci := 2) rfl hinD 0 rfl 5 (by decide) mt_73 rfl dD_edit_122 ?_
                    refine xg_get hX (ci := 1) rfl hinW 4 rfl 4 (by decide) mt_44 rfl dD_edit_125 ?_
                    refine xg_put hX tyD tyD_ok nmD (ci := 2) rfl hinD (ws' := [(dq, .inr (2, [.ref dm, .ref d1, .ref d2, .ref d3, .ref d4, .ref dw, .int (bI sg2B)])), (dm, .inl (cI, 256, .inl (nf (edM M W2B (tn b) i)))), (d1, .inr (0, [.ref p1, .int (bI (rdS M (tn n) (tn a)))])), (p1, .inl (cI, 130, .inl (nf (rdD M (tn n) (tn a))))), (dw, .inr (1, [.ref pw, .ref pt, .int (nI cn2B), .int (nI lf2B), .int (bI sg2B), .int (bI (rdS M (tn n) (tn a))), .int (bI (!hasD (rdD M (tn n) (tn a)) 0 130)), .int (nI fi2B), .int (nI si2B)])), (pw, .inl (cI, 64, .inl (nf W2B))), (pt, .inl (cI, 31, .inl (nf (rdD M (tn n) (tn a)))))]) 0 rfl 6 (by decide) mt_74 rfl (xn_narB _) (xn_fitB _) (Nat.le_of_ble_eq_true rfl) rfl dD_edit_128 ?_
                    refine xg_aload_n hX 0 dD_edit_131 rfl rfl ?_
                    refine xg_get hX (ci := 2) rfl hinD 0 rfl 5 (by decide) mt_73 rfl dD_edit_132 ?_
                    refine xg_get hX (ci := 1) rfl hinW 4 rfl 2 (by decide) mt_40 rfl dD_edit_135 ?_
                    exact hret (nI cn2B, edM M W2B (tn b) i, sg2B, rdD M (tn n) (tn a), rdS M (tn n) (tn a), cn2B, lf2B, sg2B, rdS M (tn n) (tn a), !hasD (rdD M (tn n) (tn a)) 0 130, fi2B, si2B, W2B, rdD M (tn n) (tn a)) _ _ _ rfl (show ((nI cn2B), (edM M W2B (tn b) i), sg2B) = editZ M den W n a p b from (by unfold editZ; rw [if_pos h5, if_pos g1, hp]; show _ = if _ then _ else _; rw [if_pos (by unfold tn at *; show 0 ≤ b.toInt ∧ b.toInt ≤ 256 ∧ (cn2B : Int) ≤ 256 - b.toInt; omega), show i = cn2B by omega])) dD_edit_138
                  ·
                    refine xg_aload_n hX 0 dD_edit_95 rfl rfl ?_
                    refine xg_iload hX 1 dD_edit_96 rfl ?_
                    refine xg_top (nI (tn b)) (xn_tn h51) ?_
                    refine xg_iload hX 2 dD_edit_98 rfl ?_
                    refine xg_iaddN hX dD_edit_100 ?_
                    refine xg_aload_n hX 0 dD_edit_101 rfl rfl ?_
                    refine xg_get hX (ci := 2) rfl hinD 0 rfl 5 (by decide) mt_73 rfl dD_edit_102 ?_
                    refine xg_iload hX 2 dD_edit_105 rfl ?_
                    refine xg_cV hX dw [.int (nI i)] (hM := xc_charAt l D cI dw pw pt cn2B lf2B sg2B (rdS M (tn n) (tn a)) (!hasD (rdD M (tn n) (tn a)) 0 130) fi2B si2B W2B (rdD M (tn n) (tn a)) i (by omega)) (wr := [(dq, .inr (2, [.ref dm, .ref d1, .ref d2, .ref d3, .ref d4, .ref dw, .int (bI den)])), (dm, .inl (cI, 256, .inl (nf (edM M W2B (tn b) i)))), (d1, .inr (0, [.ref p1, .int (bI (rdS M (tn n) (tn a)))])), (p1, .inl (cI, 130, .inl (nf (rdD M (tn n) (tn a)))))]) (ws' := fun _ => [(dq, .inr (2, [.ref dm, .ref d1, .ref d2, .ref d3, .ref d4, .ref dw, .int (bI den)])), (dm, .inl (cI, 256, .inl (nf (edM M W2B (tn b) i)))), (d1, .inr (0, [.ref p1, .int (bI (rdS M (tn n) (tn a)))])), (p1, .inl (cI, 130, .inl (nf (rdD M (tn n) (tn a))))), (dw, .inr (1, [.ref pw, .ref pt, .int (nI cn2B), .int (nI lf2B), .int (bI sg2B), .int (bI (rdS M (tn n) (tn a))), .int (bI (!hasD (rdD M (tn n) (tn a)) 0 130)), .int (nI fi2B), .int (nI si2B)])), (pw, .inl (cI, 64, .inl (nf W2B))), (pt, .inl (cI, 31, .inl (nf (rdD M (tn n) (tn a)))))]) (st' := fun _ => [.int (nI (W2B i)), .int (nI ((tn b) + i)), .ref dq]) [4, 5, 6] [0, 1, 2, 3] [0, 1, 2, 3, 4, 5, 6] [.int (nI ((tn b) + i)), .ref dq] rfl mt_313 mt_310 mt_3 mt_311 mt_312 0 rfl rfl hdW_characterAt (by decide) ⟨rfl, rfl⟩ (by decide) rfl rfl (by decide) rfl (by decide) (by decide) (by decide) (fun u => rfl) (fun u => rfl) (fun u => rfl) rfl rfl (by simp [Value.category]) dD_edit_107 (fun _ _ => ?_)
                    refine xg_cV hX dq [.int (nI ((tn b) + i)), .int (nI (W2B i))] (hM := xc_putN l D cI dq dm d1 d2 d3 d4 dw den (edM M W2B (tn b) i) ((tn b) + i) (W2B i) (by omega) (hW i h92)) (wr := [(d1, .inr (0, [.ref p1, .int (bI (rdS M (tn n) (tn a)))])), (p1, .inl (cI, 130, .inl (nf (rdD M (tn n) (tn a))))), (dw, .inr (1, [.ref pw, .ref pt, .int (nI cn2B), .int (nI lf2B), .int (bI sg2B), .int (bI (rdS M (tn n) (tn a))), .int (bI (!hasD (rdD M (tn n) (tn a)) 0 130)), .int (nI fi2B), .int (nI si2B)])), (pw, .inl (cI, 64, .inl (nf W2B))), (pt, .inl (cI, 31, .inl (nf (rdD M (tn n) (tn a)))))]) (ws' := fun _ => [(dq, .inr (2, [.ref dm, .ref d1, .ref d2, .ref d3, .ref d4, .ref dw, .int (bI den)])), (dm, .inl (cI, 256, .inl (nf (up (edM M W2B (tn b) i) ((tn b) + i) (W2B i))))), (d1, .inr (0, [.ref p1, .int (bI (rdS M (tn n) (tn a)))])), (p1, .inl (cI, 130, .inl (nf (rdD M (tn n) (tn a))))), (dw, .inr (1, [.ref pw, .ref pt, .int (nI cn2B), .int (nI lf2B), .int (bI sg2B), .int (bI (rdS M (tn n) (tn a))), .int (bI (!hasD (rdD M (tn n) (tn a)) 0 130)), .int (nI fi2B), .int (nI si2B)])), (pw, .inl (cI, 64, .inl (nf W2B))), (pt, .inl (cI, 31, .inl (nf (rdD M (tn n) (tn a)))))]) (st' := fun _ => [.int (bI true)]) [0, 1] [2, 3, 4, 5, 6] [5, 6, 0, 1, 2, 3, 4] [] rfl mt_93 mt_172 mt_1 mt_91 mt_92 0 rfl rfl hdD_put (by decide) ⟨rfl, rfl⟩ (by decide) rfl rfl (by decide) rfl (by decide) (by decide) (by decide) (fun u => rfl) (fun u => rfl) (fun u => rfl) rfl rfl (by simp [Value.category]) dD_edit_110 (fun _ _ => ?_)
                    refine xg_pop hX dD_edit_113 rfl ?_
                    refine xg_iincN hX (lv' := [(5, .int (nI (i + 1))), (0, .ref dq), (4, .int b)]) (i + 1) 2 dD_edit_114 rfl (xn_inc _) (by decide) rfl ?_
                    refine xg_goto hX 83 dD_edit_117 (by decide) ?_
                    refine xg_ext hX (g := edM M W2B (tn b) (i + 1)) (ws' := [(dq, .inr (2, [.ref dm, .ref d1, .ref d2, .ref d3, .ref d4, .ref dw, .int (bI den)])), (dm, .inl (cI, 256, .inl (nf (edM M W2B (tn b) (i + 1))))), (d1, .inr (0, [.ref p1, .int (bI (rdS M (tn n) (tn a)))])), (p1, .inl (cI, 130, .inl (nf (rdD M (tn n) (tn a))))), (dw, .inr (1, [.ref pw, .ref pt, .int (nI cn2B), .int (nI lf2B), .int (bI sg2B), .int (bI (rdS M (tn n) (tn a))), .int (bI (!hasD (rdD M (tn n) (tn a)) 0 130)), .int (nI fi2B), .int (nI si2B)])), (pw, .inl (cI, 64, .inl (nf W2B))), (pt, .inl (cI, 31, .inl (nf (rdD M (tn n) (tn a)))))]) 1 rfl (fun j hj => edM_s j) rfl ?_
                    refine xg_lv hX (lv' := [(0, .ref dq), (4, .int b), (5, .int (nI (i + 1)))]) [1, 2, 0] rfl ?_
                    exact ih3 (i + 1) (by omega) (by omega)
              refine xg_ext hX (g := edM M W2B (tn b) 0) (ws' := [(dq, .inr (2, [.ref dm, .ref d1, .ref d2, .ref d3, .ref d4, .ref dw, .int (bI den)])), (dm, .inl (cI, 256, .inl (nf (edM M W2B (tn b) 0)))), (d1, .inr (0, [.ref p1, .int (bI (rdS M (tn n) (tn a)))])), (p1, .inl (cI, 130, .inl (nf (rdD M (tn n) (tn a))))), (dw, .inr (1, [.ref pw, .ref pt, .int (nI cn2B), .int (nI lf2B), .int (bI sg2B), .int (bI (rdS M (tn n) (tn a))), .int (bI (!hasD (rdD M (tn n) (tn a)) 0 130)), .int (nI fi2B), .int (nI si2B)])), (pw, .inl (cI, 64, .inl (nf W2B))), (pt, .inl (cI, 31, .inl (nf (rdD M (tn n) (tn a)))))]) 1 rfl (fun j hj => edM_0 j) rfl ?_
              refine xg_lv hX (lv' := [(0, .ref dq), (4, .int b), (5, .int (nI 0))]) [1, 5, 0] rfl ?_
              exact lp1 (cn2B - 0 + 1) 0 (by omega) (Nat.lt_succ_self _)
            ·
              refine xg_iconst hX ((-1)) dD_edit_78 (by decide) ?_
              exact hret ((-1), M, den, rdD M (tn n) (tn a), rdS M (tn n) (tn a), cn2B, lf2B, sg2B, rdS M (tn n) (tn a), !hasD (rdD M (tn n) (tn a)) 0 130, fi2B, si2B, W2B, rdD M (tn n) (tn a)) _ _ _ rfl (show ((-1), M, den) = editZ M den W n a p b from (by unfold editZ; rw [if_pos h5, if_pos g1, hp]; show _ = if _ then _ else _; rw [if_neg (by unfold tn at *; show ¬ (0 ≤ b.toInt ∧ b.toInt ≤ 256 ∧ (cn2B : Int) ≤ 256 - b.toInt); omega)])) dD_edit_79
      ·
        refine xg_bipush hX ((-2)) dD_edit_46 (by decide) ?_
        exact hret ((-2), M, den, rdD M (tn n) (tn a), rdS M (tn n) (tn a), cn2B, lf2B, sg2B, rdS M (tn n) (tn a), !hasD (rdD M (tn n) (tn a)) 0 130, fi2B, si2B, W2B, rdD M (tn n) (tn a)) _ _ _ rfl (show ((-2), M, den) = editZ M den W n a p b from (by unfold editZ; rw [if_pos h5, if_pos g1, show edP M W n a p = none from pres_none huB h43])) dD_edit_48
    ·
      refine xg_bipush hX ((-2)) dD_edit_23 (by decide) ?_
      exact hret ((-2), M, den, tA, sA, cn, lf, sg, bl, zr, fi, si, W, T) _ _ _ rfl (show ((-2), M, den) = editZ M den W n a p b from (by unfold editZ; rw [if_pos h5, if_neg (fun q => absurd (h20.symm.trans (huA.1.trans q)) (by decide))])) dD_edit_25
  ·
    refine xg_iconst hX ((-1)) dD_edit_8 (by decide) ?_
    exact hret ((-1), M, den, e1, s1, cn, lf, sg, bl, zr, fi, si, W, T) _ _ _ rfl (show ((-1), M, den) = editZ M den W n a p b from (by unfold editZ; rw [if_neg (fun q => absurd (h5.symm.trans q) (by decide))])) dD_edit_9
