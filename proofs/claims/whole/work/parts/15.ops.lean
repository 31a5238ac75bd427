set_option maxHeartbeats 4000000 in
set_option maxRecDepth 100000 in
theorem xc_operands (l : Launch) (D : va_G) (cI : ClassId) (dq : Nat) (dm : Nat) (d1 : Nat) (d2 : Nat) (d3 : Nat) (d4 : Nat) (dw : Nat) (den : Bool) (M : Nat → Nat) (p1 : Nat) (e1 : Nat → Nat) (s1 : Bool) (p2 : Nat) (e2 : Nat → Nat) (s2 : Bool) (n : Int32) (a : Int32) (m : Int32) (b : Int32) (k : Int32) (c : Int32) (hM : ∀ j, M j < 256) : Ctr l D cI yD_readOperands cD_readOperands 7 (some .int) { frames := 5, cells := 0, slots := 0, locals := 111 } [.ref dq, .int n, .int a, .int m, .int b, .int k, .int c] [(dq, .inr (2, [.ref dm, .ref d1, .ref d2, .ref d3, .ref d4, .ref dw, .int (bI den)])), (dm, .inl (cI, 256, .inl (nf M))), (d1, .inr (0, [.ref p1, .int (bI s1)])), (p1, .inl (cI, 130, .inl (nf e1))), (d2, .inr (0, [.ref p2, .int (bI s2)])), (p2, .inl (cI, 130, .inl (nf e2)))] (fun u : Int32 × (Nat → Nat) × Bool × (Nat → Nat) × Bool => match u with | (r, e1_, s1_, e2_, s2_) => some (.int r)) (fun u : Int32 × (Nat → Nat) × Bool × (Nat → Nat) × Bool => match u with | (r, e1_, s1_, e2_, s2_) => r = opR M n a m b k c ∧ (r = 0 → e1_ = rdD M (tn n) (tn a) ∧ s1_ = rdS M (tn n) (tn a) ∧ e2_ = rdD M (tn m) (tn b) ∧ s2_ = rdS M (tn m) (tn b))) (fun u : Int32 × (Nat → Nat) × Bool × (Nat → Nat) × Bool => match u with | (r, e1_, s1_, e2_, s2_) => [(dq, .inr (2, [.ref dm, .ref d1, .ref d2, .ref d3, .ref d4, .ref dw, .int (bI den)])), (dm, .inl (cI, 256, .inl (nf M))), (d1, .inr (0, [.ref p1, .int (bI s1_)])), (p1, .inl (cI, 130, .inl (nf e1_))), (d2, .inr (0, [.ref p2, .int (bI s2_)])), (p2, .inl (cI, 130, .inl (nf e2_)))]) 0 0 := by
  refine xc_mkI (by decide +kernel) (Nat.le_of_ble_eq_true rfl) (fun X hX hret => ?_)
  show GG D X 0 0 0 [(dq, .inr (2, [.ref dm, .ref d1, .ref d2, .ref d3, .ref d4, .ref dw, .int (bI den)])), (dm, .inl (cI, 256, .inl (nf M))), (d1, .inr (0, [.ref p1, .int (bI s1)])), (p1, .inl (cI, 130, .inl (nf e1))), (d2, .inr (0, [.ref p2, .int (bI s2)])), (p2, .inl (cI, 130, .inl (nf e2)))] [(0, .ref dq), (1, .int n), (2, .int a), (3, .int m), (4, .int b), (5, .int k), (6, .int c)] []
  refine xg_iload_n hX 1 dD_readOperands_0 rfl rfl ?_
  refine xg_iload_n hX 2 dD_readOperands_1 rfl rfl ?_
  refine xg_cS hX [.int n, .int a] (hM := xc_dfits l D cI n a) (wr := [(dq, .inr (2, [.ref dm, .ref d1, .ref d2, .ref d3, .ref d4, .ref dw, .int (bI den)])), (dm, .inl (cI, 256, .inl (nf M))), (d1, .inr (0, [.ref p1, .int (bI s1)])), (p1, .inl (cI, 130, .inl (nf e1))), (d2, .inr (0, [.ref p2, .int (bI s2)])), (p2, .inl (cI, 130, .inl (nf e2)))]) (ws' := fun _ => [(dq, .inr (2, [.ref dm, .ref d1, .ref d2, .ref d3, .ref d4, .ref dw, .int (bI den)])), (dm, .inl (cI, 256, .inl (nf M))), (d1, .inr (0, [.ref p1, .int (bI s1)])), (p1, .inl (cI, 130, .inl (nf e1))), (d2, .inr (0, [.ref p2, .int (bI s2)])), (p2, .inl (cI, 130, .inl (nf e2)))]) (st' := fun _ => [.int (bI (dfits n a))]) [] [0, 1, 2, 3, 4, 5] [0, 1, 2, 3, 4, 5] [] rfl mt_108 mt_106 mt_1 mt_107 hdD_decimalFits (by decide) ⟨rfl, rfl⟩ (by decide) rfl rfl (by decide) rfl (by decide) (by decide) (by decide) (fun u => rfl) (fun u => rfl) (fun u => rfl) rfl rfl (by simp [Value.category]) dD_readOperands_2 (fun _ _ => ?_)
  refine xg_if_eqB hX 27 dD_readOperands_5 (by decide) (fun h5 => ?_) (fun h5 => ?_)
  ·
    refine xg_iconst hX ((-1)) dD_readOperands_27 (by decide) ?_
    exact hret ((-1), e1, s1, e2, s2) _ _ _ rfl (show (-1) = opR M n a m b k c ∧ ((-1) = 0 → e1 = rdD M (tn n) (tn a) ∧ s1 = rdS M (tn n) (tn a) ∧ e2 = rdD M (tn m) (tn b) ∧ s2 = rdS M (tn m) (tn b)) from ⟨by unfold opR; rw [if_neg (fun q => by simp only [Bool.and_eq_true] at q; first | exact absurd (h5.symm.trans q.1.1) (by decide) | exact absurd (h14.symm.trans q.1.2) (by decide) | exact absurd (h24.symm.trans q.2) (by decide))], fun q => absurd q (by decide)⟩) dD_readOperands_28
  ·
    refine xg_iload_n hX 3 dD_readOperands_8 rfl rfl ?_
    refine xg_iload hX 4 dD_readOperands_9 rfl ?_
    refine xg_cS hX [.int m, .int b] (hM := xc_dfits l D cI m b) (wr := [(dq, .inr (2, [.ref dm, .ref d1, .ref d2, .ref d3, .ref d4, .ref dw, .int (bI den)])), (dm, .inl (cI, 256, .inl (nf M))), (d1, .inr (0, [.ref p1, .int (bI s1)])), (p1, .inl (cI, 130, .inl (nf e1))), (d2, .inr (0, [.ref p2, .int (bI s2)])), (p2, .inl (cI, 130, .inl (nf e2)))]) (ws' := fun _ => [(dq, .inr (2, [.ref dm, .ref d1, .ref d2, .ref d3, .ref d4, .ref dw, .int (bI den)])), (dm, .inl (cI, 256, .inl (nf M))), (d1, .inr (0, [.ref p1, .int (bI s1)])), (p1, .inl (cI, 130, .inl (nf e1))), (d2, .inr (0, [.ref p2, .int (bI s2)])), (p2, .inl (cI, 130, .inl (nf e2)))]) (st' := fun _ => [.int (bI (dfits m b))]) [] [0, 1, 2, 3, 4, 5] [0, 1, 2, 3, 4, 5] [] rfl mt_108 mt_106 mt_1 mt_107 hdD_decimalFits (by decide) ⟨rfl, rfl⟩ (by decide) rfl rfl (by decide) rfl (by decide) (by decide) (by decide) (fun u => rfl) (fun u => rfl) (fun u => rfl) rfl rfl (by simp [Value.category]) dD_readOperands_11 (fun _ _ => ?_)
    refine xg_if_eqB hX 27 dD_readOperands_14 (by decide) (fun h14 => ?_) (fun h14 => ?_)
    ·
      refine xg_iconst hX ((-1)) dD_readOperands_27 (by decide) ?_
      exact hret ((-1), e1, s1, e2, s2) _ _ _ rfl (show (-1) = opR M n a m b k c ∧ ((-1) = 0 → e1 = rdD M (tn n) (tn a) ∧ s1 = rdS M (tn n) (tn a) ∧ e2 = rdD M (tn m) (tn b) ∧ s2 = rdS M (tn m) (tn b)) from ⟨by unfold opR; rw [if_neg (fun q => by simp only [Bool.and_eq_true] at q; first | exact absurd (h5.symm.trans q.1.1) (by decide) | exact absurd (h14.symm.trans q.1.2) (by decide) | exact absurd (h24.symm.trans q.2) (by decide))], fun q => absurd q (by decide)⟩) dD_readOperands_28
    ·
      refine xg_iload hX 5 dD_readOperands_17 rfl ?_
      refine xg_iload hX 6 dD_readOperands_19 rfl ?_
      refine xg_cS hX [.int k, .int c] (hM := xc_dfits l D cI k c) (wr := [(dq, .inr (2, [.ref dm, .ref d1, .ref d2, .ref d3, .ref d4, .ref dw, .int (bI den)])), (dm, .inl (cI, 256, .inl (nf M))), (d1, .inr (0, [.ref p1, .int (bI s1)])), (p1, .inl (cI, 130, .inl (nf e1))), (d2, .inr (0, [.ref p2, .int (bI s2)])), (p2, .inl (cI, 130, .inl (nf e2)))]) (ws' := fun _ => [(dq, .inr (2, [.ref dm, .ref d1, .ref d2, .ref d3, .ref d4, .ref dw, .int (bI den)])), (dm, .inl (cI, 256, .inl (nf M))), (d1, .inr (0, [.ref p1, .int (bI s1)])), (p1, .inl (cI, 130, .inl (nf e1))), (d2, .inr (0, [.ref p2, .int (bI s2)])), (p2, .inl (cI, 130, .inl (nf e2)))]) (st' := fun _ => [.int (bI (dfits k c))]) [] [0, 1, 2, 3, 4, 5] [0, 1, 2, 3, 4, 5] [] rfl mt_108 mt_106 mt_1 mt_107 hdD_decimalFits (by decide) ⟨rfl, rfl⟩ (by decide) rfl rfl (by decide) rfl (by decide) (by decide) (by decide) (fun u => rfl) (fun u => rfl) (fun u => rfl) rfl rfl (by simp [Value.category]) dD_readOperands_21 (fun _ _ => ?_)
      refine xg_if_neB hX 29 dD_readOperands_24 (by decide) (fun h24 => ?_) (fun h24 => ?_)
      ·
        refine xg_aload_n hX 0 dD_readOperands_29 rfl rfl ?_
        refine xg_aload_n hX 0 dD_readOperands_30 rfl rfl ?_
        refine xg_get hX (ci := 2) rfl hinD 0 rfl 1 (by decide) mt_69 rfl dD_readOperands_31 ?_
        refine xg_iload_n hX 1 dD_readOperands_34 rfl rfl ?_
        refine xg_top (nI (tn n)) (df3 h5) ?_
        refine xg_iload_n hX 2 dD_readOperands_35 rfl rfl ?_
        refine xg_top (nI (tn a)) (df4 h5) ?_
        refine xg_cV hX dq [.ref d1, .int (nI (tn n)), .int (nI (tn a))] (hM := xc_readDecimal l D cI dq dm d1 d2 d3 d4 dw den M d1 p1 e1 s1 (tn n) (tn a) (df1 h5) (df2 h5) hM) (wr := [(d2, .inr (0, [.ref p2, .int (bI s2)])), (p2, .inl (cI, 130, .inl (nf e2)))]) (ws' := fun u => match u with | (okA, tA, sA) => [(dq, .inr (2, [.ref dm, .ref d1, .ref d2, .ref d3, .ref d4, .ref dw, .int (bI den)])), (dm, .inl (cI, 256, .inl (nf M))), (d1, .inr (0, [.ref p1, .int (bI sA)])), (p1, .inl (cI, 130, .inl (nf tA))), (d2, .inr (0, [.ref p2, .int (bI s2)])), (p2, .inl (cI, 130, .inl (nf e2)))]) (st' := fun u => match u with | (okA, tA, sA) => [.int (bI okA)]) [0, 1, 2, 3] [4, 5] [2, 3, 4, 5, 0, 1] [] rfl mt_112 mt_109 mt_1 mt_111 mp_1 0 rfl rfl hdD_readDecimal (by decide) ⟨rfl, rfl⟩ (by decide) rfl rfl (by decide) rfl (by decide) (by decide) (by decide) (fun u => rfl) (fun u => rfl) (fun u => rfl) rfl rfl (by simp [Value.category]) dD_readOperands_36 (fun u hu => ?_)
        obtain ⟨okA, tA, sA⟩ := u
        have huA : okA = rdb M (tn n) (tn a) ∧ (okA = true → tA = rdD M (tn n) (tn a) ∧ sA = rdS M (tn n) (tn a)) := hu
        show GG D X 0 0 39 [(dq, .inr (2, [.ref dm, .ref d1, .ref d2, .ref d3, .ref d4, .ref dw, .int (bI den)])), (dm, .inl (cI, 256, .inl (nf M))), (d1, .inr (0, [.ref p1, .int (bI sA)])), (p1, .inl (cI, 130, .inl (nf tA))), (d2, .inr (0, [.ref p2, .int (bI s2)])), (p2, .inl (cI, 130, .inl (nf e2)))] [(0, .ref dq), (1, .int n), (2, .int a), (3, .int m), (4, .int b), (5, .int k), (6, .int c)] [.int (bI okA)]
        refine xg_if_eqB hX 56 dD_readOperands_39 (by decide) (fun h39 => ?_) (fun h39 => ?_)
        ·
          refine xg_bipush hX ((-2)) dD_readOperands_56 (by decide) ?_
          exact hret ((-2), tA, sA, e2, s2) _ _ _ rfl (show (-2) = opR M n a m b k c ∧ ((-2) = 0 → tA = rdD M (tn n) (tn a) ∧ sA = rdS M (tn n) (tn a) ∧ e2 = rdD M (tn m) (tn b) ∧ s2 = rdS M (tn m) (tn b)) from ⟨by unfold opR; rw [if_pos (by rw [h5, h14, h24]; rfl), if_neg (fun q => by simp only [Bool.and_eq_true] at q; first | exact absurd (huA.1.symm.trans h39 |>.symm.trans q.1) (by decide) | exact absurd (huB.1.symm.trans h53 |>.symm.trans q.2) (by decide))], fun q => absurd q (by decide)⟩) dD_readOperands_58
        ·
          refine xg_aload_n hX 0 dD_readOperands_42 rfl rfl ?_
          refine xg_aload_n hX 0 dD_readOperands_43 rfl rfl ?_
          refine xg_get hX (ci := 2) rfl hinD 0 rfl 2 (by decide) mt_70 rfl dD_readOperands_44 ?_
          refine xg_iload_n hX 3 dD_readOperands_47 rfl rfl ?_
          refine xg_top (nI (tn m)) (df3 h14) ?_
          refine xg_iload hX 4 dD_readOperands_48 rfl ?_
          refine xg_top (nI (tn b)) (df4 h14) ?_
          refine xg_cV hX dq [.ref d2, .int (nI (tn m)), .int (nI (tn b))] (hM := xc_readDecimal l D cI dq dm d1 d2 d3 d4 dw den M d2 p2 e2 s2 (tn m) (tn b) (df1 h14) (df2 h14) hM) (wr := [(d1, .inr (0, [.ref p1, .int (bI sA)])), (p1, .inl (cI, 130, .inl (nf tA)))]) (ws' := fun u => match u with | (okB, tB, sB) => [(dq, .inr (2, [.ref dm, .ref d1, .ref d2, .ref d3, .ref d4, .ref dw, .int (bI den)])), (dm, .inl (cI, 256, .inl (nf M))), (d1, .inr (0, [.ref p1, .int (bI sA)])), (p1, .inl (cI, 130, .inl (nf tA))), (d2, .inr (0, [.ref p2, .int (bI sB)])), (p2, .inl (cI, 130, .inl (nf tB)))]) (st' := fun u => match u with | (okB, tB, sB) => [.int (bI okB)]) [0, 1, 4, 5] [2, 3] [2, 3, 0, 1, 4, 5] [] rfl mt_112 mt_109 mt_1 mt_111 mp_1 0 rfl rfl hdD_readDecimal (by decide) ⟨rfl, rfl⟩ (by decide) rfl rfl (by decide) rfl (by decide) (by decide) (by decide) (fun u => rfl) (fun u => rfl) (fun u => rfl) rfl rfl (by simp [Value.category]) dD_readOperands_50 (fun u hu => ?_)
          obtain ⟨okB, tB, sB⟩ := u
          have huB : okB = rdb M (tn m) (tn b) ∧ (okB = true → tB = rdD M (tn m) (tn b) ∧ sB = rdS M (tn m) (tn b)) := hu
          show GG D X 0 0 53 [(dq, .inr (2, [.ref dm, .ref d1, .ref d2, .ref d3, .ref d4, .ref dw, .int (bI den)])), (dm, .inl (cI, 256, .inl (nf M))), (d1, .inr (0, [.ref p1, .int (bI sA)])), (p1, .inl (cI, 130, .inl (nf tA))), (d2, .inr (0, [.ref p2, .int (bI sB)])), (p2, .inl (cI, 130, .inl (nf tB)))] [(0, .ref dq), (1, .int n), (2, .int a), (3, .int m), (4, .int b), (5, .int k), (6, .int c)] [.int (bI okB)]
          refine xg_if_neB hX 59 dD_readOperands_53 (by decide) (fun h53 => ?_) (fun h53 => ?_)
          ·
            refine xg_iconst hX (nI 0) dD_readOperands_59 (by decide) ?_
            exact hret (nI 0, tA, sA, tB, sB) _ _ _ rfl (show (nI 0) = opR M n a m b k c ∧ ((nI 0) = 0 → tA = rdD M (tn n) (tn a) ∧ sA = rdS M (tn n) (tn a) ∧ tB = rdD M (tn m) (tn b) ∧ sB = rdS M (tn m) (tn b)) from ⟨by unfold opR; rw [if_pos (by rw [h5, h14, h24]; rfl), if_pos (by rw [← huA.1, ← huB.1, h39, h53]; rfl)]; rfl, fun _ => ⟨(huA.2 h39).1, (huA.2 h39).2, (huB.2 h53).1, (huB.2 h53).2⟩⟩) dD_readOperands_60
          ·
            refine xg_bipush hX ((-2)) dD_readOperands_56 (by decide) ?_
            exact hret ((-2), tA, sA, tB, sB) _ _ _ rfl (show (-2) = opR M n a m b k c ∧ ((-2) = 0 → tA = rdD M (tn n) (tn a) ∧ sA = rdS M (tn n) (tn a) ∧ tB = rdD M (tn m) (tn b) ∧ sB = rdS M (tn m) (tn b)) from ⟨by unfold opR; rw [if_pos (by rw [h5, h14, h24]; rfl), if_neg (fun q => by simp only [Bool.and_eq_true] at q; first | exact absurd (huA.1.symm.trans h39 |>.symm.trans q.1) (by decide) | exact absurd (huB.1.symm.trans h53 |>.symm.trans q.2) (by decide))], fun q => absurd q (by decide)⟩) dD_readOperands_58
      ·
        refine xg_iconst hX ((-1)) dD_readOperands_27 (by decide) ?_
        exact hret ((-1), e1, s1, e2, s2) _ _ _ rfl (show (-1) = opR M n a m b k c ∧ ((-1) = 0 → e1 = rdD M (tn n) (tn a) ∧ s1 = rdS M (tn n) (tn a) ∧ e2 = rdD M (tn m) (tn b) ∧ s2 = rdS M (tn m) (tn b)) from ⟨by unfold opR; rw [if_neg (fun q => by simp only [Bool.and_eq_true] at q; first | exact absurd (h5.symm.trans q.1.1) (by decide) | exact absurd (h14.symm.trans q.1.2) (by decide) | exact absurd (h24.symm.trans q.2) (by decide))], fun q => absurd q (by decide)⟩) dD_readOperands_28
set_option maxHeartbeats 4000000 in
set_option maxRecDepth 100000 in
theorem xc_sum (l : Launch) (D : va_G) (cI : ClassId) (dq : Nat) (dm : Nat) (d1 : Nat) (d2 : Nat) (d3 : Nat) (d4 : Nat) (dw : Nat) (den : Bool) (M : Nat → Nat) (p1 : Nat) (e1 : Nat → Nat) (s1 : Bool) (p2 : Nat) (e2 : Nat → Nat) (s2 : Bool) (p4 : Nat) (e4 : Nat → Nat) (s4 : Bool) (n : Int32) (a : Int32) (m : Int32) (b : Int32) (k : Int32) (c : Int32) (hM : ∀ j, M j < 256) : Ctr l D cI yD_sum cD_sum 8 (some .int) { frames := 6, cells := 0, slots := 0, locals := 137 } [.ref dq, .int n, .int a, .int m, .int b, .int k, .int c] [(dq, .inr (2, [.ref dm, .ref d1, .ref d2, .ref d3, .ref d4, .ref dw, .int (bI den)])), (dm, .inl (cI, 256, .inl (nf M))), (d1, .inr (0, [.ref p1, .int (bI s1)])), (p1, .inl (cI, 130, .inl (nf e1))), (d2, .inr (0, [.ref p2, .int (bI s2)])), (p2, .inl (cI, 130, .inl (nf e2))), (d4, .inr (0, [.ref p4, .int (bI s4)])), (p4, .inl (cI, 130, .inl (nf e4)))] (fun u : Int32 × (Nat → Nat) × (Nat → Nat) × Bool × (Nat → Nat) × Bool × (Nat → Nat) × Bool => match u with | (r, M2, e1_, s1_, e2_, s2_, e4_, s4_) => some (.int r)) (fun u : Int32 × (Nat → Nat) × (Nat → Nat) × Bool × (Nat → Nat) × Bool × (Nat → Nat) × Bool => match u with | (r, M2, e1_, s1_, e2_, s2_, e4_, s4_) => (r, M2) = sumZ M n a m b k c) (fun u : Int32 × (Nat → Nat) × (Nat → Nat) × Bool × (Nat → Nat) × Bool × (Nat → Nat) × Bool => match u with | (r, M2, e1_, s1_, e2_, s2_, e4_, s4_) => [(dq, .inr (2, [.ref dm, .ref d1, .ref d2, .ref d3, .ref d4, .ref dw, .int (bI den)])), (dm, .inl (cI, 256, .inl (nf M2))), (d1, .inr (0, [.ref p1, .int (bI s1_)])), (p1, .inl (cI, 130, .inl (nf e1_))), (d2, .inr (0, [.ref p2, .int (bI s2_)])), (p2, .inl (cI, 130, .inl (nf e2_))), (d4, .inr (0, [.ref p4, .int (bI s4_)])), (p4, .inl (cI, 130, .inl (nf e4_)))]) 0 0 := by
  refine xc_mkI (by decide +kernel) (Nat.le_of_ble_eq_true rfl) (fun X hX hret => ?_)
  show GG D X 0 0 0 [(dq, .inr (2, [.ref dm, .ref d1, .ref d2, .ref d3, .ref d4, .ref dw, .int (bI den)])), (dm, .inl (cI, 256, .inl (nf M))), (d1, .inr (0, [.ref p1, .int (bI s1)])), (p1, .inl (cI, 130, .inl (nf e1))), (d2, .inr (0, [.ref p2, .int (bI s2)])), (p2, .inl (cI, 130, .inl (nf e2))), (d4, .inr (0, [.ref p4, .int (bI s4)])), (p4, .inl (cI, 130, .inl (nf e4)))] [(0, .ref dq), (1, .int n), (2, .int a), (3, .int m), (4, .int b), (5, .int k), (6, .int c)] []
  refine xg_aload_n hX 0 dD_sum_0 rfl rfl ?_
  refine xg_iload_n hX 1 dD_sum_1 rfl rfl ?_
  refine xg_iload_n hX 2 dD_sum_2 rfl rfl ?_
  refine xg_iload_n hX 3 dD_sum_3 rfl rfl ?_
  refine xg_iload hX 4 dD_sum_4 rfl ?_
  refine xg_iload hX 5 dD_sum_6 rfl ?_
  refine xg_iload hX 6 dD_sum_8 rfl ?_
  refine xg_cV hX dq [.int n, .int a, .int m, .int b, .int k, .int c] (hM := xc_operands l D cI dq dm d1 d2 d3 d4 dw den M p1 e1 s1 p2 e2 s2 n a m b k c hM) (wr := [(d4, .inr (0, [.ref p4, .int (bI s4)])), (p4, .inl (cI, 130, .inl (nf e4)))]) (ws' := fun u => match u with | (rO, x1, y1, x2, y2) => [(dq, .inr (2, [.ref dm, .ref d1, .ref d2, .ref d3, .ref d4, .ref dw, .int (bI den)])), (dm, .inl (cI, 256, .inl (nf M))), (d1, .inr (0, [.ref p1, .int (bI y1)])), (p1, .inl (cI, 130, .inl (nf x1))), (d2, .inr (0, [.ref p2, .int (bI y2)])), (p2, .inl (cI, 130, .inl (nf x2))), (d4, .inr (0, [.ref p4, .int (bI s4)])), (p4, .inl (cI, 130, .inl (nf e4)))]) (st' := fun u => match u with | (rO, x1, y1, x2, y2) => [.int rO]) [0, 1, 2, 3, 4, 5] [6, 7] [2, 3, 4, 5, 6, 7, 0, 1] [] rfl mt_105 mt_102 mt_1 mt_104 mp_0 0 rfl rfl hdD_readOperands (by decide) ⟨rfl, rfl⟩ (by decide) rfl rfl (by decide) rfl (by decide) (by decide) (by decide) (fun u => rfl) (fun u => rfl) (fun u => rfl) rfl rfl (by simp [Value.category]) dD_sum_10 (fun u hu => ?_)
  obtain ⟨rO, x1, y1, x2, y2⟩ := u
  have huO : rO = opR M n a m b k c ∧ (rO = 0 → x1 = rdD M (tn n) (tn a) ∧ y1 = rdS M (tn n) (tn a) ∧ x2 = rdD M (tn m) (tn b) ∧ y2 = rdS M (tn m) (tn b)) := hu
  show GG D X 0 0 13 [(dq, .inr (2, [.ref dm, .ref d1, .ref d2, .ref d3, .ref d4, .ref dw, .int (bI den)])), (dm, .inl (cI, 256, .inl (nf M))), (d1, .inr (0, [.ref p1, .int (bI y1)])), (p1, .inl (cI, 130, .inl (nf x1))), (d2, .inr (0, [.ref p2, .int (bI y2)])), (p2, .inl (cI, 130, .inl (nf x2))), (d4, .inr (0, [.ref p4, .int (bI s4)])), (p4, .inl (cI, 130, .inl (nf e4)))] [(0, .ref dq), (1, .int n), (2, .int a), (3, .int m), (4, .int b), (5, .int k), (6, .int c)] [.int rO]
  refine xg_istore hX (lv' := [(7, .int rO), (0, .ref dq), (1, .int n), (2, .int a), (3, .int m), (4, .int b), (5, .int k), (6, .int c)]) dD_sum_13 (by decide) rfl ?_
  refine xg_iload hX 0 dD_sum_15 rfl ?_
  refine xg_if_eq hX 23 dD_sum_17 (by decide) (fun h17 => ?_) (fun h17 => ?_)
  ·
    have ho0 : opR M n a m b k c = 0 := by rw [← huO.1]; exact h17
    obtain ⟨f1, f2, f3, g1, g2⟩ := opR_0 ho0
    obtain ⟨rfl, rfl, rfl, rfl⟩ := huO.2 h17
    have hx := rd_lt g1
    have hy := rd_lt g2
    refine xg_aload_n hX 1 dD_sum_23 rfl rfl ?_
    refine xg_get hX (ci := 2) rfl hinD 0 rfl 4 (by decide) mt_72 rfl dD_sum_24 ?_
    refine xg_aload_n hX 1 dD_sum_27 rfl rfl ?_
    refine xg_get hX (ci := 2) rfl hinD 0 rfl 2 (by decide) mt_70 rfl dD_sum_28 ?_
    refine xg_aload_n hX 1 dD_sum_31 rfl rfl ?_
    refine xg_get hX (ci := 2) rfl hinD 0 rfl 1 (by decide) mt_69 rfl dD_sum_32 ?_
    refine xg_cV hX d4 [.ref d2, .ref d1] (hM := xc_addSigned l D cI d4 p4 e4 s4 d2 p2 (rdD M (tn m) (tn b)) (rdS M (tn m) (tn b)) d1 p1 (rdD M (tn n) (tn a)) (rdS M (tn n) (tn a)) hy hx) (wr := [(dq, .inr (2, [.ref dm, .ref d1, .ref d2, .ref d3, .ref d4, .ref dw, .int (bI den)])), (dm, .inl (cI, 256, .inl (nf M)))]) (ws' := fun _ => [(dq, .inr (2, [.ref dm, .ref d1, .ref d2, .ref d3, .ref d4, .ref dw, .int (bI den)])), (dm, .inl (cI, 256, .inl (nf M))), (d1, .inr (0, [.ref p1, .int (bI (rdS M (tn n) (tn a)))])), (p1, .inl (cI, 130, .inl (nf (rdD M (tn n) (tn a))))), (d2, .inr (0, [.ref p2, .int (bI (rdS M (tn m) (tn b)))])), (p2, .inl (cI, 130, .inl (nf (rdD M (tn m) (tn b))))), (d4, .inr (0, [.ref p4, .int (bI (asS (rdD M (tn m) (tn b)) (rdS M (tn m) (tn b)) (rdD M (tn n) (tn a)) (rdS M (tn n) (tn a))))])), (p4, .inl (cI, 130, .inl (nf (asD (rdD M (tn m) (tn b)) (rdS M (tn m) (tn b)) (rdD M (tn n) (tn a)) (rdS M (tn n) (tn a))))))]) (st' := fun _ => []) [6, 7, 4, 5, 2, 3] [0, 1] [0, 1, 6, 7, 4, 5, 2, 3] [] rfl mt_148 mt_145 mt_2 mt_146 mt_147 0 rfl rfl hdR_addSigned (by decide) ⟨rfl, rfl⟩ (by decide) rfl rfl (by decide) rfl (by decide) (by decide) (by decide) (fun u => rfl) (fun u => rfl) (fun u => rfl) rfl rfl (by simp [Value.category]) dD_sum_35 (fun _ _ => ?_)
    refine xg_aload_n hX 1 dD_sum_38 rfl rfl ?_
    refine xg_aload_n hX 1 dD_sum_39 rfl rfl ?_
    refine xg_get hX (ci := 2) rfl hinD 0 rfl 4 (by decide) mt_72 rfl dD_sum_40 ?_
    refine xg_iload hX 6 dD_sum_43 rfl ?_
    refine xg_top (nI (tn k)) (df3 f3) ?_
    refine xg_iload hX 7 dD_sum_45 rfl ?_
    refine xg_top (nI (tn c)) (df4 f3) ?_
    refine xg_cV hX dq [.ref d4, .int (nI (tn k)), .int (nI (tn c))] (hM := xc_writeDecimal l D cI dq dm d1 d2 d3 d4 dw den M d4 p4 (asD (rdD M (tn m) (tn b)) (rdS M (tn m) (tn b)) (rdD M (tn n) (tn a)) (rdS M (tn n) (tn a))) (asS (rdD M (tn m) (tn b)) (rdS M (tn m) (tn b)) (rdD M (tn n) (tn a)) (rdS M (tn n) (tn a))) (tn k) (tn c) (df1 f3) (df2 f3) (asD_lt hy hx)) (wr := [(d1, .inr (0, [.ref p1, .int (bI (rdS M (tn n) (tn a)))])), (p1, .inl (cI, 130, .inl (nf (rdD M (tn n) (tn a))))), (d2, .inr (0, [.ref p2, .int (bI (rdS M (tn m) (tn b)))])), (p2, .inl (cI, 130, .inl (nf (rdD M (tn m) (tn b)))))]) (ws' := fun _ => [(dq, .inr (2, [.ref dm, .ref d1, .ref d2, .ref d3, .ref d4, .ref dw, .int (bI den)])), (dm, .inl (cI, 256, .inl (nf (wrM M (asD (rdD M (tn m) (tn b)) (rdS M (tn m) (tn b)) (rdD M (tn n) (tn a)) (rdS M (tn n) (tn a))) (asS (rdD M (tn m) (tn b)) (rdS M (tn m) (tn b)) (rdD M (tn n) (tn a)) (rdS M (tn n) (tn a))) (tn k) (tn c))))), (d1, .inr (0, [.ref p1, .int (bI (rdS M (tn n) (tn a)))])), (p1, .inl (cI, 130, .inl (nf (rdD M (tn n) (tn a))))), (d2, .inr (0, [.ref p2, .int (bI (rdS M (tn m) (tn b)))])), (p2, .inl (cI, 130, .inl (nf (rdD M (tn m) (tn b))))), (d4, .inr (0, [.ref p4, .int (bI (asS (rdD M (tn m) (tn b)) (rdS M (tn m) (tn b)) (rdD M (tn n) (tn a)) (rdS M (tn n) (tn a))))])), (p4, .inl (cI, 130, .inl (nf (asD (rdD M (tn m) (tn b)) (rdS M (tn m) (tn b)) (rdD M (tn n) (tn a)) (rdS M (tn n) (tn a))))))]) (st' := fun _ => [.int (nI (flg (asD (rdD M (tn m) (tn b)) (rdS M (tn m) (tn b)) (rdD M (tn n) (tn a)) (rdS M (tn n) (tn a))) (asS (rdD M (tn m) (tn b)) (rdS M (tn m) (tn b)) (rdD M (tn n) (tn a)) (rdS M (tn n) (tn a))) (tn k)))]) [0, 1, 6, 7] [2, 3, 4, 5] [4, 5, 0, 1, 2, 3, 6, 7] [] rfl mt_166 mt_163 mt_1 mt_165 mp_5 0 rfl rfl hdD_writeDecimal (by decide) ⟨rfl, rfl⟩ (by decide) rfl rfl (by decide) rfl (by decide) (by decide) (by decide) (fun u => rfl) (fun u => rfl) (fun u => rfl) rfl rfl (by simp [Value.category]) dD_sum_47 (fun _ _ => ?_)
    exact hret (nI (flg (asD (rdD M (tn m) (tn b)) (rdS M (tn m) (tn b)) (rdD M (tn n) (tn a)) (rdS M (tn n) (tn a))) (asS (rdD M (tn m) (tn b)) (rdS M (tn m) (tn b)) (rdD M (tn n) (tn a)) (rdS M (tn n) (tn a))) (tn k)), wrM M (asD (rdD M (tn m) (tn b)) (rdS M (tn m) (tn b)) (rdD M (tn n) (tn a)) (rdS M (tn n) (tn a))) (asS (rdD M (tn m) (tn b)) (rdS M (tn m) (tn b)) (rdD M (tn n) (tn a)) (rdS M (tn n) (tn a))) (tn k) (tn c), rdD M (tn n) (tn a), rdS M (tn n) (tn a), rdD M (tn m) (tn b), rdS M (tn m) (tn b), asD (rdD M (tn m) (tn b)) (rdS M (tn m) (tn b)) (rdD M (tn n) (tn a)) (rdS M (tn n) (tn a)), asS (rdD M (tn m) (tn b)) (rdS M (tn m) (tn b)) (rdD M (tn n) (tn a)) (rdS M (tn n) (tn a))) _ _ _ rfl (show ((nI (flg (asD (rdD M (tn m) (tn b)) (rdS M (tn m) (tn b)) (rdD M (tn n) (tn a)) (rdS M (tn n) (tn a))) (asS (rdD M (tn m) (tn b)) (rdS M (tn m) (tn b)) (rdD M (tn n) (tn a)) (rdS M (tn n) (tn a))) (tn k))), (wrM M (asD (rdD M (tn m) (tn b)) (rdS M (tn m) (tn b)) (rdD M (tn n) (tn a)) (rdS M (tn n) (tn a))) (asS (rdD M (tn m) (tn b)) (rdS M (tn m) (tn b)) (rdD M (tn n) (tn a)) (rdS M (tn n) (tn a))) (tn k) (tn c))) = sumZ M n a m b k c from (by unfold sumZ arZ; rw [if_pos ho0])) dD_sum_50
  ·
    refine xg_iload hX 0 dD_sum_20 rfl ?_
    exact hret (rO, M, x1, y1, x2, y2, e4, s4) _ _ _ rfl (show (rO, M) = sumZ M n a m b k c from (by unfold sumZ arZ; rw [← huO.1, if_neg h17])) dD_sum_22
set_option maxHeartbeats 4000000 in
set_option maxRecDepth 100000 in
theorem xc_less (l : Launch) (D : va_G) (cI : ClassId) (dq : Nat) (dm : Nat) (d1 : Nat) (d2 : Nat) (d3 : Nat) (d4 : Nat) (dw : Nat) (den : Bool) (M : Nat → Nat) (p1 : Nat) (e1 : Nat → Nat) (s1 : Bool) (p2 : Nat) (e2 : Nat → Nat) (s2 : Bool) (p4 : Nat) (e4 : Nat → Nat) (s4 : Bool) (n : Int32) (a : Int32) (m : Int32) (b : Int32) (k : Int32) (c : Int32) (hM : ∀ j, M j < 256) : Ctr l D cI yD_less cD_less 8 (some .int) { frames := 6, cells := 0, slots := 0, locals := 137 } [.ref dq, .int n, .int a, .int m, .int b, .int k, .int c] [(dq, .inr (2, [.ref dm, .ref d1, .ref d2, .ref d3, .ref d4, .ref dw, .int (bI den)])), (dm, .inl (cI, 256, .inl (nf M))), (d1, .inr (0, [.ref p1, .int (bI s1)])), (p1, .inl (cI, 130, .inl (nf e1))), (d2, .inr (0, [.ref p2, .int (bI s2)])), (p2, .inl (cI, 130, .inl (nf e2))), (d4, .inr (0, [.ref p4, .int (bI s4)])), (p4, .inl (cI, 130, .inl (nf e4)))] (fun u : Int32 × (Nat → Nat) × (Nat → Nat) × Bool × (Nat → Nat) × Bool × (Nat → Nat) × Bool => match u with | (r, M2, e1_, s1_, e2_, s2_, e4_, s4_) => some (.int r)) (fun u : Int32 × (Nat → Nat) × (Nat → Nat) × Bool × (Nat → Nat) × Bool × (Nat → Nat) × Bool => match u with | (r, M2, e1_, s1_, e2_, s2_, e4_, s4_) => (r, M2) = lessZ M n a m b k c) (fun u : Int32 × (Nat → Nat) × (Nat → Nat) × Bool × (Nat → Nat) × Bool × (Nat → Nat) × Bool => match u with | (r, M2, e1_, s1_, e2_, s2_, e4_, s4_) => [(dq, .inr (2, [.ref dm, .ref d1, .ref d2, .ref d3, .ref d4, .ref dw, .int (bI den)])), (dm, .inl (cI, 256, .inl (nf M2))), (d1, .inr (0, [.ref p1, .int (bI s1_)])), (p1, .inl (cI, 130, .inl (nf e1_))), (d2, .inr (0, [.ref p2, .int (bI s2_)])), (p2, .inl (cI, 130, .inl (nf e2_))), (d4, .inr (0, [.ref p4, .int (bI s4_)])), (p4, .inl (cI, 130, .inl (nf e4_)))]) 0 0 := by
  refine xc_mkI (by decide +kernel) (Nat.le_of_ble_eq_true rfl) (fun X hX hret => ?_)
  show GG D X 0 0 0 [(dq, .inr (2, [.ref dm, .ref d1, .ref d2, .ref d3, .ref d4, .ref dw, .int (bI den)])), (dm, .inl (cI, 256, .inl (nf M))), (d1, .inr (0, [.ref p1, .int (bI s1)])), (p1, .inl (cI, 130, .inl (nf e1))), (d2, .inr (0, [.ref p2, .int (bI s2)])), (p2, .inl (cI, 130, .inl (nf e2))), (d4, .inr (0, [.ref p4, .int (bI s4)])), (p4, .inl (cI, 130, .inl (nf e4)))] [(0, .ref dq), (1, .int n), (2, .int a), (3, .int m), (4, .int b), (5, .int k), (6, .int c)] []
  refine xg_aload_n hX 0 dD_less_0 rfl rfl ?_
  refine xg_iload_n hX 1 dD_less_1 rfl rfl ?_
  refine xg_iload_n hX 2 dD_less_2 rfl rfl ?_
  refine xg_iload_n hX 3 dD_less_3 rfl rfl ?_
  refine xg_iload hX 4 dD_less_4 rfl ?_
  refine xg_iload hX 5 dD_less_6 rfl ?_
  refine xg_iload hX 6 dD_less_8 rfl ?_
  refine xg_cV hX dq [.int n, .int a, .int m, .int b, .int k, .int c] (hM := xc_operands l D cI dq dm d1 d2 d3 d4 dw den M p1 e1 s1 p2 e2 s2 n a m b k c hM) (wr := [(d4, .inr (0, [.ref p4, .int (bI s4)])), (p4, .inl (cI, 130, .inl (nf e4)))]) (ws' := fun u => match u with | (rO, x1, y1, x2, y2) => [(dq, .inr (2, [.ref dm, .ref d1, .ref d2, .ref d3, .ref d4, .ref dw, .int (bI den)])), (dm, .inl (cI, 256, .inl (nf M))), (d1, .inr (0, [.ref p1, .int (bI y1)])), (p1, .inl (cI, 130, .inl (nf x1))), (d2, .inr (0, [.ref p2, .int (bI y2)])), (p2, .inl (cI, 130, .inl (nf x2))), (d4, .inr (0, [.ref p4, .int (bI s4)])), (p4, .inl (cI, 130, .inl (nf e4)))]) (st' := fun u => match u with | (rO, x1, y1, x2, y2) => [.int rO]) [0, 1, 2, 3, 4, 5] [6, 7] [2, 3, 4, 5, 6, 7, 0, 1] [] rfl mt_105 mt_102 mt_1 mt_104 mp_0 0 rfl rfl hdD_readOperands (by decide) ⟨rfl, rfl⟩ (by decide) rfl rfl (by decide) rfl (by decide) (by decide) (by decide) (fun u => rfl) (fun u => rfl) (fun u => rfl) rfl rfl (by simp [Value.category]) dD_less_10 (fun u hu => ?_)
  obtain ⟨rO, x1, y1, x2, y2⟩ := u
  have huO : rO = opR M n a m b k c ∧ (rO = 0 → x1 = rdD M (tn n) (tn a) ∧ y1 = rdS M (tn n) (tn a) ∧ x2 = rdD M (tn m) (tn b) ∧ y2 = rdS M (tn m) (tn b)) := hu
  show GG D X 0 0 13 [(dq, .inr (2, [.ref dm, .ref d1, .ref d2, .ref d3, .ref d4, .ref dw, .int (bI den)])), (dm, .inl (cI, 256, .inl (nf M))), (d1, .inr (0, [.ref p1, .int (bI y1)])), (p1, .inl (cI, 130, .inl (nf x1))), (d2, .inr (0, [.ref p2, .int (bI y2)])), (p2, .inl (cI, 130, .inl (nf x2))), (d4, .inr (0, [.ref p4, .int (bI s4)])), (p4, .inl (cI, 130, .inl (nf e4)))] [(0, .ref dq), (1, .int n), (2, .int a), (3, .int m), (4, .int b), (5, .int k), (6, .int c)] [.int rO]
  refine xg_istore hX (lv' := [(7, .int rO), (0, .ref dq), (1, .int n), (2, .int a), (3, .int m), (4, .int b), (5, .int k), (6, .int c)]) dD_less_13 (by decide) rfl ?_
  refine xg_iload hX 0 dD_less_15 rfl ?_
  refine xg_if_eq hX 23 dD_less_17 (by decide) (fun h17 => ?_) (fun h17 => ?_)
  ·
    have ho0 : opR M n a m b k c = 0 := by rw [← huO.1]; exact h17
    obtain ⟨f1, f2, f3, g1, g2⟩ := opR_0 ho0
    obtain ⟨rfl, rfl, rfl, rfl⟩ := huO.2 h17
    have hx := rd_lt g1
    have hy := rd_lt g2
    refine xg_aload_n hX 1 dD_less_23 rfl rfl ?_
    refine xg_get hX (ci := 2) rfl hinD 0 rfl 1 (by decide) mt_69 rfl dD_less_24 ?_
    refine xg_aload_n hX 1 dD_less_27 rfl rfl ?_
    refine xg_get hX (ci := 2) rfl hinD 0 rfl 1 (by decide) mt_69 rfl dD_less_28 ?_
    refine xg_get hX (ci := 0) rfl hinR 2 rfl 1 (by decide) mt_24 rfl dD_less_31 ?_
    refine xg_if_neB hX 41 dD_less_34 (by decide) (fun h34 => ?_) (fun h34 => ?_)
    ·
      refine xg_iconst hX (nI 0) dD_less_41 (by decide) ?_
      refine xg_top (bI false) rfl ?_
      refine xg_put hX tyR tyR_ok nmR (ci := 0) rfl hinR (ws' := [(dq, .inr (2, [.ref dm, .ref d1, .ref d2, .ref d3, .ref d4, .ref dw, .int (bI den)])), (dm, .inl (cI, 256, .inl (nf M))), (d1, .inr (0, [.ref p1, .int (bI false)])), (p1, .inl (cI, 130, .inl (nf (rdD M (tn n) (tn a))))), (d2, .inr (0, [.ref p2, .int (bI (rdS M (tn m) (tn b)))])), (p2, .inl (cI, 130, .inl (nf (rdD M (tn m) (tn b))))), (d4, .inr (0, [.ref p4, .int (bI s4)])), (p4, .inl (cI, 130, .inl (nf e4)))]) 2 rfl 1 (by decide) mt_24 rfl (xn_narB _) (xn_fitB _) (Nat.le_of_ble_eq_true rfl) rfl dD_less_42 ?_
      refine xg_wsE (ws' := [(dq, .inr (2, [.ref dm, .ref d1, .ref d2, .ref d3, .ref d4, .ref dw, .int (bI den)])), (dm, .inl (cI, 256, .inl (nf M))), (d1, .inr (0, [.ref p1, .int (bI (!(rdS M (tn n) (tn a))))])), (p1, .inl (cI, 130, .inl (nf (rdD M (tn n) (tn a))))), (d2, .inr (0, [.ref p2, .int (bI (rdS M (tn m) (tn b)))])), (p2, .inl (cI, 130, .inl (nf (rdD M (tn m) (tn b))))), (d4, .inr (0, [.ref p4, .int (bI s4)])), (p4, .inl (cI, 130, .inl (nf e4)))]) (by rw [← (show (bI false : Int32) = bI (!(rdS M (tn n) (tn a))) from (by rw [h34]; rfl))]) ?_
      refine xg_aload_n hX 1 dD_less_45 rfl rfl ?_
      refine xg_get hX (ci := 2) rfl hinD 0 rfl 4 (by decide) mt_72 rfl dD_less_46 ?_
      refine xg_aload_n hX 1 dD_less_49 rfl rfl ?_
      refine xg_get hX (ci := 2) rfl hinD 0 rfl 2 (by decide) mt_70 rfl dD_less_50 ?_
      refine xg_aload_n hX 1 dD_less_53 rfl rfl ?_
      refine xg_get hX (ci := 2) rfl hinD 0 rfl 1 (by decide) mt_69 rfl dD_less_54 ?_
      refine xg_cV hX d4 [.ref d2, .ref d1] (hM := xc_addSigned l D cI d4 p4 e4 s4 d2 p2 (rdD M (tn m) (tn b)) (rdS M (tn m) (tn b)) d1 p1 (rdD M (tn n) (tn a)) (!(rdS M (tn n) (tn a))) hy hx) (wr := [(dq, .inr (2, [.ref dm, .ref d1, .ref d2, .ref d3, .ref d4, .ref dw, .int (bI den)])), (dm, .inl (cI, 256, .inl (nf M)))]) (ws' := fun _ => [(dq, .inr (2, [.ref dm, .ref d1, .ref d2, .ref d3, .ref d4, .ref dw, .int (bI den)])), (dm, .inl (cI, 256, .inl (nf M))), (d1, .inr (0, [.ref p1, .int (bI (!(rdS M (tn n) (tn a))))])), (p1, .inl (cI, 130, .inl (nf (rdD M (tn n) (tn a))))), (d2, .inr (0, [.ref p2, .int (bI (rdS M (tn m) (tn b)))])), (p2, .inl (cI, 130, .inl (nf (rdD M (tn m) (tn b))))), (d4, .inr (0, [.ref p4, .int (bI (asS (rdD M (tn m) (tn b)) (rdS M (tn m) (tn b)) (rdD M (tn n) (tn a)) (!(rdS M (tn n) (tn a)))))])), (p4, .inl (cI, 130, .inl (nf (asD (rdD M (tn m) (tn b)) (rdS M (tn m) (tn b)) (rdD M (tn n) (tn a)) (!(rdS M (tn n) (tn a)))))))]) (st' := fun _ => []) [6, 7, 4, 5, 2, 3] [0, 1] [0, 1, 6, 7, 4, 5, 2, 3] [] rfl mt_148 mt_145 mt_2 mt_146 mt_147 0 rfl rfl hdR_addSigned (by decide) ⟨rfl, rfl⟩ (by decide) rfl rfl (by decide) rfl (by decide) (by decide) (by decide) (fun u => rfl) (fun u => rfl) (fun u => rfl) rfl rfl (by simp [Value.category]) dD_less_57 (fun _ _ => ?_)
      refine xg_aload_n hX 1 dD_less_60 rfl rfl ?_
      refine xg_aload_n hX 1 dD_less_61 rfl rfl ?_
      refine xg_get hX (ci := 2) rfl hinD 0 rfl 4 (by decide) mt_72 rfl dD_less_62 ?_
      refine xg_iload hX 6 dD_less_65 rfl ?_
      refine xg_top (nI (tn k)) (df3 f3) ?_
      refine xg_iload hX 7 dD_less_67 rfl ?_
      refine xg_top (nI (tn c)) (df4 f3) ?_
      refine xg_cV hX dq [.ref d4, .int (nI (tn k)), .int (nI (tn c))] (hM := xc_writeDecimal l D cI dq dm d1 d2 d3 d4 dw den M d4 p4 (asD (rdD M (tn m) (tn b)) (rdS M (tn m) (tn b)) (rdD M (tn n) (tn a)) (!(rdS M (tn n) (tn a)))) (asS (rdD M (tn m) (tn b)) (rdS M (tn m) (tn b)) (rdD M (tn n) (tn a)) (!(rdS M (tn n) (tn a)))) (tn k) (tn c) (df1 f3) (df2 f3) (asD_lt hy hx)) (wr := [(d1, .inr (0, [.ref p1, .int (bI (!(rdS M (tn n) (tn a))))])), (p1, .inl (cI, 130, .inl (nf (rdD M (tn n) (tn a))))), (d2, .inr (0, [.ref p2, .int (bI (rdS M (tn m) (tn b)))])), (p2, .inl (cI, 130, .inl (nf (rdD M (tn m) (tn b)))))]) (ws' := fun _ => [(dq, .inr (2, [.ref dm, .ref d1, .ref d2, .ref d3, .ref d4, .ref dw, .int (bI den)])), (dm, .inl (cI, 256, .inl (nf (wrM M (asD (rdD M (tn m) (tn b)) (rdS M (tn m) (tn b)) (rdD M (tn n) (tn a)) (!(rdS M (tn n) (tn a)))) (asS (rdD M (tn m) (tn b)) (rdS M (tn m) (tn b)) (rdD M (tn n) (tn a)) (!(rdS M (tn n) (tn a)))) (tn k) (tn c))))), (d1, .inr (0, [.ref p1, .int (bI (!(rdS M (tn n) (tn a))))])), (p1, .inl (cI, 130, .inl (nf (rdD M (tn n) (tn a))))), (d2, .inr (0, [.ref p2, .int (bI (rdS M (tn m) (tn b)))])), (p2, .inl (cI, 130, .inl (nf (rdD M (tn m) (tn b))))), (d4, .inr (0, [.ref p4, .int (bI (asS (rdD M (tn m) (tn b)) (rdS M (tn m) (tn b)) (rdD M (tn n) (tn a)) (!(rdS M (tn n) (tn a)))))])), (p4, .inl (cI, 130, .inl (nf (asD (rdD M (tn m) (tn b)) (rdS M (tn m) (tn b)) (rdD M (tn n) (tn a)) (!(rdS M (tn n) (tn a)))))))]) (st' := fun _ => [.int (nI (flg (asD (rdD M (tn m) (tn b)) (rdS M (tn m) (tn b)) (rdD M (tn n) (tn a)) (!(rdS M (tn n) (tn a)))) (asS (rdD M (tn m) (tn b)) (rdS M (tn m) (tn b)) (rdD M (tn n) (tn a)) (!(rdS M (tn n) (tn a)))) (tn k)))]) [0, 1, 6, 7] [2, 3, 4, 5] [4, 5, 0, 1, 2, 3, 6, 7] [] rfl mt_166 mt_163 mt_1 mt_165 mp_5 0 rfl rfl hdD_writeDecimal (by decide) ⟨rfl, rfl⟩ (by decide) rfl rfl (by decide) rfl (by decide) (by decide) (by decide) (fun u => rfl) (fun u => rfl) (fun u => rfl) rfl rfl (by simp [Value.category]) dD_less_69 (fun _ _ => ?_)
      exact hret (nI (flg (asD (rdD M (tn m) (tn b)) (rdS M (tn m) (tn b)) (rdD M (tn n) (tn a)) (!(rdS M (tn n) (tn a)))) (asS (rdD M (tn m) (tn b)) (rdS M (tn m) (tn b)) (rdD M (tn n) (tn a)) (!(rdS M (tn n) (tn a)))) (tn k)), wrM M (asD (rdD M (tn m) (tn b)) (rdS M (tn m) (tn b)) (rdD M (tn n) (tn a)) (!(rdS M (tn n) (tn a)))) (asS (rdD M (tn m) (tn b)) (rdS M (tn m) (tn b)) (rdD M (tn n) (tn a)) (!(rdS M (tn n) (tn a)))) (tn k) (tn c), rdD M (tn n) (tn a), !(rdS M (tn n) (tn a)), rdD M (tn m) (tn b), rdS M (tn m) (tn b), asD (rdD M (tn m) (tn b)) (rdS M (tn m) (tn b)) (rdD M (tn n) (tn a)) (!(rdS M (tn n) (tn a))), asS (rdD M (tn m) (tn b)) (rdS M (tn m) (tn b)) (rdD M (tn n) (tn a)) (!(rdS M (tn n) (tn a)))) _ _ _ rfl (show ((nI (flg (asD (rdD M (tn m) (tn b)) (rdS M (tn m) (tn b)) (rdD M (tn n) (tn a)) (!(rdS M (tn n) (tn a)))) (asS (rdD M (tn m) (tn b)) (rdS M (tn m) (tn b)) (rdD M (tn n) (tn a)) (!(rdS M (tn n) (tn a)))) (tn k))), (wrM M (asD (rdD M (tn m) (tn b)) (rdS M (tn m) (tn b)) (rdD M (tn n) (tn a)) (!(rdS M (tn n) (tn a)))) (asS (rdD M (tn m) (tn b)) (rdS M (tn m) (tn b)) (rdD M (tn n) (tn a)) (!(rdS M (tn n) (tn a)))) (tn k) (tn c))) = lessZ M n a m b k c from (by unfold lessZ arZ; rw [if_pos ho0])) dD_less_72
    ·
      refine xg_iconst hX (nI 1) dD_less_37 (by decide) ?_
      refine xg_goto hX 42 dD_less_38 (by decide) ?_
      refine xg_top (bI true) rfl ?_
      refine xg_put hX tyR tyR_ok nmR (ci := 0) rfl hinR (ws' := [(dq, .inr (2, [.ref dm, .ref d1, .ref d2, .ref d3, .ref d4, .ref dw, .int (bI den)])), (dm, .inl (cI, 256, .inl (nf M))), (d1, .inr (0, [.ref p1, .int (bI true)])), (p1, .inl (cI, 130, .inl (nf (rdD M (tn n) (tn a))))), (d2, .inr (0, [.ref p2, .int (bI (rdS M (tn m) (tn b)))])), (p2, .inl (cI, 130, .inl (nf (rdD M (tn m) (tn b))))), (d4, .inr (0, [.ref p4, .int (bI s4)])), (p4, .inl (cI, 130, .inl (nf e4)))]) 2 rfl 1 (by decide) mt_24 rfl (xn_narB _) (xn_fitB _) (Nat.le_of_ble_eq_true rfl) rfl dD_less_42 ?_
      refine xg_wsE (ws' := [(dq, .inr (2, [.ref dm, .ref d1, .ref d2, .ref d3, .ref d4, .ref dw, .int (bI den)])), (dm, .inl (cI, 256, .inl (nf M))), (d1, .inr (0, [.ref p1, .int (bI (!(rdS M (tn n) (tn a))))])), (p1, .inl (cI, 130, .inl (nf (rdD M (tn n) (tn a))))), (d2, .inr (0, [.ref p2, .int (bI (rdS M (tn m) (tn b)))])), (p2, .inl (cI, 130, .inl (nf (rdD M (tn m) (tn b))))), (d4, .inr (0, [.ref p4, .int (bI s4)])), (p4, .inl (cI, 130, .inl (nf e4)))]) (by rw [← (show (bI true : Int32) = bI (!(rdS M (tn n) (tn a))) from (by rw [h34]; rfl))]) ?_
      refine xg_aload_n hX 1 dD_less_45 rfl rfl ?_
      refine xg_get hX (ci := 2) rfl hinD 0 rfl 4 (by decide) mt_72 rfl dD_less_46 ?_
      refine xg_aload_n hX 1 dD_less_49 rfl rfl ?_
      refine xg_get hX (ci := 2) rfl hinD 0 rfl 2 (by decide) mt_70 rfl dD_less_50 ?_
      refine xg_aload_n hX 1 dD_less_53 rfl rfl ?_
      refine xg_get hX (ci := 2) rfl hinD 0 rfl 1 (by decide) mt_69 rfl dD_less_54 ?_
      refine xg_cV hX d4 [.ref d2, .ref d1] (hM := xc_addSigned l D cI d4 p4 e4 s4 d2 p2 (rdD M (tn m) (tn b)) (rdS M (tn m) (tn b)) d1 p1 (rdD M (tn n) (tn a)) (!(rdS M (tn n) (tn a))) hy hx) (wr := [(dq, .inr (2, [.ref dm, .ref d1, .ref d2, .ref d3, .ref d4, .ref dw, .int (bI den)])), (dm, .inl (cI, 256, .inl (nf M)))]) (ws' := fun _ => [(dq, .inr (2, [.ref dm, .ref d1, .ref d2, .ref d3, .ref d4, .ref dw, .int (bI den)])), (dm, .inl (cI, 256, .inl (nf M))), (d1, .inr (0, [.ref p1, .int (bI (!(rdS M (tn n) (tn a))))])), (p1, .inl (cI, 130, .inl (nf (rdD M (tn n) (tn a))))), (d2, .inr (0, [.ref p2, .int (bI (rdS M (tn m) (tn b)))])), (p2, .inl (cI, 130, .inl (nf (rdD M (tn m) (tn b))))), (d4, .inr (0, [.ref p4, .int (bI (asS (rdD M (tn m) (tn b)) (rdS M (tn m) (tn b)) (rdD M (tn n) (tn a)) (!(rdS M (tn n) (tn a)))))])), (p4, .inl (cI, 130, .inl (nf (asD (rdD M (tn m) (tn b)) (rdS M (tn m) (tn b)) (rdD M (tn n) (tn a)) (!(rdS M (tn n) (tn a)))))))]) (st' := fun _ => []) [6, 7, 4, 5, 2, 3] [0, 1] [0, 1, 6, 7, 4, 5, 2, 3] [] rfl mt_148 mt_145 mt_2 mt_146 mt_147 0 rfl rfl hdR_addSigned (by decide) ⟨rfl, rfl⟩ (by decide) rfl rfl (by decide) rfl (by decide) (by decide) (by decide) (fun u => rfl) (fun u => rfl) (fun u => rfl) rfl rfl (by simp [Value.category]) dD_less_57 (fun _ _ => ?_)
      refine xg_aload_n hX 1 dD_less_60 rfl rfl ?_
      refine xg_aload_n hX 1 dD_less_61 rfl rfl ?_
      refine xg_get hX (ci := 2) rfl hinD 0 rfl 4 (by decide) mt_72 rfl dD_less_62 ?_
      refine xg_iload hX 6 dD_less_65 rfl ?_
      refine xg_top (nI (tn k)) (df3 f3) ?_
      refine xg_iload hX 7 dD_less_67 rfl ?_
      refine xg_top (nI (tn c)) (df4 f3) ?_
      refine xg_cV hX dq [.ref d4, .int (nI (tn k)), .int (nI (tn c))] (hM := xc_writeDecimal l D cI dq dm d1 d2 d3 d4 dw den M d4 p4 (asD (rdD M (tn m) (tn b)) (rdS M (tn m) (tn b)) (rdD M (tn n) (tn a)) (!(rdS M (tn n) (tn a)))) (asS (rdD M (tn m) (tn b)) (rdS M (tn m) (tn b)) (rdD M (tn n) (tn a)) (!(rdS M (tn n) (tn a)))) (tn k) (tn c) (df1 f3) (df2 f3) (asD_lt hy hx)) (wr := [(d1, .inr (0, [.ref p1, .int (bI (!(rdS M (tn n) (tn a))))])), (p1, .inl (cI, 130, .inl (nf (rdD M (tn n) (tn a))))), (d2, .inr (0, [.ref p2, .int (bI (rdS M (tn m) (tn b)))])), (p2, .inl (cI, 130, .inl (nf (rdD M (tn m) (tn b)))))]) (ws' := fun _ => [(dq, .inr (2, [.ref dm, .ref d1, .ref d2, .ref d3, .ref d4, .ref dw, .int (bI den)])), (dm, .inl (cI, 256, .inl (nf (wrM M (asD (rdD M (tn m) (tn b)) (rdS M (tn m) (tn b)) (rdD M (tn n) (tn a)) (!(rdS M (tn n) (tn a)))) (asS (rdD M (tn m) (tn b)) (rdS M (tn m) (tn b)) (rdD M (tn n) (tn a)) (!(rdS M (tn n) (tn a)))) (tn k) (tn c))))), (d1, .inr (0, [.ref p1, .int (bI (!(rdS M (tn n) (tn a))))])), (p1, .inl (cI, 130, .inl (nf (rdD M (tn n) (tn a))))), (d2, .inr (0, [.ref p2, .int (bI (rdS M (tn m) (tn b)))])), (p2, .inl (cI, 130, .inl (nf (rdD M (tn m) (tn b))))), (d4, .inr (0, [.ref p4, .int (bI (asS (rdD M (tn m) (tn b)) (rdS M (tn m) (tn b)) (rdD M (tn n) (tn a)) (!(rdS M (tn n) (tn a)))))])), (p4, .inl (cI, 130, .inl (nf (asD (rdD M (tn m) (tn b)) (rdS M (tn m) (tn b)) (rdD M (tn n) (tn a)) (!(rdS M (tn n) (tn a)))))))]) (st' := fun _ => [.int (nI (flg (asD (rdD M (tn m) (tn b)) (rdS M (tn m) (tn b)) (rdD M (tn n) (tn a)) (!(rdS M (tn n) (tn a)))) (asS (rdD M (tn m) (tn b)) (rdS M (tn m) (tn b)) (rdD M (tn n) (tn a)) (!(rdS M (tn n) (tn a)))) (tn k)))]) [0, 1, 6, 7] [2, 3, 4, 5] [4, 5, 0, 1, 2, 3, 6, 7] [] rfl mt_166 mt_163 mt_1 mt_165 mp_5 0 rfl rfl hdD_writeDecimal (by decide) ⟨rfl, rfl⟩ (by decide) rfl rfl (by decide) rfl (by decide) (by decide) (by decide) (fun u => rfl) (fun u => rfl) (fun u => rfl) rfl rfl (by simp [Value.category]) dD_less_69 (fun _ _ => ?_)
      exact hret (nI (flg (asD (rdD M (tn m) (tn b)) (rdS M (tn m) (tn b)) (rdD M (tn n) (tn a)) (!(rdS M (tn n) (tn a)))) (asS (rdD M (tn m) (tn b)) (rdS M (tn m) (tn b)) (rdD M (tn n) (tn a)) (!(rdS M (tn n) (tn a)))) (tn k)), wrM M (asD (rdD M (tn m) (tn b)) (rdS M (tn m) (tn b)) (rdD M (tn n) (tn a)) (!(rdS M (tn n) (tn a)))) (asS (rdD M (tn m) (tn b)) (rdS M (tn m) (tn b)) (rdD M (tn n) (tn a)) (!(rdS M (tn n) (tn a)))) (tn k) (tn c), rdD M (tn n) (tn a), !(rdS M (tn n) (tn a)), rdD M (tn m) (tn b), rdS M (tn m) (tn b), asD (rdD M (tn m) (tn b)) (rdS M (tn m) (tn b)) (rdD M (tn n) (tn a)) (!(rdS M (tn n) (tn a))), asS (rdD M (tn m) (tn b)) (rdS M (tn m) (tn b)) (rdD M (tn n) (tn a)) (!(rdS M (tn n) (tn a)))) _ _ _ rfl (show ((nI (flg (asD (rdD M (tn m) (tn b)) (rdS M (tn m) (tn b)) (rdD M (tn n) (tn a)) (!(rdS M (tn n) (tn a)))) (asS (rdD M (tn m) (tn b)) (rdS M (tn m) (tn b)) (rdD M (tn n) (tn a)) (!(rdS M (tn n) (tn a)))) (tn k))), (wrM M (asD (rdD M (tn m) (tn b)) (rdS M (tn m) (tn b)) (rdD M (tn n) (tn a)) (!(rdS M (tn n) (tn a)))) (asS (rdD M (tn m) (tn b)) (rdS M (tn m) (tn b)) (rdD M (tn n) (tn a)) (!(rdS M (tn n) (tn a)))) (tn k) (tn c))) = lessZ M n a m b k c from (by unfold lessZ arZ; rw [if_pos ho0])) dD_less_72
  ·
    refine xg_iload hX 0 dD_less_20 rfl ?_
    exact hret (rO, M, x1, y1, x2, y2, e4, s4) _ _ _ rfl (show (rO, M) = lessZ M n a m b k c from (by unfold lessZ arZ; rw [← huO.1, if_neg h17])) dD_less_22
set_option maxHeartbeats 4000000 in
set_option maxRecDepth 100000 in
theorem xc_product (l : Launch) (D : va_G) (cI : ClassId) (dq : Nat) (dm : Nat) (d1 : Nat) (d2 : Nat) (d3 : Nat) (d4 : Nat) (dw : Nat) (den : Bool) (M : Nat → Nat) (p1 : Nat) (e1 : Nat → Nat) (s1 : Bool) (p2 : Nat) (e2 : Nat → Nat) (s2 : Bool) (p4 : Nat) (e4 : Nat → Nat) (s4 : Bool) (n : Int32) (a : Int32) (m : Int32) (b : Int32) (k : Int32) (c : Int32) (hM : ∀ j, M j < 256) : Ctr l D cI yD_product cD_product 8 (some .int) { frames := 6, cells := 0, slots := 0, locals := 137 } [.ref dq, .int n, .int a, .int m, .int b, .int k, .int c] [(dq, .inr (2, [.ref dm, .ref d1, .ref d2, .ref d3, .ref d4, .ref dw, .int (bI den)])), (dm, .inl (cI, 256, .inl (nf M))), (d1, .inr (0, [.ref p1, .int (bI s1)])), (p1, .inl (cI, 130, .inl (nf e1))), (d2, .inr (0, [.ref p2, .int (bI s2)])), (p2, .inl (cI, 130, .inl (nf e2))), (d4, .inr (0, [.ref p4, .int (bI s4)])), (p4, .inl (cI, 130, .inl (nf e4)))] (fun u : Int32 × (Nat → Nat) × (Nat → Nat) × Bool × (Nat → Nat) × Bool × (Nat → Nat) × Bool => match u with | (r, M2, e1_, s1_, e2_, s2_, e4_, s4_) => some (.int r)) (fun u : Int32 × (Nat → Nat) × (Nat → Nat) × Bool × (Nat → Nat) × Bool × (Nat → Nat) × Bool => match u with | (r, M2, e1_, s1_, e2_, s2_, e4_, s4_) => (r, M2) = prodZ M n a m b k c) (fun u : Int32 × (Nat → Nat) × (Nat → Nat) × Bool × (Nat → Nat) × Bool × (Nat → Nat) × Bool => match u with | (r, M2, e1_, s1_, e2_, s2_, e4_, s4_) => [(dq, .inr (2, [.ref dm, .ref d1, .ref d2, .ref d3, .ref d4, .ref dw, .int (bI den)])), (dm, .inl (cI, 256, .inl (nf M2))), (d1, .inr (0, [.ref p1, .int (bI s1_)])), (p1, .inl (cI, 130, .inl (nf e1_))), (d2, .inr (0, [.ref p2, .int (bI s2_)])), (p2, .inl (cI, 130, .inl (nf e2_))), (d4, .inr (0, [.ref p4, .int (bI s4_)])), (p4, .inl (cI, 130, .inl (nf e4_)))]) 0 0 := by
  refine xc_mkI (by decide +kernel) (Nat.le_of_ble_eq_true rfl) (fun X hX hret => ?_)
  show GG D X 0 0 0 [(dq, .inr (2, [.ref dm, .ref d1, .ref d2, .ref d3, .ref d4, .ref dw, .int (bI den)])), (dm, .inl (cI, 256, .inl (nf M))), (d1, .inr (0, [.ref p1, .int (bI s1)])), (p1, .inl (cI, 130, .inl (nf e1))), (d2, .inr (0, [.ref p2, .int (bI s2)])), (p2, .inl (cI, 130, .inl (nf e2))), (d4, .inr (0, [.ref p4, .int (bI s4)])), (p4, .inl (cI, 130, .inl (nf e4)))] [(0, .ref dq), (1, .int n), (2, .int a), (3, .int m), (4, .int b), (5, .int k), (6, .int c)] []
  refine xg_aload_n hX 0 dD_product_0 rfl rfl ?_
  refine xg_iload_n hX 1 dD_product_1 rfl rfl ?_
  refine xg_iload_n hX 2 dD_product_2 rfl rfl ?_
  refine xg_iload_n hX 3 dD_product_3 rfl rfl ?_
  refine xg_iload hX 4 dD_product_4 rfl ?_
  refine xg_iload hX 5 dD_product_6 rfl ?_
  refine xg_iload hX 6 dD_product_8 rfl ?_
  refine xg_cV hX dq [.int n, .int a, .int m, .int b, .int k, .int c] (hM := xc_operands l D cI dq dm d1 d2 d3 d4 dw den M p1 e1 s1 p2 e2 s2 n a m b k c hM) (wr := [(d4, .inr (0, [.ref p4, .int (bI s4)])), (p4, .inl (cI, 130, .inl (nf e4)))]) (ws' := fun u => match u with | (rO, x1, y1, x2, y2) => [(dq, .inr (2, [.ref dm, .ref d1, .ref d2, .ref d3, .ref d4, .ref dw, .int (bI den)])), (dm, .inl (cI, 256, .inl (nf M))), (d1, .inr (0, [.ref p1, .int (bI y1)])), (p1, .inl (cI, 130, .inl (nf x1))), (d2, .inr (0, [.ref p2, .int (bI y2)])), (p2, .inl (cI, 130, .inl (nf x2))), (d4, .inr (0, [.ref p4, .int (bI s4)])), (p4, .inl (cI, 130, .inl (nf e4)))]) (st' := fun u => match u with | (rO, x1, y1, x2, y2) => [.int rO]) [0, 1, 2, 3, 4, 5] [6, 7] [2, 3, 4, 5, 6, 7, 0, 1] [] rfl mt_105 mt_102 mt_1 mt_104 mp_0 0 rfl rfl hdD_readOperands (by decide) ⟨rfl, rfl⟩ (by decide) rfl rfl (by decide) rfl (by decide) (by decide) (by decide) (fun u => rfl) (fun u => rfl) (fun u => rfl) rfl rfl (by simp [Value.category]) dD_product_10 (fun u hu => ?_)
  obtain ⟨rO, x1, y1, x2, y2⟩ := u
  have huO : rO = opR M n a m b k c ∧ (rO = 0 → x1 = rdD M (tn n) (tn a) ∧ y1 = rdS M (tn n) (tn a) ∧ x2 = rdD M (tn m) (tn b) ∧ y2 = rdS M (tn m) (tn b)) := hu
  show GG D X 0 0 13 [(dq, .inr (2, [.ref dm, .ref d1, .ref d2, .ref d3, .ref d4, .ref dw, .int (bI den)])), (dm, .inl (cI, 256, .inl (nf M))), (d1, .inr (0, [.ref p1, .int (bI y1)])), (p1, .inl (cI, 130, .inl (nf x1))), (d2, .inr (0, [.ref p2, .int (bI y2)])), (p2, .inl (cI, 130, .inl (nf x2))), (d4, .inr (0, [.ref p4, .int (bI s4)])), (p4, .inl (cI, 130, .inl (nf e4)))] [(0, .ref dq), (1, .int n), (2, .int a), (3, .int m), (4, .int b), (5, .int k), (6, .int c)] [.int rO]
  refine xg_istore hX (lv' := [(7, .int rO), (0, .ref dq), (1, .int n), (2, .int a), (3, .int m), (4, .int b), (5, .int k), (6, .int c)]) dD_product_13 (by decide) rfl ?_
  refine xg_iload hX 0 dD_product_15 rfl ?_
  refine xg_if_eq hX 23 dD_product_17 (by decide) (fun h17 => ?_) (fun h17 => ?_)
  ·
    have ho0 : opR M n a m b k c = 0 := by rw [← huO.1]; exact h17
    obtain ⟨f1, f2, f3, g1, g2⟩ := opR_0 ho0
    obtain ⟨rfl, rfl, rfl, rfl⟩ := huO.2 h17
    have hx := rd_lt g1
    have hy := rd_lt g2
    refine xg_aload_n hX 1 dD_product_23 rfl rfl ?_
    refine xg_get hX (ci := 2) rfl hinD 0 rfl 4 (by decide) mt_72 rfl dD_product_24 ?_
    refine xg_aload_n hX 1 dD_product_27 rfl rfl ?_
    refine xg_get hX (ci := 2) rfl hinD 0 rfl 1 (by decide) mt_69 rfl dD_product_28 ?_
    refine xg_aload_n hX 1 dD_product_31 rfl rfl ?_
    refine xg_get hX (ci := 2) rfl hinD 0 rfl 2 (by decide) mt_70 rfl dD_product_32 ?_
    refine xg_cV hX d4 [.ref d1, .ref d2] (hM := xc_multiply l D cI d4 p4 e4 s4 d1 p1 (rdD M (tn n) (tn a)) (rdS M (tn n) (tn a)) d2 p2 (rdD M (tn m) (tn b)) (rdS M (tn m) (tn b)) hx hy) (wr := [(dq, .inr (2, [.ref dm, .ref d1, .ref d2, .ref d3, .ref d4, .ref dw, .int (bI den)])), (dm, .inl (cI, 256, .inl (nf M)))]) (ws' := fun _ => [(dq, .inr (2, [.ref dm, .ref d1, .ref d2, .ref d3, .ref d4, .ref dw, .int (bI den)])), (dm, .inl (cI, 256, .inl (nf M))), (d1, .inr (0, [.ref p1, .int (bI (rdS M (tn n) (tn a)))])), (p1, .inl (cI, 130, .inl (nf (rdD M (tn n) (tn a))))), (d2, .inr (0, [.ref p2, .int (bI (rdS M (tn m) (tn b)))])), (p2, .inl (cI, 130, .inl (nf (rdD M (tn m) (tn b))))), (d4, .inr (0, [.ref p4, .int (bI ((rdS M (tn n) (tn a)) != (rdS M (tn m) (tn b))))])), (p4, .inl (cI, 130, .inl (nf (muR (rdD M (tn n) (tn a)) (rdD M (tn m) (tn b)) 31))))]) (st' := fun _ => []) [6, 7, 2, 3, 4, 5] [0, 1] [0, 1, 4, 5, 6, 7, 2, 3] [] rfl mt_184 mt_181 mt_2 mt_182 mt_183 0 rfl rfl hdR_multiply (by decide) ⟨rfl, rfl⟩ (by decide) rfl rfl (by decide) rfl (by decide) (by decide) (by decide) (fun u => rfl) (fun u => rfl) (fun u => rfl) rfl rfl (by simp [Value.category]) dD_product_35 (fun _ _ => ?_)
    refine xg_aload_n hX 1 dD_product_38 rfl rfl ?_
    refine xg_aload_n hX 1 dD_product_39 rfl rfl ?_
    refine xg_get hX (ci := 2) rfl hinD 0 rfl 4 (by decide) mt_72 rfl dD_product_40 ?_
    refine xg_iload hX 6 dD_product_43 rfl ?_
    refine xg_top (nI (tn k)) (df3 f3) ?_
    refine xg_iload hX 7 dD_product_45 rfl ?_
    refine xg_top (nI (tn c)) (df4 f3) ?_
    refine xg_cV hX dq [.ref d4, .int (nI (tn k)), .int (nI (tn c))] (hM := xc_writeDecimal l D cI dq dm d1 d2 d3 d4 dw den M d4 p4 (muR (rdD M (tn n) (tn a)) (rdD M (tn m) (tn b)) 31) ((rdS M (tn n) (tn a)) != (rdS M (tn m) (tn b))) (tn k) (tn c) (df1 f3) (df2 f3) (muR_lt _ _ 31)) (wr := [(d1, .inr (0, [.ref p1, .int (bI (rdS M (tn n) (tn a)))])), (p1, .inl (cI, 130, .inl (nf (rdD M (tn n) (tn a))))), (d2, .inr (0, [.ref p2, .int (bI (rdS M (tn m) (tn b)))])), (p2, .inl (cI, 130, .inl (nf (rdD M (tn m) (tn b)))))]) (ws' := fun _ => [(dq, .inr (2, [.ref dm, .ref d1, .ref d2, .ref d3, .ref d4, .ref dw, .int (bI den)])), (dm, .inl (cI, 256, .inl (nf (wrM M (muR (rdD M (tn n) (tn a)) (rdD M (tn m) (tn b)) 31) ((rdS M (tn n) (tn a)) != (rdS M (tn m) (tn b))) (tn k) (tn c))))), (d1, .inr (0, [.ref p1, .int (bI (rdS M (tn n) (tn a)))])), (p1, .inl (cI, 130, .inl (nf (rdD M (tn n) (tn a))))), (d2, .inr (0, [.ref p2, .int (bI (rdS M (tn m) (tn b)))])), (p2, .inl (cI, 130, .inl (nf (rdD M (tn m) (tn b))))), (d4, .inr (0, [.ref p4, .int (bI ((rdS M (tn n) (tn a)) != (rdS M (tn m) (tn b))))])), (p4, .inl (cI, 130, .inl (nf (muR (rdD M (tn n) (tn a)) (rdD M (tn m) (tn b)) 31))))]) (st' := fun _ => [.int (nI (flg (muR (rdD M (tn n) (tn a)) (rdD M (tn m) (tn b)) 31) ((rdS M (tn n) (tn a)) != (rdS M (tn m) (tn b))) (tn k)))]) [0, 1, 6, 7] [2, 3, 4, 5] [4, 5, 0, 1, 2, 3, 6, 7] [] rfl mt_166 mt_163 mt_1 mt_165 mp_5 0 rfl rfl hdD_writeDecimal (by decide) ⟨rfl, rfl⟩ (by decide) rfl rfl (by decide) rfl (by decide) (by decide) (by decide) (fun u => rfl) (fun u => rfl) (fun u => rfl) rfl rfl (by simp [Value.category]) dD_product_47 (fun _ _ => ?_)
    exact hret (nI (flg (muR (rdD M (tn n) (tn a)) (rdD M (tn m) (tn b)) 31) ((rdS M (tn n) (tn a)) != (rdS M (tn m) (tn b))) (tn k)), wrM M (muR (rdD M (tn n) (tn a)) (rdD M (tn m) (tn b)) 31) ((rdS M (tn n) (tn a)) != (rdS M (tn m) (tn b))) (tn k) (tn c), rdD M (tn n) (tn a), rdS M (tn n) (tn a), rdD M (tn m) (tn b), rdS M (tn m) (tn b), muR (rdD M (tn n) (tn a)) (rdD M (tn m) (tn b)) 31, (rdS M (tn n) (tn a)) != (rdS M (tn m) (tn b))) _ _ _ rfl (show ((nI (flg (muR (rdD M (tn n) (tn a)) (rdD M (tn m) (tn b)) 31) ((rdS M (tn n) (tn a)) != (rdS M (tn m) (tn b))) (tn k))), (wrM M (muR (rdD M (tn n) (tn a)) (rdD M (tn m) (tn b)) 31) ((rdS M (tn n) (tn a)) != (rdS M (tn m) (tn b))) (tn k) (tn c))) = prodZ M n a m b k c from (by unfold prodZ arZ; rw [if_pos ho0])) dD_product_50
  ·
    refine xg_iload hX 0 dD_product_20 rfl ?_
    exact hret (rO, M, x1, y1, x2, y2, e4, s4) _ _ _ rfl (show (rO, M) = prodZ M n a m b k c from (by unfold prodZ arZ; rw [← huO.1, if_neg h17])) dD_product_22
set_option maxHeartbeats 4000000 in
set_option maxRecDepth 100000 in
theorem xc_quotient (l : Launch) (D : va_G) (cI : ClassId) (dq : Nat) (dm : Nat) (d1 : Nat) (d2 : Nat) (d3 : Nat) (d4 : Nat) (dw : Nat) (den : Bool) (M : Nat → Nat) (p1 : Nat) (e1 : Nat → Nat) (s1 : Bool) (p2 : Nat) (e2 : Nat → Nat) (s2 : Bool) (p3 : Nat) (e3 : Nat → Nat) (s3 : Bool) (p4 : Nat) (e4 : Nat → Nat) (s4 : Bool) (n : Int32) (a : Int32) (m : Int32) (b : Int32) (k : Int32) (c : Int32) (hM : ∀ j, M j < 256) : Ctr l D cI yD_quotient cD_quotient 8 (some .int) { frames := 6, cells := 0, slots := 0, locals := 137 } [.ref dq, .int n, .int a, .int m, .int b, .int k, .int c] [(dq, .inr (2, [.ref dm, .ref d1, .ref d2, .ref d3, .ref d4, .ref dw, .int (bI den)])), (dm, .inl (cI, 256, .inl (nf M))), (d1, .inr (0, [.ref p1, .int (bI s1)])), (p1, .inl (cI, 130, .inl (nf e1))), (d2, .inr (0, [.ref p2, .int (bI s2)])), (p2, .inl (cI, 130, .inl (nf e2))), (d3, .inr (0, [.ref p3, .int (bI s3)])), (p3, .inl (cI, 130, .inl (nf e3))), (d4, .inr (0, [.ref p4, .int (bI s4)])), (p4, .inl (cI, 130, .inl (nf e4)))] (fun u : Int32 × (Nat → Nat) × (Nat → Nat) × Bool × (Nat → Nat) × Bool × (Nat → Nat) × Bool × (Nat → Nat) × Bool => match u with | (r, M2, e1_, s1_, e2_, s2_, e3_, s3_, e4_, s4_) => some (.int r)) (fun u : Int32 × (Nat → Nat) × (Nat → Nat) × Bool × (Nat → Nat) × Bool × (Nat → Nat) × Bool × (Nat → Nat) × Bool => match u with | (r, M2, e1_, s1_, e2_, s2_, e3_, s3_, e4_, s4_) => (r, M2) = quotZ M n a m b k c) (fun u : Int32 × (Nat → Nat) × (Nat → Nat) × Bool × (Nat → Nat) × Bool × (Nat → Nat) × Bool × (Nat → Nat) × Bool => match u with | (r, M2, e1_, s1_, e2_, s2_, e3_, s3_, e4_, s4_) => [(dq, .inr (2, [.ref dm, .ref d1, .ref d2, .ref d3, .ref d4, .ref dw, .int (bI den)])), (dm, .inl (cI, 256, .inl (nf M2))), (d1, .inr (0, [.ref p1, .int (bI s1_)])), (p1, .inl (cI, 130, .inl (nf e1_))), (d2, .inr (0, [.ref p2, .int (bI s2_)])), (p2, .inl (cI, 130, .inl (nf e2_))), (d3, .inr (0, [.ref p3, .int (bI s3_)])), (p3, .inl (cI, 130, .inl (nf e3_))), (d4, .inr (0, [.ref p4, .int (bI s4_)])), (p4, .inl (cI, 130, .inl (nf e4_)))]) 0 0 := by
  refine xc_mkI (by decide +kernel) (Nat.le_of_ble_eq_true rfl) (fun X hX hret => ?_)
  show GG D X 0 0 0 [(dq, .inr (2, [.ref dm, .ref d1, .ref d2, .ref d3, .ref d4, .ref dw, .int (bI den)])), (dm, .inl (cI, 256, .inl (nf M))), (d1, .inr (0, [.ref p1, .int (bI s1)])), (p1, .inl (cI, 130, .inl (nf e1))), (d2, .inr (0, [.ref p2, .int (bI s2)])), (p2, .inl (cI, 130, .inl (nf e2))), (d3, .inr (0, [.ref p3, .int (bI s3)])), (p3, .inl (cI, 130, .inl (nf e3))), (d4, .inr (0, [.ref p4, .int (bI s4)])), (p4, .inl (cI, 130, .inl (nf e4)))] [(0, .ref dq), (1, .int n), (2, .int a), (3, .int m), (4, .int b), (5, .int k), (6, .int c)] []
  refine xg_aload_n hX 0 dD_quotient_0 rfl rfl ?_
  refine xg_iload_n hX 1 dD_quotient_1 rfl rfl ?_
  refine xg_iload_n hX 2 dD_quotient_2 rfl rfl ?_
  refine xg_iload_n hX 3 dD_quotient_3 rfl rfl ?_
  refine xg_iload hX 4 dD_quotient_4 rfl ?_
  refine xg_iload hX 5 dD_quotient_6 rfl ?_
  refine xg_iload hX 6 dD_quotient_8 rfl ?_
  refine xg_cV hX dq [.int n, .int a, .int m, .int b, .int k, .int c] (hM := xc_operands l D cI dq dm d1 d2 d3 d4 dw den M p1 e1 s1 p2 e2 s2 n a m b k c hM) (wr := [(d3, .inr (0, [.ref p3, .int (bI s3)])), (p3, .inl (cI, 130, .inl (nf e3))), (d4, .inr (0, [.ref p4, .int (bI s4)])), (p4, .inl (cI, 130, .inl (nf e4)))]) (ws' := fun u => match u with | (rO, x1, y1, x2, y2) => [(dq, .inr (2, [.ref dm, .ref d1, .ref d2, .ref d3, .ref d4, .ref dw, .int (bI den)])), (dm, .inl (cI, 256, .inl (nf M))), (d1, .inr (0, [.ref p1, .int (bI y1)])), (p1, .inl (cI, 130, .inl (nf x1))), (d2, .inr (0, [.ref p2, .int (bI y2)])), (p2, .inl (cI, 130, .inl (nf x2))), (d3, .inr (0, [.ref p3, .int (bI s3)])), (p3, .inl (cI, 130, .inl (nf e3))), (d4, .inr (0, [.ref p4, .int (bI s4)])), (p4, .inl (cI, 130, .inl (nf e4)))]) (st' := fun u => match u with | (rO, x1, y1, x2, y2) => [.int rO]) [0, 1, 2, 3, 4, 5] [6, 7, 8, 9] [4, 5, 6, 7, 8, 9, 0, 1, 2, 3] [] rfl mt_105 mt_102 mt_1 mt_104 mp_0 0 rfl rfl hdD_readOperands (by decide) ⟨rfl, rfl⟩ (by decide) rfl rfl (by decide) rfl (by decide) (by decide) (by decide) (fun u => rfl) (fun u => rfl) (fun u => rfl) rfl rfl (by simp [Value.category]) dD_quotient_10 (fun u hu => ?_)
  obtain ⟨rO, x1, y1, x2, y2⟩ := u
  have huO : rO = opR M n a m b k c ∧ (rO = 0 → x1 = rdD M (tn n) (tn a) ∧ y1 = rdS M (tn n) (tn a) ∧ x2 = rdD M (tn m) (tn b) ∧ y2 = rdS M (tn m) (tn b)) := hu
  show GG D X 0 0 13 [(dq, .inr (2, [.ref dm, .ref d1, .ref d2, .ref d3, .ref d4, .ref dw, .int (bI den)])), (dm, .inl (cI, 256, .inl (nf M))), (d1, .inr (0, [.ref p1, .int (bI y1)])), (p1, .inl (cI, 130, .inl (nf x1))), (d2, .inr (0, [.ref p2, .int (bI y2)])), (p2, .inl (cI, 130, .inl (nf x2))), (d3, .inr (0, [.ref p3, .int (bI s3)])), (p3, .inl (cI, 130, .inl (nf e3))), (d4, .inr (0, [.ref p4, .int (bI s4)])), (p4, .inl (cI, 130, .inl (nf e4)))] [(0, .ref dq), (1, .int n), (2, .int a), (3, .int m), (4, .int b), (5, .int k), (6, .int c)] [.int rO]
  refine xg_istore hX (lv' := [(7, .int rO), (0, .ref dq), (1, .int n), (2, .int a), (3, .int m), (4, .int b), (5, .int k), (6, .int c)]) dD_quotient_13 (by decide) rfl ?_
  refine xg_iload hX 0 dD_quotient_15 rfl ?_
  refine xg_if_eq hX 23 dD_quotient_17 (by decide) (fun h17 => ?_) (fun h17 => ?_)
  ·
    have ho0 : opR M n a m b k c = 0 := by rw [← huO.1]; exact h17
    obtain ⟨f1, f2, f3, g1, g2⟩ := opR_0 ho0
    obtain ⟨rfl, rfl, rfl, rfl⟩ := huO.2 h17
    have hx := rd_lt g1
    have hy := rd_lt g2
    refine xg_aload_n hX 1 dD_quotient_23 rfl rfl ?_
    refine xg_get hX (ci := 2) rfl hinD 0 rfl 1 (by decide) mt_69 rfl dD_quotient_24 ?_
    refine xg_cV hX d1 [] (hM := xc_isZero l D cI d1 p1 (rdD M (tn n) (tn a)) (rdS M (tn n) (tn a)) hx) (wr := [(dq, .inr (2, [.ref dm, .ref d1, .ref d2, .ref d3, .ref d4, .ref dw, .int (bI den)])), (dm, .inl (cI, 256, .inl (nf M))), (d2, .inr (0, [.ref p2, .int (bI (rdS M (tn m) (tn b)))])), (p2, .inl (cI, 130, .inl (nf (rdD M (tn m) (tn b))))), (d3, .inr (0, [.ref p3, .int (bI s3)])), (p3, .inl (cI, 130, .inl (nf e3))), (d4, .inr (0, [.ref p4, .int (bI s4)])), (p4, .inl (cI, 130, .inl (nf e4)))]) (ws' := fun _ => [(dq, .inr (2, [.ref dm, .ref d1, .ref d2, .ref d3, .ref d4, .ref dw, .int (bI den)])), (dm, .inl (cI, 256, .inl (nf M))), (d1, .inr (0, [.ref p1, .int (bI (rdS M (tn n) (tn a)))])), (p1, .inl (cI, 130, .inl (nf (rdD M (tn n) (tn a))))), (d2, .inr (0, [.ref p2, .int (bI (rdS M (tn m) (tn b)))])), (p2, .inl (cI, 130, .inl (nf (rdD M (tn m) (tn b))))), (d3, .inr (0, [.ref p3, .int (bI s3)])), (p3, .inl (cI, 130, .inl (nf e3))), (d4, .inr (0, [.ref p4, .int (bI s4)])), (p4, .inl (cI, 130, .inl (nf e4)))]) (st' := fun _ => [.int (bI (!hasD (rdD M (tn n) (tn a)) 0 130))]) [2, 3] [0, 1, 4, 5, 6, 7, 8, 9] [0, 1, 8, 9, 2, 3, 4, 5, 6, 7] [] rfl mt_136 mt_193 mt_2 mt_134 mt_135 0 rfl rfl hdR_isZero (by decide) ⟨rfl, rfl⟩ (by decide) rfl rfl (by decide) rfl (by decide) (by decide) (by decide) (fun u => rfl) (fun u => rfl) (fun u => rfl) rfl rfl (by simp [Value.category]) dD_quotient_27 (fun _ _ => ?_)
    refine xg_if_eqB hX 36 dD_quotient_30 (by decide) (fun h30 => ?_) (fun h30 => ?_)
    ·
      refine xg_aload_n hX 1 dD_quotient_36 rfl rfl ?_
      refine xg_get hX (ci := 2) rfl hinD 0 rfl 4 (by decide) mt_72 rfl dD_quotient_37 ?_
      refine xg_aload_n hX 1 dD_quotient_40 rfl rfl ?_
      refine xg_get hX (ci := 2) rfl hinD 0 rfl 2 (by decide) mt_70 rfl dD_quotient_41 ?_
      refine xg_aload_n hX 1 dD_quotient_44 rfl rfl ?_
      refine xg_get hX (ci := 2) rfl hinD 0 rfl 1 (by decide) mt_69 rfl dD_quotient_45 ?_
      refine xg_aload_n hX 1 dD_quotient_48 rfl rfl ?_
      refine xg_get hX (ci := 2) rfl hinD 0 rfl 3 (by decide) mt_71 rfl dD_quotient_49 ?_
      refine xg_cV hX d4 [.ref d2, .ref d1, .ref d3] (hM := xc_divide l D cI d4 p4 e4 s4 d2 p2 (rdD M (tn m) (tn b)) (rdS M (tn m) (tn b)) d1 p1 (rdD M (tn n) (tn a)) (rdS M (tn n) (tn a)) d3 p3 e3 s3 hy hx) (wr := [(dq, .inr (2, [.ref dm, .ref d1, .ref d2, .ref d3, .ref d4, .ref dw, .int (bI den)])), (dm, .inl (cI, 256, .inl (nf M)))]) (ws' := fun _ => [(dq, .inr (2, [.ref dm, .ref d1, .ref d2, .ref d3, .ref d4, .ref dw, .int (bI den)])), (dm, .inl (cI, 256, .inl (nf M))), (d1, .inr (0, [.ref p1, .int (bI (rdS M (tn n) (tn a)))])), (p1, .inl (cI, 130, .inl (nf (rdD M (tn n) (tn a))))), (d2, .inr (0, [.ref p2, .int (bI (rdS M (tn m) (tn b)))])), (p2, .inl (cI, 130, .inl (nf (rdD M (tn m) (tn b))))), (d3, .inr (0, [.ref p3, .int (bI false)])), (p3, .inl (cI, 130, .inl (nf (dvR 32 (rdD M (tn m) (tn b)) (rdD M (tn n) (tn a)) 31)))), (d4, .inr (0, [.ref p4, .int (bI ((rdS M (tn m) (tn b)) != (rdS M (tn n) (tn a))))])), (p4, .inl (cI, 130, .inl (nf (qmx 0 (dvQ 32 (rdD M (tn m) (tn b)) (rdD M (tn n) (tn a)))))))]) (st' := fun _ => []) [8, 9, 4, 5, 2, 3, 6, 7] [0, 1] [0, 1, 6, 7, 4, 5, 8, 9, 2, 3] [] rfl mt_197 mt_194 mt_2 mt_195 mt_196 0 rfl rfl hdR_divide (by decide) ⟨rfl, rfl⟩ (by decide) rfl rfl (by decide) rfl (by decide) (by decide) (by decide) (fun u => rfl) (fun u => rfl) (fun u => rfl) rfl rfl (by simp [Value.category]) dD_quotient_52 (fun _ _ => ?_)
      refine xg_aload_n hX 1 dD_quotient_55 rfl rfl ?_
      refine xg_aload_n hX 1 dD_quotient_56 rfl rfl ?_
      refine xg_get hX (ci := 2) rfl hinD 0 rfl 4 (by decide) mt_72 rfl dD_quotient_57 ?_
      refine xg_iload hX 6 dD_quotient_60 rfl ?_
      refine xg_top (nI (tn k)) (df3 f3) ?_
      refine xg_iload hX 7 dD_quotient_62 rfl ?_
      refine xg_top (nI (tn c)) (df4 f3) ?_
      refine xg_cV hX dq [.ref d4, .int (nI (tn k)), .int (nI (tn c))] (hM := xc_writeDecimal l D cI dq dm d1 d2 d3 d4 dw den M d4 p4 (qmx 0 (dvQ 32 (rdD M (tn m) (tn b)) (rdD M (tn n) (tn a)))) ((rdS M (tn m) (tn b)) != (rdS M (tn n) (tn a))) (tn k) (tn c) (df1 f3) (df2 f3) (qmx_lt (dvQ_lt hy hx))) (wr := [(d1, .inr (0, [.ref p1, .int (bI (rdS M (tn n) (tn a)))])), (p1, .inl (cI, 130, .inl (nf (rdD M (tn n) (tn a))))), (d2, .inr (0, [.ref p2, .int (bI (rdS M (tn m) (tn b)))])), (p2, .inl (cI, 130, .inl (nf (rdD M (tn m) (tn b))))), (d3, .inr (0, [.ref p3, .int (bI false)])), (p3, .inl (cI, 130, .inl (nf (dvR 32 (rdD M (tn m) (tn b)) (rdD M (tn n) (tn a)) 31))))]) (ws' := fun _ => [(dq, .inr (2, [.ref dm, .ref d1, .ref d2, .ref d3, .ref d4, .ref dw, .int (bI den)])), (dm, .inl (cI, 256, .inl (nf (wrM M (qmx 0 (dvQ 32 (rdD M (tn m) (tn b)) (rdD M (tn n) (tn a)))) ((rdS M (tn m) (tn b)) != (rdS M (tn n) (tn a))) (tn k) (tn c))))), (d1, .inr (0, [.ref p1, .int (bI (rdS M (tn n) (tn a)))])), (p1, .inl (cI, 130, .inl (nf (rdD M (tn n) (tn a))))), (d2, .inr (0, [.ref p2, .int (bI (rdS M (tn m) (tn b)))])), (p2, .inl (cI, 130, .inl (nf (rdD M (tn m) (tn b))))), (d3, .inr (0, [.ref p3, .int (bI false)])), (p3, .inl (cI, 130, .inl (nf (dvR 32 (rdD M (tn m) (tn b)) (rdD M (tn n) (tn a)) 31)))), (d4, .inr (0, [.ref p4, .int (bI ((rdS M (tn m) (tn b)) != (rdS M (tn n) (tn a))))])), (p4, .inl (cI, 130, .inl (nf (qmx 0 (dvQ 32 (rdD M (tn m) (tn b)) (rdD M (tn n) (tn a)))))))]) (st' := fun _ => [.int (nI (flg (qmx 0 (dvQ 32 (rdD M (tn m) (tn b)) (rdD M (tn n) (tn a)))) ((rdS M (tn m) (tn b)) != (rdS M (tn n) (tn a))) (tn k)))]) [0, 1, 8, 9] [2, 3, 4, 5, 6, 7] [6, 7, 0, 1, 2, 3, 4, 5, 8, 9] [] rfl mt_166 mt_163 mt_1 mt_165 mp_5 0 rfl rfl hdD_writeDecimal (by decide) ⟨rfl, rfl⟩ (by decide) rfl rfl (by decide) rfl (by decide) (by decide) (by decide) (fun u => rfl) (fun u => rfl) (fun u => rfl) rfl rfl (by simp [Value.category]) dD_quotient_64 (fun _ _ => ?_)
      exact hret (nI (flg (qmx 0 (dvQ 32 (rdD M (tn m) (tn b)) (rdD M (tn n) (tn a)))) ((rdS M (tn m) (tn b)) != (rdS M (tn n) (tn a))) (tn k)), wrM M (qmx 0 (dvQ 32 (rdD M (tn m) (tn b)) (rdD M (tn n) (tn a)))) ((rdS M (tn m) (tn b)) != (rdS M (tn n) (tn a))) (tn k) (tn c), rdD M (tn n) (tn a), rdS M (tn n) (tn a), rdD M (tn m) (tn b), rdS M (tn m) (tn b), dvR 32 (rdD M (tn m) (tn b)) (rdD M (tn n) (tn a)) 31, false, qmx 0 (dvQ 32 (rdD M (tn m) (tn b)) (rdD M (tn n) (tn a))), (rdS M (tn m) (tn b)) != (rdS M (tn n) (tn a))) _ _ _ rfl (show ((nI (flg (qmx 0 (dvQ 32 (rdD M (tn m) (tn b)) (rdD M (tn n) (tn a)))) ((rdS M (tn m) (tn b)) != (rdS M (tn n) (tn a))) (tn k))), (wrM M (qmx 0 (dvQ 32 (rdD M (tn m) (tn b)) (rdD M (tn n) (tn a)))) ((rdS M (tn m) (tn b)) != (rdS M (tn n) (tn a))) (tn k) (tn c))) = quotZ M n a m b k c from (by unfold quotZ; rw [if_pos ho0, if_pos (by simpa using h30)]; rfl)) dD_quotient_67
    ·
      refine xg_bipush hX ((-3)) dD_quotient_33 (by decide) ?_
      exact hret ((-3), M, rdD M (tn n) (tn a), rdS M (tn n) (tn a), rdD M (tn m) (tn b), rdS M (tn m) (tn b), e3, s3, e4, s4) _ _ _ rfl (show ((-3), M) = quotZ M n a m b k c from (by unfold quotZ; rw [if_pos ho0, if_neg (fun q => by rw [q] at h30; exact absurd h30 (by decide))]; exact (arZ_no (by decide)).symm)) dD_quotient_35
  ·
    refine xg_iload hX 0 dD_quotient_20 rfl ?_
    exact hret (rO, M, x1, y1, x2, y2, e3, s3, e4, s4) _ _ _ rfl (show (rO, M) = quotZ M n a m b k c from (by unfold quotZ; rw [← huO.1, if_neg h17]; exact (arZ_no h17).symm)) dD_quotient_22
set_option maxHeartbeats 4000000 in
set_option maxRecDepth 100000 in
theorem xc_shift (l : Launch) (D : va_G) (cI : ClassId) (dq : Nat) (dm : Nat) (d1 : Nat) (d2 : Nat) (d3 : Nat) (d4 : Nat) (dw : Nat) (den : Bool) (M : Nat → Nat) (p1 : Nat) (e1 : Nat → Nat) (s1 : Bool) (p4 : Nat) (e4 : Nat → Nat) (s4 : Bool) (n : Int32) (a : Int32) (y : Int32) (up_ : Int32) (m : Int32) (b : Int32) (hM : ∀ j, M j < 256) : Ctr l D cI yD_shift cD_shift 7 (some .int) { frames := 5, cells := 0, slots := 0, locals := 111 } [.ref dq, .int n, .int a, .int y, .int up_, .int m, .int b] [(dq, .inr (2, [.ref dm, .ref d1, .ref d2, .ref d3, .ref d4, .ref dw, .int (bI den)])), (dm, .inl (cI, 256, .inl (nf M))), (d1, .inr (0, [.ref p1, .int (bI s1)])), (p1, .inl (cI, 130, .inl (nf e1))), (d4, .inr (0, [.ref p4, .int (bI s4)])), (p4, .inl (cI, 130, .inl (nf e4)))] (fun u : Int32 × (Nat → Nat) × (Nat → Nat) × Bool × (Nat → Nat) × Bool => match u with | (r, M2, e1_, s1_, e4_, s4_) => some (.int r)) (fun u : Int32 × (Nat → Nat) × (Nat → Nat) × Bool × (Nat → Nat) × Bool => match u with | (r, M2, e1_, s1_, e4_, s4_) => (r, M2) = shiftZ M n a y up_ m b) (fun u : Int32 × (Nat → Nat) × (Nat → Nat) × Bool × (Nat → Nat) × Bool => match u with | (r, M2, e1_, s1_, e4_, s4_) => [(dq, .inr (2, [.ref dm, .ref d1, .ref d2, .ref d3, .ref d4, .ref dw, .int (bI den)])), (dm, .inl (cI, 256, .inl (nf M2))), (d1, .inr (0, [.ref p1, .int (bI s1_)])), (p1, .inl (cI, 130, .inl (nf e1_))), (d4, .inr (0, [.ref p4, .int (bI s4_)])), (p4, .inl (cI, 130, .inl (nf e4_)))]) 0 0 := by
  refine xc_mkI (by decide +kernel) (Nat.le_of_ble_eq_true rfl) (fun X hX hret => ?_)
  show GG D X 0 0 0 [(dq, .inr (2, [.ref dm, .ref d1, .ref d2, .ref d3, .ref d4, .ref dw, .int (bI den)])), (dm, .inl (cI, 256, .inl (nf M))), (d1, .inr (0, [.ref p1, .int (bI s1)])), (p1, .inl (cI, 130, .inl (nf e1))), (d4, .inr (0, [.ref p4, .int (bI s4)])), (p4, .inl (cI, 130, .inl (nf e4)))] [(0, .ref dq), (1, .int n), (2, .int a), (3, .int y), (4, .int up_), (5, .int m), (6, .int b)] []
  refine xg_iload_n hX 1 dD_shift_0 rfl rfl ?_
  refine xg_iload_n hX 2 dD_shift_1 rfl rfl ?_
  refine xg_cS hX [.int n, .int a] (hM := xc_dfits l D cI n a) (wr := [(dq, .inr (2, [.ref dm, .ref d1, .ref d2, .ref d3, .ref d4, .ref dw, .int (bI den)])), (dm, .inl (cI, 256, .inl (nf M))), (d1, .inr (0, [.ref p1, .int (bI s1)])), (p1, .inl (cI, 130, .inl (nf e1))), (d4, .inr (0, [.ref p4, .int (bI s4)])), (p4, .inl (cI, 130, .inl (nf e4)))]) (ws' := fun _ => [(dq, .inr (2, [.ref dm, .ref d1, .ref d2, .ref d3, .ref d4, .ref dw, .int (bI den)])), (dm, .inl (cI, 256, .inl (nf M))), (d1, .inr (0, [.ref p1, .int (bI s1)])), (p1, .inl (cI, 130, .inl (nf e1))), (d4, .inr (0, [.ref p4, .int (bI s4)])), (p4, .inl (cI, 130, .inl (nf e4)))]) (st' := fun _ => [.int (bI (dfits n a))]) [] [0, 1, 2, 3, 4, 5] [0, 1, 2, 3, 4, 5] [] rfl mt_108 mt_106 mt_1 mt_107 hdD_decimalFits (by decide) ⟨rfl, rfl⟩ (by decide) rfl rfl (by decide) rfl (by decide) (by decide) (by decide) (fun u => rfl) (fun u => rfl) (fun u => rfl) rfl rfl (by simp [Value.category]) dD_shift_2 (fun _ _ => ?_)
  refine xg_if_eqB hX 18 dD_shift_5 (by decide) (fun h5 => ?_) (fun h5 => ?_)
  ·
    refine xg_iconst hX ((-1)) dD_shift_18 (by decide) ?_
    exact hret ((-1), M, e1, s1, e4, s4) _ _ _ rfl (show ((-1), M) = shiftZ M n a y up_ m b from (by have hz : shR M n a y up_ m b = -1 := (by unfold shR; rw [if_neg (fun q => by simp only [Bool.and_eq_true] at q; first | exact absurd (h5.symm.trans q.1) (by decide) | exact absurd (h15.symm.trans q.2) (by decide))]); rw [shiftZ, hz]; exact (arZ_no (by decide)).symm)) dD_shift_19
  ·
    refine xg_iload hX 5 dD_shift_8 rfl ?_
    refine xg_iload hX 6 dD_shift_10 rfl ?_
    refine xg_cS hX [.int m, .int b] (hM := xc_dfits l D cI m b) (wr := [(dq, .inr (2, [.ref dm, .ref d1, .ref d2, .ref d3, .ref d4, .ref dw, .int (bI den)])), (dm, .inl (cI, 256, .inl (nf M))), (d1, .inr (0, [.ref p1, .int (bI s1)])), (p1, .inl (cI, 130, .inl (nf e1))), (d4, .inr (0, [.ref p4, .int (bI s4)])), (p4, .inl (cI, 130, .inl (nf e4)))]) (ws' := fun _ => [(dq, .inr (2, [.ref dm, .ref d1, .ref d2, .ref d3, .ref d4, .ref dw, .int (bI den)])), (dm, .inl (cI, 256, .inl (nf M))), (d1, .inr (0, [.ref p1, .int (bI s1)])), (p1, .inl (cI, 130, .inl (nf e1))), (d4, .inr (0, [.ref p4, .int (bI s4)])), (p4, .inl (cI, 130, .inl (nf e4)))]) (st' := fun _ => [.int (bI (dfits m b))]) [] [0, 1, 2, 3, 4, 5] [0, 1, 2, 3, 4, 5] [] rfl mt_108 mt_106 mt_1 mt_107 hdD_decimalFits (by decide) ⟨rfl, rfl⟩ (by decide) rfl rfl (by decide) rfl (by decide) (by decide) (by decide) (fun u => rfl) (fun u => rfl) (fun u => rfl) rfl rfl (by simp [Value.category]) dD_shift_12 (fun _ _ => ?_)
    refine xg_if_neB hX 20 dD_shift_15 (by decide) (fun h15 => ?_) (fun h15 => ?_)
    ·
      refine xg_iload_n hX 3 dD_shift_20 rfl rfl ?_
      refine xg_bipush hX ((-99)) dD_shift_21 (by decide) ?_
      refine xg_icmp_ltZ hX y.toInt (-99) rfl rfl 44 dD_shift_23 (by decide) (fun h23 => ?_) (fun h23 => ?_)
      ·
        refine xg_iconst hX ((-1)) dD_shift_44 (by decide) ?_
        exact hret ((-1), M, e1, s1, e4, s4) _ _ _ rfl (show ((-1), M) = shiftZ M n a y up_ m b from (by have hz : shR M n a y up_ m b = -1 := (by unfold shR; rw [if_pos (by rw [h5, h15]; rfl), if_neg (by omega)]); rw [shiftZ, hz]; exact (arZ_no (by decide)).symm)) dD_shift_45
      ·
        refine xg_iload_n hX 3 dD_shift_26 rfl rfl ?_
        refine xg_bipush hX (nI 99) dD_shift_27 (by decide) ?_
        refine xg_icmp_gtZ hX y.toInt (99 : Nat) rfl (xn_ti (by omega)) 44 dD_shift_29 (by decide) (fun h29 => ?_) (fun h29 => ?_)
        ·
          refine xg_iconst hX ((-1)) dD_shift_44 (by decide) ?_
          exact hret ((-1), M, e1, s1, e4, s4) _ _ _ rfl (show ((-1), M) = shiftZ M n a y up_ m b from (by have hz : shR M n a y up_ m b = -1 := (by unfold shR; rw [if_pos (by rw [h5, h15]; rfl), if_neg (by omega)]); rw [shiftZ, hz]; exact (arZ_no (by decide)).symm)) dD_shift_45
        ·
          refine xg_iload hX 4 dD_shift_32 rfl ?_
          refine xg_if_ltZ hX up_.toInt rfl 44 dD_shift_34 (by decide) (fun h34 => ?_) (fun h34 => ?_)
          ·
            refine xg_iconst hX ((-1)) dD_shift_44 (by decide) ?_
            exact hret ((-1), M, e1, s1, e4, s4) _ _ _ rfl (show ((-1), M) = shiftZ M n a y up_ m b from (by have hz : shR M n a y up_ m b = -1 := (by unfold shR; rw [if_pos (by rw [h5, h15]; rfl), if_neg (by omega)]); rw [shiftZ, hz]; exact (arZ_no (by decide)).symm)) dD_shift_45
          ·
            refine xg_iload hX 4 dD_shift_37 rfl ?_
            refine xg_bipush hX (nI 9) dD_shift_39 (by decide) ?_
            refine xg_icmp_leZ hX up_.toInt (9 : Nat) rfl (xn_ti (by omega)) 46 dD_shift_41 (by decide) (fun h41 => ?_) (fun h41 => ?_)
            ·
              refine xg_aload_n hX 0 dD_shift_46 rfl rfl ?_
              refine xg_aload_n hX 0 dD_shift_47 rfl rfl ?_
              refine xg_get hX (ci := 2) rfl hinD 0 rfl 1 (by decide) mt_69 rfl dD_shift_48 ?_
              refine xg_iload_n hX 1 dD_shift_51 rfl rfl ?_
              refine xg_top (nI (tn n)) (df3 h5) ?_
              refine xg_iload_n hX 2 dD_shift_52 rfl rfl ?_
              refine xg_top (nI (tn a)) (df4 h5) ?_
              refine xg_cV hX dq [.ref d1, .int (nI (tn n)), .int (nI (tn a))] (hM := xc_readDecimal l D cI dq dm d1 d2 d3 d4 dw den M d1 p1 e1 s1 (tn n) (tn a) (df1 h5) (df2 h5) hM) (wr := [(d4, .inr (0, [.ref p4, .int (bI s4)])), (p4, .inl (cI, 130, .inl (nf e4)))]) (ws' := fun u => match u with | (okA, tA, sA) => [(dq, .inr (2, [.ref dm, .ref d1, .ref d2, .ref d3, .ref d4, .ref dw, .int (bI den)])), (dm, .inl (cI, 256, .inl (nf M))), (d1, .inr (0, [.ref p1, .int (bI sA)])), (p1, .inl (cI, 130, .inl (nf tA))), (d4, .inr (0, [.ref p4, .int (bI s4)])), (p4, .inl (cI, 130, .inl (nf e4)))]) (st' := fun u => match u with | (okA, tA, sA) => [.int (bI okA)]) [0, 1, 2, 3] [4, 5] [2, 3, 4, 5, 0, 1] [] rfl mt_112 mt_109 mt_1 mt_111 mp_1 0 rfl rfl hdD_readDecimal (by decide) ⟨rfl, rfl⟩ (by decide) rfl rfl (by decide) rfl (by decide) (by decide) (by decide) (fun u => rfl) (fun u => rfl) (fun u => rfl) rfl rfl (by simp [Value.category]) dD_shift_53 (fun u hu => ?_)
              obtain ⟨okA, tA, sA⟩ := u
              have huA : okA = rdb M (tn n) (tn a) ∧ (okA = true → tA = rdD M (tn n) (tn a) ∧ sA = rdS M (tn n) (tn a)) := hu
              show GG D X 0 0 56 [(dq, .inr (2, [.ref dm, .ref d1, .ref d2, .ref d3, .ref d4, .ref dw, .int (bI den)])), (dm, .inl (cI, 256, .inl (nf M))), (d1, .inr (0, [.ref p1, .int (bI sA)])), (p1, .inl (cI, 130, .inl (nf tA))), (d4, .inr (0, [.ref p4, .int (bI s4)])), (p4, .inl (cI, 130, .inl (nf e4)))] [(0, .ref dq), (1, .int n), (2, .int a), (3, .int y), (4, .int up_), (5, .int m), (6, .int b)] [.int (bI okA)]
              refine xg_if_neB hX 62 dD_shift_56 (by decide) (fun h56 => ?_) (fun h56 => ?_)
              ·
                have hs0 : shR M n a y up_ m b = 0 := by unfold shR; rw [if_pos (by rw [h5, h15]; rfl), if_pos ⟨h23, h29, h34, h41⟩, if_pos (huA.1.symm.trans h56)]
                have hx := rd_lt (huA.1.symm.trans h56)
                obtain ⟨rfl, rfl⟩ := huA.2 h56
                refine xg_aload_n hX 0 dD_shift_62 rfl rfl ?_
                refine xg_get hX (ci := 2) rfl hinD 0 rfl 4 (by decide) mt_72 rfl dD_shift_63 ?_
                refine xg_aload_n hX 0 dD_shift_66 rfl rfl ?_
                refine xg_get hX (ci := 2) rfl hinD 0 rfl 1 (by decide) mt_69 rfl dD_shift_67 ?_
                refine xg_iload_n hX 3 dD_shift_70 rfl rfl ?_
                refine xg_cV hX d4 [.ref d1, .int y] (hM := xc_moveLeft l D cI d4 p4 e4 s4 d1 p1 (rdD M (tn n) (tn a)) (rdS M (tn n) (tn a)) y h23 h29 hx) (wr := [(dq, .inr (2, [.ref dm, .ref d1, .ref d2, .ref d3, .ref d4, .ref dw, .int (bI den)])), (dm, .inl (cI, 256, .inl (nf M)))]) (ws' := fun _ => [(dq, .inr (2, [.ref dm, .ref d1, .ref d2, .ref d3, .ref d4, .ref dw, .int (bI den)])), (dm, .inl (cI, 256, .inl (nf M))), (d1, .inr (0, [.ref p1, .int (bI (rdS M (tn n) (tn a)))])), (p1, .inl (cI, 130, .inl (nf (rdD M (tn n) (tn a))))), (d4, .inr (0, [.ref p4, .int (bI (rdS M (tn n) (tn a)))])), (p4, .inl (cI, 130, .inl (nf (mvI (rdD M (tn n) (tn a)) y.toInt 31))))]) (st' := fun _ => []) [4, 5, 2, 3] [0, 1] [0, 1, 4, 5, 2, 3] [] rfl mt_213 mt_210 mt_2 mt_211 mt_212 0 rfl rfl hdR_moveLeft (by decide) ⟨rfl, rfl⟩ (by decide) rfl rfl (by decide) rfl (by decide) (by decide) (by decide) (fun u => rfl) (fun u => rfl) (fun u => rfl) rfl rfl (by simp [Value.category]) dD_shift_71 (fun _ _ => ?_)
                refine xg_iload_n hX 3 dD_shift_74 rfl rfl ?_
                refine xg_if_geZ hX y.toInt rfl 104 dD_shift_75 (by decide) (fun h75 => ?_) (fun h75 => ?_)
                ·
                  have hD : mvI (rdD M (tn n) (tn a)) y.toInt 31 = shD (rdD M (tn n) (tn a)) y up_ := by unfold shD; first | (rw [if_neg (by omega)]; done) | (rw [if_pos ⟨h75, h94⟩]; done)
                  refine xg_ext hX (g := shD (rdD M (tn n) (tn a)) y up_) (ws' := [(dq, .inr (2, [.ref dm, .ref d1, .ref d2, .ref d3, .ref d4, .ref dw, .int (bI den)])), (dm, .inl (cI, 256, .inl (nf M))), (d1, .inr (0, [.ref p1, .int (bI (rdS M (tn n) (tn a)))])), (p1, .inl (cI, 130, .inl (nf (rdD M (tn n) (tn a))))), (d4, .inr (0, [.ref p4, .int (bI (rdS M (tn n) (tn a)))])), (p4, .inl (cI, 130, .inl (nf (shD (rdD M (tn n) (tn a)) y up_))))]) 5 rfl (fun j hj => by rw [hD]) rfl ?_
                  refine xg_aload_n hX 0 dD_shift_104 rfl rfl ?_
                  refine xg_aload_n hX 0 dD_shift_105 rfl rfl ?_
                  refine xg_get hX (ci := 2) rfl hinD 0 rfl 4 (by decide) mt_72 rfl dD_shift_106 ?_
                  refine xg_iload hX 5 dD_shift_109 rfl ?_
                  refine xg_top (nI (tn m)) (df3 h15) ?_
                  refine xg_iload hX 6 dD_shift_111 rfl ?_
                  refine xg_top (nI (tn b)) (df4 h15) ?_
                  refine xg_cV hX dq [.ref d4, .int (nI (tn m)), .int (nI (tn b))] (hM := xc_writeDecimal l D cI dq dm d1 d2 d3 d4 dw den M d4 p4 (shD (rdD M (tn n) (tn a)) y up_) (rdS M (tn n) (tn a)) (tn m) (tn b) (df1 h15) (df2 h15) (shD_lt hx)) (wr := [(d1, .inr (0, [.ref p1, .int (bI (rdS M (tn n) (tn a)))])), (p1, .inl (cI, 130, .inl (nf (rdD M (tn n) (tn a)))))]) (ws' := fun _ => [(dq, .inr (2, [.ref dm, .ref d1, .ref d2, .ref d3, .ref d4, .ref dw, .int (bI den)])), (dm, .inl (cI, 256, .inl (nf (wrM M (shD (rdD M (tn n) (tn a)) y up_) (rdS M (tn n) (tn a)) (tn m) (tn b))))), (d1, .inr (0, [.ref p1, .int (bI (rdS M (tn n) (tn a)))])), (p1, .inl (cI, 130, .inl (nf (rdD M (tn n) (tn a))))), (d4, .inr (0, [.ref p4, .int (bI (rdS M (tn n) (tn a)))])), (p4, .inl (cI, 130, .inl (nf (shD (rdD M (tn n) (tn a)) y up_))))]) (st' := fun _ => [.int (nI (flg (shD (rdD M (tn n) (tn a)) y up_) (rdS M (tn n) (tn a)) (tn m)))]) [0, 1, 4, 5] [2, 3] [2, 3, 0, 1, 4, 5] [] rfl mt_166 mt_163 mt_1 mt_165 mp_5 0 rfl rfl hdD_writeDecimal (by decide) ⟨rfl, rfl⟩ (by decide) rfl rfl (by decide) rfl (by decide) (by decide) (by decide) (fun u => rfl) (fun u => rfl) (fun u => rfl) rfl rfl (by simp [Value.category]) dD_shift_113 (fun _ _ => ?_)
                  exact hret (nI (flg (shD (rdD M (tn n) (tn a)) y up_) (rdS M (tn n) (tn a)) (tn m)), wrM M (shD (rdD M (tn n) (tn a)) y up_) (rdS M (tn n) (tn a)) (tn m) (tn b), rdD M (tn n) (tn a), rdS M (tn n) (tn a), shD (rdD M (tn n) (tn a)) y up_, rdS M (tn n) (tn a)) _ _ _ rfl (show ((nI (flg (shD (rdD M (tn n) (tn a)) y up_) (rdS M (tn n) (tn a)) (tn m))), (wrM M (shD (rdD M (tn n) (tn a)) y up_) (rdS M (tn n) (tn a)) (tn m) (tn b))) = shiftZ M n a y up_ m b from (by unfold shiftZ arZ; rw [if_pos hs0])) dD_shift_116
                ·
                  refine xg_aload_n hX 0 dD_shift_78 rfl rfl ?_
                  refine xg_get hX (ci := 2) rfl hinD 0 rfl 1 (by decide) mt_69 rfl dD_shift_79 ?_
                  refine xg_iload_n hX 3 dD_shift_82 rfl rfl ?_
                  refine xg_ineg hX dD_shift_83 ?_
                  refine xg_iconst hX (nI 1) dD_shift_84 (by decide) ?_
                  refine xg_isub hX dD_shift_85 ?_
                  refine xg_top (nI ((-y.toInt - 1).toNat)) (xn_negm1 h23 h75) ?_
                  refine xg_cV hX d1 [.int (nI ((-y.toInt - 1).toNat))] (hM := xc_digitAt l D cI d1 p1 (rdD M (tn n) (tn a)) (rdS M (tn n) (tn a)) ((-y.toInt - 1).toNat) (by omega)) (wr := [(dq, .inr (2, [.ref dm, .ref d1, .ref d2, .ref d3, .ref d4, .ref dw, .int (bI den)])), (dm, .inl (cI, 256, .inl (nf M))), (d4, .inr (0, [.ref p4, .int (bI (rdS M (tn n) (tn a)))])), (p4, .inl (cI, 130, .inl (nf (mvI (rdD M (tn n) (tn a)) y.toInt 31))))]) (ws' := fun _ => [(dq, .inr (2, [.ref dm, .ref d1, .ref d2, .ref d3, .ref d4, .ref dw, .int (bI den)])), (dm, .inl (cI, 256, .inl (nf M))), (d1, .inr (0, [.ref p1, .int (bI (rdS M (tn n) (tn a)))])), (p1, .inl (cI, 130, .inl (nf (rdD M (tn n) (tn a))))), (d4, .inr (0, [.ref p4, .int (bI (rdS M (tn n) (tn a)))])), (p4, .inl (cI, 130, .inl (nf (mvI (rdD M (tn n) (tn a)) y.toInt 31))))]) (st' := fun _ => [.int (nI ((rdD M (tn n) (tn a)) ((-y.toInt - 1).toNat)))]) [2, 3] [0, 1, 4, 5] [0, 1, 4, 5, 2, 3] [] rfl mt_144 mt_171 mt_2 mt_142 mt_143 0 rfl rfl hdR_digitAt (by decide) ⟨rfl, rfl⟩ (by decide) rfl rfl (by decide) rfl (by decide) (by decide) (by decide) (fun u => rfl) (fun u => rfl) (fun u => rfl) rfl rfl (by simp [Value.category]) dD_shift_86 (fun _ _ => ?_)
                  have e9 := hx ((-y.toInt - 1).toNat)
                  have e8 : tn up_ ≤ 9 := tn_le h41
                  refine xg_iload hX 4 dD_shift_89 rfl ?_
                  refine xg_top (nI (tn up_)) (xn_tn h34) ?_
                  refine xg_iaddN hX dD_shift_91 ?_
                  refine xg_bipush hX (nI 9) dD_shift_92 (by decide) ?_
                  refine xg_icmp_leN hX 104 (by omega) (by omega) dD_shift_94 (by decide) (fun h94 => ?_) (fun h94 => ?_)
                  ·
                    have hD : mvI (rdD M (tn n) (tn a)) y.toInt 31 = shD (rdD M (tn n) (tn a)) y up_ := by unfold shD; first | (rw [if_neg (by omega)]; done) | (rw [if_pos ⟨h75, h94⟩]; done)
                    refine xg_ext hX (g := shD (rdD M (tn n) (tn a)) y up_) (ws' := [(dq, .inr (2, [.ref dm, .ref d1, .ref d2, .ref d3, .ref d4, .ref dw, .int (bI den)])), (dm, .inl (cI, 256, .inl (nf M))), (d1, .inr (0, [.ref p1, .int (bI (rdS M (tn n) (tn a)))])), (p1, .inl (cI, 130, .inl (nf (rdD M (tn n) (tn a))))), (d4, .inr (0, [.ref p4, .int (bI (rdS M (tn n) (tn a)))])), (p4, .inl (cI, 130, .inl (nf (shD (rdD M (tn n) (tn a)) y up_))))]) 5 rfl (fun j hj => by rw [hD]) rfl ?_
                    refine xg_aload_n hX 0 dD_shift_104 rfl rfl ?_
                    refine xg_aload_n hX 0 dD_shift_105 rfl rfl ?_
                    refine xg_get hX (ci := 2) rfl hinD 0 rfl 4 (by decide) mt_72 rfl dD_shift_106 ?_
                    refine xg_iload hX 5 dD_shift_109 rfl ?_
                    refine xg_top (nI (tn m)) (df3 h15) ?_
                    refine xg_iload hX 6 dD_shift_111 rfl ?_
                    refine xg_top (nI (tn b)) (df4 h15) ?_
                    refine xg_cV hX dq [.ref d4, .int (nI (tn m)), .int (nI (tn b))] (hM := xc_writeDecimal l D cI dq dm d1 d2 d3 d4 dw den M d4 p4 (shD (rdD M (tn n) (tn a)) y up_) (rdS M (tn n) (tn a)) (tn m) (tn b) (df1 h15) (df2 h15) (shD_lt hx)) (wr := [(d1, .inr (0, [.ref p1, .int (bI (rdS M (tn n) (tn a)))])), (p1, .inl (cI, 130, .inl (nf (rdD M (tn n) (tn a)))))]) (ws' := fun _ => [(dq, .inr (2, [.ref dm, .ref d1, .ref d2, .ref d3, .ref d4, .ref dw, .int (bI den)])), (dm, .inl (cI, 256, .inl (nf (wrM M (shD (rdD M (tn n) (tn a)) y up_) (rdS M (tn n) (tn a)) (tn m) (tn b))))), (d1, .inr (0, [.ref p1, .int (bI (rdS M (tn n) (tn a)))])), (p1, .inl (cI, 130, .inl (nf (rdD M (tn n) (tn a))))), (d4, .inr (0, [.ref p4, .int (bI (rdS M (tn n) (tn a)))])), (p4, .inl (cI, 130, .inl (nf (shD (rdD M (tn n) (tn a)) y up_))))]) (st' := fun _ => [.int (nI (flg (shD (rdD M (tn n) (tn a)) y up_) (rdS M (tn n) (tn a)) (tn m)))]) [0, 1, 4, 5] [2, 3] [2, 3, 0, 1, 4, 5] [] rfl mt_166 mt_163 mt_1 mt_165 mp_5 0 rfl rfl hdD_writeDecimal (by decide) ⟨rfl, rfl⟩ (by decide) rfl rfl (by decide) rfl (by decide) (by decide) (by decide) (fun u => rfl) (fun u => rfl) (fun u => rfl) rfl rfl (by simp [Value.category]) dD_shift_113 (fun _ _ => ?_)
                    exact hret (nI (flg (shD (rdD M (tn n) (tn a)) y up_) (rdS M (tn n) (tn a)) (tn m)), wrM M (shD (rdD M (tn n) (tn a)) y up_) (rdS M (tn n) (tn a)) (tn m) (tn b), rdD M (tn n) (tn a), rdS M (tn n) (tn a), shD (rdD M (tn n) (tn a)) y up_, rdS M (tn n) (tn a)) _ _ _ rfl (show ((nI (flg (shD (rdD M (tn n) (tn a)) y up_) (rdS M (tn n) (tn a)) (tn m))), (wrM M (shD (rdD M (tn n) (tn a)) y up_) (rdS M (tn n) (tn a)) (tn m) (tn b))) = shiftZ M n a y up_ m b from (by unfold shiftZ arZ; rw [if_pos hs0])) dD_shift_116
                  ·
                    refine xg_aload_n hX 0 dD_shift_97 rfl rfl ?_
                    refine xg_get hX (ci := 2) rfl hinD 0 rfl 4 (by decide) mt_72 rfl dD_shift_98 ?_
                    refine xg_cV hX d4 [] (hM := xc_addOne l D cI d4 p4 (mvI (rdD M (tn n) (tn a)) y.toInt 31) (rdS M (tn n) (tn a)) (mvI_lt hx)) (wr := [(dq, .inr (2, [.ref dm, .ref d1, .ref d2, .ref d3, .ref d4, .ref dw, .int (bI den)])), (dm, .inl (cI, 256, .inl (nf M))), (d1, .inr (0, [.ref p1, .int (bI (rdS M (tn n) (tn a)))])), (p1, .inl (cI, 130, .inl (nf (rdD M (tn n) (tn a)))))]) (ws' := fun _ => [(dq, .inr (2, [.ref dm, .ref d1, .ref d2, .ref d3, .ref d4, .ref dw, .int (bI den)])), (dm, .inl (cI, 256, .inl (nf M))), (d1, .inr (0, [.ref p1, .int (bI (rdS M (tn n) (tn a)))])), (p1, .inl (cI, 130, .inl (nf (rdD M (tn n) (tn a))))), (d4, .inr (0, [.ref p4, .int (bI (rdS M (tn n) (tn a)))])), (p4, .inl (cI, 130, .inl (nf (mix 32 (inD (mvI (rdD M (tn n) (tn a)) y.toInt 31)) (mvI (rdD M (tn n) (tn a)) y.toInt 31)))))]) (st' := fun _ => []) [4, 5] [0, 1, 2, 3] [0, 1, 2, 3, 4, 5] [] rfl mt_217 mt_214 mt_2 mt_215 mt_216 0 rfl rfl hdR_addOne (by decide) ⟨rfl, rfl⟩ (by decide) rfl rfl (by decide) rfl (by decide) (by decide) (by decide) (fun u => rfl) (fun u => rfl) (fun u => rfl) rfl rfl (by simp [Value.category]) dD_shift_101 (fun _ _ => ?_)
                    have hD : mix 32 (inD (mvI (rdD M (tn n) (tn a)) y.toInt 31)) (mvI (rdD M (tn n) (tn a)) y.toInt 31) = shD (rdD M (tn n) (tn a)) y up_ := by unfold shD; first | (rw [if_neg (by omega)]; done) | (rw [if_pos ⟨h75, h94⟩]; done)
                    refine xg_ext hX (g := shD (rdD M (tn n) (tn a)) y up_) (ws' := [(dq, .inr (2, [.ref dm, .ref d1, .ref d2, .ref d3, .ref d4, .ref dw, .int (bI den)])), (dm, .inl (cI, 256, .inl (nf M))), (d1, .inr (0, [.ref p1, .int (bI (rdS M (tn n) (tn a)))])), (p1, .inl (cI, 130, .inl (nf (rdD M (tn n) (tn a))))), (d4, .inr (0, [.ref p4, .int (bI (rdS M (tn n) (tn a)))])), (p4, .inl (cI, 130, .inl (nf (shD (rdD M (tn n) (tn a)) y up_))))]) 5 rfl (fun j hj => by rw [hD]) rfl ?_
                    refine xg_aload_n hX 0 dD_shift_104 rfl rfl ?_
                    refine xg_aload_n hX 0 dD_shift_105 rfl rfl ?_
                    refine xg_get hX (ci := 2) rfl hinD 0 rfl 4 (by decide) mt_72 rfl dD_shift_106 ?_
                    refine xg_iload hX 5 dD_shift_109 rfl ?_
                    refine xg_top (nI (tn m)) (df3 h15) ?_
                    refine xg_iload hX 6 dD_shift_111 rfl ?_
                    refine xg_top (nI (tn b)) (df4 h15) ?_
                    refine xg_cV hX dq [.ref d4, .int (nI (tn m)), .int (nI (tn b))] (hM := xc_writeDecimal l D cI dq dm d1 d2 d3 d4 dw den M d4 p4 (shD (rdD M (tn n) (tn a)) y up_) (rdS M (tn n) (tn a)) (tn m) (tn b) (df1 h15) (df2 h15) (shD_lt hx)) (wr := [(d1, .inr (0, [.ref p1, .int (bI (rdS M (tn n) (tn a)))])), (p1, .inl (cI, 130, .inl (nf (rdD M (tn n) (tn a)))))]) (ws' := fun _ => [(dq, .inr (2, [.ref dm, .ref d1, .ref d2, .ref d3, .ref d4, .ref dw, .int (bI den)])), (dm, .inl (cI, 256, .inl (nf (wrM M (shD (rdD M (tn n) (tn a)) y up_) (rdS M (tn n) (tn a)) (tn m) (tn b))))), (d1, .inr (0, [.ref p1, .int (bI (rdS M (tn n) (tn a)))])), (p1, .inl (cI, 130, .inl (nf (rdD M (tn n) (tn a))))), (d4, .inr (0, [.ref p4, .int (bI (rdS M (tn n) (tn a)))])), (p4, .inl (cI, 130, .inl (nf (shD (rdD M (tn n) (tn a)) y up_))))]) (st' := fun _ => [.int (nI (flg (shD (rdD M (tn n) (tn a)) y up_) (rdS M (tn n) (tn a)) (tn m)))]) [0, 1, 4, 5] [2, 3] [2, 3, 0, 1, 4, 5] [] rfl mt_166 mt_163 mt_1 mt_165 mp_5 0 rfl rfl hdD_writeDecimal (by decide) ⟨rfl, rfl⟩ (by decide) rfl rfl (by decide) rfl (by decide) (by decide) (by decide) (fun u => rfl) (fun u => rfl) (fun u => rfl) rfl rfl (by simp [Value.category]) dD_shift_113 (fun _ _ => ?_)
                    exact hret (nI (flg (shD (rdD M (tn n) (tn a)) y up_) (rdS M (tn n) (tn a)) (tn m)), wrM M (shD (rdD M (tn n) (tn a)) y up_) (rdS M (tn n) (tn a)) (tn m) (tn b), rdD M (tn n) (tn a), rdS M (tn n) (tn a), shD (rdD M (tn n) (tn a)) y up_, rdS M (tn n) (tn a)) _ _ _ rfl (show ((nI (flg (shD (rdD M (tn n) (tn a)) y up_) (rdS M (tn n) (tn a)) (tn m))), (wrM M (shD (rdD M (tn n) (tn a)) y up_) (rdS M (tn n) (tn a)) (tn m) (tn b))) = shiftZ M n a y up_ m b from (by unfold shiftZ arZ; rw [if_pos hs0])) dD_shift_116
              ·
                refine xg_bipush hX ((-2)) dD_shift_59 (by decide) ?_
                exact hret ((-2), M, tA, sA, e4, s4) _ _ _ rfl (show ((-2), M) = shiftZ M n a y up_ m b from (by have hz : shR M n a y up_ m b = -2 := (by unfold shR; rw [if_pos (by rw [h5, h15]; rfl), if_pos ⟨h23, h29, h34, h41⟩, if_neg (fun q => absurd (h56.symm.trans (huA.1.trans q)) (by decide))]); rw [shiftZ, hz]; exact (arZ_no (by decide)).symm)) dD_shift_61
            ·
              refine xg_iconst hX ((-1)) dD_shift_44 (by decide) ?_
              exact hret ((-1), M, e1, s1, e4, s4) _ _ _ rfl (show ((-1), M) = shiftZ M n a y up_ m b from (by have hz : shR M n a y up_ m b = -1 := (by unfold shR; rw [if_pos (by rw [h5, h15]; rfl), if_neg (by omega)]); rw [shiftZ, hz]; exact (arZ_no (by decide)).symm)) dD_shift_45
    ·
      refine xg_iconst hX ((-1)) dD_shift_18 (by decide) ?_
      exact hret ((-1), M, e1, s1, e4, s4) _ _ _ rfl (show ((-1), M) = shiftZ M n a y up_ m b from (by have hz : shR M n a y up_ m b = -1 := (by unfold shR; rw [if_neg (fun q => by simp only [Bool.and_eq_true] at q; first | exact absurd (h5.symm.trans q.1) (by decide) | exact absurd (h15.symm.trans q.2) (by decide))]); rw [shiftZ, hz]; exact (arZ_no (by decide)).symm)) dD_shift_19
set_option maxHeartbeats 4000000 in
set_option maxRecDepth 100000 in
theorem xc_compare (l : Launch) (D : va_G) (cI : ClassId) (dq : Nat) (dm : Nat) (d1 : Nat) (d2 : Nat) (d3 : Nat) (d4 : Nat) (dw : Nat) (den : Bool) (M : Nat → Nat) (p1 : Nat) (e1 : Nat → Nat) (s1 : Bool) (p2 : Nat) (e2 : Nat → Nat) (s2 : Bool) (n : Int32) (a : Int32) (m : Int32) (b : Int32) (hM : ∀ j, M j < 256) : Ctr l D cI yD_compare cD_compare 6 (some .int) { frames := 5, cells := 0, slots := 0, locals := 111 } [.ref dq, .int n, .int a, .int m, .int b] [(dq, .inr (2, [.ref dm, .ref d1, .ref d2, .ref d3, .ref d4, .ref dw, .int (bI den)])), (dm, .inl (cI, 256, .inl (nf M))), (d1, .inr (0, [.ref p1, .int (bI s1)])), (p1, .inl (cI, 130, .inl (nf e1))), (d2, .inr (0, [.ref p2, .int (bI s2)])), (p2, .inl (cI, 130, .inl (nf e2)))] (fun u : Int32 × (Nat → Nat) × Bool × (Nat → Nat) × Bool => match u with | (r, e1_, s1_, e2_, s2_) => some (.int r)) (fun u : Int32 × (Nat → Nat) × Bool × (Nat → Nat) × Bool => match u with | (r, e1_, s1_, e2_, s2_) => r = cmpR M n a m b) (fun u : Int32 × (Nat → Nat) × Bool × (Nat → Nat) × Bool => match u with | (r, e1_, s1_, e2_, s2_) => [(dq, .inr (2, [.ref dm, .ref d1, .ref d2, .ref d3, .ref d4, .ref dw, .int (bI den)])), (dm, .inl (cI, 256, .inl (nf M))), (d1, .inr (0, [.ref p1, .int (bI s1_)])), (p1, .inl (cI, 130, .inl (nf e1_))), (d2, .inr (0, [.ref p2, .int (bI s2_)])), (p2, .inl (cI, 130, .inl (nf e2_)))]) 0 0 := by
  refine xc_mkI (by decide +kernel) (Nat.le_of_ble_eq_true rfl) (fun X hX hret => ?_)
  show GG D X 0 0 0 [(dq, .inr (2, [.ref dm, .ref d1, .ref d2, .ref d3, .ref d4, .ref dw, .int (bI den)])), (dm, .inl (cI, 256, .inl (nf M))), (d1, .inr (0, [.ref p1, .int (bI s1)])), (p1, .inl (cI, 130, .inl (nf e1))), (d2, .inr (0, [.ref p2, .int (bI s2)])), (p2, .inl (cI, 130, .inl (nf e2)))] [(0, .ref dq), (1, .int n), (2, .int a), (3, .int m), (4, .int b)] []
  refine xg_iload_n hX 1 dD_compare_0 rfl rfl ?_
  refine xg_iload_n hX 2 dD_compare_1 rfl rfl ?_
  refine xg_cS hX [.int n, .int a] (hM := xc_dfits l D cI n a) (wr := [(dq, .inr (2, [.ref dm, .ref d1, .ref d2, .ref d3, .ref d4, .ref dw, .int (bI den)])), (dm, .inl (cI, 256, .inl (nf M))), (d1, .inr (0, [.ref p1, .int (bI s1)])), (p1, .inl (cI, 130, .inl (nf e1))), (d2, .inr (0, [.ref p2, .int (bI s2)])), (p2, .inl (cI, 130, .inl (nf e2)))]) (ws' := fun _ => [(dq, .inr (2, [.ref dm, .ref d1, .ref d2, .ref d3, .ref d4, .ref dw, .int (bI den)])), (dm, .inl (cI, 256, .inl (nf M))), (d1, .inr (0, [.ref p1, .int (bI s1)])), (p1, .inl (cI, 130, .inl (nf e1))), (d2, .inr (0, [.ref p2, .int (bI s2)])), (p2, .inl (cI, 130, .inl (nf e2)))]) (st' := fun _ => [.int (bI (dfits n a))]) [] [0, 1, 2, 3, 4, 5] [0, 1, 2, 3, 4, 5] [] rfl mt_108 mt_106 mt_1 mt_107 hdD_decimalFits (by decide) ⟨rfl, rfl⟩ (by decide) rfl rfl (by decide) rfl (by decide) (by decide) (by decide) (fun u => rfl) (fun u => rfl) (fun u => rfl) rfl rfl (by simp [Value.category]) dD_compare_2 (fun _ _ => ?_)
  refine xg_if_eqB hX 17 dD_compare_5 (by decide) (fun h5 => ?_) (fun h5 => ?_)
  ·
    refine xg_iconst hX ((-1)) dD_compare_17 (by decide) ?_
    exact hret ((-1), e1, s1, e2, s2) _ _ _ rfl (show (-1) = cmpR M n a m b from (by unfold cmpR; rw [if_neg (fun q => by simp only [Bool.and_eq_true] at q; first | exact absurd (h5.symm.trans q.1) (by decide) | exact absurd (h14.symm.trans q.2) (by decide))])) dD_compare_18
  ·
    refine xg_iload_n hX 3 dD_compare_8 rfl rfl ?_
    refine xg_iload hX 4 dD_compare_9 rfl ?_
    refine xg_cS hX [.int m, .int b] (hM := xc_dfits l D cI m b) (wr := [(dq, .inr (2, [.ref dm, .ref d1, .ref d2, .ref d3, .ref d4, .ref dw, .int (bI den)])), (dm, .inl (cI, 256, .inl (nf M))), (d1, .inr (0, [.ref p1, .int (bI s1)])), (p1, .inl (cI, 130, .inl (nf e1))), (d2, .inr (0, [.ref p2, .int (bI s2)])), (p2, .inl (cI, 130, .inl (nf e2)))]) (ws' := fun _ => [(dq, .inr (2, [.ref dm, .ref d1, .ref d2, .ref d3, .ref d4, .ref dw, .int (bI den)])), (dm, .inl (cI, 256, .inl (nf M))), (d1, .inr (0, [.ref p1, .int (bI s1)])), (p1, .inl (cI, 130, .inl (nf e1))), (d2, .inr (0, [.ref p2, .int (bI s2)])), (p2, .inl (cI, 130, .inl (nf e2)))]) (st' := fun _ => [.int (bI (dfits m b))]) [] [0, 1, 2, 3, 4, 5] [0, 1, 2, 3, 4, 5] [] rfl mt_108 mt_106 mt_1 mt_107 hdD_decimalFits (by decide) ⟨rfl, rfl⟩ (by decide) rfl rfl (by decide) rfl (by decide) (by decide) (by decide) (fun u => rfl) (fun u => rfl) (fun u => rfl) rfl rfl (by simp [Value.category]) dD_compare_11 (fun _ _ => ?_)
    refine xg_if_neB hX 19 dD_compare_14 (by decide) (fun h14 => ?_) (fun h14 => ?_)
    ·
      refine xg_aload_n hX 0 dD_compare_19 rfl rfl ?_
      refine xg_aload_n hX 0 dD_compare_20 rfl rfl ?_
      refine xg_get hX (ci := 2) rfl hinD 0 rfl 1 (by decide) mt_69 rfl dD_compare_21 ?_
      refine xg_iload_n hX 1 dD_compare_24 rfl rfl ?_
      refine xg_top (nI (tn n)) (df3 h5) ?_
      refine xg_iload_n hX 2 dD_compare_25 rfl rfl ?_
      refine xg_top (nI (tn a)) (df4 h5) ?_
      refine xg_cV hX dq [.ref d1, .int (nI (tn n)), .int (nI (tn a))] (hM := xc_readDecimal l D cI dq dm d1 d2 d3 d4 dw den M d1 p1 e1 s1 (tn n) (tn a) (df1 h5) (df2 h5) hM) (wr := [(d2, .inr (0, [.ref p2, .int (bI s2)])), (p2, .inl (cI, 130, .inl (nf e2)))]) (ws' := fun u => match u with | (okA, tA, sA) => [(dq, .inr (2, [.ref dm, .ref d1, .ref d2, .ref d3, .ref d4, .ref dw, .int (bI den)])), (dm, .inl (cI, 256, .inl (nf M))), (d1, .inr (0, [.ref p1, .int (bI sA)])), (p1, .inl (cI, 130, .inl (nf tA))), (d2, .inr (0, [.ref p2, .int (bI s2)])), (p2, .inl (cI, 130, .inl (nf e2)))]) (st' := fun u => match u with | (okA, tA, sA) => [.int (bI okA)]) [0, 1, 2, 3] [4, 5] [2, 3, 4, 5, 0, 1] [] rfl mt_112 mt_109 mt_1 mt_111 mp_1 0 rfl rfl hdD_readDecimal (by decide) ⟨rfl, rfl⟩ (by decide) rfl rfl (by decide) rfl (by decide) (by decide) (by decide) (fun u => rfl) (fun u => rfl) (fun u => rfl) rfl rfl (by simp [Value.category]) dD_compare_26 (fun u hu => ?_)
      obtain ⟨okA, tA, sA⟩ := u
      have huA : okA = rdb M (tn n) (tn a) ∧ (okA = true → tA = rdD M (tn n) (tn a) ∧ sA = rdS M (tn n) (tn a)) := hu
      show GG D X 0 0 29 [(dq, .inr (2, [.ref dm, .ref d1, .ref d2, .ref d3, .ref d4, .ref dw, .int (bI den)])), (dm, .inl (cI, 256, .inl (nf M))), (d1, .inr (0, [.ref p1, .int (bI sA)])), (p1, .inl (cI, 130, .inl (nf tA))), (d2, .inr (0, [.ref p2, .int (bI s2)])), (p2, .inl (cI, 130, .inl (nf e2)))] [(0, .ref dq), (1, .int n), (2, .int a), (3, .int m), (4, .int b)] [.int (bI okA)]
      refine xg_if_eqB hX 46 dD_compare_29 (by decide) (fun h29 => ?_) (fun h29 => ?_)
      ·
        refine xg_bipush hX ((-2)) dD_compare_46 (by decide) ?_
        exact hret ((-2), tA, sA, e2, s2) _ _ _ rfl (show (-2) = cmpR M n a m b from (by unfold cmpR; rw [if_pos (by rw [h5, h14]; rfl), if_neg (fun q => by simp only [Bool.and_eq_true] at q; first | exact absurd (huA.1.symm.trans h29 |>.symm.trans q.1) (by decide) | exact absurd (huB.1.symm.trans h43 |>.symm.trans q.2) (by decide))])) dD_compare_48
      ·
        refine xg_aload_n hX 0 dD_compare_32 rfl rfl ?_
        refine xg_aload_n hX 0 dD_compare_33 rfl rfl ?_
        refine xg_get hX (ci := 2) rfl hinD 0 rfl 2 (by decide) mt_70 rfl dD_compare_34 ?_
        refine xg_iload_n hX 3 dD_compare_37 rfl rfl ?_
        refine xg_top (nI (tn m)) (df3 h14) ?_
        refine xg_iload hX 4 dD_compare_38 rfl ?_
        refine xg_top (nI (tn b)) (df4 h14) ?_
        refine xg_cV hX dq [.ref d2, .int (nI (tn m)), .int (nI (tn b))] (hM := xc_readDecimal l D cI dq dm d1 d2 d3 d4 dw den M d2 p2 e2 s2 (tn m) (tn b) (df1 h14) (df2 h14) hM) (wr := [(d1, .inr (0, [.ref p1, .int (bI sA)])), (p1, .inl (cI, 130, .inl (nf tA)))]) (ws' := fun u => match u with | (okB, tB, sB) => [(dq, .inr (2, [.ref dm, .ref d1, .ref d2, .ref d3, .ref d4, .ref dw, .int (bI den)])), (dm, .inl (cI, 256, .inl (nf M))), (d1, .inr (0, [.ref p1, .int (bI sA)])), (p1, .inl (cI, 130, .inl (nf tA))), (d2, .inr (0, [.ref p2, .int (bI sB)])), (p2, .inl (cI, 130, .inl (nf tB)))]) (st' := fun u => match u with | (okB, tB, sB) => [.int (bI okB)]) [0, 1, 4, 5] [2, 3] [2, 3, 0, 1, 4, 5] [] rfl mt_112 mt_109 mt_1 mt_111 mp_1 0 rfl rfl hdD_readDecimal (by decide) ⟨rfl, rfl⟩ (by decide) rfl rfl (by decide) rfl (by decide) (by decide) (by decide) (fun u => rfl) (fun u => rfl) (fun u => rfl) rfl rfl (by simp [Value.category]) dD_compare_40 (fun u hu => ?_)
        obtain ⟨okB, tB, sB⟩ := u
        have huB : okB = rdb M (tn m) (tn b) ∧ (okB = true → tB = rdD M (tn m) (tn b) ∧ sB = rdS M (tn m) (tn b)) := hu
        show GG D X 0 0 43 [(dq, .inr (2, [.ref dm, .ref d1, .ref d2, .ref d3, .ref d4, .ref dw, .int (bI den)])), (dm, .inl (cI, 256, .inl (nf M))), (d1, .inr (0, [.ref p1, .int (bI sA)])), (p1, .inl (cI, 130, .inl (nf tA))), (d2, .inr (0, [.ref p2, .int (bI sB)])), (p2, .inl (cI, 130, .inl (nf tB)))] [(0, .ref dq), (1, .int n), (2, .int a), (3, .int m), (4, .int b)] [.int (bI okB)]
        refine xg_if_neB hX 49 dD_compare_43 (by decide) (fun h43 => ?_) (fun h43 => ?_)
        ·
          have hx := rd_lt (huA.1.symm.trans h29)
          have hy := rd_lt (huB.1.symm.trans h43)
          have hc : cmpR M n a m b = (if ordS (rdD M (tn n) (tn a)) (rdS M (tn n) (tn a)) (rdD M (tn m) (tn b)) (rdS M (tn m) (tn b)) = 0 then 4 else if ordS (rdD M (tn n) (tn a)) (rdS M (tn n) (tn a)) (rdD M (tn m) (tn b)) (rdS M (tn m) (tn b)) < 0 then 8 else 0) := by unfold cmpR; rw [if_pos (by rw [h5, h14]; rfl), if_pos (by rw [← huA.1, ← huB.1, h29, h43]; rfl)]
          obtain ⟨rfl, rfl⟩ := huA.2 h29
          obtain ⟨rfl, rfl⟩ := huB.2 h43
          refine xg_aload_n hX 0 dD_compare_49 rfl rfl ?_
          refine xg_get hX (ci := 2) rfl hinD 0 rfl 1 (by decide) mt_69 rfl dD_compare_50 ?_
          refine xg_aload_n hX 0 dD_compare_53 rfl rfl ?_
          refine xg_get hX (ci := 2) rfl hinD 0 rfl 2 (by decide) mt_70 rfl dD_compare_54 ?_
          refine xg_cV hX d1 [.ref d2] (hM := xc_orderS l D cI d1 p1 (rdD M (tn n) (tn a)) (rdS M (tn n) (tn a)) d2 p2 (rdD M (tn m) (tn b)) (rdS M (tn m) (tn b)) hx hy) (wr := [(dq, .inr (2, [.ref dm, .ref d1, .ref d2, .ref d3, .ref d4, .ref dw, .int (bI den)])), (dm, .inl (cI, 256, .inl (nf M)))]) (ws' := fun _ => [(dq, .inr (2, [.ref dm, .ref d1, .ref d2, .ref d3, .ref d4, .ref dw, .int (bI den)])), (dm, .inl (cI, 256, .inl (nf M))), (d1, .inr (0, [.ref p1, .int (bI (rdS M (tn n) (tn a)))])), (p1, .inl (cI, 130, .inl (nf (rdD M (tn n) (tn a))))), (d2, .inr (0, [.ref p2, .int (bI (rdS M (tn m) (tn b)))])), (p2, .inl (cI, 130, .inl (nf (rdD M (tn m) (tn b)))))]) (st' := fun _ => [.int (ordS (rdD M (tn n) (tn a)) (rdS M (tn n) (tn a)) (rdD M (tn m) (tn b)) (rdS M (tn m) (tn b)))]) [2, 3, 4, 5] [0, 1] [0, 1, 2, 3, 4, 5] [] rfl mt_225 mt_222 mt_2 mt_223 mt_224 0 rfl rfl hdR_orderSigned (by decide) ⟨rfl, rfl⟩ (by decide) rfl rfl (by decide) rfl (by decide) (by decide) (by decide) (fun u => rfl) (fun u => rfl) (fun u => rfl) rfl rfl (by simp [Value.category]) dD_compare_57 (fun _ _ => ?_)
          refine xg_istore hX (lv' := [(5, .int (ordS (rdD M (tn n) (tn a)) (rdS M (tn n) (tn a)) (rdD M (tn m) (tn b)) (rdS M (tn m) (tn b)))), (0, .ref dq), (1, .int n), (2, .int a), (3, .int m), (4, .int b)]) dD_compare_60 (by decide) rfl ?_
          refine xg_iload hX 0 dD_compare_62 rfl ?_
          refine xg_if_ne hX 69 dD_compare_64 (by decide) (fun h64 => ?_) (fun h64 => ?_)
          ·
            refine xg_iload hX 0 dD_compare_69 rfl ?_
            refine xg_if_ge hX 79 dD_compare_71 (by decide) (fun h71 => ?_) (fun h71 => ?_)
            ·
              refine xg_iconst hX (nI 0) dD_compare_79 (by decide) ?_
              exact hret (nI 0, rdD M (tn n) (tn a), rdS M (tn n) (tn a), rdD M (tn m) (tn b), rdS M (tn m) (tn b)) _ _ _ rfl (show (nI 0) = cmpR M n a m b from (by rw [hc, if_neg h64]; first | (rw [if_neg (xn_nlt h71)]; rfl) | (rw [if_pos (xn_ltn h71)]; rfl))) dD_compare_80
            ·
              refine xg_bipush hX (nI 8) dD_compare_74 (by decide) ?_
              refine xg_goto hX 80 dD_compare_76 (by decide) ?_
              exact hret (nI 8, rdD M (tn n) (tn a), rdS M (tn n) (tn a), rdD M (tn m) (tn b), rdS M (tn m) (tn b)) _ _ _ rfl (show (nI 8) = cmpR M n a m b from (by rw [hc, if_neg h64]; first | (rw [if_neg (xn_nlt h71)]; rfl) | (rw [if_pos (xn_ltn h71)]; rfl))) dD_compare_80
          ·
            refine xg_iconst hX (nI 4) dD_compare_67 (by decide) ?_
            exact hret (nI 4, rdD M (tn n) (tn a), rdS M (tn n) (tn a), rdD M (tn m) (tn b), rdS M (tn m) (tn b)) _ _ _ rfl (show (nI 4) = cmpR M n a m b from (by rw [hc, if_pos h64]; rfl)) dD_compare_68
        ·
          refine xg_bipush hX ((-2)) dD_compare_46 (by decide) ?_
          exact hret ((-2), tA, sA, tB, sB) _ _ _ rfl (show (-2) = cmpR M n a m b from (by unfold cmpR; rw [if_pos (by rw [h5, h14]; rfl), if_neg (fun q => by simp only [Bool.and_eq_true] at q; first | exact absurd (huA.1.symm.trans h29 |>.symm.trans q.1) (by decide) | exact absurd (huB.1.symm.trans h43 |>.symm.trans q.2) (by decide))])) dD_compare_48
    ·
      refine xg_iconst hX ((-1)) dD_compare_17 (by decide) ?_
      exact hret ((-1), e1, s1, e2, s2) _ _ _ rfl (show (-1) = cmpR M n a m b from (by unfold cmpR; rw [if_neg (fun q => by simp only [Bool.and_eq_true] at q; first | exact absurd (h5.symm.trans q.1) (by decide) | exact absurd (h14.symm.trans q.2) (by decide))])) dD_compare_18
set_option maxHeartbeats 4000000 in
set_option maxRecDepth 100000 in
theorem xc_number (l : Launch) (D : va_G) (cI : ClassId) (dq : Nat) (dm : Nat) (d1 : Nat) (d2 : Nat) (d3 : Nat) (d4 : Nat) (dw : Nat) (den : Bool) (M : Nat → Nat) (p4 : Nat) (e4 : Nat → Nat) (s4 : Bool) (v : Int32) (n : Int32) (a : Int32) (hM : ∀ j, M j < 256) : Ctr l D cI yD_number cD_number 4 (some .int) { frames := 4, cells := 0, slots := 0, locals := 94 } [.ref dq, .int v, .int n, .int a] [(dq, .inr (2, [.ref dm, .ref d1, .ref d2, .ref d3, .ref d4, .ref dw, .int (bI den)])), (dm, .inl (cI, 256, .inl (nf M))), (d4, .inr (0, [.ref p4, .int (bI s4)])), (p4, .inl (cI, 130, .inl (nf e4)))] (fun u : Int32 × (Nat → Nat) × (Nat → Nat) × Bool => match u with | (r, M2, e4_, s4_) => some (.int r)) (fun u : Int32 × (Nat → Nat) × (Nat → Nat) × Bool => match u with | (r, M2, e4_, s4_) => (r, M2) = numZ M v n a) (fun u : Int32 × (Nat → Nat) × (Nat → Nat) × Bool => match u with | (r, M2, e4_, s4_) => [(dq, .inr (2, [.ref dm, .ref d1, .ref d2, .ref d3, .ref d4, .ref dw, .int (bI den)])), (dm, .inl (cI, 256, .inl (nf M2))), (d4, .inr (0, [.ref p4, .int (bI s4_)])), (p4, .inl (cI, 130, .inl (nf e4_)))]) 0 0 := by
  refine xc_mkI (by decide +kernel) (Nat.le_of_ble_eq_true rfl) (fun X hX hret => ?_)
  show GG D X 0 0 0 [(dq, .inr (2, [.ref dm, .ref d1, .ref d2, .ref d3, .ref d4, .ref dw, .int (bI den)])), (dm, .inl (cI, 256, .inl (nf M))), (d4, .inr (0, [.ref p4, .int (bI s4)])), (p4, .inl (cI, 130, .inl (nf e4)))] [(0, .ref dq), (1, .int v), (2, .int n), (3, .int a)] []
  refine xg_iload_n hX 2 dD_number_0 rfl rfl ?_
  refine xg_iload_n hX 3 dD_number_1 rfl rfl ?_
  refine xg_cS hX [.int n, .int a] (hM := xc_dfits l D cI n a) (wr := [(dq, .inr (2, [.ref dm, .ref d1, .ref d2, .ref d3, .ref d4, .ref dw, .int (bI den)])), (dm, .inl (cI, 256, .inl (nf M))), (d4, .inr (0, [.ref p4, .int (bI s4)])), (p4, .inl (cI, 130, .inl (nf e4)))]) (ws' := fun _ => [(dq, .inr (2, [.ref dm, .ref d1, .ref d2, .ref d3, .ref d4, .ref dw, .int (bI den)])), (dm, .inl (cI, 256, .inl (nf M))), (d4, .inr (0, [.ref p4, .int (bI s4)])), (p4, .inl (cI, 130, .inl (nf e4)))]) (st' := fun _ => [.int (bI (dfits n a))]) [] [0, 1, 2, 3] [0, 1, 2, 3] [] rfl mt_108 mt_106 mt_1 mt_107 hdD_decimalFits (by decide) ⟨rfl, rfl⟩ (by decide) rfl rfl (by decide) rfl (by decide) (by decide) (by decide) (fun u => rfl) (fun u => rfl) (fun u => rfl) rfl rfl (by simp [Value.category]) dD_number_2 (fun _ _ => ?_)
  refine xg_if_neB hX 10 dD_number_5 (by decide) (fun h5 => ?_) (fun h5 => ?_)
  ·
    refine xg_aload_n hX 0 dD_number_10 rfl rfl ?_
    refine xg_get hX (ci := 2) rfl hinD 0 rfl 4 (by decide) mt_72 rfl dD_number_11 ?_
    refine xg_iload_n hX 1 dD_number_14 rfl rfl ?_
    refine xg_cV hX d4 [.int v] (hM := xc_take l D cI d4 p4 e4 s4 v) (wr := [(dq, .inr (2, [.ref dm, .ref d1, .ref d2, .ref d3, .ref d4, .ref dw, .int (bI den)])), (dm, .inl (cI, 256, .inl (nf M)))]) (ws' := fun _ => [(dq, .inr (2, [.ref dm, .ref d1, .ref d2, .ref d3, .ref d4, .ref dw, .int (bI den)])), (dm, .inl (cI, 256, .inl (nf M))), (d4, .inr (0, [.ref p4, .int (bI (decide (v.toInt < 0)))])), (p4, .inl (cI, 130, .inl (nf (mix 31 (dig (absN v)) zf))))]) (st' := fun _ => []) [2, 3] [0, 1] [0, 1, 2, 3] [] rfl mt_233 mt_230 mt_2 mt_231 mt_232 0 rfl rfl hdR_take (by decide) ⟨rfl, rfl⟩ (by decide) rfl rfl (by decide) rfl (by decide) (by decide) (by decide) (fun u => rfl) (fun u => rfl) (fun u => rfl) rfl rfl (by simp [Value.category]) dD_number_15 (fun _ _ => ?_)
    refine xg_aload_n hX 0 dD_number_18 rfl rfl ?_
    refine xg_aload_n hX 0 dD_number_19 rfl rfl ?_
    refine xg_get hX (ci := 2) rfl hinD 0 rfl 4 (by decide) mt_72 rfl dD_number_20 ?_
    refine xg_iload_n hX 2 dD_number_23 rfl rfl ?_
    refine xg_top (nI (tn n)) (df3 h5) ?_
    refine xg_iload_n hX 3 dD_number_24 rfl rfl ?_
    refine xg_top (nI (tn a)) (df4 h5) ?_
    refine xg_cV hX dq [.ref d4, .int (nI (tn n)), .int (nI (tn a))] (hM := xc_writeDecimal l D cI dq dm d1 d2 d3 d4 dw den M d4 p4 (mix 31 (dig (absN v)) zf) (decide (v.toInt < 0)) (tn n) (tn a) (df1 h5) (df2 h5) (mdz_lt _)) (wr := []) (ws' := fun _ => [(dq, .inr (2, [.ref dm, .ref d1, .ref d2, .ref d3, .ref d4, .ref dw, .int (bI den)])), (dm, .inl (cI, 256, .inl (nf (wrM M (mix 31 (dig (absN v)) zf) (decide (v.toInt < 0)) (tn n) (tn a))))), (d4, .inr (0, [.ref p4, .int (bI (decide (v.toInt < 0)))])), (p4, .inl (cI, 130, .inl (nf (mix 31 (dig (absN v)) zf))))]) (st' := fun _ => [.int (nI (flg (mix 31 (dig (absN v)) zf) (decide (v.toInt < 0)) (tn n)))]) [0, 1, 2, 3] [] [0, 1, 2, 3] [] rfl mt_166 mt_163 mt_1 mt_165 mp_5 0 rfl rfl hdD_writeDecimal (by decide) ⟨rfl, rfl⟩ (by decide) rfl rfl (by decide) rfl (by decide) (by decide) (by decide) (fun u => rfl) (fun u => rfl) (fun u => rfl) rfl rfl (by simp [Value.category]) dD_number_25 (fun _ _ => ?_)
    exact hret (nI (flg (mix 31 (dig (absN v)) zf) (decide (v.toInt < 0)) (tn n)), wrM M (mix 31 (dig (absN v)) zf) (decide (v.toInt < 0)) (tn n) (tn a), mix 31 (dig (absN v)) zf, decide (v.toInt < 0)) _ _ _ rfl (show ((nI (flg (mix 31 (dig (absN v)) zf) (decide (v.toInt < 0)) (tn n))), (wrM M (mix 31 (dig (absN v)) zf) (decide (v.toInt < 0)) (tn n) (tn a))) = numZ M v n a from (by unfold numZ; rw [if_pos h5]; rfl)) dD_number_28
  ·
    refine xg_iconst hX ((-1)) dD_number_8 (by decide) ?_
    exact hret ((-1), M, e4, s4) _ _ _ rfl (show ((-1), M) = numZ M v n a from (by unfold numZ; rw [if_neg (fun q => absurd (h5.symm.trans q) (by decide))]; exact (arZ_no (by decide)).symm)) dD_number_9
set_option maxHeartbeats 4000000 in
set_option maxRecDepth 100000 in
theorem xc_value (l : Launch) (D : va_G) (cI : ClassId) (dq : Nat) (dm : Nat) (d1 : Nat) (d2 : Nat) (d3 : Nat) (d4 : Nat) (dw : Nat) (den : Bool) (M : Nat → Nat) (p1 : Nat) (e1 : Nat → Nat) (s1 : Bool) (n : Int32) (a : Int32) (hM : ∀ j, M j < 256) : Ctr l D cI yD_value cD_value 3 (some .long) { frames := 5, cells := 0, slots := 0, locals := 111 } [.ref dq, .int n, .int a] [(dq, .inr (2, [.ref dm, .ref d1, .ref d2, .ref d3, .ref d4, .ref dw, .int (bI den)])), (dm, .inl (cI, 256, .inl (nf M))), (d1, .inr (0, [.ref p1, .int (bI s1)])), (p1, .inl (cI, 130, .inl (nf e1)))] (fun u : Int64 × (Nat → Nat) × Bool => match u with | (r, e1_, s1_) => some (.long r)) (fun u : Int64 × (Nat → Nat) × Bool => match u with | (r, e1_, s1_) => r = valR M n a) (fun u : Int64 × (Nat → Nat) × Bool => match u with | (r, e1_, s1_) => [(dq, .inr (2, [.ref dm, .ref d1, .ref d2, .ref d3, .ref d4, .ref dw, .int (bI den)])), (dm, .inl (cI, 256, .inl (nf M))), (d1, .inr (0, [.ref p1, .int (bI s1_)])), (p1, .inl (cI, 130, .inl (nf e1_)))]) 0 0 := by
  refine xc_mkL (by decide +kernel) (Nat.le_of_ble_eq_true rfl) (fun X hX hret => ?_)
  show GG D X 0 0 0 [(dq, .inr (2, [.ref dm, .ref d1, .ref d2, .ref d3, .ref d4, .ref dw, .int (bI den)])), (dm, .inl (cI, 256, .inl (nf M))), (d1, .inr (0, [.ref p1, .int (bI s1)])), (p1, .inl (cI, 130, .inl (nf e1)))] [(0, .ref dq), (1, .int n), (2, .int a)] []
  refine xg_iload_n hX 1 dD_value_0 rfl rfl ?_
  refine xg_iload_n hX 2 dD_value_1 rfl rfl ?_
  refine xg_cS hX [.int n, .int a] (hM := xc_dfits l D cI n a) (wr := [(dq, .inr (2, [.ref dm, .ref d1, .ref d2, .ref d3, .ref d4, .ref dw, .int (bI den)])), (dm, .inl (cI, 256, .inl (nf M))), (d1, .inr (0, [.ref p1, .int (bI s1)])), (p1, .inl (cI, 130, .inl (nf e1)))]) (ws' := fun _ => [(dq, .inr (2, [.ref dm, .ref d1, .ref d2, .ref d3, .ref d4, .ref dw, .int (bI den)])), (dm, .inl (cI, 256, .inl (nf M))), (d1, .inr (0, [.ref p1, .int (bI s1)])), (p1, .inl (cI, 130, .inl (nf e1)))]) (st' := fun _ => [.int (bI (dfits n a))]) [] [0, 1, 2, 3] [0, 1, 2, 3] [] rfl mt_108 mt_106 mt_1 mt_107 hdD_decimalFits (by decide) ⟨rfl, rfl⟩ (by decide) rfl rfl (by decide) rfl (by decide) (by decide) (by decide) (fun u => rfl) (fun u => rfl) (fun u => rfl) rfl rfl (by simp [Value.category]) dD_value_2 (fun _ _ => ?_)
  refine xg_if_eqB hX 21 dD_value_5 (by decide) (fun h5 => ?_) (fun h5 => ?_)
  ·
    refine xg_lconst hX 0 dD_value_21 (by decide) ?_
    exact hret (0, e1, s1) _ _ _ rfl (show 0 = valR M n a from (by unfold valR; rw [if_neg (fun q => by first | exact absurd (h5.symm.trans q.1) (by decide) | exact absurd (h18.symm.trans (huA.1.trans q.2)) (by decide))])) dD_value_22
  ·
    refine xg_aload_n hX 0 dD_value_8 rfl rfl ?_
    refine xg_aload_n hX 0 dD_value_9 rfl rfl ?_
    refine xg_get hX (ci := 2) rfl hinD 0 rfl 1 (by decide) mt_69 rfl dD_value_10 ?_
    refine xg_iload_n hX 1 dD_value_13 rfl rfl ?_
    refine xg_top (nI (tn n)) (df3 h5) ?_
    refine xg_iload_n hX 2 dD_value_14 rfl rfl ?_
    refine xg_top (nI (tn a)) (df4 h5) ?_
    refine xg_cV hX dq [.ref d1, .int (nI (tn n)), .int (nI (tn a))] (hM := xc_readDecimal l D cI dq dm d1 d2 d3 d4 dw den M d1 p1 e1 s1 (tn n) (tn a) (df1 h5) (df2 h5) hM) (wr := []) (ws' := fun u => match u with | (okA, tA, sA) => [(dq, .inr (2, [.ref dm, .ref d1, .ref d2, .ref d3, .ref d4, .ref dw, .int (bI den)])), (dm, .inl (cI, 256, .inl (nf M))), (d1, .inr (0, [.ref p1, .int (bI sA)])), (p1, .inl (cI, 130, .inl (nf tA)))]) (st' := fun u => match u with | (okA, tA, sA) => [.int (bI okA)]) [0, 1, 2, 3] [] [0, 1, 2, 3] [] rfl mt_112 mt_109 mt_1 mt_111 mp_1 0 rfl rfl hdD_readDecimal (by decide) ⟨rfl, rfl⟩ (by decide) rfl rfl (by decide) rfl (by decide) (by decide) (by decide) (fun u => rfl) (fun u => rfl) (fun u => rfl) rfl rfl (by simp [Value.category]) dD_value_15 (fun u hu => ?_)
    obtain ⟨okA, tA, sA⟩ := u
    have huA : okA = rdb M (tn n) (tn a) ∧ (okA = true → tA = rdD M (tn n) (tn a) ∧ sA = rdS M (tn n) (tn a)) := hu
    show GG D X 0 0 18 [(dq, .inr (2, [.ref dm, .ref d1, .ref d2, .ref d3, .ref d4, .ref dw, .int (bI den)])), (dm, .inl (cI, 256, .inl (nf M))), (d1, .inr (0, [.ref p1, .int (bI sA)])), (p1, .inl (cI, 130, .inl (nf tA)))] [(0, .ref dq), (1, .int n), (2, .int a)] [.int (bI okA)]
    refine xg_if_neB hX 23 dD_value_18 (by decide) (fun h18 => ?_) (fun h18 => ?_)
    ·
      have g1 := huA.1.symm.trans h18
      have hx := rd_lt g1
      obtain ⟨rfl, rfl⟩ := huA.2 h18
      refine xg_aload_n hX 0 dD_value_23 rfl rfl ?_
      refine xg_get hX (ci := 2) rfl hinD 0 rfl 1 (by decide) mt_69 rfl dD_value_24 ?_
      refine xg_cV hX d1 [] (hM := xc_lowestBits l D cI d1 p1 (rdD M (tn n) (tn a)) (rdS M (tn n) (tn a)) hx) (wr := [(dq, .inr (2, [.ref dm, .ref d1, .ref d2, .ref d3, .ref d4, .ref dw, .int (bI den)])), (dm, .inl (cI, 256, .inl (nf M)))]) (ws' := fun _ => [(dq, .inr (2, [.ref dm, .ref d1, .ref d2, .ref d3, .ref d4, .ref dw, .int (bI den)])), (dm, .inl (cI, 256, .inl (nf M))), (d1, .inr (0, [.ref p1, .int (bI (rdS M (tn n) (tn a)))])), (p1, .inl (cI, 130, .inl (nf (rdD M (tn n) (tn a)))))]) (st' := fun _ => [.long (if rdS M (tn n) (tn a) = true then -(lbF (rdD M (tn n) (tn a)) 31) else lbF (rdD M (tn n) (tn a)) 31)]) [2, 3] [0, 1] [0, 1, 2, 3] [] rfl mt_245 mt_242 mt_2 mt_243 mt_244 0 rfl rfl hdR_lowestBits (by decide) ⟨rfl, rfl⟩ (by decide) rfl rfl (by decide) rfl (by decide) (by decide) (by decide) (fun u => rfl) (fun u => rfl) (fun u => rfl) rfl rfl (by simp [Value.category]) dD_value_27 (fun _ _ => ?_)
      exact hret (if rdS M (tn n) (tn a) = true then -(lbF (rdD M (tn n) (tn a)) 31) else lbF (rdD M (tn n) (tn a)) 31, rdD M (tn n) (tn a), rdS M (tn n) (tn a)) _ _ _ rfl (show (if rdS M (tn n) (tn a) = true then -(lbF (rdD M (tn n) (tn a)) 31) else lbF (rdD M (tn n) (tn a)) 31) = valR M n a from (by unfold valR; exact (if_pos ⟨h5, g1⟩).symm)) dD_value_30
    ·
      refine xg_lconst hX 0 dD_value_21 (by decide) ?_
      exact hret (0, tA, sA) _ _ _ rfl (show 0 = valR M n a from (by unfold valR; rw [if_neg (fun q => by first | exact absurd (h5.symm.trans q.1) (by decide) | exact absurd (h18.symm.trans (huA.1.trans q.2)) (by decide))])) dD_value_22
set_option maxHeartbeats 4000000 in
set_option maxRecDepth 100000 in
theorem xc_characters (l : Launch) (D : va_G) (cI : ClassId) (dq : Nat) (dm : Nat) (d1 : Nat) (d2 : Nat) (d3 : Nat) (d4 : Nat) (dw : Nat) (den : Bool) (M : Nat → Nat) (p1 : Nat) (e1 : Nat → Nat) (s1 : Bool) (n : Int32) (a : Int32) (m : Int32) (b : Int32) (hM : ∀ j, M j < 256) : Ctr l D cI yD_characters cD_characters 7 (some .int) { frames := 5, cells := 0, slots := 0, locals := 111 } [.ref dq, .int n, .int a, .int m, .int b] [(dq, .inr (2, [.ref dm, .ref d1, .ref d2, .ref d3, .ref d4, .ref dw, .int (bI den)])), (dm, .inl (cI, 256, .inl (nf M))), (d1, .inr (0, [.ref p1, .int (bI s1)])), (p1, .inl (cI, 130, .inl (nf e1)))] (fun u : Int32 × (Nat → Nat) × (Nat → Nat) × Bool => match u with | (r, M2, e1_, s1_) => some (.int r)) (fun u : Int32 × (Nat → Nat) × (Nat → Nat) × Bool => match u with | (r, M2, e1_, s1_) => (r, M2) = charZ M n a m b) (fun u : Int32 × (Nat → Nat) × (Nat → Nat) × Bool => match u with | (r, M2, e1_, s1_) => [(dq, .inr (2, [.ref dm, .ref d1, .ref d2, .ref d3, .ref d4, .ref dw, .int (bI den)])), (dm, .inl (cI, 256, .inl (nf M2))), (d1, .inr (0, [.ref p1, .int (bI s1_)])), (p1, .inl (cI, 130, .inl (nf e1_)))]) 0 0 := by
  refine xc_mkI (by decide +kernel) (Nat.le_of_ble_eq_true rfl) (fun X hX hret => ?_)
  show GG D X 0 0 0 [(dq, .inr (2, [.ref dm, .ref d1, .ref d2, .ref d3, .ref d4, .ref dw, .int (bI den)])), (dm, .inl (cI, 256, .inl (nf M))), (d1, .inr (0, [.ref p1, .int (bI s1)])), (p1, .inl (cI, 130, .inl (nf e1)))] [(0, .ref dq), (1, .int n), (2, .int a), (3, .int m), (4, .int b)] []
  refine xg_iload_n hX 1 dD_characters_0 rfl rfl ?_
  refine xg_iload_n hX 2 dD_characters_1 rfl rfl ?_
  refine xg_cS hX [.int n, .int a] (hM := xc_dfits l D cI n a) (wr := [(dq, .inr (2, [.ref dm, .ref d1, .ref d2, .ref d3, .ref d4, .ref dw, .int (bI den)])), (dm, .inl (cI, 256, .inl (nf M))), (d1, .inr (0, [.ref p1, .int (bI s1)])), (p1, .inl (cI, 130, .inl (nf e1)))]) (ws' := fun _ => [(dq, .inr (2, [.ref dm, .ref d1, .ref d2, .ref d3, .ref d4, .ref dw, .int (bI den)])), (dm, .inl (cI, 256, .inl (nf M))), (d1, .inr (0, [.ref p1, .int (bI s1)])), (p1, .inl (cI, 130, .inl (nf e1)))]) (st' := fun _ => [.int (bI (dfits n a))]) [] [0, 1, 2, 3] [0, 1, 2, 3] [] rfl mt_108 mt_106 mt_1 mt_107 hdD_decimalFits (by decide) ⟨rfl, rfl⟩ (by decide) rfl rfl (by decide) rfl (by decide) (by decide) (by decide) (fun u => rfl) (fun u => rfl) (fun u => rfl) rfl rfl (by simp [Value.category]) dD_characters_2 (fun _ _ => ?_)
  refine xg_if_eqB hX 17 dD_characters_5 (by decide) (fun h5 => ?_) (fun h5 => ?_)
  ·
    refine xg_iconst hX ((-1)) dD_characters_17 (by decide) ?_
    exact hret ((-1), M, e1, s1) _ _ _ rfl (show ((-1), M) = charZ M n a m b from (by have hz : chO M n a m b = -1 := (by unfold chO; rw [if_neg (fun q => by simp only [Bool.and_eq_true] at q; first | exact absurd (h5.symm.trans q.1) (by decide) | exact absurd (h14.symm.trans q.2) (by decide))]); rw [charZ, hz]; exact (if_neg (by decide)).symm)) dD_characters_18
  ·
    refine xg_iload_n hX 3 dD_characters_8 rfl rfl ?_
    refine xg_iload hX 4 dD_characters_9 rfl ?_
    refine xg_cS hX [.int m, .int b] (hM := xc_cfits l D cI m b) (wr := [(dq, .inr (2, [.ref dm, .ref d1, .ref d2, .ref d3, .ref d4, .ref dw, .int (bI den)])), (dm, .inl (cI, 256, .inl (nf M))), (d1, .inr (0, [.ref p1, .int (bI s1)])), (p1, .inl (cI, 130, .inl (nf e1)))]) (ws' := fun _ => [(dq, .inr (2, [.ref dm, .ref d1, .ref d2, .ref d3, .ref d4, .ref dw, .int (bI den)])), (dm, .inl (cI, 256, .inl (nf M))), (d1, .inr (0, [.ref p1, .int (bI s1)])), (p1, .inl (cI, 130, .inl (nf e1)))]) (st' := fun _ => [.int (bI (cfits m b))]) [] [0, 1, 2, 3] [0, 1, 2, 3] [] rfl mt_252 mt_250 mt_1 mt_251 hdD_charactersFit (by decide) ⟨rfl, rfl⟩ (by decide) rfl rfl (by decide) rfl (by decide) (by decide) (by decide) (fun u => rfl) (fun u => rfl) (fun u => rfl) rfl rfl (by simp [Value.category]) dD_characters_11 (fun _ _ => ?_)
    refine xg_if_neB hX 19 dD_characters_14 (by decide) (fun h14 => ?_) (fun h14 => ?_)
    ·
      refine xg_aload_n hX 0 dD_characters_19 rfl rfl ?_
      refine xg_aload_n hX 0 dD_characters_20 rfl rfl ?_
      refine xg_get hX (ci := 2) rfl hinD 0 rfl 1 (by decide) mt_69 rfl dD_characters_21 ?_
      refine xg_iload_n hX 1 dD_characters_24 rfl rfl ?_
      refine xg_top (nI (tn n)) (df3 h5) ?_
      refine xg_iload_n hX 2 dD_characters_25 rfl rfl ?_
      refine xg_top (nI (tn a)) (df4 h5) ?_
      refine xg_cV hX dq [.ref d1, .int (nI (tn n)), .int (nI (tn a))] (hM := xc_readDecimal l D cI dq dm d1 d2 d3 d4 dw den M d1 p1 e1 s1 (tn n) (tn a) (df1 h5) (df2 h5) hM) (wr := []) (ws' := fun u => match u with | (okA, tA, sA) => [(dq, .inr (2, [.ref dm, .ref d1, .ref d2, .ref d3, .ref d4, .ref dw, .int (bI den)])), (dm, .inl (cI, 256, .inl (nf M))), (d1, .inr (0, [.ref p1, .int (bI sA)])), (p1, .inl (cI, 130, .inl (nf tA)))]) (st' := fun u => match u with | (okA, tA, sA) => [.int (bI okA)]) [0, 1, 2, 3] [] [0, 1, 2, 3] [] rfl mt_112 mt_109 mt_1 mt_111 mp_1 0 rfl rfl hdD_readDecimal (by decide) ⟨rfl, rfl⟩ (by decide) rfl rfl (by decide) rfl (by decide) (by decide) (by decide) (fun u => rfl) (fun u => rfl) (fun u => rfl) rfl rfl (by simp [Value.category]) dD_characters_26 (fun u hu => ?_)
      obtain ⟨okA, tA, sA⟩ := u
      have huA : okA = rdb M (tn n) (tn a) ∧ (okA = true → tA = rdD M (tn n) (tn a) ∧ sA = rdS M (tn n) (tn a)) := hu
      show GG D X 0 0 29 [(dq, .inr (2, [.ref dm, .ref d1, .ref d2, .ref d3, .ref d4, .ref dw, .int (bI den)])), (dm, .inl (cI, 256, .inl (nf M))), (d1, .inr (0, [.ref p1, .int (bI sA)])), (p1, .inl (cI, 130, .inl (nf tA)))] [(0, .ref dq), (1, .int n), (2, .int a), (3, .int m), (4, .int b)] [.int (bI okA)]
      refine xg_if_neB hX 35 dD_characters_29 (by decide) (fun h29 => ?_) (fun h29 => ?_)
      ·
        have g1 := huA.1.symm.trans h29
        have hx := rd_lt g1
        have hc0 : chO M n a m b = 0 := by unfold chO; rw [if_pos (by rw [h5, h14]; rfl), if_pos g1]
        obtain ⟨rfl, rfl⟩ := huA.2 h29
        have q1 := cf1 h14
        have q2 := cf2 h14
        refine xg_aload_n hX 0 dD_characters_35 rfl rfl ?_
        refine xg_get hX (ci := 2) rfl hinD 0 rfl 1 (by decide) mt_69 rfl dD_characters_36 ?_
        refine xg_iload_n hX 3 dD_characters_39 rfl rfl ?_
        refine xg_top (nI (tn m)) (cf3 h14) ?_
        refine xg_cV hX d1 [.int (nI (tn m))] (hM := xc_flags l D cI d1 p1 (rdD M (tn n) (tn a)) (rdS M (tn n) (tn a)) (tn m) (by omega) hx) (wr := [(dq, .inr (2, [.ref dm, .ref d1, .ref d2, .ref d3, .ref d4, .ref dw, .int (bI den)])), (dm, .inl (cI, 256, .inl (nf M)))]) (ws' := fun _ => [(dq, .inr (2, [.ref dm, .ref d1, .ref d2, .ref d3, .ref d4, .ref dw, .int (bI den)])), (dm, .inl (cI, 256, .inl (nf M))), (d1, .inr (0, [.ref p1, .int (bI (rdS M (tn n) (tn a)))])), (p1, .inl (cI, 130, .inl (nf (rdD M (tn n) (tn a)))))]) (st' := fun _ => [.int (nI (flg (rdD M (tn n) (tn a)) (rdS M (tn n) (tn a)) (tn m)))]) [2, 3] [0, 1] [0, 1, 2, 3] [] rfl mt_170 mt_167 mt_2 mt_168 mt_169 0 rfl rfl hdR_flagsOfLowest (by decide) ⟨rfl, rfl⟩ (by decide) rfl rfl (by decide) rfl (by decide) (by decide) (by decide) (fun u => rfl) (fun u => rfl) (fun u => rfl) rfl rfl (by simp [Value.category]) dD_characters_40 (fun _ _ => ?_)
        refine xg_istore hX (lv' := [(5, .int (nI (flg (rdD M (tn n) (tn a)) (rdS M (tn n) (tn a)) (tn m)))), (0, .ref dq), (1, .int n), (2, .int a), (3, .int m), (4, .int b)]) dD_characters_43 (by decide) rfl ?_
        refine xg_aload_n hX 1 dD_characters_45 rfl rfl ?_
        refine xg_iload hX 5 dD_characters_46 rfl ?_
        refine xg_top (nI (tn b)) (cf4 h14) ?_
        refine xg_iload hX 0 dD_characters_48 rfl ?_
        refine xg_bipush hX (nI 8) dD_characters_50 (by decide) ?_
        refine xg_iand hX dD_characters_52 ?_
        refine xg_top (nI (if ng (rdD M (tn n) (tn a)) (rdS M (tn n) (tn a)) (tn m) = true then 8 else 0)) (xn_f8 _ _ _) ?_
        refine xg_if_eqN hX 61 (by split <;> decide) dD_characters_53 (by decide) (fun h53 => ?_) (fun h53 => ?_)
        ·
          have hsg : (43 : Nat) = (if ng (rdD M (tn n) (tn a)) (rdS M (tn n) (tn a)) (tn m) = true then 45 else 43) := by cases hq : ng (rdD M (tn n) (tn a)) (rdS M (tn n) (tn a)) (tn m) with | false => rfl | true => rw [hq] at h53; cases h53
          refine xg_bipush hX (nI 43) dD_characters_61 (by decide) ?_
          refine xg_cV hX dq [.int (nI (tn b)), .int (nI 43)] (hM := xc_putN l D cI dq dm d1 d2 d3 d4 dw den M (tn b) 43 (by omega) (by decide)) (wr := [(d1, .inr (0, [.ref p1, .int (bI (rdS M (tn n) (tn a)))])), (p1, .inl (cI, 130, .inl (nf (rdD M (tn n) (tn a)))))]) (ws' := fun _ => [(dq, .inr (2, [.ref dm, .ref d1, .ref d2, .ref d3, .ref d4, .ref dw, .int (bI den)])), (dm, .inl (cI, 256, .inl (nf (up M (tn b) 43)))), (d1, .inr (0, [.ref p1, .int (bI (rdS M (tn n) (tn a)))])), (p1, .inl (cI, 130, .inl (nf (rdD M (tn n) (tn a)))))]) (st' := fun _ => [.int (bI true)]) [0, 1] [2, 3] [2, 3, 0, 1] [] rfl mt_93 mt_172 mt_1 mt_91 mt_92 0 rfl rfl hdD_put (by decide) ⟨rfl, rfl⟩ (by decide) rfl rfl (by decide) rfl (by decide) (by decide) (by decide) (fun u => rfl) (fun u => rfl) (fun u => rfl) rfl rfl (by simp [Value.category]) dD_characters_63 (fun _ _ => ?_)
          refine xg_pop hX dD_characters_66 rfl ?_
          refine xg_ext hX (g := chP M (rdD M (tn n) (tn a)) (if ng (rdD M (tn n) (tn a)) (rdS M (tn n) (tn a)) (tn m) = true then 45 else 43) (tn m) (tn b) 0) (ws' := [(dq, .inr (2, [.ref dm, .ref d1, .ref d2, .ref d3, .ref d4, .ref dw, .int (bI den)])), (dm, .inl (cI, 256, .inl (nf (chP M (rdD M (tn n) (tn a)) (if ng (rdD M (tn n) (tn a)) (rdS M (tn n) (tn a)) (tn m) = true then 45 else 43) (tn m) (tn b) 0)))), (d1, .inr (0, [.ref p1, .int (bI (rdS M (tn n) (tn a)))])), (p1, .inl (cI, 130, .inl (nf (rdD M (tn n) (tn a)))))]) 1 rfl (fun j hj => by rw [← hsg]; exact chP_0 j) rfl ?_
          refine xg_iconst hX (nI 0) dD_characters_67 (by decide) ?_
          refine xg_istore hX (lv' := [(6, .int (nI 0)), (5, .int (nI (flg (rdD M (tn n) (tn a)) (rdS M (tn n) (tn a)) (tn m)))), (0, .ref dq), (1, .int n), (2, .int a), (3, .int m), (4, .int b)]) dD_characters_68 (by decide) rfl ?_
          have lp1 : ∀ (fu2 : Nat) (i : Nat), (i ≤ tn m) → tn m - i < fu2 → GG D X 0 0 70 [(dq, .inr (2, [.ref dm, .ref d1, .ref d2, .ref d3, .ref d4, .ref dw, .int (bI den)])), (dm, .inl (cI, 256, .inl (nf (chP M (rdD M (tn n) (tn a)) (if ng (rdD M (tn n) (tn a)) (rdS M (tn n) (tn a)) (tn m) = true then 45 else 43) (tn m) (tn b) i)))), (d1, .inr (0, [.ref p1, .int (bI (rdS M (tn n) (tn a)))])), (p1, .inl (cI, 130, .inl (nf (rdD M (tn n) (tn a)))))] [(0, .ref dq), (3, .int m), (4, .int b), (5, .int (nI (flg (rdD M (tn n) (tn a)) (rdS M (tn n) (tn a)) (tn m)))), (6, .int (nI i))] [] := by
            intro fu2
            induction fu2 with
            | zero => intro i hi hm4; exact absurd hm4 (Nat.not_lt_zero _)
            | succ fu2 ih3 =>
              intro i hi hm4
              refine xg_iload hX 4 dD_characters_70 rfl ?_
              refine xg_iload_n hX 1 dD_characters_72 rfl rfl ?_
              refine xg_top (nI (tn m)) (cf3 h14) ?_
              refine xg_icmp_geN hX 106 (by omega) (by omega) dD_characters_73 (by decide) (fun h73 => ?_) (fun h73 => ?_)
              ·
                refine xg_iload hX 3 dD_characters_106 rfl ?_
                exact hret (nI (flg (rdD M (tn n) (tn a)) (rdS M (tn n) (tn a)) (tn m)), chP M (rdD M (tn n) (tn a)) (if ng (rdD M (tn n) (tn a)) (rdS M (tn n) (tn a)) (tn m) = true then 45 else 43) (tn m) (tn b) i, rdD M (tn n) (tn a), rdS M (tn n) (tn a)) _ _ _ rfl (show ((nI (flg (rdD M (tn n) (tn a)) (rdS M (tn n) (tn a)) (tn m))), (chP M (rdD M (tn n) (tn a)) (if ng (rdD M (tn n) (tn a)) (rdS M (tn n) (tn a)) (tn m) = true then 45 else 43) (tn m) (tn b) i)) = charZ M n a m b from (by unfold charZ; rw [if_pos hc0, show i = tn m by omega])) dD_characters_108
              ·
                refine xg_aload_n hX 0 dD_characters_76 rfl rfl ?_
                refine xg_iload hX 2 dD_characters_77 rfl ?_
                refine xg_top (nI (tn b)) (cf4 h14) ?_
                refine xg_iload_n hX 1 dD_characters_79 rfl rfl ?_
                refine xg_top (nI (tn m)) (cf3 h14) ?_
                refine xg_iaddN hX dD_characters_80 ?_
                refine xg_iload hX 4 dD_characters_81 rfl ?_
                refine xg_isubN hX (by omega) dD_characters_83 ?_
                refine xg_bipush hX (nI 48) dD_characters_84 (by decide) ?_
                refine xg_aload_n hX 0 dD_characters_86 rfl rfl ?_
                refine xg_get hX (ci := 2) rfl hinD 0 rfl 1 (by decide) mt_69 rfl dD_characters_87 ?_
                refine xg_iload hX 4 dD_characters_90 rfl ?_
                refine xg_cV hX d1 [.int (nI i)] (hM := xc_digitAt l D cI d1 p1 (rdD M (tn n) (tn a)) (rdS M (tn n) (tn a)) i (by omega)) (wr := [(dq, .inr (2, [.ref dm, .ref d1, .ref d2, .ref d3, .ref d4, .ref dw, .int (bI den)])), (dm, .inl (cI, 256, .inl (nf (chP M (rdD M (tn n) (tn a)) (if ng (rdD M (tn n) (tn a)) (rdS M (tn n) (tn a)) (tn m) = true then 45 else 43) (tn m) (tn b) i))))]) (ws' := fun _ => [(dq, .inr (2, [.ref dm, .ref d1, .ref d2, .ref d3, .ref d4, .ref dw, .int (bI den)])), (dm, .inl (cI, 256, .inl (nf (chP M (rdD M (tn n) (tn a)) (if ng (rdD M (tn n) (tn a)) (rdS M (tn n) (tn a)) (tn m) = true then 45 else 43) (tn m) (tn b) i)))), (d1, .inr (0, [.ref p1, .int (bI (rdS M (tn n) (tn a)))])), (p1, .inl (cI, 130, .inl (nf (rdD M (tn n) (tn a)))))]) (st' := fun _ => [.int (nI ((rdD M (tn n) (tn a)) i)), .int (nI 48), .int (nI (((tn b) + (tn m)) - i)), .ref dq]) [2, 3] [0, 1] [0, 1, 2, 3] [.int (nI 48), .int (nI (((tn b) + (tn m)) - i)), .ref dq] rfl mt_144 mt_171 mt_2 mt_142 mt_143 0 rfl rfl hdR_digitAt (by decide) ⟨rfl, rfl⟩ (by decide) rfl rfl (by decide) rfl (by decide) (by decide) (by decide) (fun u => rfl) (fun u => rfl) (fun u => rfl) rfl rfl (by simp [Value.category]) dD_characters_92 (fun _ _ => ?_)
                have e9 := hx i
                refine xg_iaddN hX dD_characters_95 ?_
                refine xg_cV hX dq [.int (nI (((tn b) + (tn m)) - i)), .int (nI (48 + ((rdD M (tn n) (tn a)) i)))] (hM := xc_putN l D cI dq dm d1 d2 d3 d4 dw den (chP M (rdD M (tn n) (tn a)) (if ng (rdD M (tn n) (tn a)) (rdS M (tn n) (tn a)) (tn m) = true then 45 else 43) (tn m) (tn b) i) (((tn b) + (tn m)) - i) (48 + ((rdD M (tn n) (tn a)) i)) (by omega) (by omega)) (wr := [(d1, .inr (0, [.ref p1, .int (bI (rdS M (tn n) (tn a)))])), (p1, .inl (cI, 130, .inl (nf (rdD M (tn n) (tn a)))))]) (ws' := fun _ => [(dq, .inr (2, [.ref dm, .ref d1, .ref d2, .ref d3, .ref d4, .ref dw, .int (bI den)])), (dm, .inl (cI, 256, .inl (nf (up (chP M (rdD M (tn n) (tn a)) (if ng (rdD M (tn n) (tn a)) (rdS M (tn n) (tn a)) (tn m) = true then 45 else 43) (tn m) (tn b) i) (((tn b) + (tn m)) - i) (48 + ((rdD M (tn n) (tn a)) i)))))), (d1, .inr (0, [.ref p1, .int (bI (rdS M (tn n) (tn a)))])), (p1, .inl (cI, 130, .inl (nf (rdD M (tn n) (tn a)))))]) (st' := fun _ => [.int (bI true)]) [0, 1] [2, 3] [2, 3, 0, 1] [] rfl mt_93 mt_172 mt_1 mt_91 mt_92 0 rfl rfl hdD_put (by decide) ⟨rfl, rfl⟩ (by decide) rfl rfl (by decide) rfl (by decide) (by decide) (by decide) (fun u => rfl) (fun u => rfl) (fun u => rfl) rfl rfl (by simp [Value.category]) dD_characters_96 (fun _ _ => ?_)
                refine xg_pop hX dD_characters_99 rfl ?_
                refine xg_iincN hX (lv' := [(6, .int (nI (i + 1))), (0, .ref dq), (3, .int m), (4, .int b), (5, .int (nI (flg (rdD M (tn n) (tn a)) (rdS M (tn n) (tn a)) (tn m))))]) (i + 1) 4 dD_characters_100 rfl (xn_inc _) (by decide) rfl ?_
                refine xg_goto hX 70 dD_characters_103 (by decide) ?_
                refine xg_ext hX (g := chP M (rdD M (tn n) (tn a)) (if ng (rdD M (tn n) (tn a)) (rdS M (tn n) (tn a)) (tn m) = true then 45 else 43) (tn m) (tn b) (i + 1)) (ws' := [(dq, .inr (2, [.ref dm, .ref d1, .ref d2, .ref d3, .ref d4, .ref dw, .int (bI den)])), (dm, .inl (cI, 256, .inl (nf (chP M (rdD M (tn n) (tn a)) (if ng (rdD M (tn n) (tn a)) (rdS M (tn n) (tn a)) (tn m) = true then 45 else 43) (tn m) (tn b) (i + 1))))), (d1, .inr (0, [.ref p1, .int (bI (rdS M (tn n) (tn a)))])), (p1, .inl (cI, 130, .inl (nf (rdD M (tn n) (tn a)))))]) 1 rfl (fun j hj => chP_s h73 j) rfl ?_
                refine xg_lv hX (lv' := [(0, .ref dq), (3, .int m), (4, .int b), (5, .int (nI (flg (rdD M (tn n) (tn a)) (rdS M (tn n) (tn a)) (tn m)))), (6, .int (nI (i + 1)))]) [1, 2, 3, 4, 0] rfl ?_
                exact ih3 (i + 1) (by omega) (by omega)
          refine xg_lv hX (lv' := [(0, .ref dq), (3, .int m), (4, .int b), (5, .int (nI (flg (rdD M (tn n) (tn a)) (rdS M (tn n) (tn a)) (tn m)))), (6, .int (nI 0))]) [2, 5, 6, 1, 0] rfl ?_
          exact lp1 (tn m - 0 + 1) 0 (by omega) (Nat.lt_succ_self _)
        ·
          have hsg : (45 : Nat) = (if ng (rdD M (tn n) (tn a)) (rdS M (tn n) (tn a)) (tn m) = true then 45 else 43) := by cases hq : ng (rdD M (tn n) (tn a)) (rdS M (tn n) (tn a)) (tn m) with | true => rfl | false => rw [hq] at h53; cases h53
          refine xg_bipush hX (nI 45) dD_characters_56 (by decide) ?_
          refine xg_goto hX 63 dD_characters_58 (by decide) ?_
          refine xg_cV hX dq [.int (nI (tn b)), .int (nI 45)] (hM := xc_putN l D cI dq dm d1 d2 d3 d4 dw den M (tn b) 45 (by omega) (by decide)) (wr := [(d1, .inr (0, [.ref p1, .int (bI (rdS M (tn n) (tn a)))])), (p1, .inl (cI, 130, .inl (nf (rdD M (tn n) (tn a)))))]) (ws' := fun _ => [(dq, .inr (2, [.ref dm, .ref d1, .ref d2, .ref d3, .ref d4, .ref dw, .int (bI den)])), (dm, .inl (cI, 256, .inl (nf (up M (tn b) 45)))), (d1, .inr (0, [.ref p1, .int (bI (rdS M (tn n) (tn a)))])), (p1, .inl (cI, 130, .inl (nf (rdD M (tn n) (tn a)))))]) (st' := fun _ => [.int (bI true)]) [0, 1] [2, 3] [2, 3, 0, 1] [] rfl mt_93 mt_172 mt_1 mt_91 mt_92 0 rfl rfl hdD_put (by decide) ⟨rfl, rfl⟩ (by decide) rfl rfl (by decide) rfl (by decide) (by decide) (by decide) (fun u => rfl) (fun u => rfl) (fun u => rfl) rfl rfl (by simp [Value.category]) dD_characters_63 (fun _ _ => ?_)
          refine xg_pop hX dD_characters_66 rfl ?_
          refine xg_ext hX (g := chP M (rdD M (tn n) (tn a)) (if ng (rdD M (tn n) (tn a)) (rdS M (tn n) (tn a)) (tn m) = true then 45 else 43) (tn m) (tn b) 0) (ws' := [(dq, .inr (2, [.ref dm, .ref d1, .ref d2, .ref d3, .ref d4, .ref dw, .int (bI den)])), (dm, .inl (cI, 256, .inl (nf (chP M (rdD M (tn n) (tn a)) (if ng (rdD M (tn n) (tn a)) (rdS M (tn n) (tn a)) (tn m) = true then 45 else 43) (tn m) (tn b) 0)))), (d1, .inr (0, [.ref p1, .int (bI (rdS M (tn n) (tn a)))])), (p1, .inl (cI, 130, .inl (nf (rdD M (tn n) (tn a)))))]) 1 rfl (fun j hj => by rw [← hsg]; exact chP_0 j) rfl ?_
          refine xg_iconst hX (nI 0) dD_characters_67 (by decide) ?_
          refine xg_istore hX (lv' := [(6, .int (nI 0)), (5, .int (nI (flg (rdD M (tn n) (tn a)) (rdS M (tn n) (tn a)) (tn m)))), (0, .ref dq), (1, .int n), (2, .int a), (3, .int m), (4, .int b)]) dD_characters_68 (by decide) rfl ?_
          have lp5 : ∀ (fu6 : Nat) (i : Nat), (i ≤ tn m) → tn m - i < fu6 → GG D X 0 0 70 [(dq, .inr (2, [.ref dm, .ref d1, .ref d2, .ref d3, .ref d4, .ref dw, .int (bI den)])), (dm, .inl (cI, 256, .inl (nf (chP M (rdD M (tn n) (tn a)) (if ng (rdD M (tn n) (tn a)) (rdS M (tn n) (tn a)) (tn m) = true then 45 else 43) (tn m) (tn b) i)))), (d1, .inr (0, [.ref p1, .int (bI (rdS M (tn n) (tn a)))])), (p1, .inl (cI, 130, .inl (nf (rdD M (tn n) (tn a)))))] [(0, .ref dq), (3, .int m), (4, .int b), (5, .int (nI (flg (rdD M (tn n) (tn a)) (rdS M (tn n) (tn a)) (tn m)))), (6, .int (nI i))] [] := by
            intro fu6
            induction fu6 with
            | zero => intro i hi hm8; exact absurd hm8 (Nat.not_lt_zero _)
            | succ fu6 ih7 =>
              intro i hi hm8
              refine xg_iload hX 4 dD_characters_70 rfl ?_
              refine xg_iload_n hX 1 dD_characters_72 rfl rfl ?_
              refine xg_top (nI (tn m)) (cf3 h14) ?_
              refine xg_icmp_geN hX 106 (by omega) (by omega) dD_characters_73 (by decide) (fun h73 => ?_) (fun h73 => ?_)
              ·
                refine xg_iload hX 3 dD_characters_106 rfl ?_
                exact hret (nI (flg (rdD M (tn n) (tn a)) (rdS M (tn n) (tn a)) (tn m)), chP M (rdD M (tn n) (tn a)) (if ng (rdD M (tn n) (tn a)) (rdS M (tn n) (tn a)) (tn m) = true then 45 else 43) (tn m) (tn b) i, rdD M (tn n) (tn a), rdS M (tn n) (tn a)) _ _ _ rfl (show ((nI (flg (rdD M (tn n) (tn a)) (rdS M (tn n) (tn a)) (tn m))), (chP M (rdD M (tn n) (tn a)) (if ng (rdD M (tn n) (tn a)) (rdS M (tn n) (tn a)) (tn m) = true then 45 else 43) (tn m) (tn b) i)) = charZ M n a m b from (by unfold charZ; rw [if_pos hc0, show i = tn m by omega])) dD_characters_108
              ·
                refine xg_aload_n hX 0 dD_characters_76 rfl rfl ?_
                refine xg_iload hX 2 dD_characters_77 rfl ?_
                refine xg_top (nI (tn b)) (cf4 h14) ?_
                refine xg_iload_n hX 1 dD_characters_79 rfl rfl ?_
                refine xg_top (nI (tn m)) (cf3 h14) ?_
                refine xg_iaddN hX dD_characters_80 ?_
                refine xg_iload hX 4 dD_characters_81 rfl ?_
                refine xg_isubN hX (by omega) dD_characters_83 ?_
                refine xg_bipush hX (nI 48) dD_characters_84 (by decide) ?_
                refine xg_aload_n hX 0 dD_characters_86 rfl rfl ?_
                refine xg_get hX (ci := 2) rfl hinD 0 rfl 1 (by decide) mt_69 rfl dD_characters_87 ?_
                refine xg_iload hX 4 dD_characters_90 rfl ?_
                refine xg_cV hX d1 [.int (nI i)] (hM := xc_digitAt l D cI d1 p1 (rdD M (tn n) (tn a)) (rdS M (tn n) (tn a)) i (by omega)) (wr := [(dq, .inr (2, [.ref dm, .ref d1, .ref d2, .ref d3, .ref d4, .ref dw, .int (bI den)])), (dm, .inl (cI, 256, .inl (nf (chP M (rdD M (tn n) (tn a)) (if ng (rdD M (tn n) (tn a)) (rdS M (tn n) (tn a)) (tn m) = true then 45 else 43) (tn m) (tn b) i))))]) (ws' := fun _ => [(dq, .inr (2, [.ref dm, .ref d1, .ref d2, .ref d3, .ref d4, .ref dw, .int (bI den)])), (dm, .inl (cI, 256, .inl (nf (chP M (rdD M (tn n) (tn a)) (if ng (rdD M (tn n) (tn a)) (rdS M (tn n) (tn a)) (tn m) = true then 45 else 43) (tn m) (tn b) i)))), (d1, .inr (0, [.ref p1, .int (bI (rdS M (tn n) (tn a)))])), (p1, .inl (cI, 130, .inl (nf (rdD M (tn n) (tn a)))))]) (st' := fun _ => [.int (nI ((rdD M (tn n) (tn a)) i)), .int (nI 48), .int (nI (((tn b) + (tn m)) - i)), .ref dq]) [2, 3] [0, 1] [0, 1, 2, 3] [.int (nI 48), .int (nI (((tn b) + (tn m)) - i)), .ref dq] rfl mt_144 mt_171 mt_2 mt_142 mt_143 0 rfl rfl hdR_digitAt (by decide) ⟨rfl, rfl⟩ (by decide) rfl rfl (by decide) rfl (by decide) (by decide) (by decide) (fun u => rfl) (fun u => rfl) (fun u => rfl) rfl rfl (by simp [Value.category]) dD_characters_92 (fun _ _ => ?_)
                have e9 := hx i
                refine xg_iaddN hX dD_characters_95 ?_
                refine xg_cV hX dq [.int (nI (((tn b) + (tn m)) - i)), .int (nI (48 + ((rdD M (tn n) (tn a)) i)))] (hM := xc_putN l D cI dq dm d1 d2 d3 d4 dw den (chP M (rdD M (tn n) (tn a)) (if ng (rdD M (tn n) (tn a)) (rdS M (tn n) (tn a)) (tn m) = true then 45 else 43) (tn m) (tn b) i) (((tn b) + (tn m)) - i) (48 + ((rdD M (tn n) (tn a)) i)) (by omega) (by omega)) (wr := [(d1, .inr (0, [.ref p1, .int (bI (rdS M (tn n) (tn a)))])), (p1, .inl (cI, 130, .inl (nf (rdD M (tn n) (tn a)))))]) (ws' := fun _ => [(dq, .inr (2, [.ref dm, .ref d1, .ref d2, .ref d3, .ref d4, .ref dw, .int (bI den)])), (dm, .inl (cI, 256, .inl (nf (up (chP M (rdD M (tn n) (tn a)) (if ng (rdD M (tn n) (tn a)) (rdS M (tn n) (tn a)) (tn m) = true then 45 else 43) (tn m) (tn b) i) (((tn b) + (tn m)) - i) (48 + ((rdD M (tn n) (tn a)) i)))))), (d1, .inr (0, [.ref p1, .int (bI (rdS M (tn n) (tn a)))])), (p1, .inl (cI, 130, .inl (nf (rdD M (tn n) (tn a)))))]) (st' := fun _ => [.int (bI true)]) [0, 1] [2, 3] [2, 3, 0, 1] [] rfl mt_93 mt_172 mt_1 mt_91 mt_92 0 rfl rfl hdD_put (by decide) ⟨rfl, rfl⟩ (by decide) rfl rfl (by decide) rfl (by decide) (by decide) (by decide) (fun u => rfl) (fun u => rfl) (fun u => rfl) rfl rfl (by simp [Value.category]) dD_characters_96 (fun _ _ => ?_)
                refine xg_pop hX dD_characters_99 rfl ?_
                refine xg_iincN hX (lv' := [(6, .int (nI (i + 1))), (0, .ref dq), (3, .int m), (4, .int b), (5, .int (nI (flg (rdD M (tn n) (tn a)) (rdS M (tn n) (tn a)) (tn m))))]) (i + 1) 4 dD_characters_100 rfl (xn_inc _) (by decide) rfl ?_
                refine xg_goto hX 70 dD_characters_103 (by decide) ?_
                refine xg_ext hX (g := chP M (rdD M (tn n) (tn a)) (if ng (rdD M (tn n) (tn a)) (rdS M (tn n) (tn a)) (tn m) = true then 45 else 43) (tn m) (tn b) (i + 1)) (ws' := [(dq, .inr (2, [.ref dm, .ref d1, .ref d2, .ref d3, .ref d4, .ref dw, .int (bI den)])), (dm, .inl (cI, 256, .inl (nf (chP M (rdD M (tn n) (tn a)) (if ng (rdD M (tn n) (tn a)) (rdS M (tn n) (tn a)) (tn m) = true then 45 else 43) (tn m) (tn b) (i + 1))))), (d1, .inr (0, [.ref p1, .int (bI (rdS M (tn n) (tn a)))])), (p1, .inl (cI, 130, .inl (nf (rdD M (tn n) (tn a)))))]) 1 rfl (fun j hj => chP_s h73 j) rfl ?_
                refine xg_lv hX (lv' := [(0, .ref dq), (3, .int m), (4, .int b), (5, .int (nI (flg (rdD M (tn n) (tn a)) (rdS M (tn n) (tn a)) (tn m)))), (6, .int (nI (i + 1)))]) [1, 2, 3, 4, 0] rfl ?_
                exact ih7 (i + 1) (by omega) (by omega)
          refine xg_lv hX (lv' := [(0, .ref dq), (3, .int m), (4, .int b), (5, .int (nI (flg (rdD M (tn n) (tn a)) (rdS M (tn n) (tn a)) (tn m)))), (6, .int (nI 0))]) [2, 5, 6, 1, 0] rfl ?_
          exact lp5 (tn m - 0 + 1) 0 (by omega) (Nat.lt_succ_self _)
      ·
        refine xg_bipush hX ((-2)) dD_characters_32 (by decide) ?_
        exact hret ((-2), M, tA, sA) _ _ _ rfl (show ((-2), M) = charZ M n a m b from (by have hz : chO M n a m b = -2 := (by unfold chO; rw [if_pos (by rw [h5, h14]; rfl), if_neg (fun q => absurd (h29.symm.trans (huA.1.trans q)) (by decide))]); rw [charZ, hz]; exact (if_neg (by decide)).symm)) dD_characters_34
    ·
      refine xg_iconst hX ((-1)) dD_characters_17 (by decide) ?_
      exact hret ((-1), M, e1, s1) _ _ _ rfl (show ((-1), M) = charZ M n a m b from (by have hz : chO M n a m b = -1 := (by unfold chO; rw [if_neg (fun q => by simp only [Bool.and_eq_true] at q; first | exact absurd (h5.symm.trans q.1) (by decide) | exact absurd (h14.symm.trans q.2) (by decide))]); rw [charZ, hz]; exact (if_neg (by decide)).symm)) dD_characters_18
set_option maxHeartbeats 4000000 in
set_option maxRecDepth 100000 in
theorem xc_digits (l : Launch) (D : va_G) (cI : ClassId) (dq : Nat) (dm : Nat) (d1 : Nat) (d2 : Nat) (d3 : Nat) (d4 : Nat) (dw : Nat) (den : Bool) (M : Nat → Nat) (p4 : Nat) (e4 : Nat → Nat) (s4 : Bool) (n : Int32) (a : Int32) (m : Int32) (b : Int32) (hM : ∀ j, M j < 256) : Ctr l D cI yD_digits cD_digits 5 (some .int) { frames := 5, cells := 0, slots := 0, locals := 111 } [.ref dq, .int n, .int a, .int m, .int b] [(dq, .inr (2, [.ref dm, .ref d1, .ref d2, .ref d3, .ref d4, .ref dw, .int (bI den)])), (dm, .inl (cI, 256, .inl (nf M))), (d4, .inr (0, [.ref p4, .int (bI s4)])), (p4, .inl (cI, 130, .inl (nf e4)))] (fun u : Int32 × (Nat → Nat) × (Nat → Nat) × Bool => match u with | (r, M2, e4_, s4_) => some (.int r)) (fun u : Int32 × (Nat → Nat) × (Nat → Nat) × Bool => match u with | (r, M2, e4_, s4_) => (r, M2) = digZ M n a m b) (fun u : Int32 × (Nat → Nat) × (Nat → Nat) × Bool => match u with | (r, M2, e4_, s4_) => [(dq, .inr (2, [.ref dm, .ref d1, .ref d2, .ref d3, .ref d4, .ref dw, .int (bI den)])), (dm, .inl (cI, 256, .inl (nf M2))), (d4, .inr (0, [.ref p4, .int (bI s4_)])), (p4, .inl (cI, 130, .inl (nf e4_)))]) 0 0 := by
  refine xc_mkI (by decide +kernel) (Nat.le_of_ble_eq_true rfl) (fun X hX hret => ?_)
  show GG D X 0 0 0 [(dq, .inr (2, [.ref dm, .ref d1, .ref d2, .ref d3, .ref d4, .ref dw, .int (bI den)])), (dm, .inl (cI, 256, .inl (nf M))), (d4, .inr (0, [.ref p4, .int (bI s4)])), (p4, .inl (cI, 130, .inl (nf e4)))] [(0, .ref dq), (1, .int n), (2, .int a), (3, .int m), (4, .int b)] []
  refine xg_iload_n hX 1 dD_digits_0 rfl rfl ?_
  refine xg_iload_n hX 2 dD_digits_1 rfl rfl ?_
  refine xg_cS hX [.int n, .int a] (hM := xc_cfits l D cI n a) (wr := [(dq, .inr (2, [.ref dm, .ref d1, .ref d2, .ref d3, .ref d4, .ref dw, .int (bI den)])), (dm, .inl (cI, 256, .inl (nf M))), (d4, .inr (0, [.ref p4, .int (bI s4)])), (p4, .inl (cI, 130, .inl (nf e4)))]) (ws' := fun _ => [(dq, .inr (2, [.ref dm, .ref d1, .ref d2, .ref d3, .ref d4, .ref dw, .int (bI den)])), (dm, .inl (cI, 256, .inl (nf M))), (d4, .inr (0, [.ref p4, .int (bI s4)])), (p4, .inl (cI, 130, .inl (nf e4)))]) (st' := fun _ => [.int (bI (cfits n a))]) [] [0, 1, 2, 3] [0, 1, 2, 3] [] rfl mt_252 mt_250 mt_1 mt_251 hdD_charactersFit (by decide) ⟨rfl, rfl⟩ (by decide) rfl rfl (by decide) rfl (by decide) (by decide) (by decide) (fun u => rfl) (fun u => rfl) (fun u => rfl) rfl rfl (by simp [Value.category]) dD_digits_2 (fun _ _ => ?_)
  refine xg_if_eqB hX 17 dD_digits_5 (by decide) (fun h5 => ?_) (fun h5 => ?_)
  ·
    refine xg_iconst hX ((-1)) dD_digits_17 (by decide) ?_
    exact hret ((-1), M, e4, s4) _ _ _ rfl (show ((-1), M) = digZ M n a m b from (by have hz : (if (cfits n a && dfits m b) = true then (if chb M (tn n) (tn a) = true then 0 else -2) else -1 : Int32) = -1 := (by rw [if_neg (fun q => by simp only [Bool.and_eq_true] at q; first | exact absurd (h5.symm.trans q.1) (by decide) | exact absurd (h14.symm.trans q.2) (by decide))]); rw [digZ, hz]; exact (arZ_no (by decide)).symm)) dD_digits_18
  ·
    refine xg_iload_n hX 3 dD_digits_8 rfl rfl ?_
    refine xg_iload hX 4 dD_digits_9 rfl ?_
    refine xg_cS hX [.int m, .int b] (hM := xc_dfits l D cI m b) (wr := [(dq, .inr (2, [.ref dm, .ref d1, .ref d2, .ref d3, .ref d4, .ref dw, .int (bI den)])), (dm, .inl (cI, 256, .inl (nf M))), (d4, .inr (0, [.ref p4, .int (bI s4)])), (p4, .inl (cI, 130, .inl (nf e4)))]) (ws' := fun _ => [(dq, .inr (2, [.ref dm, .ref d1, .ref d2, .ref d3, .ref d4, .ref dw, .int (bI den)])), (dm, .inl (cI, 256, .inl (nf M))), (d4, .inr (0, [.ref p4, .int (bI s4)])), (p4, .inl (cI, 130, .inl (nf e4)))]) (st' := fun _ => [.int (bI (dfits m b))]) [] [0, 1, 2, 3] [0, 1, 2, 3] [] rfl mt_108 mt_106 mt_1 mt_107 hdD_decimalFits (by decide) ⟨rfl, rfl⟩ (by decide) rfl rfl (by decide) rfl (by decide) (by decide) (by decide) (fun u => rfl) (fun u => rfl) (fun u => rfl) rfl rfl (by simp [Value.category]) dD_digits_11 (fun _ _ => ?_)
    refine xg_if_neB hX 19 dD_digits_14 (by decide) (fun h14 => ?_) (fun h14 => ?_)
    ·
      refine xg_aload_n hX 0 dD_digits_19 rfl rfl ?_
      refine xg_aload_n hX 0 dD_digits_20 rfl rfl ?_
      refine xg_get hX (ci := 2) rfl hinD 0 rfl 4 (by decide) mt_72 rfl dD_digits_21 ?_
      refine xg_iload_n hX 1 dD_digits_24 rfl rfl ?_
      refine xg_top (nI (tn n)) (cf3 h5) ?_
      refine xg_iload_n hX 2 dD_digits_25 rfl rfl ?_
      refine xg_top (nI (tn a)) (cf4 h5) ?_
      refine xg_cV hX dq [.ref d4, .int (nI (tn n)), .int (nI (tn a))] (hM := xc_readChars l D cI dq dm d1 d2 d3 d4 dw den M d4 p4 e4 s4 (tn n) (tn a) (cf1 h5) (cf2 h5) hM) (wr := []) (ws' := fun u => match u with | (okA, tA, sA) => [(dq, .inr (2, [.ref dm, .ref d1, .ref d2, .ref d3, .ref d4, .ref dw, .int (bI den)])), (dm, .inl (cI, 256, .inl (nf M))), (d4, .inr (0, [.ref p4, .int (bI sA)])), (p4, .inl (cI, 130, .inl (nf tA)))]) (st' := fun u => match u with | (okA, tA, sA) => [.int (bI okA)]) [0, 1, 2, 3] [] [0, 1, 2, 3] [] rfl mt_260 mt_257 mt_1 mt_259 mp_9 0 rfl rfl hdD_readCharacters (by decide) ⟨rfl, rfl⟩ (by decide) rfl rfl (by decide) rfl (by decide) (by decide) (by decide) (fun u => rfl) (fun u => rfl) (fun u => rfl) rfl rfl (by simp [Value.category]) dD_digits_26 (fun u hu => ?_)
      obtain ⟨okA, tA, sA⟩ := u
      have huA : okA = chb M (tn n) (tn a) ∧ (okA = true → tA = chD M (tn n) (tn a) ∧ sA = chS M (tn n) (tn a)) := hu
      show GG D X 0 0 29 [(dq, .inr (2, [.ref dm, .ref d1, .ref d2, .ref d3, .ref d4, .ref dw, .int (bI den)])), (dm, .inl (cI, 256, .inl (nf M))), (d4, .inr (0, [.ref p4, .int (bI sA)])), (p4, .inl (cI, 130, .inl (nf tA)))] [(0, .ref dq), (1, .int n), (2, .int a), (3, .int m), (4, .int b)] [.int (bI okA)]
      refine xg_if_neB hX 35 dD_digits_29 (by decide) (fun h29 => ?_) (fun h29 => ?_)
      ·
        have g1 := huA.1.symm.trans h29
        have hx := chD_lt (chb_iff.mp g1).2
        obtain ⟨rfl, rfl⟩ := huA.2 h29
        refine xg_aload_n hX 0 dD_digits_35 rfl rfl ?_
        refine xg_aload_n hX 0 dD_digits_36 rfl rfl ?_
        refine xg_get hX (ci := 2) rfl hinD 0 rfl 4 (by decide) mt_72 rfl dD_digits_37 ?_
        refine xg_iload_n hX 3 dD_digits_40 rfl rfl ?_
        refine xg_top (nI (tn m)) (df3 h14) ?_
        refine xg_iload hX 4 dD_digits_41 rfl ?_
        refine xg_top (nI (tn b)) (df4 h14) ?_
        refine xg_cV hX dq [.ref d4, .int (nI (tn m)), .int (nI (tn b))] (hM := xc_writeDecimal l D cI dq dm d1 d2 d3 d4 dw den M d4 p4 (chD M (tn n) (tn a)) (chS M (tn n) (tn a)) (tn m) (tn b) (df1 h14) (df2 h14) hx) (wr := []) (ws' := fun _ => [(dq, .inr (2, [.ref dm, .ref d1, .ref d2, .ref d3, .ref d4, .ref dw, .int (bI den)])), (dm, .inl (cI, 256, .inl (nf (wrM M (chD M (tn n) (tn a)) (chS M (tn n) (tn a)) (tn m) (tn b))))), (d4, .inr (0, [.ref p4, .int (bI (chS M (tn n) (tn a)))])), (p4, .inl (cI, 130, .inl (nf (chD M (tn n) (tn a)))))]) (st' := fun _ => [.int (nI (flg (chD M (tn n) (tn a)) (chS M (tn n) (tn a)) (tn m)))]) [0, 1, 2, 3] [] [0, 1, 2, 3] [] rfl mt_166 mt_163 mt_1 mt_165 mp_5 0 rfl rfl hdD_writeDecimal (by decide) ⟨rfl, rfl⟩ (by decide) rfl rfl (by decide) rfl (by decide) (by decide) (by decide) (fun u => rfl) (fun u => rfl) (fun u => rfl) rfl rfl (by simp [Value.category]) dD_digits_43 (fun _ _ => ?_)
        exact hret (nI (flg (chD M (tn n) (tn a)) (chS M (tn n) (tn a)) (tn m)), wrM M (chD M (tn n) (tn a)) (chS M (tn n) (tn a)) (tn m) (tn b), chD M (tn n) (tn a), chS M (tn n) (tn a)) _ _ _ rfl (show ((nI (flg (chD M (tn n) (tn a)) (chS M (tn n) (tn a)) (tn m))), (wrM M (chD M (tn n) (tn a)) (chS M (tn n) (tn a)) (tn m) (tn b))) = digZ M n a m b from (by have hz : (if (cfits n a && dfits m b) = true then (if chb M (tn n) (tn a) = true then 0 else -2) else -1 : Int32) = 0 := (by rw [if_pos (by rw [h5, h14]; rfl), if_pos g1]); rw [digZ, hz]; exact arZ_ys.symm)) dD_digits_46
      ·
        refine xg_bipush hX ((-2)) dD_digits_32 (by decide) ?_
        exact hret ((-2), M, tA, sA) _ _ _ rfl (show ((-2), M) = digZ M n a m b from (by have hz : (if (cfits n a && dfits m b) = true then (if chb M (tn n) (tn a) = true then 0 else -2) else -1 : Int32) = -2 := (by rw [if_pos (by rw [h5, h14]; rfl), if_neg (fun q => absurd (h29.symm.trans (huA.1.trans q)) (by decide))]); rw [digZ, hz]; exact (arZ_no (by decide)).symm)) dD_digits_34
    ·
      refine xg_iconst hX ((-1)) dD_digits_17 (by decide) ?_
      exact hret ((-1), M, e4, s4) _ _ _ rfl (show ((-1), M) = digZ M n a m b from (by have hz : (if (cfits n a && dfits m b) = true then (if chb M (tn n) (tn a) = true then 0 else -2) else -1 : Int32) = -1 := (by rw [if_neg (fun q => by simp only [Bool.and_eq_true] at q; first | exact absurd (h5.symm.trans q.1) (by decide) | exact absurd (h14.symm.trans q.2) (by decide))]); rw [digZ, hz]; exact (arZ_no (by decide)).symm)) dD_digits_18
set_option maxHeartbeats 4000000 in
set_option maxRecDepth 100000 in
theorem xc_signif (l : Launch) (D : va_G) (cI : ClassId) (dq : Nat) (dm : Nat) (d1 : Nat) (d2 : Nat) (d3 : Nat) (d4 : Nat) (dw : Nat) (den : Bool) (M : Nat → Nat) : Ctr l D cI yD_significant cD_significant 1 (some .boolean) { frames := 0, cells := 0, slots := 0, locals := 0 } [.ref dq] [(dq, .inr (2, [.ref dm, .ref d1, .ref d2, .ref d3, .ref d4, .ref dw, .int (bI den)])), (dm, .inl (cI, 256, .inl (nf M)))] (fun _ : Unit => some (.int (bI den))) (fun _ : Unit => True) (fun _ : Unit => [(dq, .inr (2, [.ref dm, .ref d1, .ref d2, .ref d3, .ref d4, .ref dw, .int (bI den)])), (dm, .inl (cI, 256, .inl (nf M)))]) 0 0 := by
  refine xc_mkZ (by decide +kernel) (Nat.le_of_ble_eq_true rfl) (fun X hX hret => ?_)
  show GG D X 0 0 0 [(dq, .inr (2, [.ref dm, .ref d1, .ref d2, .ref d3, .ref d4, .ref dw, .int (bI den)])), (dm, .inl (cI, 256, .inl (nf M)))] [(0, .ref dq)] []
  refine xg_aload_n hX 0 dD_significant_0 rfl rfl ?_
  refine xg_get hX (ci := 2) rfl hinD 0 rfl 6 (by decide) mt_74 rfl dD_significant_1 ?_
  exact hret () _ _ _ rfl (xn_narB _) trivial dD_significant_4
