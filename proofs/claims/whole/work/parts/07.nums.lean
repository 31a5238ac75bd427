section RN
variable {l : Launch} {D : va_G} {cI : ClassId} {X : xg_X} {cc : ByteArray} {nL : Nat} {own : String} {rm : Room} {k n pc : Nat} {ws : va_W} {lv lv' : List (Nat × Value)} {rest : List Value}
theorem xg_iaddN (hX : OK l D cI X cc nL own rm) {a b : Nat}  (hdg : decode cc pc = .ok (.iadd, 1)) (kk : GG D X k n (pc + 1) ws lv (.int (nI (a + b)) :: rest)) : GG D X k n pc ws lv (.int (nI b) :: .int (nI a) :: rest) := by
  have h := nI_add a b
  refine xg_iadd hX hdg ?_
  rw [h]
  exact kk
theorem xg_isubN (hX : OK l D cI X cc nL own rm) {a b : Nat} (h : b ≤ a) (hdg : decode cc pc = .ok (.isub, 1)) (kk : GG D X k n (pc + 1) ws lv (.int (nI (a - b)) :: rest)) : GG D X k n pc ws lv (.int (nI b) :: .int (nI a) :: rest) := by
  have h := pk_sub h
  refine xg_isub hX hdg ?_
  rw [h]
  exact kk
theorem xg_imulN (hX : OK l D cI X cc nL own rm) {a b : Nat}  (hdg : decode cc pc = .ok (.imul, 1)) (kk : GG D X k n (pc + 1) ws lv (.int (nI (a * b)) :: rest)) : GG D X k n pc ws lv (.int (nI b) :: .int (nI a) :: rest) := by
  have h := pk_mul a b
  refine xg_imul hX hdg ?_
  rw [h]
  exact kk
theorem xg_idivN (hX : OK l D cI X cc nL own rm) {a b : Nat} (ha : a < 2147483648) (h0 : 0 < b) (hb : b < 2147483648) (hdg : decode cc pc = .ok (.idiv, 1)) (kk : GG D X k n (pc + 1) ws lv (.int (nI (a / b)) :: rest)) : GG D X k n pc ws lv (.int (nI b) :: .int (nI a) :: rest) := by
  have h := pk_div (show a < 2 ^ 31 by omega) h0 (show b < 2 ^ 31 by omega)
  refine xg_idiv hX hdg (nI_ne0 h0 (show b < 2 ^ 31 by omega)) ?_
  rw [h]
  exact kk
theorem xg_iremN (hX : OK l D cI X cc nL own rm) {a b : Nat} (ha : a < 2147483648) (h0 : 0 < b) (hb : b < 2147483648) (hdg : decode cc pc = .ok (.irem, 1)) (kk : GG D X k n (pc + 1) ws lv (.int (nI (a % b)) :: rest)) : GG D X k n pc ws lv (.int (nI b) :: .int (nI a) :: rest) := by
  have h := pk_rem (show a < 2 ^ 31 by omega) h0 (show b < 2 ^ 31 by omega)
  refine xg_irem hX hdg (nI_ne0 h0 (show b < 2 ^ 31 by omega)) ?_
  rw [h]
  exact kk
theorem xg_iincN (hX : OK l D cI X cc nL own rm) {i a : Nat} {z : Int} (v : Nat) (j : Nat) (hdg : decode cc pc = .ok (.iinc i z, 3)) (hj : lv[j]? = some (i, .int (nI a))) (hv : nI a + Int32.ofInt z = nI v) (hn : i < nL) (hl' : (i, Value.int (nI v)) :: lv.filter (fun q => !(q.1 == i) && !(q.1 + 1 == i && q.2.category == 2)) = lv') (kk : GG D X k n (pc + 3) ws lv' rest) : GG D X k n pc ws lv rest := xg_iinc hX (nI v) j hdg hj hv hn hl' kk
theorem xn_inc (a : Nat) : nI a + Int32.ofInt 1 = nI (a + 1) := nI_1 a
theorem xn_decZ (x : Int32) : x + Int32.ofInt (-1) = x - 1 := by
  rw [Int32.sub_eq_add_neg]
  rfl
theorem xn_dec (a : Nat) (h : 1 ≤ a) : nI a + Int32.ofInt (-1) = nI (a - 1) := by
  obtain ⟨b, rfl⟩ : ∃ b, a = b + 1 := ⟨a - 1, by omega⟩
  exact pk_m1 b
theorem xg_icmp_eqN (hX : OK l D cI X cc nL own rm) {a b : Nat} {off : Int} (tgt : Nat) (ha : a < 2147483648) (hb : b < 2147483648) (hdg : decode cc pc = .ok (.if_icmp .eq off, 3)) (ht : (pc : Int) + off = (tgt : Int)) (kt : a = b → GG D X k n tgt ws lv rest) (kf : a ≠ b → GG D X k n (pc + 3) ws lv rest) : GG D X k n pc ws lv (.int (nI b) :: .int (nI a) :: rest) := by
  have hc := (nI_eq (show a < 2 ^ 31 by omega) (show b < 2 ^ 31 by omega))
  refine xg_icmp_eq hX tgt hdg ht (fun h => kt ?_) (fun h => kf ?_)
  · rw [hc] at h; omega
  · rw [hc] at h; omega
theorem xg_icmp_neN (hX : OK l D cI X cc nL own rm) {a b : Nat} {off : Int} (tgt : Nat) (ha : a < 2147483648) (hb : b < 2147483648) (hdg : decode cc pc = .ok (.if_icmp .ne off, 3)) (ht : (pc : Int) + off = (tgt : Int)) (kt : a ≠ b → GG D X k n tgt ws lv rest) (kf : a = b → GG D X k n (pc + 3) ws lv rest) : GG D X k n pc ws lv (.int (nI b) :: .int (nI a) :: rest) := by
  have hc := (nI_eq (show a < 2 ^ 31 by omega) (show b < 2 ^ 31 by omega))
  refine xg_icmp_ne hX tgt hdg ht (fun h => kt ?_) (fun h => kf ?_)
  · rw [hc] at h; omega
  · rw [hc] at h; omega
theorem xg_icmp_ltN (hX : OK l D cI X cc nL own rm) {a b : Nat} {off : Int} (tgt : Nat) (ha : a < 2147483648) (hb : b < 2147483648) (hdg : decode cc pc = .ok (.if_icmp .lt off, 3)) (ht : (pc : Int) + off = (tgt : Int)) (kt : a < b → GG D X k n tgt ws lv rest) (kf : b ≤ a → GG D X k n (pc + 3) ws lv rest) : GG D X k n pc ws lv (.int (nI b) :: .int (nI a) :: rest) := by
  have hc := (nI_ltI (show a < 2 ^ 31 by omega) (show b < 2 ^ 31 by omega))
  refine xg_icmp_lt hX tgt hdg ht (fun h => kt ?_) (fun h => kf ?_)
  · rw [hc] at h; omega
  · rw [hc] at h; omega
theorem xg_icmp_geN (hX : OK l D cI X cc nL own rm) {a b : Nat} {off : Int} (tgt : Nat) (ha : a < 2147483648) (hb : b < 2147483648) (hdg : decode cc pc = .ok (.if_icmp .ge off, 3)) (ht : (pc : Int) + off = (tgt : Int)) (kt : b ≤ a → GG D X k n tgt ws lv rest) (kf : a < b → GG D X k n (pc + 3) ws lv rest) : GG D X k n pc ws lv (.int (nI b) :: .int (nI a) :: rest) := by
  have hc := (nI_leI (show b < 2 ^ 31 by omega) (show a < 2 ^ 31 by omega))
  refine xg_icmp_ge hX tgt hdg ht (fun h => kt ?_) (fun h => kf ?_)
  · rw [hc] at h; omega
  · rw [hc] at h; omega
theorem xg_icmp_gtN (hX : OK l D cI X cc nL own rm) {a b : Nat} {off : Int} (tgt : Nat) (ha : a < 2147483648) (hb : b < 2147483648) (hdg : decode cc pc = .ok (.if_icmp .gt off, 3)) (ht : (pc : Int) + off = (tgt : Int)) (kt : b < a → GG D X k n tgt ws lv rest) (kf : a ≤ b → GG D X k n (pc + 3) ws lv rest) : GG D X k n pc ws lv (.int (nI b) :: .int (nI a) :: rest) := by
  have hc := (nI_ltI (show b < 2 ^ 31 by omega) (show a < 2 ^ 31 by omega))
  refine xg_icmp_gt hX tgt hdg ht (fun h => kt ?_) (fun h => kf ?_)
  · rw [hc] at h; omega
  · rw [hc] at h; omega
theorem xg_icmp_leN (hX : OK l D cI X cc nL own rm) {a b : Nat} {off : Int} (tgt : Nat) (ha : a < 2147483648) (hb : b < 2147483648) (hdg : decode cc pc = .ok (.if_icmp .le off, 3)) (ht : (pc : Int) + off = (tgt : Int)) (kt : a ≤ b → GG D X k n tgt ws lv rest) (kf : b < a → GG D X k n (pc + 3) ws lv rest) : GG D X k n pc ws lv (.int (nI b) :: .int (nI a) :: rest) := by
  have hc := (nI_leI (show a < 2 ^ 31 by omega) (show b < 2 ^ 31 by omega))
  refine xg_icmp_le hX tgt hdg ht (fun h => kt ?_) (fun h => kf ?_)
  · rw [hc] at h; omega
  · rw [hc] at h; omega
theorem xg_if_eqN (hX : OK l D cI X cc nL own rm) {a : Nat} {off : Int} (tgt : Nat) (ha : a < 2147483648) (hdg : decode cc pc = .ok (.ifCond .eq off, 3)) (ht : (pc : Int) + off = (tgt : Int)) (kt : a = 0 → GG D X k n tgt ws lv rest) (kf : 0 < a → GG D X k n (pc + 3) ws lv rest) : GG D X k n pc ws lv (.int (nI a) :: rest) := by
  have hc := nI_eq (a := a) (b := 0) (show a < 2 ^ 31 by omega) (by decide)
  rw [nI_0] at hc
  refine xg_if_eq hX tgt hdg ht (fun h => kt ?_) (fun h => kf ?_)
  · rw [hc] at h; omega
  · rw [hc] at h; omega
theorem xg_if_neN (hX : OK l D cI X cc nL own rm) {a : Nat} {off : Int} (tgt : Nat) (ha : a < 2147483648) (hdg : decode cc pc = .ok (.ifCond .ne off, 3)) (ht : (pc : Int) + off = (tgt : Int)) (kt : 0 < a → GG D X k n tgt ws lv rest) (kf : a = 0 → GG D X k n (pc + 3) ws lv rest) : GG D X k n pc ws lv (.int (nI a) :: rest) := by
  have hc := nI_eq (a := a) (b := 0) (show a < 2 ^ 31 by omega) (by decide)
  rw [nI_0] at hc
  refine xg_if_ne hX tgt hdg ht (fun h => kt ?_) (fun h => kf ?_)
  · rw [hc] at h; omega
  · rw [hc] at h; omega
theorem xg_if_gtN (hX : OK l D cI X cc nL own rm) {a : Nat} {off : Int} (tgt : Nat) (ha : a < 2147483648) (hdg : decode cc pc = .ok (.ifCond .gt off, 3)) (ht : (pc : Int) + off = (tgt : Int)) (kt : 0 < a → GG D X k n tgt ws lv rest) (kf : a = 0 → GG D X k n (pc + 3) ws lv rest) : GG D X k n pc ws lv (.int (nI a) :: rest) := by
  have hc := nI_ltI (a := 0) (b := a) (by decide) (show a < 2 ^ 31 by omega)
  rw [nI_0] at hc
  refine xg_if_gt hX tgt hdg ht (fun h => kt ?_) (fun h => kf ?_)
  · rw [hc] at h; omega
  · rw [hc] at h; omega
theorem xg_if_leN (hX : OK l D cI X cc nL own rm) {a : Nat} {off : Int} (tgt : Nat) (ha : a < 2147483648) (hdg : decode cc pc = .ok (.ifCond .le off, 3)) (ht : (pc : Int) + off = (tgt : Int)) (kt : a = 0 → GG D X k n tgt ws lv rest) (kf : 0 < a → GG D X k n (pc + 3) ws lv rest) : GG D X k n pc ws lv (.int (nI a) :: rest) := by
  have hc := nI_leI (a := a) (b := 0) (show a < 2 ^ 31 by omega) (by decide)
  rw [nI_0] at hc
  refine xg_if_le hX tgt hdg ht (fun h => kt ?_) (fun h => kf ?_)
  · rw [hc] at h; omega
  · rw [hc] at h; omega
theorem xg_if_ltN (hX : OK l D cI X cc nL own rm) {a : Nat} {off : Int} (tgt : Nat) (ha : a < 2147483648) (hdg : decode cc pc = .ok (.ifCond .lt off, 3)) (ht : (pc : Int) + off = (tgt : Int)) (kf : GG D X k n (pc + 3) ws lv rest) : GG D X k n pc ws lv (.int (nI a) :: rest) := xg_if_lt hX tgt hdg ht (fun h => absurd h (nI_pos (show a < 2 ^ 31 by omega))) (fun _ => kf)
theorem xg_if_geN (hX : OK l D cI X cc nL own rm) {a : Nat} {off : Int} (tgt : Nat) (ha : a < 2147483648) (hdg : decode cc pc = .ok (.ifCond .ge off, 3)) (ht : (pc : Int) + off = (tgt : Int)) (kt : GG D X k n tgt ws lv rest) : GG D X k n pc ws lv (.int (nI a) :: rest) := xg_if_ge hX tgt hdg ht (fun _ => kt) (fun h => absurd (nI_pos' (show a < 2 ^ 31 by omega)) h)
theorem xg_icmp_eqZ (hX : OK l D cI X cc nL own rm) {x y : Int32} (cx cy : Int) (hcx : x.toInt = cx) (hcy : y.toInt = cy) {off : Int} (tgt : Nat) (hdg : decode cc pc = .ok (.if_icmp .eq off, 3)) (ht : (pc : Int) + off = (tgt : Int)) (kt : cx = cy → GG D X k n tgt ws lv rest) (kf : cx ≠ cy → GG D X k n (pc + 3) ws lv rest) : GG D X k n pc ws lv (.int y :: .int x :: rest) := by
  refine xg_icmp_eq hX tgt hdg ht (fun h => kt ?_) (fun h => kf ?_)
  · simp only [Int32.lt_iff_toInt_lt, Int32.le_iff_toInt_le, ← Int32.toInt_inj, hcx, hcy] at h; omega
  · simp only [Int32.lt_iff_toInt_lt, Int32.le_iff_toInt_le, ← Int32.toInt_inj, hcx, hcy] at h; omega
theorem xg_if_eqZ (hX : OK l D cI X cc nL own rm) {x : Int32} (cx : Int) (hcx : x.toInt = cx) {off : Int} (tgt : Nat) (hdg : decode cc pc = .ok (.ifCond .eq off, 3)) (ht : (pc : Int) + off = (tgt : Int)) (kt : cx = 0 → GG D X k n tgt ws lv rest) (kf : cx ≠ 0 → GG D X k n (pc + 3) ws lv rest) : GG D X k n pc ws lv (.int x :: rest) := by
  have h0 : (0 : Int32).toInt = 0 := rfl
  refine xg_if_eq hX tgt hdg ht (fun h => kt ?_) (fun h => kf ?_)
  · simp only [Int32.lt_iff_toInt_lt, Int32.le_iff_toInt_le, ← Int32.toInt_inj, hcx, h0] at h; omega
  · simp only [Int32.lt_iff_toInt_lt, Int32.le_iff_toInt_le, ← Int32.toInt_inj, hcx, h0] at h; omega
theorem xg_icmp_neZ (hX : OK l D cI X cc nL own rm) {x y : Int32} (cx cy : Int) (hcx : x.toInt = cx) (hcy : y.toInt = cy) {off : Int} (tgt : Nat) (hdg : decode cc pc = .ok (.if_icmp .ne off, 3)) (ht : (pc : Int) + off = (tgt : Int)) (kt : cx ≠ cy → GG D X k n tgt ws lv rest) (kf : cx = cy → GG D X k n (pc + 3) ws lv rest) : GG D X k n pc ws lv (.int y :: .int x :: rest) := by
  refine xg_icmp_ne hX tgt hdg ht (fun h => kt ?_) (fun h => kf ?_)
  · simp only [Int32.lt_iff_toInt_lt, Int32.le_iff_toInt_le, ← Int32.toInt_inj, hcx, hcy] at h; omega
  · simp only [Int32.lt_iff_toInt_lt, Int32.le_iff_toInt_le, ← Int32.toInt_inj, hcx, hcy] at h; omega
theorem xg_if_neZ (hX : OK l D cI X cc nL own rm) {x : Int32} (cx : Int) (hcx : x.toInt = cx) {off : Int} (tgt : Nat) (hdg : decode cc pc = .ok (.ifCond .ne off, 3)) (ht : (pc : Int) + off = (tgt : Int)) (kt : cx ≠ 0 → GG D X k n tgt ws lv rest) (kf : cx = 0 → GG D X k n (pc + 3) ws lv rest) : GG D X k n pc ws lv (.int x :: rest) := by
  have h0 : (0 : Int32).toInt = 0 := rfl
  refine xg_if_ne hX tgt hdg ht (fun h => kt ?_) (fun h => kf ?_)
  · simp only [Int32.lt_iff_toInt_lt, Int32.le_iff_toInt_le, ← Int32.toInt_inj, hcx, h0] at h; omega
  · simp only [Int32.lt_iff_toInt_lt, Int32.le_iff_toInt_le, ← Int32.toInt_inj, hcx, h0] at h; omega
theorem xg_icmp_ltZ (hX : OK l D cI X cc nL own rm) {x y : Int32} (cx cy : Int) (hcx : x.toInt = cx) (hcy : y.toInt = cy) {off : Int} (tgt : Nat) (hdg : decode cc pc = .ok (.if_icmp .lt off, 3)) (ht : (pc : Int) + off = (tgt : Int)) (kt : cx < cy → GG D X k n tgt ws lv rest) (kf : cy ≤ cx → GG D X k n (pc + 3) ws lv rest) : GG D X k n pc ws lv (.int y :: .int x :: rest) := by
  refine xg_icmp_lt hX tgt hdg ht (fun h => kt ?_) (fun h => kf ?_)
  · simp only [Int32.lt_iff_toInt_lt, Int32.le_iff_toInt_le, ← Int32.toInt_inj, hcx, hcy] at h; omega
  · simp only [Int32.lt_iff_toInt_lt, Int32.le_iff_toInt_le, ← Int32.toInt_inj, hcx, hcy] at h; omega
theorem xg_if_ltZ (hX : OK l D cI X cc nL own rm) {x : Int32} (cx : Int) (hcx : x.toInt = cx) {off : Int} (tgt : Nat) (hdg : decode cc pc = .ok (.ifCond .lt off, 3)) (ht : (pc : Int) + off = (tgt : Int)) (kt : cx < 0 → GG D X k n tgt ws lv rest) (kf : 0 ≤ cx → GG D X k n (pc + 3) ws lv rest) : GG D X k n pc ws lv (.int x :: rest) := by
  have h0 : (0 : Int32).toInt = 0 := rfl
  refine xg_if_lt hX tgt hdg ht (fun h => kt ?_) (fun h => kf ?_)
  · simp only [Int32.lt_iff_toInt_lt, Int32.le_iff_toInt_le, ← Int32.toInt_inj, hcx, h0] at h; omega
  · simp only [Int32.lt_iff_toInt_lt, Int32.le_iff_toInt_le, ← Int32.toInt_inj, hcx, h0] at h; omega
theorem xg_icmp_geZ (hX : OK l D cI X cc nL own rm) {x y : Int32} (cx cy : Int) (hcx : x.toInt = cx) (hcy : y.toInt = cy) {off : Int} (tgt : Nat) (hdg : decode cc pc = .ok (.if_icmp .ge off, 3)) (ht : (pc : Int) + off = (tgt : Int)) (kt : cy ≤ cx → GG D X k n tgt ws lv rest) (kf : cx < cy → GG D X k n (pc + 3) ws lv rest) : GG D X k n pc ws lv (.int y :: .int x :: rest) := by
  refine xg_icmp_ge hX tgt hdg ht (fun h => kt ?_) (fun h => kf ?_)
  · simp only [Int32.lt_iff_toInt_lt, Int32.le_iff_toInt_le, ← Int32.toInt_inj, hcx, hcy] at h; omega
  · simp only [Int32.lt_iff_toInt_lt, Int32.le_iff_toInt_le, ← Int32.toInt_inj, hcx, hcy] at h; omega
theorem xg_if_geZ (hX : OK l D cI X cc nL own rm) {x : Int32} (cx : Int) (hcx : x.toInt = cx) {off : Int} (tgt : Nat) (hdg : decode cc pc = .ok (.ifCond .ge off, 3)) (ht : (pc : Int) + off = (tgt : Int)) (kt : 0 ≤ cx → GG D X k n tgt ws lv rest) (kf : cx < 0 → GG D X k n (pc + 3) ws lv rest) : GG D X k n pc ws lv (.int x :: rest) := by
  have h0 : (0 : Int32).toInt = 0 := rfl
  refine xg_if_ge hX tgt hdg ht (fun h => kt ?_) (fun h => kf ?_)
  · simp only [Int32.lt_iff_toInt_lt, Int32.le_iff_toInt_le, ← Int32.toInt_inj, hcx, h0] at h; omega
  · simp only [Int32.lt_iff_toInt_lt, Int32.le_iff_toInt_le, ← Int32.toInt_inj, hcx, h0] at h; omega
theorem xg_icmp_gtZ (hX : OK l D cI X cc nL own rm) {x y : Int32} (cx cy : Int) (hcx : x.toInt = cx) (hcy : y.toInt = cy) {off : Int} (tgt : Nat) (hdg : decode cc pc = .ok (.if_icmp .gt off, 3)) (ht : (pc : Int) + off = (tgt : Int)) (kt : cy < cx → GG D X k n tgt ws lv rest) (kf : cx ≤ cy → GG D X k n (pc + 3) ws lv rest) : GG D X k n pc ws lv (.int y :: .int x :: rest) := by
  refine xg_icmp_gt hX tgt hdg ht (fun h => kt ?_) (fun h => kf ?_)
  · simp only [Int32.lt_iff_toInt_lt, Int32.le_iff_toInt_le, ← Int32.toInt_inj, hcx, hcy] at h; omega
  · simp only [Int32.lt_iff_toInt_lt, Int32.le_iff_toInt_le, ← Int32.toInt_inj, hcx, hcy] at h; omega
theorem xg_if_gtZ (hX : OK l D cI X cc nL own rm) {x : Int32} (cx : Int) (hcx : x.toInt = cx) {off : Int} (tgt : Nat) (hdg : decode cc pc = .ok (.ifCond .gt off, 3)) (ht : (pc : Int) + off = (tgt : Int)) (kt : 0 < cx → GG D X k n tgt ws lv rest) (kf : cx ≤ 0 → GG D X k n (pc + 3) ws lv rest) : GG D X k n pc ws lv (.int x :: rest) := by
  have h0 : (0 : Int32).toInt = 0 := rfl
  refine xg_if_gt hX tgt hdg ht (fun h => kt ?_) (fun h => kf ?_)
  · simp only [Int32.lt_iff_toInt_lt, Int32.le_iff_toInt_le, ← Int32.toInt_inj, hcx, h0] at h; omega
  · simp only [Int32.lt_iff_toInt_lt, Int32.le_iff_toInt_le, ← Int32.toInt_inj, hcx, h0] at h; omega
theorem xg_icmp_leZ (hX : OK l D cI X cc nL own rm) {x y : Int32} (cx cy : Int) (hcx : x.toInt = cx) (hcy : y.toInt = cy) {off : Int} (tgt : Nat) (hdg : decode cc pc = .ok (.if_icmp .le off, 3)) (ht : (pc : Int) + off = (tgt : Int)) (kt : cx ≤ cy → GG D X k n tgt ws lv rest) (kf : cy < cx → GG D X k n (pc + 3) ws lv rest) : GG D X k n pc ws lv (.int y :: .int x :: rest) := by
  refine xg_icmp_le hX tgt hdg ht (fun h => kt ?_) (fun h => kf ?_)
  · simp only [Int32.lt_iff_toInt_lt, Int32.le_iff_toInt_le, ← Int32.toInt_inj, hcx, hcy] at h; omega
  · simp only [Int32.lt_iff_toInt_lt, Int32.le_iff_toInt_le, ← Int32.toInt_inj, hcx, hcy] at h; omega
theorem xg_if_leZ (hX : OK l D cI X cc nL own rm) {x : Int32} (cx : Int) (hcx : x.toInt = cx) {off : Int} (tgt : Nat) (hdg : decode cc pc = .ok (.ifCond .le off, 3)) (ht : (pc : Int) + off = (tgt : Int)) (kt : cx ≤ 0 → GG D X k n tgt ws lv rest) (kf : 0 < cx → GG D X k n (pc + 3) ws lv rest) : GG D X k n pc ws lv (.int x :: rest) := by
  have h0 : (0 : Int32).toInt = 0 := rfl
  refine xg_if_le hX tgt hdg ht (fun h => kt ?_) (fun h => kf ?_)
  · simp only [Int32.lt_iff_toInt_lt, Int32.le_iff_toInt_le, ← Int32.toInt_inj, hcx, h0] at h; omega
  · simp only [Int32.lt_iff_toInt_lt, Int32.le_iff_toInt_le, ← Int32.toInt_inj, hcx, h0] at h; omega
theorem xg_if_eqB (hX : OK l D cI X cc nL own rm) {b : Bool} {off : Int} (tgt : Nat) (hdg : decode cc pc = .ok (.ifCond .eq off, 3)) (ht : (pc : Int) + off = (tgt : Int)) (kt : b = false → GG D X k n tgt ws lv rest) (kf : b = true → GG D X k n (pc + 3) ws lv rest) : GG D X k n pc ws lv (.int (bI b) :: rest) :=
  xg_if_eq hX tgt hdg ht (fun h => kt (bI_0.mp h)) (fun h => kf (by cases b with | false => exact absurd rfl h | true => rfl))
theorem xg_if_neB (hX : OK l D cI X cc nL own rm) {b : Bool} {off : Int} (tgt : Nat) (hdg : decode cc pc = .ok (.ifCond .ne off, 3)) (ht : (pc : Int) + off = (tgt : Int)) (kt : b = true → GG D X k n tgt ws lv rest) (kf : b = false → GG D X k n (pc + 3) ws lv rest) : GG D X k n pc ws lv (.int (bI b) :: rest) :=
  xg_if_ne hX tgt hdg ht (fun h => kt (by cases b with | false => exact absurd rfl h | true => rfl)) (fun h => kf (bI_0.mp h))
theorem xg_icmp_eqB (hX : OK l D cI X cc nL own rm) {a b : Bool} {off : Int} (tgt : Nat) (hdg : decode cc pc = .ok (.if_icmp .eq off, 3)) (ht : (pc : Int) + off = (tgt : Int)) (kt : a = b → GG D X k n tgt ws lv rest) (kf : a ≠ b → GG D X k n (pc + 3) ws lv rest) : GG D X k n pc ws lv (.int (bI b) :: .int (bI a) :: rest) :=
  xg_icmp_eq hX tgt hdg ht (fun h => kt (bI_inj.mp h)) (fun h => kf (fun q => h (bI_inj.mpr q)))
theorem xg_icmp_neB (hX : OK l D cI X cc nL own rm) {a b : Bool} {off : Int} (tgt : Nat) (hdg : decode cc pc = .ok (.if_icmp .ne off, 3)) (ht : (pc : Int) + off = (tgt : Int)) (kt : a ≠ b → GG D X k n tgt ws lv rest) (kf : a = b → GG D X k n (pc + 3) ws lv rest) : GG D X k n pc ws lv (.int (bI b) :: .int (bI a) :: rest) :=
  xg_icmp_ne hX tgt hdg ht (fun h => kt (fun q => h (bI_inj.mpr q))) (fun h => kf (bI_inj.mp h))
theorem xg_tab (hX : OK l D cI X cc nL own rm) {a c : Nat} (hk : a = c) {dflt lo hi : Int} {offs : Array Int} {len : Nat} {off : Int} (tgt : Nat) (hdg : decode cc pc = .ok (.tableswitch dflt lo hi offs, len)) (h1 : ¬ (nI c).toInt < lo) (h2 : ¬ hi < (nI c).toInt) (ho : offs[((nI c).toInt - lo).toNat]? = some off) (ht : (pc : Int) + off = (tgt : Int)) (kk : GG D X k n tgt ws lv rest) : GG D X k n pc ws lv (.int (nI a) :: rest) := by
  subst hk
  obtain ⟨p, l', e, R, s, m, args, below, meth, c0, Q, A⟩ := X
  obtain ⟨hx, hb, hml, hown, hts, hK, hA, hR, hl0⟩ := hX
  intro H locs ls hP hD hS hl
  exact lv_tableIn hx hb hdg h1 h2 ho ht (kk H locs ls hP hD hS hl)
theorem xg_tabO (hX : OK l D cI X cc nL own rm) {a c : Nat} (hk : a = c) {dflt lo hi : Int} {offs : Array Int} {len : Nat} (tgt : Nat) (hdg : decode cc pc = .ok (.tableswitch dflt lo hi offs, len)) (h : (nI c).toInt < lo ∨ hi < (nI c).toInt) (ht : (pc : Int) + dflt = (tgt : Int)) (kk : GG D X k n tgt ws lv rest) : GG D X k n pc ws lv (.int (nI a) :: rest) := by
  subst hk
  obtain ⟨p, l', e, R, s, m, args, below, meth, c0, Q, A⟩ := X
  obtain ⟨hx, hb, hml, hown, hts, hK, hA, hR, hl0⟩ := hX
  intro H locs ls hP hD hS hl
  exact lv_tableOut hx hb hdg h ht (kk H locs ls hP hD hS hl)
theorem xn_s2 {a b : Nat} (ha : a < 1000000) (hb : b < 1000000) : (nI a - nI b).toInt = (a : Int) - (b : Int) := pk_sub_toInt (show a < 2 ^ 30 by omega) (show b < 2 ^ 30 by omega)
theorem xn_narB (b : Bool) : narrow .boolean (.int (bI b)) = .int (bI b) := by cases b <;> rfl
theorem xn_fitB (b : Bool) : fits .boolean (.int (bI b)) = true := by cases b <;> rfl
end RN
