/-! numbers: arrays hold nI of natural numbers, booleans are bI -/
def nf (d : Nat → Nat) : Nat → Int32 := fun j => nI (d j)
def bI (b : Bool) : Int32 := if b = true then 1 else 0
def up (d : Nat → Nat) (k v : Nat) : Nat → Nat := fun j => if j = k then v else d j
theorem up_s {d : Nat → Nat} {k v : Nat} : up d k v k = v := by simp [up]
theorem up_n {d : Nat → Nat} {k v j : Nat} (h : j ≠ k) : up d k v j = d j := by simp [up, h]
theorem upd_nf (d : Nat → Nat) (k v : Nat) : upd (nf d) k (nI v) = nf (up d k v) := by
  funext j
  by_cases h : j = k <;> simp [upd, nf, up, h]
theorem bI_t : bI true = 1 := rfl
theorem bI_f : bI false = 0 := rfl
theorem bI_nI (b : Bool) : bI b = nI (if b = true then 1 else 0) := by cases b <;> rfl
theorem bI_0 {b : Bool} : bI b = 0 ↔ b = false := by cases b <;> decide
theorem bI_inj {a b : Bool} : bI a = bI b ↔ a = b := by cases a <;> cases b <;> decide
theorem xn_ex (x : Int32) : ∃ n : Nat, x = nI n := ⟨x.toBitVec.toNat, by
  apply Int32.toBitVec_inj.mp
  show x.toBitVec = BitVec.ofNat 32 x.toBitVec.toNat
  simp⟩
theorem xn_fun (f : Nat → Int32) : ∃ d : Nat → Nat, f = nf d := ⟨fun j => (f j).toBitVec.toNat, by
  funext j
  apply Int32.toBitVec_inj.mp
  show (f j).toBitVec = BitVec.ofNat 32 (f j).toBitVec.toNat
  simp⟩
theorem xn_ti {n : Nat} (h : n < 2147483648) : (nI n).toInt = (n : Int) := nI_toInt h
abbrev xg_X := Program × Launch × Env × Room × State × MethodId × Array Value × List Frame × Method × Code × (State → Prop) × (Nat → Prop)
/-- the machine comes from these pure data (program counter, world, locals, stack) to what is asked -/
def GG (D : va_G) (X : xg_X) (k n pc : Nat) (ws : va_W) (lv : List (Nat × Value)) (st : List Value) : Prop :=
  match X with
  | (p, l, e, R, s, m, args, below, meth, c, Q, A) => ∀ (H : Heap) (locs : List Loc) (ls : Array Slot), va_P D vwCl ws H → va_D A ws → va_S A s.heap H locs → lv_has ls c.maxLocals lv → W p l e R s m args below meth c H locs k n Q (F0 m pc ls st)
/-- what holds all along a method's body -/
def OK (l : Launch) (D : va_G) (cI : ClassId) (X : xg_X) (cc : ByteArray) (nL : Nat) (own : String) (rm : Room) : Prop :=
  match X with
  | (p, l', e, R, s, m, args, below, meth, c, Q, A) => p.tables.exec = Jvm.exec ∧ c.code = cc ∧ c.maxLocals = nL ∧ s.vm.findClass own = some m.cls ∧ (∀ w ∈ TB, w.before args s = true) ∧ va_K D vwCl [(cI, .int)] s ∧ (∀ q, s.heap.size ≤ q → A q) ∧ R = rm ∧ l' = l
/-- a contract: called with av in the world w0 the method answers res u in the world w u, for some u with post u -/
def Ctr (l : Launch) (D : va_G) (cI : ClassId) (y : MethodName) (cc : ByteArray) (nL : Nat) (ret : Option FieldType) (rm : Room) {S : Type} (av : List Value) (w0 : va_W) (res : S → Option Value) (post : S → Prop) (w : S → va_W) (mc ms : Nat) : Prop :=
  ∀ sz : Nat, Met l y (Cond.code y cc nL ret :: TB) rm (va_Pc av (fun U => U.heap.size = sz ∧ va_P D vwCl w0 U.heap ∧ va_K D vwCl [(cI, .int)] U ∧ va_D (fun _ => True) w0)) (fun _ st oc t => (∃ u : S, oc = .returned (res u) ∧ post u ∧ va_P D vwCl (w u) t.heap ∧ va_K D vwCl [(cI, .int)] t ∧ va_D (va_A w0 sz) (w u)) ∧ va_F (va_A w0 sz) st t) mc ms (va_A w0 sz)
section CM
variable {l : Launch} {D : va_G} {cI : ClassId} {y : MethodName} {cc : ByteArray} {nL : Nat} {rm : Room} {S : Type} {av : List Value} {w0 : va_W} {res : S → Option Value} {post : S → Prop} {w : S → va_W} {mc ms : Nat}
theorem xc_mkI (hy : plainName y.cls = true) (hn : (lg_sl av).length ≤ nL)
    (body : ∀ X : xg_X, OK l D cI X cc nL y.cls rm → (∀ (u : S) (r : Int32) (pc : Nat) (lv : List (Nat × Value)), res u = some (.int r) → post u → decode cc pc = .ok (.ireturn, 1) → GG D X mc ms pc (w u) lv [.int r]) → GG D X 0 0 0 w0 (lv_args 0 av) []) : Ctr l D cI y cc nL (some .int) rm av w0 res post w mc ms := by
  intro sz
  refine Met.ofW (cc := cc) (maxL := nL) (ret := some .int) hy rfl ?_
  intro p e s m args below meth c s₁ B hml hv
  obtain ⟨rfl, hsz, hP, hK, hD0⟩ := hv
  subst hsz
  have hts := atoms_spec (ws := Cond.code y cc nL (some .int) :: TB) B.pre
  have hown : s.vm.findClass y.cls = some m.cls := findClass_of_methodNamed B.named
  have hD := hD0.self (sz := s.heap.size)
  have hl := lv_entry av (n := nL) hn
  have hlocks := B.notSynchronized
  rw [lg_entry_eq]
  refine body (p, l, e, _, s, m, av.toArray, below, meth, c, _, va_A w0 s.heap.size) ⟨B.exec, B.bytes, hml, hown, fun w h => hts w (List.mem_cons_of_mem _ h), hK, fun q h => Or.inr h, rfl, rfl⟩ ?_ s.heap [] _ hP hD va_S.rf (by rw [hml]; exact hl)
  intro u r pc lv hres hpost hdg H locs ls hP hD hS hl
  exact W.iret B.exec B.bytes B.returns (fun t ht hW => ⟨⟨u, by rw [hres], hpost, by rw [ht]; exact hP, va_K.moved hW.alike hK, hD⟩, hS.F ht⟩) hS.2.2 hdg
theorem xc_mkZ (hy : plainName y.cls = true) (hn : (lg_sl av).length ≤ nL)
    (body : ∀ X : xg_X, OK l D cI X cc nL y.cls rm → (∀ (u : S) (r : Int32) (pc : Nat) (lv : List (Nat × Value)), res u = some (.int r) → narrow .boolean (.int r) = .int r → post u → decode cc pc = .ok (.ireturn, 1) → GG D X mc ms pc (w u) lv [.int r]) → GG D X 0 0 0 w0 (lv_args 0 av) []) : Ctr l D cI y cc nL (some .boolean) rm av w0 res post w mc ms := by
  intro sz
  refine Met.ofW (cc := cc) (maxL := nL) (ret := some .boolean) hy rfl ?_
  intro p e s m args below meth c s₁ B hml hv
  obtain ⟨rfl, hsz, hP, hK, hD0⟩ := hv
  subst hsz
  have hts := atoms_spec (ws := Cond.code y cc nL (some .boolean) :: TB) B.pre
  have hown : s.vm.findClass y.cls = some m.cls := findClass_of_methodNamed B.named
  have hD := hD0.self (sz := s.heap.size)
  have hl := lv_entry av (n := nL) hn
  have hlocks := B.notSynchronized
  rw [lg_entry_eq]
  refine body (p, l, e, _, s, m, av.toArray, below, meth, c, _, va_A w0 s.heap.size) ⟨B.exec, B.bytes, hml, hown, fun w h => hts w (List.mem_cons_of_mem _ h), hK, fun q h => Or.inr h, rfl, rfl⟩ ?_ s.heap [] _ hP hD va_S.rf (by rw [hml]; exact hl)
  intro u r pc lv hres hnar hpost hdg H locs ls hP hD hS hl
  exact W.zret B.exec B.bytes B.returns hnar (fun t ht hW => ⟨⟨u, by rw [hres], hpost, by rw [ht]; exact hP, va_K.moved hW.alike hK, hD⟩, hS.F ht⟩) hS.2.2 hdg
theorem xc_mkL (hy : plainName y.cls = true) (hn : (lg_sl av).length ≤ nL)
    (body : ∀ X : xg_X, OK l D cI X cc nL y.cls rm → (∀ (u : S) (r : Int64) (pc : Nat) (lv : List (Nat × Value)), res u = some (.long r) → post u → decode cc pc = .ok (.lreturn, 1) → GG D X mc ms pc (w u) lv [.long r]) → GG D X 0 0 0 w0 (lv_args 0 av) []) : Ctr l D cI y cc nL (some .long) rm av w0 res post w mc ms := by
  intro sz
  refine Met.ofW (cc := cc) (maxL := nL) (ret := some .long) hy rfl ?_
  intro p e s m args below meth c s₁ B hml hv
  obtain ⟨rfl, hsz, hP, hK, hD0⟩ := hv
  subst hsz
  have hts := atoms_spec (ws := Cond.code y cc nL (some .long) :: TB) B.pre
  have hown : s.vm.findClass y.cls = some m.cls := findClass_of_methodNamed B.named
  have hD := hD0.self (sz := s.heap.size)
  have hl := lv_entry av (n := nL) hn
  have hlocks := B.notSynchronized
  rw [lg_entry_eq]
  refine body (p, l, e, _, s, m, av.toArray, below, meth, c, _, va_A w0 s.heap.size) ⟨B.exec, B.bytes, hml, hown, fun w h => hts w (List.mem_cons_of_mem _ h), hK, fun q h => Or.inr h, rfl, rfl⟩ ?_ s.heap [] _ hP hD va_S.rf (by rw [hml]; exact hl)
  intro u r pc lv hres hpost hdg H locs ls hP hD hS hl
  exact W.lret B.exec B.bytes B.returns (fun t ht hW => ⟨⟨u, by rw [hres], hpost, by rw [ht]; exact hP, va_K.moved hW.alike hK, hD⟩, hS.F ht⟩) hS.2.2 hdg
theorem xc_mkV (hy : plainName y.cls = true) (hn : (lg_sl av).length ≤ nL)
    (body : ∀ X : xg_X, OK l D cI X cc nL y.cls rm → (y.name = "<init>" → X.2.2.2.2.2.2.2.2.1.name = "<init>") → (∀ (u : S) (pc : Nat) (lv : List (Nat × Value)), res u = none → post u → decode cc pc = .ok (.return_, 1) → GG D X mc ms pc (w u) lv []) → GG D X 0 0 0 w0 (lv_args 0 av) []) : Ctr l D cI y cc nL none rm av w0 res post w mc ms := by
  intro sz
  refine Met.ofW (cc := cc) (maxL := nL) (ret := none) hy rfl ?_
  intro p e s m args below meth c s₁ B hml hv
  obtain ⟨rfl, hsz, hP, hK, hD0⟩ := hv
  subst hsz
  have hts := atoms_spec (ws := Cond.code y cc nL none :: TB) B.pre
  have hown : s.vm.findClass y.cls = some m.cls := findClass_of_methodNamed B.named
  have hin := (name_of_methodNamed B.named B.method).1
  have hD := hD0.self (sz := s.heap.size)
  have hl := lv_entry av (n := nL) hn
  have hlocks := B.notSynchronized
  rw [lg_entry_eq]
  refine body (p, l, e, _, s, m, av.toArray, below, meth, c, _, va_A w0 s.heap.size) ⟨B.exec, B.bytes, hml, hown, fun w h => hts w (List.mem_cons_of_mem _ h), hK, fun q h => Or.inr h, rfl, rfl⟩ (fun h => hin.trans h) ?_ s.heap [] _ hP hD va_S.rf (by rw [hml]; exact hl)
  intro u pc lv hres hpost hdg H locs ls hP hD hS hl
  exact W.vret B.exec B.bytes B.returns (fun t ht hW => ⟨⟨u, by rw [hres], hpost, by rw [ht]; exact hP, va_K.moved hW.alike hK, hD⟩, hS.F ht⟩) hS.2.2 hdg
end CM
theorem xg_core {l : Launch} {D : va_G} {cI : ClassId} {p : Program} {e : Env} {R : Room} {s : State} {m : MethodId} {args : Array Value} {below : List Frame} {meth : Method} {c : Code} {Q : State → Prop} {A : Nat → Prop} {k n k' n' pc mc ms : Nat} {ws w0 wr : va_W} {lv : List (Nat × Value)} {st rest : List Value} {S : Type} {res : S → Option Value} {post : S → Prop} {w ws' : S → va_W} {st' : S → List Value} {H : Heap} {locs : List Loc} {ls : Array Slot}
    (isC isR is : List Nat) (hP : va_P D vwCl ws H) (hD : va_D A ws) (hS : va_S A s.heap H locs) (hl : lv_has ls c.maxLocals lv) (hA : ∀ q, s.heap.size ≤ q → A q)
    (hC : isC.map (fun i => ws[i]?) = w0.map some) (hRr : isR.map (fun i => ws[i]?) = wr.map some) (hn : va_nd isR = true) (hdis : ∀ i ∈ isR, i ∉ isC) (hnd : va_nd is = true)
    (h1 : ∀ u, is.filterMap (fun i => (wr ++ w u)[i]?) = ws' u) (h2 : ∀ u, is.map (fun i => (wr ++ w u)[i]?) = (ws' u).map some) (hst' : ∀ u, (res u).toList ++ rest = st' u) (hk' : k + mc = k') (hn' : n + ms = n')
    (run : va_Run p l e R s m args below meth c H locs k n mc ms (F0 m pc ls st) rest (fun st oc t => (∃ u : S, oc = .returned (res u) ∧ post u ∧ va_P D vwCl (w u) t.heap ∧ va_K D vwCl [(cI, .int)] t ∧ va_D (va_A w0 H.size) (w u)) ∧ va_F (va_A w0 H.size) st t) (va_A w0 H.size))
    (kk : ∀ u, post u → GG D (p, l, e, R, s, m, args, below, meth, c, Q, A) k' n' (pc + 3) (ws' u) lv (st' u)) : W p l e R s m args below meth c H locs k n Q (F0 m pc ls st) := by
  subst hk'; subst hn'
  have hF := va_free (wc := w0) hD hS hA isC hC
  intro T hT X
  obtain ⟨v, st₀, t, T', L, h0, X', hL, e1, e2, ⟨⟨u, hv, hp, hP1, hK1, hD1⟩, hz, hk⟩, stp⟩ := run T hT X
  cases hv
  rw [h0] at hz hk
  obtain ⟨hP2, hD2⟩ := va_join (H1 := T'.heap) hP hD isC isR hC hRr hn hdis (fun q a1 a2 => by rw [e1]; exact hk q a1 a2) hF (by rw [e1]; exact hP1) hD1
  have hS2 : va_S A s.heap T'.heap (locs ++ L) := ⟨Nat.le_trans hS.1 (by rw [e1]; exact hz), fun q a1 a2 => by
      rw [e1, hk q (Nat.lt_of_lt_of_le a1 hS.1) (fun z => a2 (hF q z))]; exact hS.2.1 q a1 a2, fun q hq => by
      rcases List.mem_append.mp hq with h | h
      · exact hS.2.2 q h
      · exact hF _ (hL q h)⟩
  obtain ⟨t2, a1, b1⟩ := kk u hp T'.heap (locs ++ L) ls (hP2.sub is (h1 u)) (hD2.sub is hnd (h2 u)) hS2 hl T' rfl X'
  rw [← hst' u] at a1
  exact ⟨t2, stp t2 a1, b1⟩
theorem xg_good {y : MethodName} {cc : ByteArray} {nL : Nat} {ret : Option FieldType} (h : Cond.code y cc nL ret ∈ TB) : GoodIn TB (Cond.code y cc nL ret :: TB) := by
  intro w hw
  rcases List.mem_cons.mp hw with rfl | h2
  · exact tb_good _ h
  · exact tb_good _ h2
theorem xg_blind {av : List Value} {D : va_G} {cI : ClassId} {w0 : va_W} {sz : Nat} : FrameBlind (va_Pc av (fun U => U.heap.size = sz ∧ va_P D vwCl w0 U.heap ∧ va_K D vwCl [(cI, .int)] U ∧ va_D (fun _ => True) w0)) :=
  fun a U g mk q => by obtain ⟨q0, q1, qP, qK, qD⟩ := q; exact ⟨q0, q1, qP, va_K.moved (u := U) (U := U.calling g mk a) (Vm.Alike.refl U.vm) qK, qD⟩
section RU
variable {l : Launch} {D : va_G} {cI : ClassId} {X : xg_X} {cc : ByteArray} {nL : Nat} {own : String} {rm : Room} {k n pc : Nat} {ws : va_W} {lv lv' : List (Nat × Value)} {rest : List Value}
theorem xg_iconst (hX : OK l D cI X cc nL own rm) {a : Int} (v : Int32) (hdg : decode cc pc = .ok (.iconst a, 1)) (hv : Int32.ofInt a = v) (kk : GG D X k n (pc + 1) ws lv (.int v :: rest)) : GG D X k n pc ws lv (rest) := by
  obtain ⟨p, l', e, R, s, m, args, below, meth, c, Q, A⟩ := X
  obtain ⟨hx, hb, hml, hown, hts, hK, hA, hR, hl0⟩ := hX
  intro H locs ls hP hD hS hl
  exact lv_iconst hx hb hdg hv (kk H locs ls hP hD hS hl)
theorem xg_bipush (hX : OK l D cI X cc nL own rm) {a : Int} (v : Int32) (hdg : decode cc pc = .ok (.bipush a, 2)) (hv : (Int8.ofInt a).toInt32 = v) (kk : GG D X k n (pc + 2) ws lv (.int v :: rest)) : GG D X k n pc ws lv (rest) := by
  obtain ⟨p, l', e, R, s, m, args, below, meth, c, Q, A⟩ := X
  obtain ⟨hx, hb, hml, hown, hts, hK, hA, hR, hl0⟩ := hX
  intro H locs ls hP hD hS hl
  exact lv_bipush hx hb hdg hv (kk H locs ls hP hD hS hl)
theorem xg_sipush (hX : OK l D cI X cc nL own rm) {a : Int} (v : Int32) (hdg : decode cc pc = .ok (.sipush a, 3)) (hv : (Int16.ofInt a).toInt32 = v) (kk : GG D X k n (pc + 3) ws lv (.int v :: rest)) : GG D X k n pc ws lv (rest) := by
  obtain ⟨p, l', e, R, s, m, args, below, meth, c, Q, A⟩ := X
  obtain ⟨hx, hb, hml, hown, hts, hK, hA, hR, hl0⟩ := hX
  intro H locs ls hP hD hS hl
  exact lv_sipush hx hb hdg hv (kk H locs ls hP hD hS hl)
theorem xg_lconst (hX : OK l D cI X cc nL own rm) {a : Fin 2} (v : Int64) (hdg : decode cc pc = .ok (.lconst a, 1)) (hv : Int64.ofNat (a : Nat) = v) (kk : GG D X k n (pc + 1) ws lv (.long v :: rest)) : GG D X k n pc ws lv (rest) := by
  obtain ⟨p, l', e, R, s, m, args, below, meth, c, Q, A⟩ := X
  obtain ⟨hx, hb, hml, hown, hts, hK, hA, hR, hl0⟩ := hX
  intro H locs ls hP hD hS hl
  exact lv_lconst hx hb hdg hv (kk H locs ls hP hD hS hl)
theorem xg_iload_n (hX : OK l D cI X cc nL own rm) {a : Fin 4} {i : Nat} {x : Int32} (j : Nat) (hdg : decode cc pc = .ok (.iload_n a, 1)) (hi : (a : Nat) = i) (hj : lv[j]? = some (i, .int x)) (kk : GG D X k n (pc + 1) ws lv (.int x :: rest)) : GG D X k n pc ws lv (rest) := by
  obtain ⟨p, l', e, R, s, m, args, below, meth, c, Q, A⟩ := X
  obtain ⟨hx, hb, hml, hown, hts, hK, hA, hR, hl0⟩ := hX
  intro H locs ls hP hD hS hl
  exact lv_iload_n hx hb hdg hi (lv_at hl j hj) (kk H locs ls hP hD hS hl)
theorem xg_iload (hX : OK l D cI X cc nL own rm) {i : Nat} {x : Int32} (j : Nat) (hdg : decode cc pc = .ok (.iload i, 2)) (hj : lv[j]? = some (i, .int x)) (kk : GG D X k n (pc + 2) ws lv (.int x :: rest)) : GG D X k n pc ws lv (rest) := by
  obtain ⟨p, l', e, R, s, m, args, below, meth, c, Q, A⟩ := X
  obtain ⟨hx, hb, hml, hown, hts, hK, hA, hR, hl0⟩ := hX
  intro H locs ls hP hD hS hl
  exact lv_iload hx hb hdg (lv_at hl j hj) (kk H locs ls hP hD hS hl)
theorem xg_istore_n (hX : OK l D cI X cc nL own rm) {a : Fin 4} {i : Nat} {x : Int32} (hdg : decode cc pc = .ok (.istore_n a, 1)) (hi : (a : Nat) = i) (hn : i < nL) (hl' : (i, Value.int x) :: lv.filter (fun q => !(q.1 == i) && !(q.1 + 1 == i && q.2.category == 2)) = lv') (kk : GG D X k n (pc + 1) ws lv' rest) : GG D X k n pc ws lv (.int x :: rest) := by
  obtain ⟨p, l', e, R, s, m, args, below, meth, c, Q, A⟩ := X
  obtain ⟨hx, hb, hml, hown, hts, hK, hA, hR, hl0⟩ := hX
  intro H locs ls hP hD hS hl
  exact lv_istore_n hx hb hdg hi hl (by rw [hml]; exact hn) hl' (fun ls hl => kk H locs ls hP hD hS hl)
theorem xg_istore (hX : OK l D cI X cc nL own rm) {i : Nat} {x : Int32} (hdg : decode cc pc = .ok (.istore i, 2)) (hn : i < nL) (hl' : (i, Value.int x) :: lv.filter (fun q => !(q.1 == i) && !(q.1 + 1 == i && q.2.category == 2)) = lv') (kk : GG D X k n (pc + 2) ws lv' rest) : GG D X k n pc ws lv (.int x :: rest) := by
  obtain ⟨p, l', e, R, s, m, args, below, meth, c, Q, A⟩ := X
  obtain ⟨hx, hb, hml, hown, hts, hK, hA, hR, hl0⟩ := hX
  intro H locs ls hP hD hS hl
  exact lv_istore hx hb hdg hl (by rw [hml]; exact hn) hl' (fun ls hl => kk H locs ls hP hD hS hl)
theorem xg_lload_n (hX : OK l D cI X cc nL own rm) {a : Fin 4} {i : Nat} {x : Int64} (j : Nat) (hdg : decode cc pc = .ok (.lload_n a, 1)) (hi : (a : Nat) = i) (hj : lv[j]? = some (i, .long x)) (kk : GG D X k n (pc + 1) ws lv (.long x :: rest)) : GG D X k n pc ws lv (rest) := by
  obtain ⟨p, l', e, R, s, m, args, below, meth, c, Q, A⟩ := X
  obtain ⟨hx, hb, hml, hown, hts, hK, hA, hR, hl0⟩ := hX
  intro H locs ls hP hD hS hl
  exact lv_lload_n hx hb hdg hi (lv_at hl j hj) (kk H locs ls hP hD hS hl)
theorem xg_lload (hX : OK l D cI X cc nL own rm) {i : Nat} {x : Int64} (j : Nat) (hdg : decode cc pc = .ok (.lload i, 2)) (hj : lv[j]? = some (i, .long x)) (kk : GG D X k n (pc + 2) ws lv (.long x :: rest)) : GG D X k n pc ws lv (rest) := by
  obtain ⟨p, l', e, R, s, m, args, below, meth, c, Q, A⟩ := X
  obtain ⟨hx, hb, hml, hown, hts, hK, hA, hR, hl0⟩ := hX
  intro H locs ls hP hD hS hl
  exact lv_lload hx hb hdg (lv_at hl j hj) (kk H locs ls hP hD hS hl)
theorem xg_lstore_n (hX : OK l D cI X cc nL own rm) {a : Fin 4} {i : Nat} {x : Int64} (hdg : decode cc pc = .ok (.lstore_n a, 1)) (hi : (a : Nat) = i) (hn : i + 1 < nL) (hl' : (i, Value.long x) :: lv.filter (fun q => !(q.1 == i) && (!(q.1 == i + 1) && !(q.1 + 1 == i && q.2.category == 2))) = lv') (kk : GG D X k n (pc + 1) ws lv' rest) : GG D X k n pc ws lv (.long x :: rest) := by
  obtain ⟨p, l', e, R, s, m, args, below, meth, c, Q, A⟩ := X
  obtain ⟨hx, hb, hml, hown, hts, hK, hA, hR, hl0⟩ := hX
  intro H locs ls hP hD hS hl
  exact lv_lstore_n hx hb hdg hi hl (by rw [hml]; exact hn) hl' (fun ls hl => kk H locs ls hP hD hS hl)
theorem xg_lstore (hX : OK l D cI X cc nL own rm) {i : Nat} {x : Int64} (hdg : decode cc pc = .ok (.lstore i, 2)) (hn : i + 1 < nL) (hl' : (i, Value.long x) :: lv.filter (fun q => !(q.1 == i) && (!(q.1 == i + 1) && !(q.1 + 1 == i && q.2.category == 2))) = lv') (kk : GG D X k n (pc + 2) ws lv' rest) : GG D X k n pc ws lv (.long x :: rest) := by
  obtain ⟨p, l', e, R, s, m, args, below, meth, c, Q, A⟩ := X
  obtain ⟨hx, hb, hml, hown, hts, hK, hA, hR, hl0⟩ := hX
  intro H locs ls hP hD hS hl
  exact lv_lstore hx hb hdg hl (by rw [hml]; exact hn) hl' (fun ls hl => kk H locs ls hP hD hS hl)
theorem xg_aload_n (hX : OK l D cI X cc nL own rm) {a : Fin 4} {i : Nat} {x : Nat} (j : Nat) (hdg : decode cc pc = .ok (.aload_n a, 1)) (hi : (a : Nat) = i) (hj : lv[j]? = some (i, .ref x)) (kk : GG D X k n (pc + 1) ws lv (.ref x :: rest)) : GG D X k n pc ws lv (rest) := by
  obtain ⟨p, l', e, R, s, m, args, below, meth, c, Q, A⟩ := X
  obtain ⟨hx, hb, hml, hown, hts, hK, hA, hR, hl0⟩ := hX
  intro H locs ls hP hD hS hl
  exact lv_aload_n hx hb hdg hi (lv_at hl j hj) (kk H locs ls hP hD hS hl)
theorem xg_aload (hX : OK l D cI X cc nL own rm) {i : Nat} {x : Nat} (j : Nat) (hdg : decode cc pc = .ok (.aload i, 2)) (hj : lv[j]? = some (i, .ref x)) (kk : GG D X k n (pc + 2) ws lv (.ref x :: rest)) : GG D X k n pc ws lv (rest) := by
  obtain ⟨p, l', e, R, s, m, args, below, meth, c, Q, A⟩ := X
  obtain ⟨hx, hb, hml, hown, hts, hK, hA, hR, hl0⟩ := hX
  intro H locs ls hP hD hS hl
  exact lv_aload hx hb hdg (lv_at hl j hj) (kk H locs ls hP hD hS hl)
theorem xg_astore_n (hX : OK l D cI X cc nL own rm) {a : Fin 4} {i : Nat} {x : Nat} (hdg : decode cc pc = .ok (.astore_n a, 1)) (hi : (a : Nat) = i) (hn : i < nL) (hl' : (i, Value.ref x) :: lv.filter (fun q => !(q.1 == i) && !(q.1 + 1 == i && q.2.category == 2)) = lv') (kk : GG D X k n (pc + 1) ws lv' rest) : GG D X k n pc ws lv (.ref x :: rest) := by
  obtain ⟨p, l', e, R, s, m, args, below, meth, c, Q, A⟩ := X
  obtain ⟨hx, hb, hml, hown, hts, hK, hA, hR, hl0⟩ := hX
  intro H locs ls hP hD hS hl
  exact lv_astore_n hx hb hdg hi hl (by rw [hml]; exact hn) hl' (fun ls hl => kk H locs ls hP hD hS hl)
theorem xg_astore (hX : OK l D cI X cc nL own rm) {i : Nat} {x : Nat} (hdg : decode cc pc = .ok (.astore i, 2)) (hn : i < nL) (hl' : (i, Value.ref x) :: lv.filter (fun q => !(q.1 == i) && !(q.1 + 1 == i && q.2.category == 2)) = lv') (kk : GG D X k n (pc + 2) ws lv' rest) : GG D X k n pc ws lv (.ref x :: rest) := by
  obtain ⟨p, l', e, R, s, m, args, below, meth, c, Q, A⟩ := X
  obtain ⟨hx, hb, hml, hown, hts, hK, hA, hR, hl0⟩ := hX
  intro H locs ls hP hD hS hl
  exact lv_astore hx hb hdg hl (by rw [hml]; exact hn) hl' (fun ls hl => kk H locs ls hP hD hS hl)
theorem xg_iinc (hX : OK l D cI X cc nL own rm) {i : Nat} {a : Int} {x : Int32} (v : Int32) (j : Nat) (hdg : decode cc pc = .ok (.iinc i a, 3)) (hj : lv[j]? = some (i, .int x)) (hv : x + Int32.ofInt a = v) (hn : i < nL) (hl' : (i, Value.int v) :: lv.filter (fun q => !(q.1 == i) && !(q.1 + 1 == i && q.2.category == 2)) = lv') (kk : GG D X k n (pc + 3) ws lv' rest) : GG D X k n pc ws lv rest := by
  obtain ⟨p, l', e, R, s, m, args, below, meth, c, Q, A⟩ := X
  obtain ⟨hx, hb, hml, hown, hts, hK, hA, hR, hl0⟩ := hX
  intro H locs ls hP hD hS hl
  exact lv_iinc hx hb hdg hl hj hv (by rw [hml]; exact hn) hl' (fun ls hl => kk H locs ls hP hD hS hl)
theorem xg_iadd (hX : OK l D cI X cc nL own rm) {x y : Int32} (hdg : decode cc pc = .ok (.iadd, 1)) (kk : GG D X k n (pc + 1) ws lv (.int (x + y) :: rest)) : GG D X k n pc ws lv (.int y :: .int x :: rest) := by
  obtain ⟨p, l', e, R, s, m, args, below, meth, c, Q, A⟩ := X
  obtain ⟨hx, hb, hml, hown, hts, hK, hA, hR, hl0⟩ := hX
  intro H locs ls hP hD hS hl
  exact lv_iadd hx hb hdg (kk H locs ls hP hD hS hl)
theorem xg_isub (hX : OK l D cI X cc nL own rm) {x y : Int32} (hdg : decode cc pc = .ok (.isub, 1)) (kk : GG D X k n (pc + 1) ws lv (.int (x - y) :: rest)) : GG D X k n pc ws lv (.int y :: .int x :: rest) := by
  obtain ⟨p, l', e, R, s, m, args, below, meth, c, Q, A⟩ := X
  obtain ⟨hx, hb, hml, hown, hts, hK, hA, hR, hl0⟩ := hX
  intro H locs ls hP hD hS hl
  exact lv_isub hx hb hdg (kk H locs ls hP hD hS hl)
theorem xg_imul (hX : OK l D cI X cc nL own rm) {x y : Int32} (hdg : decode cc pc = .ok (.imul, 1)) (kk : GG D X k n (pc + 1) ws lv (.int (x * y) :: rest)) : GG D X k n pc ws lv (.int y :: .int x :: rest) := by
  obtain ⟨p, l', e, R, s, m, args, below, meth, c, Q, A⟩ := X
  obtain ⟨hx, hb, hml, hown, hts, hK, hA, hR, hl0⟩ := hX
  intro H locs ls hP hD hS hl
  exact lv_imul hx hb hdg (kk H locs ls hP hD hS hl)
theorem xg_iand (hX : OK l D cI X cc nL own rm) {x y : Int32} (hdg : decode cc pc = .ok (.iand, 1)) (kk : GG D X k n (pc + 1) ws lv (.int (x &&& y) :: rest)) : GG D X k n pc ws lv (.int y :: .int x :: rest) := by
  obtain ⟨p, l', e, R, s, m, args, below, meth, c, Q, A⟩ := X
  obtain ⟨hx, hb, hml, hown, hts, hK, hA, hR, hl0⟩ := hX
  intro H locs ls hP hD hS hl
  exact lv_iand hx hb hdg (kk H locs ls hP hD hS hl)
theorem xg_ior (hX : OK l D cI X cc nL own rm) {x y : Int32} (hdg : decode cc pc = .ok (.ior, 1)) (kk : GG D X k n (pc + 1) ws lv (.int (x ||| y) :: rest)) : GG D X k n pc ws lv (.int y :: .int x :: rest) := by
  obtain ⟨p, l', e, R, s, m, args, below, meth, c, Q, A⟩ := X
  obtain ⟨hx, hb, hml, hown, hts, hK, hA, hR, hl0⟩ := hX
  intro H locs ls hP hD hS hl
  exact lv_ior hx hb hdg (kk H locs ls hP hD hS hl)
theorem xg_ishr (hX : OK l D cI X cc nL own rm) {x y : Int32} (hdg : decode cc pc = .ok (.ishr, 1)) (kk : GG D X k n (pc + 1) ws lv (.int (x >>> (y &&& 31)) :: rest)) : GG D X k n pc ws lv (.int y :: .int x :: rest) := by
  obtain ⟨p, l', e, R, s, m, args, below, meth, c, Q, A⟩ := X
  obtain ⟨hx, hb, hml, hown, hts, hK, hA, hR, hl0⟩ := hX
  intro H locs ls hP hD hS hl
  exact lv_ishr hx hb hdg (kk H locs ls hP hD hS hl)
theorem xg_idiv (hX : OK l D cI X cc nL own rm) {x y : Int32} (hdg : decode cc pc = .ok (.idiv, 1)) (hne : ¬ y = 0) (kk : GG D X k n (pc + 1) ws lv (.int (x / y) :: rest)) : GG D X k n pc ws lv (.int y :: .int x :: rest) := by
  obtain ⟨p, l', e, R, s, m, args, below, meth, c, Q, A⟩ := X
  obtain ⟨hx, hb, hml, hown, hts, hK, hA, hR, hl0⟩ := hX
  intro H locs ls hP hD hS hl
  exact lv_idiv hx hb hdg hne (kk H locs ls hP hD hS hl)
theorem xg_irem (hX : OK l D cI X cc nL own rm) {x y : Int32} (hdg : decode cc pc = .ok (.irem, 1)) (hne : ¬ y = 0) (kk : GG D X k n (pc + 1) ws lv (.int (x - x / y * y) :: rest)) : GG D X k n pc ws lv (.int y :: .int x :: rest) := by
  obtain ⟨p, l', e, R, s, m, args, below, meth, c, Q, A⟩ := X
  obtain ⟨hx, hb, hml, hown, hts, hK, hA, hR, hl0⟩ := hX
  intro H locs ls hP hD hS hl
  exact lv_irem hx hb hdg hne (kk H locs ls hP hD hS hl)
theorem xg_ineg (hX : OK l D cI X cc nL own rm) {x : Int32} (hdg : decode cc pc = .ok (.ineg, 1)) (kk : GG D X k n (pc + 1) ws lv (.int (-x) :: rest)) : GG D X k n pc ws lv (.int x :: rest) := by
  obtain ⟨p, l', e, R, s, m, args, below, meth, c, Q, A⟩ := X
  obtain ⟨hx, hb, hml, hown, hts, hK, hA, hR, hl0⟩ := hX
  intro H locs ls hP hD hS hl
  exact lv_ineg hx hb hdg (kk H locs ls hP hD hS hl)
theorem xg_ladd (hX : OK l D cI X cc nL own rm) {x y : Int64} (hdg : decode cc pc = .ok (.ladd, 1)) (kk : GG D X k n (pc + 1) ws lv (.long (x + y) :: rest)) : GG D X k n pc ws lv (.long y :: .long x :: rest) := by
  obtain ⟨p, l', e, R, s, m, args, below, meth, c, Q, A⟩ := X
  obtain ⟨hx, hb, hml, hown, hts, hK, hA, hR, hl0⟩ := hX
  intro H locs ls hP hD hS hl
  exact lv_ladd hx hb hdg (kk H locs ls hP hD hS hl)
theorem xg_lmul (hX : OK l D cI X cc nL own rm) {x y : Int64} (hdg : decode cc pc = .ok (.lmul, 1)) (kk : GG D X k n (pc + 1) ws lv (.long (x * y) :: rest)) : GG D X k n pc ws lv (.long y :: .long x :: rest) := by
  obtain ⟨p, l', e, R, s, m, args, below, meth, c, Q, A⟩ := X
  obtain ⟨hx, hb, hml, hown, hts, hK, hA, hR, hl0⟩ := hX
  intro H locs ls hP hD hS hl
  exact lv_lmul hx hb hdg (kk H locs ls hP hD hS hl)
theorem xg_ldiv (hX : OK l D cI X cc nL own rm) {x y : Int64} (hdg : decode cc pc = .ok (.ldiv, 1)) (hne : ¬ y = 0) (kk : GG D X k n (pc + 1) ws lv (.long (x / y) :: rest)) : GG D X k n pc ws lv (.long y :: .long x :: rest) := by
  obtain ⟨p, l', e, R, s, m, args, below, meth, c, Q, A⟩ := X
  obtain ⟨hx, hb, hml, hown, hts, hK, hA, hR, hl0⟩ := hX
  intro H locs ls hP hD hS hl
  exact lv_ldiv hx hb hdg hne (kk H locs ls hP hD hS hl)
theorem xg_lrem (hX : OK l D cI X cc nL own rm) {x y : Int64} (hdg : decode cc pc = .ok (.lrem, 1)) (hne : ¬ y = 0) (kk : GG D X k n (pc + 1) ws lv (.long (x - x / y * y) :: rest)) : GG D X k n pc ws lv (.long y :: .long x :: rest) := by
  obtain ⟨p, l', e, R, s, m, args, below, meth, c, Q, A⟩ := X
  obtain ⟨hx, hb, hml, hown, hts, hK, hA, hR, hl0⟩ := hX
  intro H locs ls hP hD hS hl
  exact lv_lrem hx hb hdg hne (kk H locs ls hP hD hS hl)
theorem xg_lneg (hX : OK l D cI X cc nL own rm) {x : Int64} (hdg : decode cc pc = .ok (.lneg, 1)) (kk : GG D X k n (pc + 1) ws lv (.long (-x) :: rest)) : GG D X k n pc ws lv (.long x :: rest) := by
  obtain ⟨p, l', e, R, s, m, args, below, meth, c, Q, A⟩ := X
  obtain ⟨hx, hb, hml, hown, hts, hK, hA, hR, hl0⟩ := hX
  intro H locs ls hP hD hS hl
  exact lv_lneg hx hb hdg (kk H locs ls hP hD hS hl)
theorem xg_i2l (hX : OK l D cI X cc nL own rm) {x : Int32} (v : Int64) (hdg : decode cc pc = .ok (.i2l, 1)) (hv : x.toInt64 = v) (kk : GG D X k n (pc + 1) ws lv (.long v :: rest)) : GG D X k n pc ws lv (.int x :: rest) := by
  obtain ⟨p, l', e, R, s, m, args, below, meth, c, Q, A⟩ := X
  obtain ⟨hx, hb, hml, hown, hts, hK, hA, hR, hl0⟩ := hX
  intro H locs ls hP hD hS hl
  exact lv_i2l hx hb hdg hv (kk H locs ls hP hD hS hl)
theorem xg_l2i (hX : OK l D cI X cc nL own rm) {x : Int64} (v : Int32) (hdg : decode cc pc = .ok (.l2i, 1)) (hv : x.toInt32 = v) (kk : GG D X k n (pc + 1) ws lv (.int v :: rest)) : GG D X k n pc ws lv (.long x :: rest) := by
  obtain ⟨p, l', e, R, s, m, args, below, meth, c, Q, A⟩ := X
  obtain ⟨hx, hb, hml, hown, hts, hK, hA, hR, hl0⟩ := hX
  intro H locs ls hP hD hS hl
  exact lv_l2i hx hb hdg hv (kk H locs ls hP hD hS hl)
theorem xg_lcmp (hX : OK l D cI X cc nL own rm) {x y : Int64} (hdg : decode cc pc = .ok (.lcmp, 1)) (kk : GG D X k n (pc + 1) ws lv (.int (lg_cmp x y) :: rest)) : GG D X k n pc ws lv (.long y :: .long x :: rest) := by
  obtain ⟨p, l', e, R, s, m, args, below, meth, c, Q, A⟩ := X
  obtain ⟨hx, hb, hml, hown, hts, hK, hA, hR, hl0⟩ := hX
  intro H locs ls hP hD hS hl
  exact W.lcmp hx hb hdg (kk H locs ls hP hD hS hl)
theorem xg_dup (hX : OK l D cI X cc nL own rm) {va : Value} (hdg : decode cc pc = .ok (.dup, 1)) (hva : va.category = 1) (kk : GG D X k n (pc + 1) ws lv (va :: va :: rest)) : GG D X k n pc ws lv (va :: rest) := by
  obtain ⟨p, l', e, R, s, m, args, below, meth, c, Q, A⟩ := X
  obtain ⟨hx, hb, hml, hown, hts, hK, hA, hR, hl0⟩ := hX
  intro H locs ls hP hD hS hl
  exact lv_dup hx hb hdg hva (kk H locs ls hP hD hS hl)
theorem xg_pop (hX : OK l D cI X cc nL own rm) {va : Value} (hdg : decode cc pc = .ok (.pop, 1)) (hva : va.category = 1) (kk : GG D X k n (pc + 1) ws lv (rest)) : GG D X k n pc ws lv (va :: rest) := by
  obtain ⟨p, l', e, R, s, m, args, below, meth, c, Q, A⟩ := X
  obtain ⟨hx, hb, hml, hown, hts, hK, hA, hR, hl0⟩ := hX
  intro H locs ls hP hD hS hl
  exact lv_pop hx hb hdg hva (kk H locs ls hP hD hS hl)
theorem xg_dup2 (hX : OK l D cI X cc nL own rm) {va vb : Value} (hdg : decode cc pc = .ok (.dup2, 1)) (hva : va.category = 1) (hvb : vb.category = 1) (kk : GG D X k n (pc + 1) ws lv (va :: vb :: va :: vb :: rest)) : GG D X k n pc ws lv (va :: vb :: rest) := by
  obtain ⟨p, l', e, R, s, m, args, below, meth, c, Q, A⟩ := X
  obtain ⟨hx, hb, hml, hown, hts, hK, hA, hR, hl0⟩ := hX
  intro H locs ls hP hD hS hl
  exact lv_dup2_11 hx hb hdg hva hvb (kk H locs ls hP hD hS hl)
theorem xg_goto (hX : OK l D cI X cc nL own rm) {off : Int} (tgt : Nat) (hdg : decode cc pc = .ok (.goto off, 3)) (ht : (pc : Int) + off = (tgt : Int)) (kk : GG D X k n tgt ws lv rest) : GG D X k n pc ws lv rest := by
  obtain ⟨p, l', e, R, s, m, args, below, meth, c, Q, A⟩ := X
  obtain ⟨hx, hb, hml, hown, hts, hK, hA, hR, hl0⟩ := hX
  intro H locs ls hP hD hS hl
  exact lv_goto hx hb hdg ht (kk H locs ls hP hD hS hl)
theorem xg_ldc2 (hX : OK l D cI X cc nL own rm) (v : Int64) {index : Nat} (hw : Cond.constantLong own index v ∈ TB) (hdg : decode cc pc = .ok (.ldc2_w index, 3)) (kk : GG D X k n (pc + 3) ws lv (.long v :: rest)) : GG D X k n pc ws lv rest := by
  obtain ⟨p, l', e, R, s, m, args, below, meth, c, Q, A⟩ := X
  obtain ⟨hx, hb, hml, hown, hts, hK, hA, hR, hl0⟩ := hX
  intro H locs ls hP hD hS hl
  exact W.ldc2 hx hb hown (hts _ hw) rfl hdg (kk H locs ls hP hD hS hl)
theorem xg_if_eq (hX : OK l D cI X cc nL own rm) {x : Int32} {off : Int} (tgt : Nat) (hdg : decode cc pc = .ok (.ifCond .eq off, 3)) (ht : (pc : Int) + off = (tgt : Int)) (kt : x = 0 → GG D X k n tgt ws lv rest) (kf : ¬ (x = 0) → GG D X k n (pc + 3) ws lv rest) : GG D X k n pc ws lv (.int x :: rest) := by
  obtain ⟨p, l', e, R, s, m, args, below, meth, c, Q, A⟩ := X
  obtain ⟨hx, hb, hml, hown, hts, hK, hA, hR, hl0⟩ := hX
  intro H locs ls hP hD hS hl
  exact lv_if_eq hx hb hdg ht (fun h => kt h H locs ls hP hD hS hl) (fun h => kf h H locs ls hP hD hS hl)
theorem xg_icmp_eq (hX : OK l D cI X cc nL own rm) {x y : Int32} {off : Int} (tgt : Nat) (hdg : decode cc pc = .ok (.if_icmp .eq off, 3)) (ht : (pc : Int) + off = (tgt : Int)) (kt : x = y → GG D X k n tgt ws lv rest) (kf : ¬ (x = y) → GG D X k n (pc + 3) ws lv rest) : GG D X k n pc ws lv (.int y :: .int x :: rest) := by
  obtain ⟨p, l', e, R, s, m, args, below, meth, c, Q, A⟩ := X
  obtain ⟨hx, hb, hml, hown, hts, hK, hA, hR, hl0⟩ := hX
  intro H locs ls hP hD hS hl
  exact lv_icmp_eq hx hb hdg ht (fun h => kt h H locs ls hP hD hS hl) (fun h => kf h H locs ls hP hD hS hl)
theorem xg_if_ne (hX : OK l D cI X cc nL own rm) {x : Int32} {off : Int} (tgt : Nat) (hdg : decode cc pc = .ok (.ifCond .ne off, 3)) (ht : (pc : Int) + off = (tgt : Int)) (kt : ¬ x = 0 → GG D X k n tgt ws lv rest) (kf : x = 0 → GG D X k n (pc + 3) ws lv rest) : GG D X k n pc ws lv (.int x :: rest) := by
  obtain ⟨p, l', e, R, s, m, args, below, meth, c, Q, A⟩ := X
  obtain ⟨hx, hb, hml, hown, hts, hK, hA, hR, hl0⟩ := hX
  intro H locs ls hP hD hS hl
  exact lv_if_ne hx hb hdg ht (fun h => kt h H locs ls hP hD hS hl) (fun h => kf h H locs ls hP hD hS hl)
theorem xg_icmp_ne (hX : OK l D cI X cc nL own rm) {x y : Int32} {off : Int} (tgt : Nat) (hdg : decode cc pc = .ok (.if_icmp .ne off, 3)) (ht : (pc : Int) + off = (tgt : Int)) (kt : ¬ x = y → GG D X k n tgt ws lv rest) (kf : x = y → GG D X k n (pc + 3) ws lv rest) : GG D X k n pc ws lv (.int y :: .int x :: rest) := by
  obtain ⟨p, l', e, R, s, m, args, below, meth, c, Q, A⟩ := X
  obtain ⟨hx, hb, hml, hown, hts, hK, hA, hR, hl0⟩ := hX
  intro H locs ls hP hD hS hl
  exact lv_icmp_ne hx hb hdg ht (fun h => kt h H locs ls hP hD hS hl) (fun h => kf h H locs ls hP hD hS hl)
theorem xg_if_lt (hX : OK l D cI X cc nL own rm) {x : Int32} {off : Int} (tgt : Nat) (hdg : decode cc pc = .ok (.ifCond .lt off, 3)) (ht : (pc : Int) + off = (tgt : Int)) (kt : x < 0 → GG D X k n tgt ws lv rest) (kf : ¬ (x < 0) → GG D X k n (pc + 3) ws lv rest) : GG D X k n pc ws lv (.int x :: rest) := by
  obtain ⟨p, l', e, R, s, m, args, below, meth, c, Q, A⟩ := X
  obtain ⟨hx, hb, hml, hown, hts, hK, hA, hR, hl0⟩ := hX
  intro H locs ls hP hD hS hl
  exact lv_if_lt hx hb hdg ht (fun h => kt h H locs ls hP hD hS hl) (fun h => kf h H locs ls hP hD hS hl)
theorem xg_icmp_lt (hX : OK l D cI X cc nL own rm) {x y : Int32} {off : Int} (tgt : Nat) (hdg : decode cc pc = .ok (.if_icmp .lt off, 3)) (ht : (pc : Int) + off = (tgt : Int)) (kt : x < y → GG D X k n tgt ws lv rest) (kf : ¬ (x < y) → GG D X k n (pc + 3) ws lv rest) : GG D X k n pc ws lv (.int y :: .int x :: rest) := by
  obtain ⟨p, l', e, R, s, m, args, below, meth, c, Q, A⟩ := X
  obtain ⟨hx, hb, hml, hown, hts, hK, hA, hR, hl0⟩ := hX
  intro H locs ls hP hD hS hl
  exact lv_icmp_lt hx hb hdg ht (fun h => kt h H locs ls hP hD hS hl) (fun h => kf h H locs ls hP hD hS hl)
theorem xg_if_ge (hX : OK l D cI X cc nL own rm) {x : Int32} {off : Int} (tgt : Nat) (hdg : decode cc pc = .ok (.ifCond .ge off, 3)) (ht : (pc : Int) + off = (tgt : Int)) (kt : 0 ≤ x → GG D X k n tgt ws lv rest) (kf : ¬ (0 ≤ x) → GG D X k n (pc + 3) ws lv rest) : GG D X k n pc ws lv (.int x :: rest) := by
  obtain ⟨p, l', e, R, s, m, args, below, meth, c, Q, A⟩ := X
  obtain ⟨hx, hb, hml, hown, hts, hK, hA, hR, hl0⟩ := hX
  intro H locs ls hP hD hS hl
  exact lv_if_ge hx hb hdg ht (fun h => kt h H locs ls hP hD hS hl) (fun h => kf h H locs ls hP hD hS hl)
theorem xg_icmp_ge (hX : OK l D cI X cc nL own rm) {x y : Int32} {off : Int} (tgt : Nat) (hdg : decode cc pc = .ok (.if_icmp .ge off, 3)) (ht : (pc : Int) + off = (tgt : Int)) (kt : y ≤ x → GG D X k n tgt ws lv rest) (kf : ¬ (y ≤ x) → GG D X k n (pc + 3) ws lv rest) : GG D X k n pc ws lv (.int y :: .int x :: rest) := by
  obtain ⟨p, l', e, R, s, m, args, below, meth, c, Q, A⟩ := X
  obtain ⟨hx, hb, hml, hown, hts, hK, hA, hR, hl0⟩ := hX
  intro H locs ls hP hD hS hl
  exact lv_icmp_ge hx hb hdg ht (fun h => kt h H locs ls hP hD hS hl) (fun h => kf h H locs ls hP hD hS hl)
theorem xg_if_gt (hX : OK l D cI X cc nL own rm) {x : Int32} {off : Int} (tgt : Nat) (hdg : decode cc pc = .ok (.ifCond .gt off, 3)) (ht : (pc : Int) + off = (tgt : Int)) (kt : 0 < x → GG D X k n tgt ws lv rest) (kf : ¬ (0 < x) → GG D X k n (pc + 3) ws lv rest) : GG D X k n pc ws lv (.int x :: rest) := by
  obtain ⟨p, l', e, R, s, m, args, below, meth, c, Q, A⟩ := X
  obtain ⟨hx, hb, hml, hown, hts, hK, hA, hR, hl0⟩ := hX
  intro H locs ls hP hD hS hl
  exact lv_if_gt hx hb hdg ht (fun h => kt h H locs ls hP hD hS hl) (fun h => kf h H locs ls hP hD hS hl)
theorem xg_icmp_gt (hX : OK l D cI X cc nL own rm) {x y : Int32} {off : Int} (tgt : Nat) (hdg : decode cc pc = .ok (.if_icmp .gt off, 3)) (ht : (pc : Int) + off = (tgt : Int)) (kt : y < x → GG D X k n tgt ws lv rest) (kf : ¬ (y < x) → GG D X k n (pc + 3) ws lv rest) : GG D X k n pc ws lv (.int y :: .int x :: rest) := by
  obtain ⟨p, l', e, R, s, m, args, below, meth, c, Q, A⟩ := X
  obtain ⟨hx, hb, hml, hown, hts, hK, hA, hR, hl0⟩ := hX
  intro H locs ls hP hD hS hl
  exact lv_icmp_gt hx hb hdg ht (fun h => kt h H locs ls hP hD hS hl) (fun h => kf h H locs ls hP hD hS hl)
theorem xg_if_le (hX : OK l D cI X cc nL own rm) {x : Int32} {off : Int} (tgt : Nat) (hdg : decode cc pc = .ok (.ifCond .le off, 3)) (ht : (pc : Int) + off = (tgt : Int)) (kt : x ≤ 0 → GG D X k n tgt ws lv rest) (kf : ¬ (x ≤ 0) → GG D X k n (pc + 3) ws lv rest) : GG D X k n pc ws lv (.int x :: rest) := by
  obtain ⟨p, l', e, R, s, m, args, below, meth, c, Q, A⟩ := X
  obtain ⟨hx, hb, hml, hown, hts, hK, hA, hR, hl0⟩ := hX
  intro H locs ls hP hD hS hl
  exact lv_if_le hx hb hdg ht (fun h => kt h H locs ls hP hD hS hl) (fun h => kf h H locs ls hP hD hS hl)
theorem xg_icmp_le (hX : OK l D cI X cc nL own rm) {x y : Int32} {off : Int} (tgt : Nat) (hdg : decode cc pc = .ok (.if_icmp .le off, 3)) (ht : (pc : Int) + off = (tgt : Int)) (kt : x ≤ y → GG D X k n tgt ws lv rest) (kf : ¬ (x ≤ y) → GG D X k n (pc + 3) ws lv rest) : GG D X k n pc ws lv (.int y :: .int x :: rest) := by
  obtain ⟨p, l', e, R, s, m, args, below, meth, c, Q, A⟩ := X
  obtain ⟨hx, hb, hml, hown, hts, hK, hA, hR, hl0⟩ := hX
  intro H locs ls hP hD hS hl
  exact lv_icmp_le hx hb hdg ht (fun h => kt h H locs ls hP hD hS hl) (fun h => kf h H locs ls hP hD hS hl)
theorem xg_top {x : Int32} (y : Int32) (h : x = y) (kk : GG D X k n pc ws lv (.int y :: rest)) : GG D X k n pc ws lv (.int x :: rest) := by rw [h]; exact kk
theorem xg_topl {x : Int64} (y : Int64) (h : x = y) (kk : GG D X k n pc ws lv (.long y :: rest)) : GG D X k n pc ws lv (.long x :: rest) := by rw [h]; exact kk
theorem xg_wid (hX : OK l D cI X cc nL own rm) {k' n' : Nat} (h1 : k ≤ k') (h2 : n ≤ n') (kk : GG D X k' n' pc ws lv rest) : GG D X k n pc ws lv rest := by
  obtain ⟨p, l', e, R, s, m, args, below, meth, c, Q, A⟩ := X
  obtain ⟨hx, hb, hml, hown, hts, hK, hA, hR, hl0⟩ := hX
  intro H locs ls hP hD hS hl
  exact W.widen h1 h2 (kk H locs ls hP hD hS hl)
/-- the cells in another order, or fewer -/
theorem xg_pick (hX : OK l D cI X cc nL own rm) {ws' : va_W} (is : List Nat) (hn : va_nd is = true) (h1 : is.filterMap (fun i => ws[i]?) = ws') (h2 : is.map (fun i => ws[i]?) = ws'.map some) (kk : GG D X k n pc ws' lv rest) : GG D X k n pc ws lv rest := by
  obtain ⟨p, l', e, R, s, m, args, below, meth, c, Q, A⟩ := X
  obtain ⟨hx, hb, hml, hown, hts, hK, hA, hR, hl0⟩ := hX
  intro H locs ls hP hD hS hl
  exact kk H locs ls (hP.sub is h1) (hD.sub is hn h2) hS hl
theorem xg_lv (hX : OK l D cI X cc nL own rm) (is : List Nat) (h1 : lv_pick lv is = lv') (kk : GG D X k n pc ws lv' rest) : GG D X k n pc ws lv rest := by
  obtain ⟨p, l', e, R, s, m, args, below, meth, c, Q, A⟩ := X
  obtain ⟨hx, hb, hml, hown, hts, hK, hA, hR, hl0⟩ := hX
  intro H locs ls hP hD hS hl
  exact kk H locs ls hP hD hS (lv_sub hl is h1)
theorem xg_lvE (h1 : lv = lv') (kk : GG D X k n pc ws lv' rest) : GG D X k n pc ws lv rest := by rw [h1]; exact kk
theorem xg_wsE {ws' : va_W} (h1 : ws = ws') (kk : GG D X k n pc ws' lv rest) : GG D X k n pc ws lv rest := by rw [h1]; exact kk
/-- an array's contents under another name -/
theorem xg_ext (hX : OK l D cI X cc nL own rm) {ws' : va_W} (q0 : Nat) {a N : Nat} {f g : Nat → Nat} (ha : ws[q0]? = some (a, .inl (cI, N, .inl (nf f)))) (hfg : ∀ j, j < N → f j = g j) (hws : ws.set q0 (a, .inl (cI, N, .inl (nf g))) = ws') (kk : GG D X k n pc ws' lv rest) : GG D X k n pc ws lv rest := by
  obtain ⟨p, l', e, R, s, m, args, below, meth, c, Q, A⟩ := X
  obtain ⟨hx, hb, hml, hown, hts, hK, hA, hR, hl0⟩ := hX
  intro H locs ls hP hD hS hl
  subst hws
  have he : vp_cell cI (N, .inl (nf f)) = vp_cell cI (N, .inl (nf g)) := by
    rw [vp_cell_i, vp_cell_i]
    unfold arrV
    congr 1
    apply Array.ext
    · simp
    · intro i h1 h2
      simp at h1
      simp [nf, hfg i h1]
  refine kk H locs ls (hP.set hD ha ?_ (fun _ _ => rfl)) (hD.set ha) hS hl
  show H[a]? = some (vp_cell cI (N, .inl (nf g)))
  rw [← he]
  exact hP q0 _ ha
theorem xg_iald (hX : OK l D cI X cc nL own rm) (q0 : Nat) {a N : Nat} {f : Nat → Nat} (i : Nat) (ha : ws[q0]? = some (a, .inl (cI, N, .inl (nf f)))) (hi : i < N) (hN : N < 2147483648) (hdg : decode cc pc = .ok (.iaload, 1)) (kk : GG D X k n (pc + 1) ws lv (.int (nI (f i)) :: rest)) : GG D X k n pc ws lv (.int (nI i) :: .ref a :: rest) := by
  obtain ⟨p, l', e, R, s, m, args, below, meth, c, Q, A⟩ := X
  obtain ⟨hx, hb, hml, hown, hts, hK, hA, hR, hl0⟩ := hX
  intro H locs ls hP hD hS hl
  refine va_iald hx hb hK hP q0 0 ha rfl (vp_in_nI hi hN) hdg ?_
  rw [nI_clamp (show i < 2 ^ 31 by omega)]
  exact kk H locs ls hP hD hS hl
theorem xg_iast (hX : OK l D cI X cc nL own rm) {ws' : va_W} (q0 : Nat) {a N : Nat} {f : Nat → Nat} (i v : Nat) (ha : ws[q0]? = some (a, .inl (cI, N, .inl (nf f)))) (hi : i < N) (hN : N < 2147483648) (hws : ws.set q0 (a, .inl (cI, N, .inl (nf (up f i v)))) = ws') (hdg : decode cc pc = .ok (.iastore, 1)) (kk : GG D X k n (pc + 1) ws' lv rest) : GG D X k n pc ws lv (.int (nI v) :: .int (nI i) :: .ref a :: rest) := by
  obtain ⟨p, l', e, R, s, m, args, below, meth, c, Q, A⟩ := X
  obtain ⟨hx, hb, hml, hown, hts, hK, hA, hR, hl0⟩ := hX
  intro H locs ls hP hD hS hl
  subst hws
  refine va_iast hx hb hK hP hD hS q0 0 ha rfl (vp_in_nI hi hN) hdg (fun H1 locs1 hP1 hD1 hS1 => ?_)
  rw [nI_clamp (show i < 2 ^ 31 by omega), upd_nf] at hP1 hD1
  exact kk H1 locs1 ls hP1 hD1 hS1 hl
theorem xg_alen (hX : OK l D cI X cc nL own rm) (q0 : Nat) {a N : Nat} {f : Nat → Int32} (ha : ws[q0]? = some (a, .inl (cI, N, .inl f))) (hdg : decode cc pc = .ok (.arraylength, 1)) (kk : GG D X k n (pc + 1) ws lv (.int (nI N) :: rest)) : GG D X k n pc ws lv (.ref a :: rest) := by
  obtain ⟨p, l', e, R, s, m, args, below, meth, c, Q, A⟩ := X
  obtain ⟨hx, hb, hml, hown, hts, hK, hA, hR, hl0⟩ := hX
  intro H locs ls hP hD hS hl
  exact va_alen hx hb hK hP q0 0 ha rfl rfl hdg (kk H locs ls hP hD hS hl)

theorem xg_get (hX : OK l D cI X cc nL own rm) {C : String} {T : u_T} {N ci index : Nat} (hc : vwCl[ci]? = some (C, T, N)) (hin : ∀ w ∈ u_ws C T N, w ∈ TB) (q0 : Nat) {a : Nat} {fs : List Value} (he : ws[q0]? = some (a, .inr (ci, fs))) (kf : Nat) (hk : kf < N) (hlink : Cond.fieldLink own index (T kf).1 (T kf).2.1 (T kf).2.2.1 ∈ TB) {v : Value} (hv : fs[kf]? = some v) (hdg : decode cc pc = .ok (.getfield index, 3)) (kk : GG D X k n (pc + 3) ws lv (v :: rest)) : GG D X k n pc ws lv (.ref a :: rest) := by
  obtain ⟨p, l', e, R, s, m, args, below, meth, c, Q, A⟩ := X
  obtain ⟨hx, hb, hml, hown, hts, hK, hA, hR, hl0⟩ := hX
  intro H locs ls hP hD hS hl
  exact va_get hx hb hts hin hown hK hP q0 he hc kf hk (hts _ hlink) (fun _ h => h) hv hdg (kk H locs ls hP hD hS hl)
theorem xg_getN (hX : OK l D cI X cc nL own rm) {C host : String} {T : u_T} {N ci index : Nat} (hc : vwCl[ci]? = some (C, T, N)) (hin : ∀ w ∈ u_ws C T N, w ∈ TB) (q0 : Nat) {a : Nat} {fs : List Value} (he : ws[q0]? = some (a, .inr (ci, fs))) (kf : Nat) (hk : kf < N) (hlink : Cond.fieldLinkNest own index (T kf).1 (T kf).2.1 (T kf).2.2.1 host ∈ TB) {v : Value} (hv : fs[kf]? = some v) (hdg : decode cc pc = .ok (.getfield index, 3)) (kk : GG D X k n (pc + 3) ws lv (v :: rest)) : GG D X k n pc ws lv (.ref a :: rest) := by
  obtain ⟨p, l', e, R, s, m, args, below, meth, c, Q, A⟩ := X
  obtain ⟨hx, hb, hml, hown, hts, hK, hA, hR, hl0⟩ := hX
  intro H locs ls hP hD hS hl
  exact va_getN hx hb hts hin hown hK hP q0 he hc kf hk (hts _ hlink) (fun _ h => h) hv hdg (kk H locs ls hP hD hS hl)
theorem xg_put (hX : OK l D cI X cc nL own rm) {C : String} {T : u_T} {N ci index : Nat} (ty0 : Nat → FieldType) (hty : ∀ k, k < N → parseFieldDescriptor (T k).2.2.1 = some (ty0 k)) (hnm : ∀ a, a < N → ∀ b, b < N → a ≠ b → (T a).2.1 ≠ (T b).2.1) (hc : vwCl[ci]? = some (C, T, N)) (hin : ∀ w ∈ u_ws C T N, w ∈ TB) {ws' : va_W} (q0 : Nat) {a : Nat} {fs : List Value} (he : ws[q0]? = some (a, .inr (ci, fs))) (kf : Nat) (hk : kf < N) (hlink : Cond.fieldLink own index (T kf).1 (T kf).2.1 (T kf).2.2.1 ∈ TB) {v : Value} (hfin : (T kf).2.2.2 = false) (hn : narrow (ty0 kf) v = v) (hfit : fits (ty0 kf) v = true) (hlen : kf < fs.length) (hws : ws.set q0 (a, .inr (ci, fs.set kf v)) = ws') (hdg : decode cc pc = .ok (.putfield index, 3)) (kk : GG D X k n (pc + 3) ws' lv rest) : GG D X k n pc ws lv (v :: .ref a :: rest) := by
  obtain ⟨p, l', e, R, s, m, args, below, meth, c, Q, A⟩ := X
  obtain ⟨hx, hb, hml, hown, hts, hK, hA, hR, hl0⟩ := hX
  intro H locs ls hP hD hS hl
  subst hws
  exact va_put hx hb hts hin ty0 hty hnm hown hK hP hD hS q0 he hc kf hk (hts _ hlink) (fun _ h => h) hfin (hty kf hk) hn hfit hlen hdg (fun H1 locs1 hP1 hD1 hS1 => kk H1 locs1 ls hP1 hD1 hS1 hl)
theorem xg_putN (hX : OK l D cI X cc nL own rm) {C host : String} {T : u_T} {N ci index : Nat} (ty0 : Nat → FieldType) (hty : ∀ k, k < N → parseFieldDescriptor (T k).2.2.1 = some (ty0 k)) (hnm : ∀ a, a < N → ∀ b, b < N → a ≠ b → (T a).2.1 ≠ (T b).2.1) (hc : vwCl[ci]? = some (C, T, N)) (hin : ∀ w ∈ u_ws C T N, w ∈ TB) {ws' : va_W} (q0 : Nat) {a : Nat} {fs : List Value} (he : ws[q0]? = some (a, .inr (ci, fs))) (kf : Nat) (hk : kf < N) (hlink : Cond.fieldLinkNest own index (T kf).1 (T kf).2.1 (T kf).2.2.1 host ∈ TB) {v : Value} (hfin : (T kf).2.2.2 = false) (hn : narrow (ty0 kf) v = v) (hfit : fits (ty0 kf) v = true) (hlen : kf < fs.length) (hws : ws.set q0 (a, .inr (ci, fs.set kf v)) = ws') (hdg : decode cc pc = .ok (.putfield index, 3)) (kk : GG D X k n (pc + 3) ws' lv rest) : GG D X k n pc ws lv (v :: .ref a :: rest) := by
  obtain ⟨p, l', e, R, s, m, args, below, meth, c, Q, A⟩ := X
  obtain ⟨hx, hb, hml, hown, hts, hK, hA, hR, hl0⟩ := hX
  intro H locs ls hP hD hS hl
  subst hws
  exact va_putN hx hb hts hin ty0 hty hnm hown hK hP hD hS q0 he hc kf hk (hts _ hlink) (fun _ h => h) hfin (hty kf hk) hn hfit hlen hdg (fun H1 locs1 hP1 hD1 hS1 => kk H1 locs1 ls hP1 hD1 hS1 hl)
theorem xg_putF (hX : OK l D cI X cc nL own rm) (hini : X.2.2.2.2.2.2.2.2.1.name = "<init>") {C : String} {T : u_T} {N ci index : Nat} (ty0 : Nat → FieldType) (hty : ∀ k, k < N → parseFieldDescriptor (T k).2.2.1 = some (ty0 k)) (hnm : ∀ a, a < N → ∀ b, b < N → a ≠ b → (T a).2.1 ≠ (T b).2.1) (hc : vwCl[ci]? = some (C, T, N)) (hin : ∀ w ∈ u_ws C T N, w ∈ TB) {ws' : va_W} (q0 : Nat) {a : Nat} {fs : List Value} (he : ws[q0]? = some (a, .inr (ci, fs))) (kf : Nat) (hk : kf < N) (hlink : Cond.fieldLink own index (T kf).1 (T kf).2.1 (T kf).2.2.1 ∈ TB) {v : Value} (hfin : (T kf).2.2.2 = true) (hdecl : (T kf).1 = own) (hn : narrow (ty0 kf) v = v) (hfit : fits (ty0 kf) v = true) (hlen : kf < fs.length) (hws : ws.set q0 (a, .inr (ci, fs.set kf v)) = ws') (hdg : decode cc pc = .ok (.putfield index, 3)) (kk : GG D X k n (pc + 3) ws' lv rest) : GG D X k n pc ws lv (v :: .ref a :: rest) := by
  obtain ⟨p, l', e, R, s, m, args, below, meth, c, Q, A⟩ := X
  obtain ⟨hx, hb, hml, hown, hts, hK, hA, hR, hl0⟩ := hX
  intro H locs ls hP hD hS hl
  subst hws
  exact va_putF hx hb hts hin ty0 hty hnm hown hK hP hD hS q0 he hc kf hk (hts _ hlink) (fun _ h => h) hfin hini hdecl (hty kf hk) hn hfit hlen hdg (fun H1 locs1 hP1 hD1 hS1 => kk H1 locs1 ls hP1 hD1 hS1 hl)
theorem xg_new (hX : OK l D cI X cc nL own rm) {C : String} {T : u_T} {N ci index : Nat} (ty0 : Nat → FieldType) (hty : ∀ k, k < N → parseFieldDescriptor (T k).2.2.1 = some (ty0 k)) (hc : vwCl[ci]? = some (C, T, N)) (hin : ∀ w ∈ u_ws C T N, w ∈ TB) (hcl : Cond.classLink own index C ∈ TB) (hinst : Cond.instantiable C N ∈ TB) (hini : Cond.initialized C ∈ TB) (fs : List Value) (hfs : ∀ j, j < N → defaultValue (ty0 j) = vp_V fs j) (hcells : k + 1 ≤ rm.cells) (hslots : n + N ≤ rm.slots) (hdg : decode cc pc = .ok (.new index, 3)) {k' n' : Nat} (hk' : k + 1 = k') (hn' : n + N = n') (kk : ∀ q : Nat, GG D X k' n' (pc + 3) (ws ++ [(q, .inr (ci, fs))]) lv (.ref q :: rest)) : GG D X k n pc ws lv rest := by
  obtain ⟨p, l', e, R, s, m, args, below, meth, c, Q, A⟩ := X
  obtain ⟨hx, hb, hml, hown, hts, hK, hA, hR, hl0⟩ := hX
  intro H locs ls hP hD hS hl
  subst hR; subst hk'; subst hn'
  exact va_new hx hb hts hin ty0 hty hown (hts _ hcl) (hts _ hinst) (hts _ hini) hK hP hD hS hA hc hfs hcells hslots hdg (fun q H1 hP1 hD1 hS1 => kk q H1 locs ls hP1 hD1 hS1 hl)
theorem xg_newa (hX : OK l D cI X cc nL own rm) (harr : Cond.arrayClass .int ∈ TB) (N : Nat) (hN : N < 100000) (hcells : k + 1 ≤ rm.cells) (hslots : n + N ≤ rm.slots) (hdg : decode cc pc = .ok (.newarray .int, 2)) {k' n' : Nat} (hk' : k + 1 = k') (hn' : n + N = n') (kk : ∀ q : Nat, GG D X k' n' (pc + 2) (ws ++ [(q, .inl (cI, N, .inl (nf (fun _ => 0))))]) lv (.ref q :: rest)) : GG D X k n pc ws lv (.int (nI N) :: rest) := by
  obtain ⟨p, l', e, R, s, m, args, below, meth, c, Q, A⟩ := X
  obtain ⟨hx, hb, hml, hown, hts, hK, hA, hR, hl0⟩ := hX
  intro H locs ls hP hD hS hl
  subst hR; subst hk'; subst hn'
  refine va_newa (ty := .int) (a0 := (N, .inl (nf (fun _ => 0)))) (N' := N) hx hb (atype := .int) (hts _ harr) rfl hK hP hD hS hA (fun cA => rfl) (nI_pos (show N < 2 ^ 31 by omega)) (nI_clamp (show N < 2 ^ 31 by omega)) (by show N * 4 ≤ 536870912; omega) hcells hslots hdg (fun q cA H1 hK1 hP1 hD1 hS1 => ?_)
  have h1 : s.vm.findClass ("[" ++ FieldType.int.toString) = some cA := (hK1.2 1 (cA, .int) rfl).2
  have h2 : s.vm.findClass ("[" ++ FieldType.int.toString) = some cI := (hK.2 0 (cI, .int) rfl).2
  rw [h1] at h2
  cases h2
  exact kk q H1 locs ls hP1 hD1 hS1 hl
theorem xg_objInit (hX : OK l D cI X cc nL own rm) {idx a : Nat} (hlink : Cond.methodLink own idx objectInit ∈ TB) (hinst : Cond.instanceMethod objectInit ∈ TB) (hcode : Cond.code objectInit ⟨#[0xb1]⟩ 1 none ∈ TB) (hf : 1 ≤ rm.frames) (hlo : 12 ≤ rm.locals) (hdg : decode cc pc = .ok (.invokespecial idx, 3)) (kk : GG D X k n (pc + 3) ws lv []) : GG D X k n pc ws lv [.ref a] := by
  obtain ⟨p, l', e, R, s, m, args, below, meth, c, Q, A⟩ := X
  obtain ⟨hx, hb, hml, hown, hts, hK, hA, hR, hl0⟩ := hX
  intro H locs ls hP hD hS hl
  subst hR
  refine W.objInit hx hb hown (hts _ hlink) (hts _ hinst) (hts _ hcode) rfl hl.1 rfl hdg hf hlo ?_
  exact W.eq (g2 := F0 m (pc + 3) ls []) rfl (kk H locs ls hP hD hS hl)
theorem xg_labs (hX : OK l D cI X cc nL own rm) {x : Int64} {index : Nat} (hlink : Cond.methodLink own index Lib.MathLoose.abs_long.x ∈ TB) (hstat : Cond.static Lib.MathLoose.abs_long.x ∈ TB) (hini : Cond.initialized "java/lang/Math" ∈ TB) (hcode : Cond.code Lib.MathLoose.abs_long.x Lib.MathLoose.abs_long.code 2 (some .long) ∈ TB) (hf : 1 ≤ rm.frames) (hlo : (rest.map fun v => v.category).sum + 13 ≤ rm.locals) (hc : k ≤ rm.cells) (hs : n ≤ rm.slots) (hdg : decode cc pc = .ok (.invokestatic index, 3)) (kk : GG D X k n (pc + 3) ws lv (.long (if 0 < x then x else -x) :: rest)) : GG D X k n pc ws lv (.long x :: rest) := by
  obtain ⟨p, l', e, R, s, m, args, below, meth, c, Q, A⟩ := X
  obtain ⟨hx, hb, hml, hown, hts, hK, hA, hR, hl0⟩ := hX
  intro H locs ls hP hD hS hl
  subst hR
  exact va_mabs_long hx hb hl.1.symm hown (hts _ hlink) (hts _ hstat) (hts _ hini) (hts _ hcode) hf hlo hc hs hdg (kk H locs ls hP hD hS hl)
theorem xg_cV (hX : OK l D cI X cc nL own rm) {S : Type} {y : MethodName} {cc' : ByteArray} {nL' : Nat} {ret : Option FieldType} {rm' : Room} (b : Nat) (av : List Value) {w0 wr : va_W} {res : S → Option Value} {post : S → Prop} {w : S → va_W} {mc ms : Nat} (hM : Ctr l D cI y cc' nL' ret rm' (.ref b :: av) w0 res post w mc ms) {index : Nat} (isC isR is : List Nat) (rest : List Value) {st : List Value} (hst : st = av.reverse ++ .ref b :: rest)
    (hcode : Cond.code y cc' nL' ret ∈ TB) (hlink : Cond.methodLink own index y ∈ TB) (hini : Cond.initialized y.cls ∈ TB) (hinst : Cond.instanceMethod y ∈ TB) (hsel : Cond.selects y.cls y y ∈ TB) (q1 : Nat) {ci N1 : Nat} {T1 : u_T} {fs : List Value} (he : w0[q1]? = some (b, .inr (ci, fs))) (hcl : vwCl[ci]? = some (y.cls, T1, N1))
    (hd : y.cls ≠ "java/lang/invoke/MethodHandle" ∧ y.cls ≠ "java/lang/invoke/VarHandle" ∧ (parseMethodDescriptor y.desc).map (fun d => d.parameters.length) = some av.length)
    (hRm : rm'.frames + 1 ≤ rm.frames ∧ 8 + (nL' + 11) + rm'.locals ≤ rm.locals) (hrc : rm'.cells = mc ∧ rm'.slots = ms) (hcs : k + mc ≤ rm.cells ∧ n + ms ≤ rm.slots)
    (hC : isC.map (fun i => ws[i]?) = w0.map some) (hCf : isC.filterMap (fun i => ws[i]?) = w0) (hCn : va_nd isC = true) (hRr : isR.map (fun i => ws[i]?) = wr.map some) (hRn : va_nd isR = true) (hdis : ∀ i ∈ isR, i ∉ isC) (hnd : va_nd is = true)
    {ws' : S → va_W} {st' : S → List Value} {k' n' : Nat} (h1 : ∀ u, is.filterMap (fun i => (wr ++ w u)[i]?) = ws' u) (h2 : ∀ u, is.map (fun i => (wr ++ w u)[i]?) = (ws' u).map some) (hst' : ∀ u, (res u).toList ++ rest = st' u) (hk' : k + mc = k') (hn' : n + ms = n')
    (hcat : (rest.map fun v => v.category).sum ≤ 8) (hdg : decode cc pc = .ok (.invokevirtual index, 3)) (kk : ∀ u, post u → GG D X k' n' (pc + 3) (ws' u) lv (st' u)) : GG D X k n pc ws lv st := by
  obtain ⟨p, l', e, R, s, m, args, below, meth, c, Q, A⟩ := X
  obtain ⟨hx, hb, hml, hown, hts, hK, hA, hR, hl0⟩ := hX
  intro H locs ls hP hD hS hl
  subst hR; subst hl0; subst hst
  have hsig : ∀ sig, parseMethodDescriptor y.desc = some sig → av.length = sig.parameters.length := fun sig h => by
    have h2 := hd.2.2
    rw [h] at h2
    exact (Option.some.inj h2).symm
  have hPc := hP.sub (ws' := w0) isC hCf
  have hDc := hD.sub (ws' := w0) isC hCn hC
  exact xg_core isC isR is hP hD hS hl hA hC hRr hRn hdis hnd h1 h2 hst' hk' hn' (va_runV (As := av) (rest := rest) ⟨hx, hb, rfl, hown, hts⟩ (hM H.size) ⟨⟨hrc.1, hrc.2, hRm.1, hRm.2, pay_in hts (xg_good hcode), List.mem_cons_self, hts _ hcode, hts _ hini, ⟨hd.1, hd.2.1⟩, hsig, hts _ hlink⟩, hts _ hinst, hts _ hsel⟩ ⟨xg_blind, va_recv hK hPc hcl he, fun U hU hW => ⟨rfl, by rw [hU], by rw [hU]; exact hPc, va_K.moved hW.alike hK, hDc.weaken (fun _ _ _ _ => trivial)⟩⟩ rfl rfl hl.1 rfl (lv_room hcat) hdg hcs) kk
theorem xg_cVN (hX : OK l D cI X cc nL own rm) {S : Type} {y : MethodName} {host : String} {cc' : ByteArray} {nL' : Nat} {ret : Option FieldType} {rm' : Room} (b : Nat) (av : List Value) {w0 wr : va_W} {res : S → Option Value} {post : S → Prop} {w : S → va_W} {mc ms : Nat} (hM : Ctr l D cI y cc' nL' ret rm' (.ref b :: av) w0 res post w mc ms) {index : Nat} (isC isR is : List Nat) (rest : List Value) {st : List Value} (hst : st = av.reverse ++ .ref b :: rest)
    (hcode : Cond.code y cc' nL' ret ∈ TB) (hlink : Cond.methodLinkNest own index y host ∈ TB) (hini : Cond.initialized y.cls ∈ TB) (hinst : Cond.instanceMethod y ∈ TB) (hsel : Cond.selects y.cls y y ∈ TB) (q1 : Nat) {ci N1 : Nat} {T1 : u_T} {fs : List Value} (he : w0[q1]? = some (b, .inr (ci, fs))) (hcl : vwCl[ci]? = some (y.cls, T1, N1))
    (hd : y.cls ≠ "java/lang/invoke/MethodHandle" ∧ y.cls ≠ "java/lang/invoke/VarHandle" ∧ (parseMethodDescriptor y.desc).map (fun d => d.parameters.length) = some av.length)
    (hRm : rm'.frames + 1 ≤ rm.frames ∧ 8 + (nL' + 11) + rm'.locals ≤ rm.locals) (hrc : rm'.cells = mc ∧ rm'.slots = ms) (hcs : k + mc ≤ rm.cells ∧ n + ms ≤ rm.slots)
    (hC : isC.map (fun i => ws[i]?) = w0.map some) (hCf : isC.filterMap (fun i => ws[i]?) = w0) (hCn : va_nd isC = true) (hRr : isR.map (fun i => ws[i]?) = wr.map some) (hRn : va_nd isR = true) (hdis : ∀ i ∈ isR, i ∉ isC) (hnd : va_nd is = true)
    {ws' : S → va_W} {st' : S → List Value} {k' n' : Nat} (h1 : ∀ u, is.filterMap (fun i => (wr ++ w u)[i]?) = ws' u) (h2 : ∀ u, is.map (fun i => (wr ++ w u)[i]?) = (ws' u).map some) (hst' : ∀ u, (res u).toList ++ rest = st' u) (hk' : k + mc = k') (hn' : n + ms = n')
    (hcat : (rest.map fun v => v.category).sum ≤ 8) (hdg : decode cc pc = .ok (.invokevirtual index, 3)) (kk : ∀ u, post u → GG D X k' n' (pc + 3) (ws' u) lv (st' u)) : GG D X k n pc ws lv st := by
  obtain ⟨p, l', e, R, s, m, args, below, meth, c, Q, A⟩ := X
  obtain ⟨hx, hb, hml, hown, hts, hK, hA, hR, hl0⟩ := hX
  intro H locs ls hP hD hS hl
  subst hR; subst hl0; subst hst
  have hsig : ∀ sig, parseMethodDescriptor y.desc = some sig → av.length = sig.parameters.length := fun sig h => by
    have h2 := hd.2.2
    rw [h] at h2
    exact (Option.some.inj h2).symm
  have hPc := hP.sub (ws' := w0) isC hCf
  have hDc := hD.sub (ws' := w0) isC hCn hC
  exact xg_core isC isR is hP hD hS hl hA hC hRr hRn hdis hnd h1 h2 hst' hk' hn' (va_runVN (As := av) (rest := rest) ⟨hx, hb, rfl, hown, hts⟩ (hM H.size) ⟨⟨⟨hrc.1, hrc.2, hRm.1, hRm.2, pay_in hts (xg_good hcode), List.mem_cons_self⟩, hts _ hcode, hts _ hini, ⟨hd.1, hd.2.1⟩, hsig, hts _ hlink⟩, hts _ hinst, hts _ hsel⟩ ⟨xg_blind, va_recv hK hPc hcl he, fun U hU hW => ⟨rfl, by rw [hU], by rw [hU]; exact hPc, va_K.moved hW.alike hK, hDc.weaken (fun _ _ _ _ => trivial)⟩⟩ rfl rfl hl.1 rfl (lv_room hcat) hdg hcs) kk
theorem xg_cS (hX : OK l D cI X cc nL own rm) {S : Type} {y : MethodName} {cc' : ByteArray} {nL' : Nat} {ret : Option FieldType} {rm' : Room} (av : List Value) {w0 wr : va_W} {res : S → Option Value} {post : S → Prop} {w : S → va_W} {mc ms : Nat} (hM : Ctr l D cI y cc' nL' ret rm' (av) w0 res post w mc ms) {index : Nat} (isC isR is : List Nat) (rest : List Value) {st : List Value} (hst : st = av.reverse ++ rest)
    (hcode : Cond.code y cc' nL' ret ∈ TB) (hlink : Cond.methodLink own index y ∈ TB) (hini : Cond.initialized y.cls ∈ TB) (hstat : Cond.static y ∈ TB)
    (hd : y.cls ≠ "java/lang/invoke/MethodHandle" ∧ y.cls ≠ "java/lang/invoke/VarHandle" ∧ (parseMethodDescriptor y.desc).map (fun d => d.parameters.length) = some av.length)
    (hRm : rm'.frames + 1 ≤ rm.frames ∧ 8 + (nL' + 11) + rm'.locals ≤ rm.locals) (hrc : rm'.cells = mc ∧ rm'.slots = ms) (hcs : k + mc ≤ rm.cells ∧ n + ms ≤ rm.slots)
    (hC : isC.map (fun i => ws[i]?) = w0.map some) (hCf : isC.filterMap (fun i => ws[i]?) = w0) (hCn : va_nd isC = true) (hRr : isR.map (fun i => ws[i]?) = wr.map some) (hRn : va_nd isR = true) (hdis : ∀ i ∈ isR, i ∉ isC) (hnd : va_nd is = true)
    {ws' : S → va_W} {st' : S → List Value} {k' n' : Nat} (h1 : ∀ u, is.filterMap (fun i => (wr ++ w u)[i]?) = ws' u) (h2 : ∀ u, is.map (fun i => (wr ++ w u)[i]?) = (ws' u).map some) (hst' : ∀ u, (res u).toList ++ rest = st' u) (hk' : k + mc = k') (hn' : n + ms = n')
    (hcat : (rest.map fun v => v.category).sum ≤ 8) (hdg : decode cc pc = .ok (.invokestatic index, 3)) (kk : ∀ u, post u → GG D X k' n' (pc + 3) (ws' u) lv (st' u)) : GG D X k n pc ws lv st := by
  obtain ⟨p, l', e, R, s, m, args, below, meth, c, Q, A⟩ := X
  obtain ⟨hx, hb, hml, hown, hts, hK, hA, hR, hl0⟩ := hX
  intro H locs ls hP hD hS hl
  subst hR; subst hl0; subst hst
  have hsig : ∀ sig, parseMethodDescriptor y.desc = some sig → av.length = sig.parameters.length := fun sig h => by
    have h2 := hd.2.2
    rw [h] at h2
    exact (Option.some.inj h2).symm
  have hPc := hP.sub (ws' := w0) isC hCf
  have hDc := hD.sub (ws' := w0) isC hCn hC
  exact xg_core isC isR is hP hD hS hl hA hC hRr hRn hdis hnd h1 h2 hst' hk' hn' (va_runS (As := av) (rest := rest) ⟨hx, hb, rfl, hown, hts⟩ (hM H.size) ⟨⟨hrc.1, hrc.2, hRm.1, hRm.2, pay_in hts (xg_good hcode), List.mem_cons_self, hts _ hcode, hts _ hini, ⟨hd.1, hd.2.1⟩, hsig, hts _ hlink⟩, hts _ hstat⟩ ⟨xg_blind, fun U hU hW => ⟨rfl, by rw [hU], by rw [hU]; exact hPc, va_K.moved hW.alike hK, hDc.weaken (fun _ _ _ _ => trivial)⟩⟩ rfl rfl hl.1 rfl (lv_room hcat) hdg hcs) kk
theorem xg_cSN (hX : OK l D cI X cc nL own rm) {S : Type} {y : MethodName} {host : String} {cc' : ByteArray} {nL' : Nat} {ret : Option FieldType} {rm' : Room} (av : List Value) {w0 wr : va_W} {res : S → Option Value} {post : S → Prop} {w : S → va_W} {mc ms : Nat} (hM : Ctr l D cI y cc' nL' ret rm' (av) w0 res post w mc ms) {index : Nat} (isC isR is : List Nat) (rest : List Value) {st : List Value} (hst : st = av.reverse ++ rest)
    (hcode : Cond.code y cc' nL' ret ∈ TB) (hlink : Cond.methodLinkNest own index y host ∈ TB) (hini : Cond.initialized y.cls ∈ TB) (hstat : Cond.static y ∈ TB)
    (hd : y.cls ≠ "java/lang/invoke/MethodHandle" ∧ y.cls ≠ "java/lang/invoke/VarHandle" ∧ (parseMethodDescriptor y.desc).map (fun d => d.parameters.length) = some av.length)
    (hRm : rm'.frames + 1 ≤ rm.frames ∧ 8 + (nL' + 11) + rm'.locals ≤ rm.locals) (hrc : rm'.cells = mc ∧ rm'.slots = ms) (hcs : k + mc ≤ rm.cells ∧ n + ms ≤ rm.slots)
    (hC : isC.map (fun i => ws[i]?) = w0.map some) (hCf : isC.filterMap (fun i => ws[i]?) = w0) (hCn : va_nd isC = true) (hRr : isR.map (fun i => ws[i]?) = wr.map some) (hRn : va_nd isR = true) (hdis : ∀ i ∈ isR, i ∉ isC) (hnd : va_nd is = true)
    {ws' : S → va_W} {st' : S → List Value} {k' n' : Nat} (h1 : ∀ u, is.filterMap (fun i => (wr ++ w u)[i]?) = ws' u) (h2 : ∀ u, is.map (fun i => (wr ++ w u)[i]?) = (ws' u).map some) (hst' : ∀ u, (res u).toList ++ rest = st' u) (hk' : k + mc = k') (hn' : n + ms = n')
    (hcat : (rest.map fun v => v.category).sum ≤ 8) (hdg : decode cc pc = .ok (.invokestatic index, 3)) (kk : ∀ u, post u → GG D X k' n' (pc + 3) (ws' u) lv (st' u)) : GG D X k n pc ws lv st := by
  obtain ⟨p, l', e, R, s, m, args, below, meth, c, Q, A⟩ := X
  obtain ⟨hx, hb, hml, hown, hts, hK, hA, hR, hl0⟩ := hX
  intro H locs ls hP hD hS hl
  subst hR; subst hl0; subst hst
  have hsig : ∀ sig, parseMethodDescriptor y.desc = some sig → av.length = sig.parameters.length := fun sig h => by
    have h2 := hd.2.2
    rw [h] at h2
    exact (Option.some.inj h2).symm
  have hPc := hP.sub (ws' := w0) isC hCf
  have hDc := hD.sub (ws' := w0) isC hCn hC
  exact xg_core isC isR is hP hD hS hl hA hC hRr hRn hdis hnd h1 h2 hst' hk' hn' (va_runSN (As := av) (rest := rest) ⟨hx, hb, rfl, hown, hts⟩ (hM H.size) ⟨⟨⟨hrc.1, hrc.2, hRm.1, hRm.2, pay_in hts (xg_good hcode), List.mem_cons_self⟩, hts _ hcode, hts _ hini, ⟨hd.1, hd.2.1⟩, hsig, hts _ hlink⟩, hts _ hstat, trivial⟩ ⟨xg_blind, fun U hU hW => ⟨rfl, by rw [hU], by rw [hU]; exact hPc, va_K.moved hW.alike hK, hDc.weaken (fun _ _ _ _ => trivial)⟩⟩ rfl rfl hl.1 rfl (lv_room hcat) hdg hcs) kk
theorem xg_cI (hX : OK l D cI X cc nL own rm) {S : Type} {y : MethodName} {cc' : ByteArray} {nL' : Nat} {rm' : Room} (b : Nat) (av : List Value) {w0 wr : va_W} {res : S → Option Value} {post : S → Prop} {w : S → va_W} {mc ms : Nat} (hM : Ctr l D cI y cc' nL' none rm' (.ref b :: av) w0 res post w mc ms) {index : Nat} (isC isR is : List Nat) (rest : List Value) {st : List Value} (hst : st = av.reverse ++ .ref b :: rest)
    (hcode : Cond.code y cc' nL' none ∈ TB) (hlink : Cond.methodLink own index y ∈ TB) (hini : Cond.initialized y.cls ∈ TB) (hinst : Cond.instanceMethod y ∈ TB) (hnm : y.name = "<init>")
    (hd : y.cls ≠ "java/lang/invoke/MethodHandle" ∧ y.cls ≠ "java/lang/invoke/VarHandle" ∧ (parseMethodDescriptor y.desc).map (fun d => d.parameters.length) = some av.length)
    (hRm : rm'.frames + 1 ≤ rm.frames ∧ 8 + (nL' + 11) + rm'.locals ≤ rm.locals) (hrc : rm'.cells = mc ∧ rm'.slots = ms) (hcs : k + mc ≤ rm.cells ∧ n + ms ≤ rm.slots)
    (hC : isC.map (fun i => ws[i]?) = w0.map some) (hCf : isC.filterMap (fun i => ws[i]?) = w0) (hCn : va_nd isC = true) (hRr : isR.map (fun i => ws[i]?) = wr.map some) (hRn : va_nd isR = true) (hdis : ∀ i ∈ isR, i ∉ isC) (hnd : va_nd is = true)
    {ws' : S → va_W} {st' : S → List Value} {k' n' : Nat} (h1 : ∀ u, is.filterMap (fun i => (wr ++ w u)[i]?) = ws' u) (h2 : ∀ u, is.map (fun i => (wr ++ w u)[i]?) = (ws' u).map some) (hst' : ∀ u, (res u).toList ++ rest = st' u) (hk' : k + mc = k') (hn' : n + ms = n')
    (hcat : (rest.map fun v => v.category).sum ≤ 8) (hdg : decode cc pc = .ok (.invokespecial index, 3)) (kk : ∀ u, post u → GG D X k' n' (pc + 3) (ws' u) lv (st' u)) : GG D X k n pc ws lv st := by
  obtain ⟨p, l', e, R, s, m, args, below, meth, c, Q, A⟩ := X
  obtain ⟨hx, hb, hml, hown, hts, hK, hA, hR, hl0⟩ := hX
  intro H locs ls hP hD hS hl
  subst hR; subst hl0; subst hst
  have hsig : ∀ sig, parseMethodDescriptor y.desc = some sig → av.length = sig.parameters.length := fun sig h => by
    have h2 := hd.2.2
    rw [h] at h2
    exact (Option.some.inj h2).symm
  have hPc := hP.sub (ws' := w0) isC hCf
  have hDc := hD.sub (ws' := w0) isC hCn hC
  exact xg_core isC isR is hP hD hS hl hA hC hRr hRn hdis hnd h1 h2 hst' hk' hn' (va_runI (As := av) (rest := rest) ⟨hx, hb, rfl, hown, hts⟩ (hM H.size) ⟨⟨hrc.1, hrc.2, hRm.1, hRm.2, pay_in hts (xg_good hcode), List.mem_cons_self, hts _ hcode, hts _ hini, ⟨hd.1, hd.2.1⟩, hsig, hts _ hlink⟩, hnm, hts _ hinst⟩ ⟨xg_blind, fun U hU hW => ⟨rfl, by rw [hU], by rw [hU]; exact hPc, va_K.moved hW.alike hK, hDc.weaken (fun _ _ _ _ => trivial)⟩⟩ rfl rfl hl.1 rfl (lv_room hcat) hdg hcs) kk
theorem xg_cIN (hX : OK l D cI X cc nL own rm) {S : Type} {y : MethodName} {host : String} {cc' : ByteArray} {nL' : Nat} {rm' : Room} (b : Nat) (av : List Value) {w0 wr : va_W} {res : S → Option Value} {post : S → Prop} {w : S → va_W} {mc ms : Nat} (hM : Ctr l D cI y cc' nL' none rm' (.ref b :: av) w0 res post w mc ms) {index : Nat} (isC isR is : List Nat) (rest : List Value) {st : List Value} (hst : st = av.reverse ++ .ref b :: rest)
    (hcode : Cond.code y cc' nL' none ∈ TB) (hlink : Cond.methodLinkNest own index y host ∈ TB) (hini : Cond.initialized y.cls ∈ TB) (hinst : Cond.instanceMethod y ∈ TB) (hnm : y.name = "<init>")
    (hd : y.cls ≠ "java/lang/invoke/MethodHandle" ∧ y.cls ≠ "java/lang/invoke/VarHandle" ∧ (parseMethodDescriptor y.desc).map (fun d => d.parameters.length) = some av.length)
    (hRm : rm'.frames + 1 ≤ rm.frames ∧ 8 + (nL' + 11) + rm'.locals ≤ rm.locals) (hrc : rm'.cells = mc ∧ rm'.slots = ms) (hcs : k + mc ≤ rm.cells ∧ n + ms ≤ rm.slots)
    (hC : isC.map (fun i => ws[i]?) = w0.map some) (hCf : isC.filterMap (fun i => ws[i]?) = w0) (hCn : va_nd isC = true) (hRr : isR.map (fun i => ws[i]?) = wr.map some) (hRn : va_nd isR = true) (hdis : ∀ i ∈ isR, i ∉ isC) (hnd : va_nd is = true)
    {ws' : S → va_W} {st' : S → List Value} {k' n' : Nat} (h1 : ∀ u, is.filterMap (fun i => (wr ++ w u)[i]?) = ws' u) (h2 : ∀ u, is.map (fun i => (wr ++ w u)[i]?) = (ws' u).map some) (hst' : ∀ u, (res u).toList ++ rest = st' u) (hk' : k + mc = k') (hn' : n + ms = n')
    (hcat : (rest.map fun v => v.category).sum ≤ 8) (hdg : decode cc pc = .ok (.invokespecial index, 3)) (kk : ∀ u, post u → GG D X k' n' (pc + 3) (ws' u) lv (st' u)) : GG D X k n pc ws lv st := by
  obtain ⟨p, l', e, R, s, m, args, below, meth, c, Q, A⟩ := X
  obtain ⟨hx, hb, hml, hown, hts, hK, hA, hR, hl0⟩ := hX
  intro H locs ls hP hD hS hl
  subst hR; subst hl0; subst hst
  have hsig : ∀ sig, parseMethodDescriptor y.desc = some sig → av.length = sig.parameters.length := fun sig h => by
    have h2 := hd.2.2
    rw [h] at h2
    exact (Option.some.inj h2).symm
  have hPc := hP.sub (ws' := w0) isC hCf
  have hDc := hD.sub (ws' := w0) isC hCn hC
  exact xg_core isC isR is hP hD hS hl hA hC hRr hRn hdis hnd h1 h2 hst' hk' hn' (va_runIN (As := av) (rest := rest) ⟨hx, hb, rfl, hown, hts⟩ (hM H.size) ⟨⟨⟨hrc.1, hrc.2, hRm.1, hRm.2, pay_in hts (xg_good hcode), List.mem_cons_self⟩, hts _ hcode, hts _ hini, ⟨hd.1, hd.2.1⟩, hsig, hts _ hlink⟩, hnm, hts _ hinst⟩ ⟨xg_blind, fun U hU hW => ⟨rfl, by rw [hU], by rw [hU]; exact hPc, va_K.moved hW.alike hK, hDc.weaken (fun _ _ _ _ => trivial)⟩⟩ rfl rfl hl.1 rfl (lv_room hcat) hdg hcs) kk
end RU
