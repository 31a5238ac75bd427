section
-- ===== PART A: goes FIRST, ahead of the names: the tables' words, and 'selects' of the private methods out of them =====
/-- a private method of a class that the tables say can be made, by its rows of tables_1 -/
def lw_okq (q : MethodName × Nat) : Prop := (q.1.cls ≠ "java/lang/invoke/MethodHandle" ∧ q.1.cls ≠ "java/lang/invoke/VarHandle") ∧ Cond.instantiable q.1.cls q.2 ∈ tables_1 ∧ Cond.privateMethod q.1 ∈ tables_1 ∧ Cond.instanceMethod q.1 ∈ tables_1
theorem lw_p0 : lw_okq (⟨"DigitRows", "readOperands", "(IIIIII)I"⟩, 7) := ⟨⟨by decide +kernel, by decide +kernel⟩, List.mem_of_getElem? (i := 8) (by decide +kernel), List.mem_of_getElem? (i := 103) (by decide +kernel), List.mem_of_getElem? (i := 104) (by decide +kernel)⟩
theorem lw_p1 : lw_okq (⟨"DigitRows", "readDecimal", "(LDigitRows$Row;II)Z"⟩, 7) := ⟨⟨by decide +kernel, by decide +kernel⟩, List.mem_of_getElem? (i := 8) (by decide +kernel), List.mem_of_getElem? (i := 110) (by decide +kernel), List.mem_of_getElem? (i := 111) (by decide +kernel)⟩
theorem lw_p2 : lw_okq (⟨"DigitRows", "halfFromEnd", "(III)I"⟩, 7) := ⟨⟨by decide +kernel, by decide +kernel⟩, List.mem_of_getElem? (i := 8) (by decide +kernel), List.mem_of_getElem? (i := 114) (by decide +kernel), List.mem_of_getElem? (i := 115) (by decide +kernel)⟩
theorem lw_p3 : lw_okq (⟨"DigitRows$Row", "addSizes", "(LDigitRows$Row;LDigitRows$Row;)V"⟩, 2) := ⟨⟨by decide +kernel, by decide +kernel⟩, List.mem_of_getElem? (i := 16) (by decide +kernel), List.mem_of_getElem? (i := 151) (by decide +kernel), List.mem_of_getElem? (i := 152) (by decide +kernel)⟩
theorem lw_p4 : lw_okq (⟨"DigitRows$Row", "subtractSizes", "(LDigitRows$Row;LDigitRows$Row;)V"⟩, 2) := ⟨⟨by decide +kernel, by decide +kernel⟩, List.mem_of_getElem? (i := 16) (by decide +kernel), List.mem_of_getElem? (i := 160) (by decide +kernel), List.mem_of_getElem? (i := 161) (by decide +kernel)⟩
theorem lw_p5 : lw_okq (⟨"DigitRows", "writeDecimal", "(LDigitRows$Row;II)I"⟩, 7) := ⟨⟨by decide +kernel, by decide +kernel⟩, List.mem_of_getElem? (i := 8) (by decide +kernel), List.mem_of_getElem? (i := 164) (by decide +kernel), List.mem_of_getElem? (i := 165) (by decide +kernel)⟩
theorem lw_p6 : lw_okq (⟨"DigitRows$Row", "addMultiple", "(LDigitRows$Row;II)V"⟩, 2) := ⟨⟨by decide +kernel, by decide +kernel⟩, List.mem_of_getElem? (i := 16) (by decide +kernel), List.mem_of_getElem? (i := 186) (by decide +kernel), List.mem_of_getElem? (i := 187) (by decide +kernel)⟩
theorem lw_p7 : lw_okq (⟨"DigitRows$Row", "bringDown", "(I)V"⟩, 2) := ⟨⟨by decide +kernel, by decide +kernel⟩, List.mem_of_getElem? (i := 16) (by decide +kernel), List.mem_of_getElem? (i := 199) (by decide +kernel), List.mem_of_getElem? (i := 200) (by decide +kernel)⟩
theorem lw_p8 : lw_okq (⟨"DigitRows$Row", "takeAway", "(LDigitRows$Row;)I"⟩, 2) := ⟨⟨by decide +kernel, by decide +kernel⟩, List.mem_of_getElem? (i := 16) (by decide +kernel), List.mem_of_getElem? (i := 203) (by decide +kernel), List.mem_of_getElem? (i := 204) (by decide +kernel)⟩
theorem lw_p9 : lw_okq (⟨"DigitRows", "readCharacters", "(LDigitRows$Row;II)Z"⟩, 7) := ⟨⟨by decide +kernel, by decide +kernel⟩, List.mem_of_getElem? (i := 8) (by decide +kernel), List.mem_of_getElem? (i := 258) (by decide +kernel), List.mem_of_getElem? (i := 259) (by decide +kernel)⟩
theorem lw_p10 : lw_okq (⟨"DigitRows", "followPattern", "(I)Z"⟩, 7) := ⟨⟨by decide +kernel, by decide +kernel⟩, List.mem_of_getElem? (i := 8) (by decide +kernel), List.mem_of_getElem? (i := 272) (by decide +kernel), List.mem_of_getElem? (i := 273) (by decide +kernel)⟩
theorem lw_p11 : lw_okq (⟨"DigitRows$Writing", "writeDigits", "(IZ)Z"⟩, 9) := ⟨⟨by decide +kernel, by decide +kernel⟩, List.mem_of_getElem? (i := 32) (by decide +kernel), List.mem_of_getElem? (i := 283) (by decide +kernel), List.mem_of_getElem? (i := 284) (by decide +kernel)⟩
theorem lw_p12 : lw_okq (⟨"DigitRows$Writing", "writeDigit", "(IZ)Z"⟩, 9) := ⟨⟨by decide +kernel, by decide +kernel⟩, List.mem_of_getElem? (i := 32) (by decide +kernel), List.mem_of_getElem? (i := 287) (by decide +kernel), List.mem_of_getElem? (i := 288) (by decide +kernel)⟩
theorem lw_p13 : lw_okq (⟨"DigitRows$Writing", "write", "(I)Z"⟩, 9) := ⟨⟨by decide +kernel, by decide +kernel⟩, List.mem_of_getElem? (i := 32) (by decide +kernel), List.mem_of_getElem? (i := 291) (by decide +kernel), List.mem_of_getElem? (i := 292) (by decide +kernel)⟩
theorem lw_p14 : lw_okq (⟨"DigitRows$Writing", "writeFills", "(I)Z"⟩, 9) := ⟨⟨by decide +kernel, by decide +kernel⟩, List.mem_of_getElem? (i := 32) (by decide +kernel), List.mem_of_getElem? (i := 295) (by decide +kernel), List.mem_of_getElem? (i := 296) (by decide +kernel)⟩
theorem lw_p15 : lw_okq (⟨"DigitRows$Writing", "obeyWithNext", "(II)Z"⟩, 9) := ⟨⟨by decide +kernel, by decide +kernel⟩, List.mem_of_getElem? (i := 32) (by decide +kernel), List.mem_of_getElem? (i := 302) (by decide +kernel), List.mem_of_getElem? (i := 303) (by decide +kernel)⟩
def lw_privs_1 : List (MethodName × Nat) := [(⟨"DigitRows", "readOperands", "(IIIIII)I"⟩, 7), (⟨"DigitRows", "readDecimal", "(LDigitRows$Row;II)Z"⟩, 7), (⟨"DigitRows", "halfFromEnd", "(III)I"⟩, 7), (⟨"DigitRows$Row", "addSizes", "(LDigitRows$Row;LDigitRows$Row;)V"⟩, 2), (⟨"DigitRows$Row", "subtractSizes", "(LDigitRows$Row;LDigitRows$Row;)V"⟩, 2), (⟨"DigitRows", "writeDecimal", "(LDigitRows$Row;II)I"⟩, 7), (⟨"DigitRows$Row", "addMultiple", "(LDigitRows$Row;II)V"⟩, 2), (⟨"DigitRows$Row", "bringDown", "(I)V"⟩, 2), (⟨"DigitRows$Row", "takeAway", "(LDigitRows$Row;)I"⟩, 2), (⟨"DigitRows", "readCharacters", "(LDigitRows$Row;II)Z"⟩, 7), (⟨"DigitRows", "followPattern", "(I)Z"⟩, 7), (⟨"DigitRows$Writing", "writeDigits", "(IZ)Z"⟩, 9), (⟨"DigitRows$Writing", "writeDigit", "(IZ)Z"⟩, 9), (⟨"DigitRows$Writing", "write", "(I)Z"⟩, 9), (⟨"DigitRows$Writing", "writeFills", "(I)Z"⟩, 9), (⟨"DigitRows$Writing", "obeyWithNext", "(II)Z"⟩, 9)]
theorem lw_r1 : ∀ q ∈ lw_privs_1, lw_okq q := List.forall_mem_cons.mpr ⟨lw_p0, List.forall_mem_cons.mpr ⟨lw_p1, List.forall_mem_cons.mpr ⟨lw_p2, List.forall_mem_cons.mpr ⟨lw_p3, List.forall_mem_cons.mpr ⟨lw_p4, List.forall_mem_cons.mpr ⟨lw_p5, List.forall_mem_cons.mpr ⟨lw_p6, List.forall_mem_cons.mpr ⟨lw_p7, List.forall_mem_cons.mpr ⟨lw_p8, List.forall_mem_cons.mpr ⟨lw_p9, List.forall_mem_cons.mpr ⟨lw_p10, List.forall_mem_cons.mpr ⟨lw_p11, List.forall_mem_cons.mpr ⟨lw_p12, List.forall_mem_cons.mpr ⟨lw_p13, List.forall_mem_cons.mpr ⟨lw_p14, List.forall_mem_cons.mpr ⟨lw_p15, fun _ h => absurd h List.not_mem_nil⟩⟩⟩⟩⟩⟩⟩⟩⟩⟩⟩⟩⟩⟩⟩⟩
theorem lw_p16 : lw_okq (⟨"DigitRows$Writing", "fillLast", "(I)Z"⟩, 9) := ⟨⟨by decide +kernel, by decide +kernel⟩, List.mem_of_getElem? (i := 32) (by decide +kernel), List.mem_of_getElem? (i := 306) (by decide +kernel), List.mem_of_getElem? (i := 307) (by decide +kernel)⟩
theorem lw_p17 : lw_okq (⟨"DigitRowsModel", "three", "(IIIIII)I"⟩, 10) := ⟨⟨by decide +kernel, by decide +kernel⟩, List.mem_of_getElem? (i := 319) (by decide +kernel), List.mem_of_getElem? (i := 368) (by decide +kernel), List.mem_of_getElem? (i := 369) (by decide +kernel)⟩
theorem lw_p18 : lw_okq (⟨"DigitRowsModel", "reads", "(IIII)I"⟩, 10) := ⟨⟨by decide +kernel, by decide +kernel⟩, List.mem_of_getElem? (i := 319) (by decide +kernel), List.mem_of_getElem? (i := 381) (by decide +kernel), List.mem_of_getElem? (i := 382) (by decide +kernel)⟩
theorem lw_p19 : lw_okq (⟨"DigitRowsModel", "read", "(II[I)I"⟩, 10) := ⟨⟨by decide +kernel, by decide +kernel⟩, List.mem_of_getElem? (i := 319) (by decide +kernel), List.mem_of_getElem? (i := 385) (by decide +kernel), List.mem_of_getElem? (i := 386) (by decide +kernel)⟩
theorem lw_p20 : lw_okq (⟨"DigitRowsModel", "adds", "()V"⟩, 10) := ⟨⟨by decide +kernel, by decide +kernel⟩, List.mem_of_getElem? (i := 319) (by decide +kernel), List.mem_of_getElem? (i := 389) (by decide +kernel), List.mem_of_getElem? (i := 390) (by decide +kernel)⟩
theorem lw_p21 : lw_okq (⟨"DigitRowsModel", "write", "(II)I"⟩, 10) := ⟨⟨by decide +kernel, by decide +kernel⟩, List.mem_of_getElem? (i := 319) (by decide +kernel), List.mem_of_getElem? (i := 396) (by decide +kernel), List.mem_of_getElem? (i := 397) (by decide +kernel)⟩
theorem lw_p22 : lw_okq (⟨"DigitRowsModel", "cuts", "(I)Z"⟩, 10) := ⟨⟨by decide +kernel, by decide +kernel⟩, List.mem_of_getElem? (i := 319) (by decide +kernel), List.mem_of_getElem? (i := 400) (by decide +kernel), List.mem_of_getElem? (i := 401) (by decide +kernel)⟩
theorem lw_p23 : lw_okq (⟨"DigitRowsModel", "flags", "(Z)I"⟩, 10) := ⟨⟨by decide +kernel, by decide +kernel⟩, List.mem_of_getElem? (i := 319) (by decide +kernel), List.mem_of_getElem? (i := 404) (by decide +kernel), List.mem_of_getElem? (i := 405) (by decide +kernel)⟩
def lw_privs_2 : List (MethodName × Nat) := [(⟨"DigitRows$Writing", "fillLast", "(I)Z"⟩, 9), (⟨"DigitRowsModel", "three", "(IIIIII)I"⟩, 10), (⟨"DigitRowsModel", "reads", "(IIII)I"⟩, 10), (⟨"DigitRowsModel", "read", "(II[I)I"⟩, 10), (⟨"DigitRowsModel", "adds", "()V"⟩, 10), (⟨"DigitRowsModel", "write", "(II)I"⟩, 10), (⟨"DigitRowsModel", "cuts", "(I)Z"⟩, 10), (⟨"DigitRowsModel", "flags", "(Z)I"⟩, 10)]
theorem lw_r2 : ∀ q ∈ lw_privs_2, lw_okq q := List.forall_mem_cons.mpr ⟨lw_p16, List.forall_mem_cons.mpr ⟨lw_p17, List.forall_mem_cons.mpr ⟨lw_p18, List.forall_mem_cons.mpr ⟨lw_p19, List.forall_mem_cons.mpr ⟨lw_p20, List.forall_mem_cons.mpr ⟨lw_p21, List.forall_mem_cons.mpr ⟨lw_p22, List.forall_mem_cons.mpr ⟨lw_p23, fun _ h => absurd h List.not_mem_nil⟩⟩⟩⟩⟩⟩⟩⟩
def lw_privs : List (MethodName × Nat) := lw_privs_1 ++ (lw_privs_2)
def lw_tbl : List Cond := k2_sels lw_privs ++ tables_1
theorem lw_privs_ok : ∀ q ∈ lw_privs, lw_okq q := by
  show ∀ q ∈ lw_privs_1 ++ (lw_privs_2), lw_okq q
  exact List.forall_mem_append.mpr ⟨lw_r1, lw_r2⟩
-- ===== end of PART A =====
def TB : List Cond := lw_tbl.filter goodWord
theorem tb_good : GoodIn TB TB := fun w hw => ⟨hw, good_of_word (List.mem_filter.mp hw).2⟩
theorem tb_in {w : Cond} (h : w ∈ tables_1) (hg : goodWord w = true) : w ∈ TB := List.mem_filter.mpr ⟨List.mem_append_right _ h, hg⟩
theorem tb_ip {w : Cond} (h : w ∈ k2_sels lw_privs) (hg : goodWord w = true) : w ∈ TB := List.mem_filter.mpr ⟨List.mem_append_left _ h, hg⟩
def TR : u_T := fun k => match k with
  | 0 => ("DigitRows$Row", "places", "[I", true)
  | _ => ("DigitRows$Row", "minus", "Z", false)
def tyR : Nat → FieldType := fun k => match k with
  | 0 => .array .int
  | _ => .boolean
theorem nmR : ∀ a, a < 2 → ∀ b, b < 2 → a ≠ b → (TR a).2.1 ≠ (TR b).2.1 := by decide +kernel
theorem tyR_ok : ∀ k, k < 2 → parseFieldDescriptor (TR k).2.2.1 = some (tyR k) := by decide +kernel
theorem hinR : ∀ w ∈ u_ws "DigitRows$Row" TR 2, w ∈ TB := by decide +kernel
def TW : u_T := fun k => match k with
  | 0 => ("DigitRows$Writing", "written", "[I", true)
  | 1 => ("DigitRows$Writing", "digitsToTake", "[I", true)
  | 2 => ("DigitRows$Writing", "count", "I", false)
  | 3 => ("DigitRows$Writing", "digitsLeft", "I", false)
  | 4 => ("DigitRows$Writing", "significance", "Z", false)
  | 5 => ("DigitRows$Writing", "below", "Z", false)
  | 6 => ("DigitRows$Writing", "zero", "Z", false)
  | 7 => ("DigitRows$Writing", "fill", "I", false)
  | _ => ("DigitRows$Writing", "sign", "I", false)
def tyW : Nat → FieldType := fun k => match k with
  | 0 => .array .int
  | 1 => .array .int
  | 2 => .int
  | 3 => .int
  | 4 => .boolean
  | 5 => .boolean
  | 6 => .boolean
  | 7 => .int
  | _ => .int
theorem nmW : ∀ a, a < 9 → ∀ b, b < 9 → a ≠ b → (TW a).2.1 ≠ (TW b).2.1 := by decide +kernel
theorem tyW_ok : ∀ k, k < 9 → parseFieldDescriptor (TW k).2.2.1 = some (tyW k) := by decide +kernel
theorem hinW : ∀ w ∈ u_ws "DigitRows$Writing" TW 9, w ∈ TB := by decide +kernel
def TD : u_T := fun k => match k with
  | 0 => ("DigitRows", "memory", "[I", true)
  | 1 => ("DigitRows", "first", "LDigitRows$Row;", true)
  | 2 => ("DigitRows", "second", "LDigitRows$Row;", true)
  | 3 => ("DigitRows", "rest", "LDigitRows$Row;", true)
  | 4 => ("DigitRows", "result", "LDigitRows$Row;", true)
  | 5 => ("DigitRows", "writing", "LDigitRows$Writing;", true)
  | _ => ("DigitRows", "endedSignificant", "Z", false)
def tyD : Nat → FieldType := fun k => match k with
  | 0 => .array .int
  | 1 => .object "DigitRows$Row"
  | 2 => .object "DigitRows$Row"
  | 3 => .object "DigitRows$Row"
  | 4 => .object "DigitRows$Row"
  | 5 => .object "DigitRows$Writing"
  | _ => .boolean
theorem nmD : ∀ a, a < 7 → ∀ b, b < 7 → a ≠ b → (TD a).2.1 ≠ (TD b).2.1 := by decide +kernel
theorem tyD_ok : ∀ k, k < 7 → parseFieldDescriptor (TD k).2.2.1 = some (tyD k) := by decide +kernel
theorem hinD : ∀ w ∈ u_ws "DigitRows" TD 7, w ∈ TB := by decide +kernel
def TM : u_T := fun k => match k with
  | 0 => ("DigitRowsModel", "memory", "[I", true)
  | 1 => ("DigitRowsModel", "one", "[I", true)
  | 2 => ("DigitRowsModel", "two", "[I", true)
  | 3 => ("DigitRowsModel", "out", "[I", true)
  | 4 => ("DigitRowsModel", "rest", "[I", true)
  | 5 => ("DigitRowsModel", "oneMinus", "Z", false)
  | 6 => ("DigitRowsModel", "twoMinus", "Z", false)
  | 7 => ("DigitRowsModel", "outMinus", "Z", false)
  | 8 => ("DigitRowsModel", "written", "[I", true)
  | _ => ("DigitRowsModel", "ended", "Z", false)
def tyM : Nat → FieldType := fun k => match k with
  | 0 => .array .int
  | 1 => .array .int
  | 2 => .array .int
  | 3 => .array .int
  | 4 => .array .int
  | 5 => .boolean
  | 6 => .boolean
  | 7 => .boolean
  | 8 => .array .int
  | _ => .boolean
theorem nmM : ∀ a, a < 10 → ∀ b, b < 10 → a ≠ b → (TM a).2.1 ≠ (TM b).2.1 := by decide +kernel
theorem tyM_ok : ∀ k, k < 10 → parseFieldDescriptor (TM k).2.2.1 = some (tyM k) := by decide +kernel
theorem hinM : ∀ w ∈ u_ws "DigitRowsModel" TM 10, w ∈ TB := by decide +kernel
abbrev vwCl : List vw_C := [("DigitRows$Row", TR, 2), ("DigitRows$Writing", TW, 9), ("DigitRows", TD, 7), ("DigitRowsModel", TM, 10)]
abbrev yD_init : MethodName := ⟨"DigitRows", "<init>", "()V"⟩
abbrev cD_init : ByteArray := prog_1_method_1_code
theorem hdD_init : yD_init.cls ≠ "java/lang/invoke/MethodHandle" ∧ yD_init.cls ≠ "java/lang/invoke/VarHandle" ∧ (parseMethodDescriptor yD_init.desc).map (fun d => d.parameters.length) = some 0 := by decide +kernel
abbrev yR_init : MethodName := ⟨"DigitRows$Row", "<init>", "()V"⟩
abbrev cR_init : ByteArray := prog_2_method_1_code
theorem hdR_init : yR_init.cls ≠ "java/lang/invoke/MethodHandle" ∧ yR_init.cls ≠ "java/lang/invoke/VarHandle" ∧ (parseMethodDescriptor yR_init.desc).map (fun d => d.parameters.length) = some 0 := by decide +kernel
abbrev yW_init : MethodName := ⟨"DigitRows$Writing", "<init>", "()V"⟩
abbrev cW_init : ByteArray := prog_3_method_1_code
theorem hdW_init : yW_init.cls ≠ "java/lang/invoke/MethodHandle" ∧ yW_init.cls ≠ "java/lang/invoke/VarHandle" ∧ (parseMethodDescriptor yW_init.desc).map (fun d => d.parameters.length) = some 0 := by decide +kernel
abbrev yD_put : MethodName := ⟨"DigitRows", "put", "(II)Z"⟩
abbrev cD_put : ByteArray := prog_1_method_2_code
theorem hdD_put : yD_put.cls ≠ "java/lang/invoke/MethodHandle" ∧ yD_put.cls ≠ "java/lang/invoke/VarHandle" ∧ (parseMethodDescriptor yD_put.desc).map (fun d => d.parameters.length) = some 2 := by decide +kernel
abbrev yD_byteOf : MethodName := ⟨"DigitRows", "byteOf", "(I)I"⟩
abbrev cD_byteOf : ByteArray := prog_1_method_3_code
theorem hdD_byteOf : yD_byteOf.cls ≠ "java/lang/invoke/MethodHandle" ∧ yD_byteOf.cls ≠ "java/lang/invoke/VarHandle" ∧ (parseMethodDescriptor yD_byteOf.desc).map (fun d => d.parameters.length) = some 1 := by decide +kernel
abbrev yD_sum : MethodName := ⟨"DigitRows", "sum", "(IIIIII)I"⟩
abbrev cD_sum : ByteArray := prog_1_method_4_code
theorem hdD_sum : yD_sum.cls ≠ "java/lang/invoke/MethodHandle" ∧ yD_sum.cls ≠ "java/lang/invoke/VarHandle" ∧ (parseMethodDescriptor yD_sum.desc).map (fun d => d.parameters.length) = some 6 := by decide +kernel
abbrev yD_readOperands : MethodName := ⟨"DigitRows", "readOperands", "(IIIIII)I"⟩
abbrev cD_readOperands : ByteArray := prog_1_method_18_code
theorem hdD_readOperands : yD_readOperands.cls ≠ "java/lang/invoke/MethodHandle" ∧ yD_readOperands.cls ≠ "java/lang/invoke/VarHandle" ∧ (parseMethodDescriptor yD_readOperands.desc).map (fun d => d.parameters.length) = some 6 := by decide +kernel
abbrev yD_decimalFits : MethodName := ⟨"DigitRows", "decimalFits", "(II)Z"⟩
abbrev cD_decimalFits : ByteArray := prog_1_method_16_code
theorem hdD_decimalFits : yD_decimalFits.cls ≠ "java/lang/invoke/MethodHandle" ∧ yD_decimalFits.cls ≠ "java/lang/invoke/VarHandle" ∧ (parseMethodDescriptor yD_decimalFits.desc).map (fun d => d.parameters.length) = some 2 := by decide +kernel
abbrev yD_readDecimal : MethodName := ⟨"DigitRows", "readDecimal", "(LDigitRows$Row;II)Z"⟩
abbrev cD_readDecimal : ByteArray := prog_1_method_20_code
theorem hdD_readDecimal : yD_readDecimal.cls ≠ "java/lang/invoke/MethodHandle" ∧ yD_readDecimal.cls ≠ "java/lang/invoke/VarHandle" ∧ (parseMethodDescriptor yD_readDecimal.desc).map (fun d => d.parameters.length) = some 3 := by decide +kernel
abbrev yD_halfFromEnd : MethodName := ⟨"DigitRows", "halfFromEnd", "(III)I"⟩
abbrev cD_halfFromEnd : ByteArray := prog_1_method_19_code
theorem hdD_halfFromEnd : yD_halfFromEnd.cls ≠ "java/lang/invoke/MethodHandle" ∧ yD_halfFromEnd.cls ≠ "java/lang/invoke/VarHandle" ∧ (parseMethodDescriptor yD_halfFromEnd.desc).map (fun d => d.parameters.length) = some 3 := by decide +kernel
abbrev yR_clear : MethodName := ⟨"DigitRows$Row", "clear", "()V"⟩
abbrev cR_clear : ByteArray := prog_2_method_4_code
theorem hdR_clear : yR_clear.cls ≠ "java/lang/invoke/MethodHandle" ∧ yR_clear.cls ≠ "java/lang/invoke/VarHandle" ∧ (parseMethodDescriptor yR_clear.desc).map (fun d => d.parameters.length) = some 0 := by decide +kernel
abbrev yJA_fill : MethodName := ⟨"java/util/Arrays", "fill", "([II)V"⟩
abbrev cJA_fill : ByteArray := prog_7_method_103_code
theorem hdJA_fill : yJA_fill.cls ≠ "java/lang/invoke/MethodHandle" ∧ yJA_fill.cls ≠ "java/lang/invoke/VarHandle" ∧ (parseMethodDescriptor yJA_fill.desc).map (fun d => d.parameters.length) = some 2 := by decide +kernel
abbrev yR_setDigit : MethodName := ⟨"DigitRows$Row", "setDigit", "(II)V"⟩
abbrev cR_setDigit : ByteArray := prog_2_method_3_code
theorem hdR_setDigit : yR_setDigit.cls ≠ "java/lang/invoke/MethodHandle" ∧ yR_setDigit.cls ≠ "java/lang/invoke/VarHandle" ∧ (parseMethodDescriptor yR_setDigit.desc).map (fun d => d.parameters.length) = some 2 := by decide +kernel
abbrev yR_setSign : MethodName := ⟨"DigitRows$Row", "setSign", "(Z)V"⟩
abbrev cR_setSign : ByteArray := prog_2_method_5_code
theorem hdR_setSign : yR_setSign.cls ≠ "java/lang/invoke/MethodHandle" ∧ yR_setSign.cls ≠ "java/lang/invoke/VarHandle" ∧ (parseMethodDescriptor yR_setSign.desc).map (fun d => d.parameters.length) = some 1 := by decide +kernel
abbrev yR_isZero : MethodName := ⟨"DigitRows$Row", "isZero", "()Z"⟩
abbrev cR_isZero : ByteArray := prog_2_method_6_code
theorem hdR_isZero : yR_isZero.cls ≠ "java/lang/invoke/MethodHandle" ∧ yR_isZero.cls ≠ "java/lang/invoke/VarHandle" ∧ (parseMethodDescriptor yR_isZero.desc).map (fun d => d.parameters.length) = some 0 := by decide +kernel
abbrev yR_hasDigit : MethodName := ⟨"DigitRows$Row", "hasDigit", "(II)Z"⟩
abbrev cR_hasDigit : ByteArray := prog_2_method_7_code
theorem hdR_hasDigit : yR_hasDigit.cls ≠ "java/lang/invoke/MethodHandle" ∧ yR_hasDigit.cls ≠ "java/lang/invoke/VarHandle" ∧ (parseMethodDescriptor yR_hasDigit.desc).map (fun d => d.parameters.length) = some 2 := by decide +kernel
abbrev yR_digitAt : MethodName := ⟨"DigitRows$Row", "digitAt", "(I)I"⟩
abbrev cR_digitAt : ByteArray := prog_2_method_2_code
theorem hdR_digitAt : yR_digitAt.cls ≠ "java/lang/invoke/MethodHandle" ∧ yR_digitAt.cls ≠ "java/lang/invoke/VarHandle" ∧ (parseMethodDescriptor yR_digitAt.desc).map (fun d => d.parameters.length) = some 1 := by decide +kernel
abbrev yR_addSigned : MethodName := ⟨"DigitRows$Row", "addSigned", "(LDigitRows$Row;LDigitRows$Row;)V"⟩
abbrev cR_addSigned : ByteArray := prog_2_method_13_code
theorem hdR_addSigned : yR_addSigned.cls ≠ "java/lang/invoke/MethodHandle" ∧ yR_addSigned.cls ≠ "java/lang/invoke/VarHandle" ∧ (parseMethodDescriptor yR_addSigned.desc).map (fun d => d.parameters.length) = some 2 := by decide +kernel
abbrev yR_addSizes : MethodName := ⟨"DigitRows$Row", "addSizes", "(LDigitRows$Row;LDigitRows$Row;)V"⟩
abbrev cR_addSizes : ByteArray := prog_2_method_14_code
theorem hdR_addSizes : yR_addSizes.cls ≠ "java/lang/invoke/MethodHandle" ∧ yR_addSizes.cls ≠ "java/lang/invoke/VarHandle" ∧ (parseMethodDescriptor yR_addSizes.desc).map (fun d => d.parameters.length) = some 2 := by decide +kernel
abbrev yR_orderOfSizes : MethodName := ⟨"DigitRows$Row", "orderOfSizes", "(LDigitRows$Row;)I"⟩
abbrev cR_orderOfSizes : ByteArray := prog_2_method_11_code
theorem hdR_orderOfSizes : yR_orderOfSizes.cls ≠ "java/lang/invoke/MethodHandle" ∧ yR_orderOfSizes.cls ≠ "java/lang/invoke/VarHandle" ∧ (parseMethodDescriptor yR_orderOfSizes.desc).map (fun d => d.parameters.length) = some 1 := by decide +kernel
abbrev yR_subtractSizes : MethodName := ⟨"DigitRows$Row", "subtractSizes", "(LDigitRows$Row;LDigitRows$Row;)V"⟩
abbrev cR_subtractSizes : ByteArray := prog_2_method_15_code
theorem hdR_subtractSizes : yR_subtractSizes.cls ≠ "java/lang/invoke/MethodHandle" ∧ yR_subtractSizes.cls ≠ "java/lang/invoke/VarHandle" ∧ (parseMethodDescriptor yR_subtractSizes.desc).map (fun d => d.parameters.length) = some 2 := by decide +kernel
abbrev yD_writeDecimal : MethodName := ⟨"DigitRows", "writeDecimal", "(LDigitRows$Row;II)I"⟩
abbrev cD_writeDecimal : ByteArray := prog_1_method_22_code
theorem hdD_writeDecimal : yD_writeDecimal.cls ≠ "java/lang/invoke/MethodHandle" ∧ yD_writeDecimal.cls ≠ "java/lang/invoke/VarHandle" ∧ (parseMethodDescriptor yD_writeDecimal.desc).map (fun d => d.parameters.length) = some 3 := by decide +kernel
abbrev yR_flagsOfLowest : MethodName := ⟨"DigitRows$Row", "flagsOfLowest", "(I)I"⟩
abbrev cR_flagsOfLowest : ByteArray := prog_2_method_8_code
theorem hdR_flagsOfLowest : yR_flagsOfLowest.cls ≠ "java/lang/invoke/MethodHandle" ∧ yR_flagsOfLowest.cls ≠ "java/lang/invoke/VarHandle" ∧ (parseMethodDescriptor yR_flagsOfLowest.desc).map (fun d => d.parameters.length) = some 1 := by decide +kernel
abbrev yD_less : MethodName := ⟨"DigitRows", "less", "(IIIIII)I"⟩
abbrev cD_less : ByteArray := prog_1_method_5_code
theorem hdD_less : yD_less.cls ≠ "java/lang/invoke/MethodHandle" ∧ yD_less.cls ≠ "java/lang/invoke/VarHandle" ∧ (parseMethodDescriptor yD_less.desc).map (fun d => d.parameters.length) = some 6 := by decide +kernel
abbrev yD_product : MethodName := ⟨"DigitRows", "product", "(IIIIII)I"⟩
abbrev cD_product : ByteArray := prog_1_method_6_code
theorem hdD_product : yD_product.cls ≠ "java/lang/invoke/MethodHandle" ∧ yD_product.cls ≠ "java/lang/invoke/VarHandle" ∧ (parseMethodDescriptor yD_product.desc).map (fun d => d.parameters.length) = some 6 := by decide +kernel
abbrev yR_multiply : MethodName := ⟨"DigitRows$Row", "multiply", "(LDigitRows$Row;LDigitRows$Row;)V"⟩
abbrev cR_multiply : ByteArray := prog_2_method_17_code
theorem hdR_multiply : yR_multiply.cls ≠ "java/lang/invoke/MethodHandle" ∧ yR_multiply.cls ≠ "java/lang/invoke/VarHandle" ∧ (parseMethodDescriptor yR_multiply.desc).map (fun d => d.parameters.length) = some 2 := by decide +kernel
abbrev yR_addMultiple : MethodName := ⟨"DigitRows$Row", "addMultiple", "(LDigitRows$Row;II)V"⟩
abbrev cR_addMultiple : ByteArray := prog_2_method_18_code
theorem hdR_addMultiple : yR_addMultiple.cls ≠ "java/lang/invoke/MethodHandle" ∧ yR_addMultiple.cls ≠ "java/lang/invoke/VarHandle" ∧ (parseMethodDescriptor yR_addMultiple.desc).map (fun d => d.parameters.length) = some 3 := by decide +kernel
abbrev yD_quotient : MethodName := ⟨"DigitRows", "quotient", "(IIIIII)I"⟩
abbrev cD_quotient : ByteArray := prog_1_method_7_code
theorem hdD_quotient : yD_quotient.cls ≠ "java/lang/invoke/MethodHandle" ∧ yD_quotient.cls ≠ "java/lang/invoke/VarHandle" ∧ (parseMethodDescriptor yD_quotient.desc).map (fun d => d.parameters.length) = some 6 := by decide +kernel
abbrev yR_divide : MethodName := ⟨"DigitRows$Row", "divide", "(LDigitRows$Row;LDigitRows$Row;LDigitRows$Row;)V"⟩
abbrev cR_divide : ByteArray := prog_2_method_19_code
theorem hdR_divide : yR_divide.cls ≠ "java/lang/invoke/MethodHandle" ∧ yR_divide.cls ≠ "java/lang/invoke/VarHandle" ∧ (parseMethodDescriptor yR_divide.desc).map (fun d => d.parameters.length) = some 3 := by decide +kernel
abbrev yR_bringDown : MethodName := ⟨"DigitRows$Row", "bringDown", "(I)V"⟩
abbrev cR_bringDown : ByteArray := prog_2_method_20_code
theorem hdR_bringDown : yR_bringDown.cls ≠ "java/lang/invoke/MethodHandle" ∧ yR_bringDown.cls ≠ "java/lang/invoke/VarHandle" ∧ (parseMethodDescriptor yR_bringDown.desc).map (fun d => d.parameters.length) = some 1 := by decide +kernel
abbrev yR_takeAway : MethodName := ⟨"DigitRows$Row", "takeAway", "(LDigitRows$Row;)I"⟩
abbrev cR_takeAway : ByteArray := prog_2_method_21_code
theorem hdR_takeAway : yR_takeAway.cls ≠ "java/lang/invoke/MethodHandle" ∧ yR_takeAway.cls ≠ "java/lang/invoke/VarHandle" ∧ (parseMethodDescriptor yR_takeAway.desc).map (fun d => d.parameters.length) = some 1 := by decide +kernel
abbrev yD_shift : MethodName := ⟨"DigitRows", "shift", "(IIIIII)I"⟩
abbrev cD_shift : ByteArray := prog_1_method_8_code
theorem hdD_shift : yD_shift.cls ≠ "java/lang/invoke/MethodHandle" ∧ yD_shift.cls ≠ "java/lang/invoke/VarHandle" ∧ (parseMethodDescriptor yD_shift.desc).map (fun d => d.parameters.length) = some 6 := by decide +kernel
abbrev yR_moveLeft : MethodName := ⟨"DigitRows$Row", "moveLeft", "(LDigitRows$Row;I)V"⟩
abbrev cR_moveLeft : ByteArray := prog_2_method_22_code
theorem hdR_moveLeft : yR_moveLeft.cls ≠ "java/lang/invoke/MethodHandle" ∧ yR_moveLeft.cls ≠ "java/lang/invoke/VarHandle" ∧ (parseMethodDescriptor yR_moveLeft.desc).map (fun d => d.parameters.length) = some 2 := by decide +kernel
abbrev yR_addOne : MethodName := ⟨"DigitRows$Row", "addOne", "()V"⟩
abbrev cR_addOne : ByteArray := prog_2_method_16_code
theorem hdR_addOne : yR_addOne.cls ≠ "java/lang/invoke/MethodHandle" ∧ yR_addOne.cls ≠ "java/lang/invoke/VarHandle" ∧ (parseMethodDescriptor yR_addOne.desc).map (fun d => d.parameters.length) = some 0 := by decide +kernel
abbrev yD_compare : MethodName := ⟨"DigitRows", "compare", "(IIII)I"⟩
abbrev cD_compare : ByteArray := prog_1_method_9_code
theorem hdD_compare : yD_compare.cls ≠ "java/lang/invoke/MethodHandle" ∧ yD_compare.cls ≠ "java/lang/invoke/VarHandle" ∧ (parseMethodDescriptor yD_compare.desc).map (fun d => d.parameters.length) = some 4 := by decide +kernel
abbrev yR_orderSigned : MethodName := ⟨"DigitRows$Row", "orderSigned", "(LDigitRows$Row;)I"⟩
abbrev cR_orderSigned : ByteArray := prog_2_method_12_code
theorem hdR_orderSigned : yR_orderSigned.cls ≠ "java/lang/invoke/MethodHandle" ∧ yR_orderSigned.cls ≠ "java/lang/invoke/VarHandle" ∧ (parseMethodDescriptor yR_orderSigned.desc).map (fun d => d.parameters.length) = some 1 := by decide +kernel
abbrev yD_number : MethodName := ⟨"DigitRows", "number", "(III)I"⟩
abbrev cD_number : ByteArray := prog_1_method_10_code
theorem hdD_number : yD_number.cls ≠ "java/lang/invoke/MethodHandle" ∧ yD_number.cls ≠ "java/lang/invoke/VarHandle" ∧ (parseMethodDescriptor yD_number.desc).map (fun d => d.parameters.length) = some 3 := by decide +kernel
abbrev yR_take : MethodName := ⟨"DigitRows$Row", "take", "(I)V"⟩
abbrev cR_take : ByteArray := prog_2_method_9_code
theorem hdR_take : yR_take.cls ≠ "java/lang/invoke/MethodHandle" ∧ yR_take.cls ≠ "java/lang/invoke/VarHandle" ∧ (parseMethodDescriptor yR_take.desc).map (fun d => d.parameters.length) = some 1 := by decide +kernel
abbrev yJM_abs : MethodName := ⟨"java/lang/Math", "abs", "(J)J"⟩
abbrev cJM_abs : ByteArray := prog_6_method_61_code
theorem hdJM_abs : yJM_abs.cls ≠ "java/lang/invoke/MethodHandle" ∧ yJM_abs.cls ≠ "java/lang/invoke/VarHandle" ∧ (parseMethodDescriptor yJM_abs.desc).map (fun d => d.parameters.length) = some 1 := by decide +kernel
abbrev yD_value : MethodName := ⟨"DigitRows", "value", "(II)J"⟩
abbrev cD_value : ByteArray := prog_1_method_11_code
theorem hdD_value : yD_value.cls ≠ "java/lang/invoke/MethodHandle" ∧ yD_value.cls ≠ "java/lang/invoke/VarHandle" ∧ (parseMethodDescriptor yD_value.desc).map (fun d => d.parameters.length) = some 2 := by decide +kernel
abbrev yR_lowestBits : MethodName := ⟨"DigitRows$Row", "lowestBits", "()J"⟩
abbrev cR_lowestBits : ByteArray := prog_2_method_10_code
theorem hdR_lowestBits : yR_lowestBits.cls ≠ "java/lang/invoke/MethodHandle" ∧ yR_lowestBits.cls ≠ "java/lang/invoke/VarHandle" ∧ (parseMethodDescriptor yR_lowestBits.desc).map (fun d => d.parameters.length) = some 0 := by decide +kernel
abbrev yD_characters : MethodName := ⟨"DigitRows", "characters", "(IIII)I"⟩
abbrev cD_characters : ByteArray := prog_1_method_12_code
theorem hdD_characters : yD_characters.cls ≠ "java/lang/invoke/MethodHandle" ∧ yD_characters.cls ≠ "java/lang/invoke/VarHandle" ∧ (parseMethodDescriptor yD_characters.desc).map (fun d => d.parameters.length) = some 4 := by decide +kernel
abbrev yD_charactersFit : MethodName := ⟨"DigitRows", "charactersFit", "(II)Z"⟩
abbrev cD_charactersFit : ByteArray := prog_1_method_17_code
theorem hdD_charactersFit : yD_charactersFit.cls ≠ "java/lang/invoke/MethodHandle" ∧ yD_charactersFit.cls ≠ "java/lang/invoke/VarHandle" ∧ (parseMethodDescriptor yD_charactersFit.desc).map (fun d => d.parameters.length) = some 2 := by decide +kernel
abbrev yD_digits : MethodName := ⟨"DigitRows", "digits", "(IIII)I"⟩
abbrev cD_digits : ByteArray := prog_1_method_13_code
theorem hdD_digits : yD_digits.cls ≠ "java/lang/invoke/MethodHandle" ∧ yD_digits.cls ≠ "java/lang/invoke/VarHandle" ∧ (parseMethodDescriptor yD_digits.desc).map (fun d => d.parameters.length) = some 4 := by decide +kernel
abbrev yD_readCharacters : MethodName := ⟨"DigitRows", "readCharacters", "(LDigitRows$Row;II)Z"⟩
abbrev cD_readCharacters : ByteArray := prog_1_method_21_code
theorem hdD_readCharacters : yD_readCharacters.cls ≠ "java/lang/invoke/MethodHandle" ∧ yD_readCharacters.cls ≠ "java/lang/invoke/VarHandle" ∧ (parseMethodDescriptor yD_readCharacters.desc).map (fun d => d.parameters.length) = some 3 := by decide +kernel
abbrev yD_edit : MethodName := ⟨"DigitRows", "edit", "(IIII)I"⟩
abbrev cD_edit : ByteArray := prog_1_method_14_code
theorem hdD_edit : yD_edit.cls ≠ "java/lang/invoke/MethodHandle" ∧ yD_edit.cls ≠ "java/lang/invoke/VarHandle" ∧ (parseMethodDescriptor yD_edit.desc).map (fun d => d.parameters.length) = some 4 := by decide +kernel
abbrev yW_begin : MethodName := ⟨"DigitRows$Writing", "begin", "(LDigitRows$Row;I)V"⟩
abbrev cW_begin : ByteArray := prog_3_method_2_code
theorem hdW_begin : yW_begin.cls ≠ "java/lang/invoke/MethodHandle" ∧ yW_begin.cls ≠ "java/lang/invoke/VarHandle" ∧ (parseMethodDescriptor yW_begin.desc).map (fun d => d.parameters.length) = some 2 := by decide +kernel
abbrev yD_followPattern : MethodName := ⟨"DigitRows", "followPattern", "(I)Z"⟩
abbrev cD_followPattern : ByteArray := prog_1_method_23_code
theorem hdD_followPattern : yD_followPattern.cls ≠ "java/lang/invoke/MethodHandle" ∧ yD_followPattern.cls ≠ "java/lang/invoke/VarHandle" ∧ (parseMethodDescriptor yD_followPattern.desc).map (fun d => d.parameters.length) = some 1 := by decide +kernel
abbrev yW_obey : MethodName := ⟨"DigitRows$Writing", "obey", "(II)Z"⟩
abbrev cW_obey : ByteArray := prog_3_method_5_code
theorem hdW_obey : yW_obey.cls ≠ "java/lang/invoke/MethodHandle" ∧ yW_obey.cls ≠ "java/lang/invoke/VarHandle" ∧ (parseMethodDescriptor yW_obey.desc).map (fun d => d.parameters.length) = some 2 := by decide +kernel
abbrev yW_isRun : MethodName := ⟨"DigitRows$Writing", "isRun", "(II)Z"⟩
abbrev cW_isRun : ByteArray := prog_3_method_6_code
theorem hdW_isRun : yW_isRun.cls ≠ "java/lang/invoke/MethodHandle" ∧ yW_isRun.cls ≠ "java/lang/invoke/VarHandle" ∧ (parseMethodDescriptor yW_isRun.desc).map (fun d => d.parameters.length) = some 2 := by decide +kernel
abbrev yW_writeDigits : MethodName := ⟨"DigitRows$Writing", "writeDigits", "(IZ)Z"⟩
abbrev cW_writeDigits : ByteArray := prog_3_method_10_code
theorem hdW_writeDigits : yW_writeDigits.cls ≠ "java/lang/invoke/MethodHandle" ∧ yW_writeDigits.cls ≠ "java/lang/invoke/VarHandle" ∧ (parseMethodDescriptor yW_writeDigits.desc).map (fun d => d.parameters.length) = some 2 := by decide +kernel
abbrev yW_writeDigit : MethodName := ⟨"DigitRows$Writing", "writeDigit", "(IZ)Z"⟩
abbrev cW_writeDigit : ByteArray := prog_3_method_11_code
theorem hdW_writeDigit : yW_writeDigit.cls ≠ "java/lang/invoke/MethodHandle" ∧ yW_writeDigit.cls ≠ "java/lang/invoke/VarHandle" ∧ (parseMethodDescriptor yW_writeDigit.desc).map (fun d => d.parameters.length) = some 2 := by decide +kernel
abbrev yW_write : MethodName := ⟨"DigitRows$Writing", "write", "(I)Z"⟩
abbrev cW_write : ByteArray := prog_3_method_8_code
theorem hdW_write : yW_write.cls ≠ "java/lang/invoke/MethodHandle" ∧ yW_write.cls ≠ "java/lang/invoke/VarHandle" ∧ (parseMethodDescriptor yW_write.desc).map (fun d => d.parameters.length) = some 1 := by decide +kernel
abbrev yW_writeFills : MethodName := ⟨"DigitRows$Writing", "writeFills", "(I)Z"⟩
abbrev cW_writeFills : ByteArray := prog_3_method_9_code
theorem hdW_writeFills : yW_writeFills.cls ≠ "java/lang/invoke/MethodHandle" ∧ yW_writeFills.cls ≠ "java/lang/invoke/VarHandle" ∧ (parseMethodDescriptor yW_writeFills.desc).map (fun d => d.parameters.length) = some 1 := by decide +kernel
abbrev yW_takesNext : MethodName := ⟨"DigitRows$Writing", "takesNext", "(I)Z"⟩
abbrev cW_takesNext : ByteArray := prog_3_method_3_code
theorem hdW_takesNext : yW_takesNext.cls ≠ "java/lang/invoke/MethodHandle" ∧ yW_takesNext.cls ≠ "java/lang/invoke/VarHandle" ∧ (parseMethodDescriptor yW_takesNext.desc).map (fun d => d.parameters.length) = some 1 := by decide +kernel
abbrev yW_obeyWithNext : MethodName := ⟨"DigitRows$Writing", "obeyWithNext", "(II)Z"⟩
abbrev cW_obeyWithNext : ByteArray := prog_3_method_7_code
theorem hdW_obeyWithNext : yW_obeyWithNext.cls ≠ "java/lang/invoke/MethodHandle" ∧ yW_obeyWithNext.cls ≠ "java/lang/invoke/VarHandle" ∧ (parseMethodDescriptor yW_obeyWithNext.desc).map (fun d => d.parameters.length) = some 2 := by decide +kernel
abbrev yW_fillLast : MethodName := ⟨"DigitRows$Writing", "fillLast", "(I)Z"⟩
abbrev cW_fillLast : ByteArray := prog_3_method_12_code
theorem hdW_fillLast : yW_fillLast.cls ≠ "java/lang/invoke/MethodHandle" ∧ yW_fillLast.cls ≠ "java/lang/invoke/VarHandle" ∧ (parseMethodDescriptor yW_fillLast.desc).map (fun d => d.parameters.length) = some 1 := by decide +kernel
abbrev yW_characterAt : MethodName := ⟨"DigitRows$Writing", "characterAt", "(I)I"⟩
abbrev cW_characterAt : ByteArray := prog_3_method_4_code
theorem hdW_characterAt : yW_characterAt.cls ≠ "java/lang/invoke/MethodHandle" ∧ yW_characterAt.cls ≠ "java/lang/invoke/VarHandle" ∧ (parseMethodDescriptor yW_characterAt.desc).map (fun d => d.parameters.length) = some 1 := by decide +kernel
abbrev yD_significant : MethodName := ⟨"DigitRows", "significant", "()Z"⟩
abbrev cD_significant : ByteArray := prog_1_method_15_code
theorem hdD_significant : yD_significant.cls ≠ "java/lang/invoke/MethodHandle" ∧ yD_significant.cls ≠ "java/lang/invoke/VarHandle" ∧ (parseMethodDescriptor yD_significant.desc).map (fun d => d.parameters.length) = some 0 := by decide +kernel
abbrev yM_init : MethodName := ⟨"DigitRowsModel", "<init>", "()V"⟩
abbrev cM_init : ByteArray := prog_5_method_1_code
theorem hdM_init : yM_init.cls ≠ "java/lang/invoke/MethodHandle" ∧ yM_init.cls ≠ "java/lang/invoke/VarHandle" ∧ (parseMethodDescriptor yM_init.desc).map (fun d => d.parameters.length) = some 0 := by decide +kernel
abbrev yM_put : MethodName := ⟨"DigitRowsModel", "put", "(II)Z"⟩
abbrev cM_put : ByteArray := prog_5_method_2_code
theorem hdM_put : yM_put.cls ≠ "java/lang/invoke/MethodHandle" ∧ yM_put.cls ≠ "java/lang/invoke/VarHandle" ∧ (parseMethodDescriptor yM_put.desc).map (fun d => d.parameters.length) = some 2 := by decide +kernel
abbrev yM_byteOf : MethodName := ⟨"DigitRowsModel", "byteOf", "(I)I"⟩
abbrev cM_byteOf : ByteArray := prog_5_method_3_code
theorem hdM_byteOf : yM_byteOf.cls ≠ "java/lang/invoke/MethodHandle" ∧ yM_byteOf.cls ≠ "java/lang/invoke/VarHandle" ∧ (parseMethodDescriptor yM_byteOf.desc).map (fun d => d.parameters.length) = some 1 := by decide +kernel
abbrev yM_sum : MethodName := ⟨"DigitRowsModel", "sum", "(IIIIII)I"⟩
abbrev cM_sum : ByteArray := prog_5_method_16_code
theorem hdM_sum : yM_sum.cls ≠ "java/lang/invoke/MethodHandle" ∧ yM_sum.cls ≠ "java/lang/invoke/VarHandle" ∧ (parseMethodDescriptor yM_sum.desc).map (fun d => d.parameters.length) = some 6 := by decide +kernel
abbrev yM_three : MethodName := ⟨"DigitRowsModel", "three", "(IIIIII)I"⟩
abbrev cM_three : ByteArray := prog_5_method_13_code
theorem hdM_three : yM_three.cls ≠ "java/lang/invoke/MethodHandle" ∧ yM_three.cls ≠ "java/lang/invoke/VarHandle" ∧ (parseMethodDescriptor yM_three.desc).map (fun d => d.parameters.length) = some 6 := by decide +kernel
abbrev yM_isThere : MethodName := ⟨"DigitRowsModel", "isThere", "(II)Z"⟩
abbrev cM_isThere : ByteArray := prog_5_method_6_code
theorem hdM_isThere : yM_isThere.cls ≠ "java/lang/invoke/MethodHandle" ∧ yM_isThere.cls ≠ "java/lang/invoke/VarHandle" ∧ (parseMethodDescriptor yM_isThere.desc).map (fun d => d.parameters.length) = some 2 := by decide +kernel
abbrev yM_isCount : MethodName := ⟨"DigitRowsModel", "isCount", "(I)Z"⟩
abbrev cM_isCount : ByteArray := prog_5_method_4_code
theorem hdM_isCount : yM_isCount.cls ≠ "java/lang/invoke/MethodHandle" ∧ yM_isCount.cls ≠ "java/lang/invoke/VarHandle" ∧ (parseMethodDescriptor yM_isCount.desc).map (fun d => d.parameters.length) = some 1 := by decide +kernel
abbrev yM_are : MethodName := ⟨"DigitRowsModel", "are", "(II)Z"⟩
abbrev cM_are : ByteArray := prog_5_method_5_code
theorem hdM_are : yM_are.cls ≠ "java/lang/invoke/MethodHandle" ∧ yM_are.cls ≠ "java/lang/invoke/VarHandle" ∧ (parseMethodDescriptor yM_are.desc).map (fun d => d.parameters.length) = some 2 := by decide +kernel
abbrev yM_reads : MethodName := ⟨"DigitRowsModel", "reads", "(IIII)I"⟩
abbrev cM_reads : ByteArray := prog_5_method_12_code
theorem hdM_reads : yM_reads.cls ≠ "java/lang/invoke/MethodHandle" ∧ yM_reads.cls ≠ "java/lang/invoke/VarHandle" ∧ (parseMethodDescriptor yM_reads.desc).map (fun d => d.parameters.length) = some 4 := by decide +kernel
abbrev yM_read : MethodName := ⟨"DigitRowsModel", "read", "(II[I)I"⟩
abbrev cM_read : ByteArray := prog_5_method_7_code
theorem hdM_read : yM_read.cls ≠ "java/lang/invoke/MethodHandle" ∧ yM_read.cls ≠ "java/lang/invoke/VarHandle" ∧ (parseMethodDescriptor yM_read.desc).map (fun d => d.parameters.length) = some 3 := by decide +kernel
abbrev yM_adds : MethodName := ⟨"DigitRowsModel", "adds", "()V"⟩
abbrev cM_adds : ByteArray := prog_5_method_15_code
theorem hdM_adds : yM_adds.cls ≠ "java/lang/invoke/MethodHandle" ∧ yM_adds.cls ≠ "java/lang/invoke/VarHandle" ∧ (parseMethodDescriptor yM_adds.desc).map (fun d => d.parameters.length) = some 0 := by decide +kernel
abbrev yM_than : MethodName := ⟨"DigitRowsModel", "than", "([I[I)I"⟩
abbrev cM_than : ByteArray := prog_5_method_14_code
theorem hdM_than : yM_than.cls ≠ "java/lang/invoke/MethodHandle" ∧ yM_than.cls ≠ "java/lang/invoke/VarHandle" ∧ (parseMethodDescriptor yM_than.desc).map (fun d => d.parameters.length) = some 2 := by decide +kernel
abbrev yM_write : MethodName := ⟨"DigitRowsModel", "write", "(II)I"⟩
abbrev cM_write : ByteArray := prog_5_method_11_code
theorem hdM_write : yM_write.cls ≠ "java/lang/invoke/MethodHandle" ∧ yM_write.cls ≠ "java/lang/invoke/VarHandle" ∧ (parseMethodDescriptor yM_write.desc).map (fun d => d.parameters.length) = some 2 := by decide +kernel
abbrev yM_cuts : MethodName := ⟨"DigitRowsModel", "cuts", "(I)Z"⟩
abbrev cM_cuts : ByteArray := prog_5_method_9_code
theorem hdM_cuts : yM_cuts.cls ≠ "java/lang/invoke/MethodHandle" ∧ yM_cuts.cls ≠ "java/lang/invoke/VarHandle" ∧ (parseMethodDescriptor yM_cuts.desc).map (fun d => d.parameters.length) = some 1 := by decide +kernel
abbrev yM_flags : MethodName := ⟨"DigitRowsModel", "flags", "(Z)I"⟩
abbrev cM_flags : ByteArray := prog_5_method_10_code
theorem hdM_flags : yM_flags.cls ≠ "java/lang/invoke/MethodHandle" ∧ yM_flags.cls ≠ "java/lang/invoke/VarHandle" ∧ (parseMethodDescriptor yM_flags.desc).map (fun d => d.parameters.length) = some 1 := by decide +kernel
abbrev yM_isZero : MethodName := ⟨"DigitRowsModel", "isZero", "([I)Z"⟩
abbrev cM_isZero : ByteArray := prog_5_method_8_code
theorem hdM_isZero : yM_isZero.cls ≠ "java/lang/invoke/MethodHandle" ∧ yM_isZero.cls ≠ "java/lang/invoke/VarHandle" ∧ (parseMethodDescriptor yM_isZero.desc).map (fun d => d.parameters.length) = some 1 := by decide +kernel
abbrev yM_less : MethodName := ⟨"DigitRowsModel", "less", "(IIIIII)I"⟩
abbrev cM_less : ByteArray := prog_5_method_17_code
theorem hdM_less : yM_less.cls ≠ "java/lang/invoke/MethodHandle" ∧ yM_less.cls ≠ "java/lang/invoke/VarHandle" ∧ (parseMethodDescriptor yM_less.desc).map (fun d => d.parameters.length) = some 6 := by decide +kernel
abbrev yM_product : MethodName := ⟨"DigitRowsModel", "product", "(IIIIII)I"⟩
abbrev cM_product : ByteArray := prog_5_method_18_code
theorem hdM_product : yM_product.cls ≠ "java/lang/invoke/MethodHandle" ∧ yM_product.cls ≠ "java/lang/invoke/VarHandle" ∧ (parseMethodDescriptor yM_product.desc).map (fun d => d.parameters.length) = some 6 := by decide +kernel
abbrev yM_quotient : MethodName := ⟨"DigitRowsModel", "quotient", "(IIIIII)I"⟩
abbrev cM_quotient : ByteArray := prog_5_method_19_code
theorem hdM_quotient : yM_quotient.cls ≠ "java/lang/invoke/MethodHandle" ∧ yM_quotient.cls ≠ "java/lang/invoke/VarHandle" ∧ (parseMethodDescriptor yM_quotient.desc).map (fun d => d.parameters.length) = some 6 := by decide +kernel
abbrev yM_shift : MethodName := ⟨"DigitRowsModel", "shift", "(IIIIII)I"⟩
abbrev cM_shift : ByteArray := prog_5_method_20_code
theorem hdM_shift : yM_shift.cls ≠ "java/lang/invoke/MethodHandle" ∧ yM_shift.cls ≠ "java/lang/invoke/VarHandle" ∧ (parseMethodDescriptor yM_shift.desc).map (fun d => d.parameters.length) = some 6 := by decide +kernel
abbrev yM_compare : MethodName := ⟨"DigitRowsModel", "compare", "(IIII)I"⟩
abbrev cM_compare : ByteArray := prog_5_method_21_code
theorem hdM_compare : yM_compare.cls ≠ "java/lang/invoke/MethodHandle" ∧ yM_compare.cls ≠ "java/lang/invoke/VarHandle" ∧ (parseMethodDescriptor yM_compare.desc).map (fun d => d.parameters.length) = some 4 := by decide +kernel
abbrev yM_number : MethodName := ⟨"DigitRowsModel", "number", "(III)I"⟩
abbrev cM_number : ByteArray := prog_5_method_22_code
theorem hdM_number : yM_number.cls ≠ "java/lang/invoke/MethodHandle" ∧ yM_number.cls ≠ "java/lang/invoke/VarHandle" ∧ (parseMethodDescriptor yM_number.desc).map (fun d => d.parameters.length) = some 3 := by decide +kernel
abbrev yM_value : MethodName := ⟨"DigitRowsModel", "value", "(II)J"⟩
abbrev cM_value : ByteArray := prog_5_method_23_code
theorem hdM_value : yM_value.cls ≠ "java/lang/invoke/MethodHandle" ∧ yM_value.cls ≠ "java/lang/invoke/VarHandle" ∧ (parseMethodDescriptor yM_value.desc).map (fun d => d.parameters.length) = some 2 := by decide +kernel
abbrev yM_characters : MethodName := ⟨"DigitRowsModel", "characters", "(IIII)I"⟩
abbrev cM_characters : ByteArray := prog_5_method_24_code
theorem hdM_characters : yM_characters.cls ≠ "java/lang/invoke/MethodHandle" ∧ yM_characters.cls ≠ "java/lang/invoke/VarHandle" ∧ (parseMethodDescriptor yM_characters.desc).map (fun d => d.parameters.length) = some 4 := by decide +kernel
abbrev yM_digits : MethodName := ⟨"DigitRowsModel", "digits", "(IIII)I"⟩
abbrev cM_digits : ByteArray := prog_5_method_25_code
theorem hdM_digits : yM_digits.cls ≠ "java/lang/invoke/MethodHandle" ∧ yM_digits.cls ≠ "java/lang/invoke/VarHandle" ∧ (parseMethodDescriptor yM_digits.desc).map (fun d => d.parameters.length) = some 4 := by decide +kernel
abbrev yM_edit : MethodName := ⟨"DigitRowsModel", "edit", "(IIII)I"⟩
abbrev cM_edit : ByteArray := prog_5_method_26_code
theorem hdM_edit : yM_edit.cls ≠ "java/lang/invoke/MethodHandle" ∧ yM_edit.cls ≠ "java/lang/invoke/VarHandle" ∧ (parseMethodDescriptor yM_edit.desc).map (fun d => d.parameters.length) = some 4 := by decide +kernel
abbrev yM_significant : MethodName := ⟨"DigitRowsModel", "significant", "()Z"⟩
abbrev cM_significant : ByteArray := prog_5_method_27_code
theorem hdM_significant : yM_significant.cls ≠ "java/lang/invoke/MethodHandle" ∧ yM_significant.cls ≠ "java/lang/invoke/VarHandle" ∧ (parseMethodDescriptor yM_significant.desc).map (fun d => d.parameters.length) = some 0 := by decide +kernel
end
section
theorem mp_0 : Cond.selects "DigitRows" ⟨"DigitRows", "readOperands", "(IIIIII)I"⟩ ⟨"DigitRows", "readOperands", "(IIIIII)I"⟩ ∈ TB := tb_ip (List.mem_of_getElem? (i := 0) rfl) rfl
theorem mp_1 : Cond.selects "DigitRows" ⟨"DigitRows", "readDecimal", "(LDigitRows$Row;II)Z"⟩ ⟨"DigitRows", "readDecimal", "(LDigitRows$Row;II)Z"⟩ ∈ TB := tb_ip (List.mem_of_getElem? (i := 1) rfl) rfl
theorem mp_10 : Cond.selects "DigitRows" ⟨"DigitRows", "followPattern", "(I)Z"⟩ ⟨"DigitRows", "followPattern", "(I)Z"⟩ ∈ TB := tb_ip (List.mem_of_getElem? (i := 10) rfl) rfl
theorem mp_11 : Cond.selects "DigitRows$Writing" ⟨"DigitRows$Writing", "writeDigits", "(IZ)Z"⟩ ⟨"DigitRows$Writing", "writeDigits", "(IZ)Z"⟩ ∈ TB := tb_ip (List.mem_of_getElem? (i := 11) rfl) rfl
theorem mp_12 : Cond.selects "DigitRows$Writing" ⟨"DigitRows$Writing", "writeDigit", "(IZ)Z"⟩ ⟨"DigitRows$Writing", "writeDigit", "(IZ)Z"⟩ ∈ TB := tb_ip (List.mem_of_getElem? (i := 12) rfl) rfl
theorem mp_13 : Cond.selects "DigitRows$Writing" ⟨"DigitRows$Writing", "write", "(I)Z"⟩ ⟨"DigitRows$Writing", "write", "(I)Z"⟩ ∈ TB := tb_ip (List.mem_of_getElem? (i := 13) rfl) rfl
theorem mp_14 : Cond.selects "DigitRows$Writing" ⟨"DigitRows$Writing", "writeFills", "(I)Z"⟩ ⟨"DigitRows$Writing", "writeFills", "(I)Z"⟩ ∈ TB := tb_ip (List.mem_of_getElem? (i := 14) rfl) rfl
theorem mp_15 : Cond.selects "DigitRows$Writing" ⟨"DigitRows$Writing", "obeyWithNext", "(II)Z"⟩ ⟨"DigitRows$Writing", "obeyWithNext", "(II)Z"⟩ ∈ TB := tb_ip (List.mem_of_getElem? (i := 15) rfl) rfl
theorem mp_16 : Cond.selects "DigitRows$Writing" ⟨"DigitRows$Writing", "fillLast", "(I)Z"⟩ ⟨"DigitRows$Writing", "fillLast", "(I)Z"⟩ ∈ TB := tb_ip (List.mem_of_getElem? (i := 16) rfl) rfl
theorem mp_17 : Cond.selects "DigitRowsModel" ⟨"DigitRowsModel", "three", "(IIIIII)I"⟩ ⟨"DigitRowsModel", "three", "(IIIIII)I"⟩ ∈ TB := tb_ip (List.mem_of_getElem? (i := 17) rfl) rfl
theorem mp_18 : Cond.selects "DigitRowsModel" ⟨"DigitRowsModel", "reads", "(IIII)I"⟩ ⟨"DigitRowsModel", "reads", "(IIII)I"⟩ ∈ TB := tb_ip (List.mem_of_getElem? (i := 18) rfl) rfl
theorem mp_19 : Cond.selects "DigitRowsModel" ⟨"DigitRowsModel", "read", "(II[I)I"⟩ ⟨"DigitRowsModel", "read", "(II[I)I"⟩ ∈ TB := tb_ip (List.mem_of_getElem? (i := 19) rfl) rfl
theorem mp_2 : Cond.selects "DigitRows" ⟨"DigitRows", "halfFromEnd", "(III)I"⟩ ⟨"DigitRows", "halfFromEnd", "(III)I"⟩ ∈ TB := tb_ip (List.mem_of_getElem? (i := 2) rfl) rfl
theorem mp_20 : Cond.selects "DigitRowsModel" ⟨"DigitRowsModel", "adds", "()V"⟩ ⟨"DigitRowsModel", "adds", "()V"⟩ ∈ TB := tb_ip (List.mem_of_getElem? (i := 20) rfl) rfl
theorem mp_21 : Cond.selects "DigitRowsModel" ⟨"DigitRowsModel", "write", "(II)I"⟩ ⟨"DigitRowsModel", "write", "(II)I"⟩ ∈ TB := tb_ip (List.mem_of_getElem? (i := 21) rfl) rfl
theorem mp_22 : Cond.selects "DigitRowsModel" ⟨"DigitRowsModel", "cuts", "(I)Z"⟩ ⟨"DigitRowsModel", "cuts", "(I)Z"⟩ ∈ TB := tb_ip (List.mem_of_getElem? (i := 22) rfl) rfl
theorem mp_23 : Cond.selects "DigitRowsModel" ⟨"DigitRowsModel", "flags", "(Z)I"⟩ ⟨"DigitRowsModel", "flags", "(Z)I"⟩ ∈ TB := tb_ip (List.mem_of_getElem? (i := 23) rfl) rfl
theorem mp_3 : Cond.selects "DigitRows$Row" ⟨"DigitRows$Row", "addSizes", "(LDigitRows$Row;LDigitRows$Row;)V"⟩ ⟨"DigitRows$Row", "addSizes", "(LDigitRows$Row;LDigitRows$Row;)V"⟩ ∈ TB := tb_ip (List.mem_of_getElem? (i := 3) rfl) rfl
theorem mp_4 : Cond.selects "DigitRows$Row" ⟨"DigitRows$Row", "subtractSizes", "(LDigitRows$Row;LDigitRows$Row;)V"⟩ ⟨"DigitRows$Row", "subtractSizes", "(LDigitRows$Row;LDigitRows$Row;)V"⟩ ∈ TB := tb_ip (List.mem_of_getElem? (i := 4) rfl) rfl
theorem mp_5 : Cond.selects "DigitRows" ⟨"DigitRows", "writeDecimal", "(LDigitRows$Row;II)I"⟩ ⟨"DigitRows", "writeDecimal", "(LDigitRows$Row;II)I"⟩ ∈ TB := tb_ip (List.mem_of_getElem? (i := 5) rfl) rfl
theorem mp_6 : Cond.selects "DigitRows$Row" ⟨"DigitRows$Row", "addMultiple", "(LDigitRows$Row;II)V"⟩ ⟨"DigitRows$Row", "addMultiple", "(LDigitRows$Row;II)V"⟩ ∈ TB := tb_ip (List.mem_of_getElem? (i := 6) rfl) rfl
theorem mp_7 : Cond.selects "DigitRows$Row" ⟨"DigitRows$Row", "bringDown", "(I)V"⟩ ⟨"DigitRows$Row", "bringDown", "(I)V"⟩ ∈ TB := tb_ip (List.mem_of_getElem? (i := 7) rfl) rfl
theorem mp_8 : Cond.selects "DigitRows$Row" ⟨"DigitRows$Row", "takeAway", "(LDigitRows$Row;)I"⟩ ⟨"DigitRows$Row", "takeAway", "(LDigitRows$Row;)I"⟩ ∈ TB := tb_ip (List.mem_of_getElem? (i := 8) rfl) rfl
theorem mp_9 : Cond.selects "DigitRows" ⟨"DigitRows", "readCharacters", "(LDigitRows$Row;II)Z"⟩ ⟨"DigitRows", "readCharacters", "(LDigitRows$Row;II)Z"⟩ ∈ TB := tb_ip (List.mem_of_getElem? (i := 9) rfl) rfl
theorem mt_0 : (Jvm.Cond.initialized "DigitRowsLaw") ∈ TB := tb_in (List.mem_of_getElem? (i := 0) rfl) rfl
theorem mt_1 : (Jvm.Cond.initialized "DigitRows") ∈ TB := tb_in (List.mem_of_getElem? (i := 1) rfl) rfl
theorem mt_10 : (Jvm.Cond.instanceMethod ({ cls := "DigitRows", name := "<init>", desc := "()V" } : Jvm.MethodName)) ∈ TB := tb_in (List.mem_of_getElem? (i := 10) rfl) rfl
theorem mt_100 : (Jvm.Cond.selects "DigitRows" ({ cls := "DigitRows", name := "sum", desc := "(IIIIII)I" } : Jvm.MethodName) ({ cls := "DigitRows", name := "sum", desc := "(IIIIII)I" } : Jvm.MethodName)) ∈ TB := tb_in (List.mem_of_getElem? (i := 100) rfl) rfl
theorem mt_101 : (Jvm.Cond.code ({ cls := "DigitRows", name := "sum", desc := "(IIIIII)I" } : Jvm.MethodName) prog_1_method_4_code (8 : Nat) (Option.some Jvm.ClassFile.FieldType.int)) ∈ TB := tb_in (List.mem_of_getElem? (i := 101) rfl) rfl
theorem mt_102 : (Jvm.Cond.methodLink "DigitRows" (40 : Nat) ({ cls := "DigitRows", name := "readOperands", desc := "(IIIIII)I" } : Jvm.MethodName)) ∈ TB := tb_in (List.mem_of_getElem? (i := 102) rfl) rfl
theorem mt_104 : (Jvm.Cond.instanceMethod ({ cls := "DigitRows", name := "readOperands", desc := "(IIIIII)I" } : Jvm.MethodName)) ∈ TB := tb_in (List.mem_of_getElem? (i := 104) rfl) rfl
theorem mt_105 : (Jvm.Cond.code ({ cls := "DigitRows", name := "readOperands", desc := "(IIIIII)I" } : Jvm.MethodName) prog_1_method_18_code (7 : Nat) (Option.some Jvm.ClassFile.FieldType.int)) ∈ TB := tb_in (List.mem_of_getElem? (i := 105) rfl) rfl
theorem mt_106 : (Jvm.Cond.methodLink "DigitRows" (66 : Nat) ({ cls := "DigitRows", name := "decimalFits", desc := "(II)Z" } : Jvm.MethodName)) ∈ TB := tb_in (List.mem_of_getElem? (i := 106) rfl) rfl
theorem mt_107 : (Jvm.Cond.static ({ cls := "DigitRows", name := "decimalFits", desc := "(II)Z" } : Jvm.MethodName)) ∈ TB := tb_in (List.mem_of_getElem? (i := 107) rfl) rfl
theorem mt_108 : (Jvm.Cond.code ({ cls := "DigitRows", name := "decimalFits", desc := "(II)Z" } : Jvm.MethodName) prog_1_method_16_code (2 : Nat) (Option.some Jvm.ClassFile.FieldType.boolean)) ∈ TB := tb_in (List.mem_of_getElem? (i := 108) rfl) rfl
theorem mt_109 : (Jvm.Cond.methodLink "DigitRows" (70 : Nat) ({ cls := "DigitRows", name := "readDecimal", desc := "(LDigitRows$Row;II)Z" } : Jvm.MethodName)) ∈ TB := tb_in (List.mem_of_getElem? (i := 109) rfl) rfl
theorem mt_11 : (Jvm.Cond.code ({ cls := "DigitRows", name := "<init>", desc := "()V" } : Jvm.MethodName) prog_1_method_1_code (1 : Nat) (Option.none : Option Jvm.ClassFile.FieldType)) ∈ TB := tb_in (List.mem_of_getElem? (i := 11) rfl) rfl
theorem mt_111 : (Jvm.Cond.instanceMethod ({ cls := "DigitRows", name := "readDecimal", desc := "(LDigitRows$Row;II)Z" } : Jvm.MethodName)) ∈ TB := tb_in (List.mem_of_getElem? (i := 111) rfl) rfl
theorem mt_112 : (Jvm.Cond.code ({ cls := "DigitRows", name := "readDecimal", desc := "(LDigitRows$Row;II)Z" } : Jvm.MethodName) prog_1_method_20_code (7 : Nat) (Option.some Jvm.ClassFile.FieldType.boolean)) ∈ TB := tb_in (List.mem_of_getElem? (i := 112) rfl) rfl
theorem mt_113 : (Jvm.Cond.methodLink "DigitRows" (129 : Nat) ({ cls := "DigitRows", name := "halfFromEnd", desc := "(III)I" } : Jvm.MethodName)) ∈ TB := tb_in (List.mem_of_getElem? (i := 113) rfl) rfl
theorem mt_115 : (Jvm.Cond.instanceMethod ({ cls := "DigitRows", name := "halfFromEnd", desc := "(III)I" } : Jvm.MethodName)) ∈ TB := tb_in (List.mem_of_getElem? (i := 115) rfl) rfl
theorem mt_116 : (Jvm.Cond.code ({ cls := "DigitRows", name := "halfFromEnd", desc := "(III)I" } : Jvm.MethodName) prog_1_method_19_code (5 : Nat) (Option.some Jvm.ClassFile.FieldType.int)) ∈ TB := tb_in (List.mem_of_getElem? (i := 116) rfl) rfl
theorem mt_117 : (Jvm.Cond.methodLink "DigitRows" (126 : Nat) ({ cls := "DigitRows", name := "byteOf", desc := "(I)I" } : Jvm.MethodName)) ∈ TB := tb_in (List.mem_of_getElem? (i := 117) rfl) rfl
theorem mt_118 : (Jvm.Cond.methodLink "DigitRows" (133 : Nat) ({ cls := "DigitRows$Row", name := "clear", desc := "()V" } : Jvm.MethodName)) ∈ TB := tb_in (List.mem_of_getElem? (i := 118) rfl) rfl
theorem mt_119 : (Jvm.Cond.instanceMethod ({ cls := "DigitRows$Row", name := "clear", desc := "()V" } : Jvm.MethodName)) ∈ TB := tb_in (List.mem_of_getElem? (i := 119) rfl) rfl
theorem mt_12 : (Jvm.Cond.methodLink "DigitRows" (3 : Nat) ({ cls := "java/lang/Object", name := "<init>", desc := "()V" } : Jvm.MethodName)) ∈ TB := tb_in (List.mem_of_getElem? (i := 12) rfl) rfl
theorem mt_120 : (Jvm.Cond.selects "DigitRows$Row" ({ cls := "DigitRows$Row", name := "clear", desc := "()V" } : Jvm.MethodName) ({ cls := "DigitRows$Row", name := "clear", desc := "()V" } : Jvm.MethodName)) ∈ TB := tb_in (List.mem_of_getElem? (i := 120) rfl) rfl
theorem mt_121 : (Jvm.Cond.code ({ cls := "DigitRows$Row", name := "clear", desc := "()V" } : Jvm.MethodName) prog_2_method_4_code (1 : Nat) (Option.none : Option Jvm.ClassFile.FieldType)) ∈ TB := tb_in (List.mem_of_getElem? (i := 121) rfl) rfl
theorem mt_122 : (Jvm.Cond.methodLink "DigitRows$Row" (19 : Nat) ({ cls := "java/util/Arrays", name := "fill", desc := "([II)V" } : Jvm.MethodName)) ∈ TB := tb_in (List.mem_of_getElem? (i := 122) rfl) rfl
theorem mt_123 : (Jvm.Cond.static ({ cls := "java/util/Arrays", name := "fill", desc := "([II)V" } : Jvm.MethodName)) ∈ TB := tb_in (List.mem_of_getElem? (i := 123) rfl) rfl
theorem mt_124 : (Jvm.Cond.code ({ cls := "java/util/Arrays", name := "fill", desc := "([II)V" } : Jvm.MethodName) prog_7_method_103_code (4 : Nat) (Option.none : Option Jvm.ClassFile.FieldType)) ∈ TB := tb_in (List.mem_of_getElem? (i := 124) rfl) rfl
theorem mt_125 : (Jvm.Cond.methodLink "DigitRows" (136 : Nat) ({ cls := "DigitRows$Row", name := "setDigit", desc := "(II)V" } : Jvm.MethodName)) ∈ TB := tb_in (List.mem_of_getElem? (i := 125) rfl) rfl
theorem mt_126 : (Jvm.Cond.instanceMethod ({ cls := "DigitRows$Row", name := "setDigit", desc := "(II)V" } : Jvm.MethodName)) ∈ TB := tb_in (List.mem_of_getElem? (i := 126) rfl) rfl
theorem mt_127 : (Jvm.Cond.selects "DigitRows$Row" ({ cls := "DigitRows$Row", name := "setDigit", desc := "(II)V" } : Jvm.MethodName) ({ cls := "DigitRows$Row", name := "setDigit", desc := "(II)V" } : Jvm.MethodName)) ∈ TB := tb_in (List.mem_of_getElem? (i := 127) rfl) rfl
theorem mt_128 : (Jvm.Cond.code ({ cls := "DigitRows$Row", name := "setDigit", desc := "(II)V" } : Jvm.MethodName) prog_2_method_3_code (3 : Nat) (Option.none : Option Jvm.ClassFile.FieldType)) ∈ TB := tb_in (List.mem_of_getElem? (i := 128) rfl) rfl
theorem mt_129 : (Jvm.Cond.methodLink "DigitRows" (140 : Nat) ({ cls := "DigitRows$Row", name := "setSign", desc := "(Z)V" } : Jvm.MethodName)) ∈ TB := tb_in (List.mem_of_getElem? (i := 129) rfl) rfl
theorem mt_13 : (Jvm.Cond.instanceMethod ({ cls := "java/lang/Object", name := "<init>", desc := "()V" } : Jvm.MethodName)) ∈ TB := tb_in (List.mem_of_getElem? (i := 13) rfl) rfl
theorem mt_130 : (Jvm.Cond.instanceMethod ({ cls := "DigitRows$Row", name := "setSign", desc := "(Z)V" } : Jvm.MethodName)) ∈ TB := tb_in (List.mem_of_getElem? (i := 130) rfl) rfl
theorem mt_131 : (Jvm.Cond.selects "DigitRows$Row" ({ cls := "DigitRows$Row", name := "setSign", desc := "(Z)V" } : Jvm.MethodName) ({ cls := "DigitRows$Row", name := "setSign", desc := "(Z)V" } : Jvm.MethodName)) ∈ TB := tb_in (List.mem_of_getElem? (i := 131) rfl) rfl
theorem mt_132 : (Jvm.Cond.code ({ cls := "DigitRows$Row", name := "setSign", desc := "(Z)V" } : Jvm.MethodName) prog_2_method_5_code (2 : Nat) (Option.none : Option Jvm.ClassFile.FieldType)) ∈ TB := tb_in (List.mem_of_getElem? (i := 132) rfl) rfl
theorem mt_133 : (Jvm.Cond.methodLink "DigitRows$Row" (25 : Nat) ({ cls := "DigitRows$Row", name := "isZero", desc := "()Z" } : Jvm.MethodName)) ∈ TB := tb_in (List.mem_of_getElem? (i := 133) rfl) rfl
theorem mt_134 : (Jvm.Cond.instanceMethod ({ cls := "DigitRows$Row", name := "isZero", desc := "()Z" } : Jvm.MethodName)) ∈ TB := tb_in (List.mem_of_getElem? (i := 134) rfl) rfl
theorem mt_135 : (Jvm.Cond.selects "DigitRows$Row" ({ cls := "DigitRows$Row", name := "isZero", desc := "()Z" } : Jvm.MethodName) ({ cls := "DigitRows$Row", name := "isZero", desc := "()Z" } : Jvm.MethodName)) ∈ TB := tb_in (List.mem_of_getElem? (i := 135) rfl) rfl
theorem mt_136 : (Jvm.Cond.code ({ cls := "DigitRows$Row", name := "isZero", desc := "()Z" } : Jvm.MethodName) prog_2_method_6_code (1 : Nat) (Option.some Jvm.ClassFile.FieldType.boolean)) ∈ TB := tb_in (List.mem_of_getElem? (i := 136) rfl) rfl
theorem mt_137 : (Jvm.Cond.methodLink "DigitRows$Row" (29 : Nat) ({ cls := "DigitRows$Row", name := "hasDigit", desc := "(II)Z" } : Jvm.MethodName)) ∈ TB := tb_in (List.mem_of_getElem? (i := 137) rfl) rfl
theorem mt_138 : (Jvm.Cond.instanceMethod ({ cls := "DigitRows$Row", name := "hasDigit", desc := "(II)Z" } : Jvm.MethodName)) ∈ TB := tb_in (List.mem_of_getElem? (i := 138) rfl) rfl
theorem mt_139 : (Jvm.Cond.selects "DigitRows$Row" ({ cls := "DigitRows$Row", name := "hasDigit", desc := "(II)Z" } : Jvm.MethodName) ({ cls := "DigitRows$Row", name := "hasDigit", desc := "(II)Z" } : Jvm.MethodName)) ∈ TB := tb_in (List.mem_of_getElem? (i := 139) rfl) rfl
theorem mt_14 : (Jvm.Cond.code ({ cls := "java/lang/Object", name := "<init>", desc := "()V" } : Jvm.MethodName) object_method_1_code (1 : Nat) (Option.none : Option Jvm.ClassFile.FieldType)) ∈ TB := tb_in (List.mem_of_getElem? (i := 14) rfl) rfl
theorem mt_140 : (Jvm.Cond.code ({ cls := "DigitRows$Row", name := "hasDigit", desc := "(II)Z" } : Jvm.MethodName) prog_2_method_7_code (4 : Nat) (Option.some Jvm.ClassFile.FieldType.boolean)) ∈ TB := tb_in (List.mem_of_getElem? (i := 140) rfl) rfl
theorem mt_141 : (Jvm.Cond.methodLink "DigitRows$Row" (33 : Nat) ({ cls := "DigitRows$Row", name := "digitAt", desc := "(I)I" } : Jvm.MethodName)) ∈ TB := tb_in (List.mem_of_getElem? (i := 141) rfl) rfl
theorem mt_142 : (Jvm.Cond.instanceMethod ({ cls := "DigitRows$Row", name := "digitAt", desc := "(I)I" } : Jvm.MethodName)) ∈ TB := tb_in (List.mem_of_getElem? (i := 142) rfl) rfl
theorem mt_143 : (Jvm.Cond.selects "DigitRows$Row" ({ cls := "DigitRows$Row", name := "digitAt", desc := "(I)I" } : Jvm.MethodName) ({ cls := "DigitRows$Row", name := "digitAt", desc := "(I)I" } : Jvm.MethodName)) ∈ TB := tb_in (List.mem_of_getElem? (i := 143) rfl) rfl
theorem mt_144 : (Jvm.Cond.code ({ cls := "DigitRows$Row", name := "digitAt", desc := "(I)I" } : Jvm.MethodName) prog_2_method_2_code (2 : Nat) (Option.some Jvm.ClassFile.FieldType.int)) ∈ TB := tb_in (List.mem_of_getElem? (i := 144) rfl) rfl
theorem mt_145 : (Jvm.Cond.methodLink "DigitRows" (44 : Nat) ({ cls := "DigitRows$Row", name := "addSigned", desc := "(LDigitRows$Row;LDigitRows$Row;)V" } : Jvm.MethodName)) ∈ TB := tb_in (List.mem_of_getElem? (i := 145) rfl) rfl
theorem mt_146 : (Jvm.Cond.instanceMethod ({ cls := "DigitRows$Row", name := "addSigned", desc := "(LDigitRows$Row;LDigitRows$Row;)V" } : Jvm.MethodName)) ∈ TB := tb_in (List.mem_of_getElem? (i := 146) rfl) rfl
theorem mt_147 : (Jvm.Cond.selects "DigitRows$Row" ({ cls := "DigitRows$Row", name := "addSigned", desc := "(LDigitRows$Row;LDigitRows$Row;)V" } : Jvm.MethodName) ({ cls := "DigitRows$Row", name := "addSigned", desc := "(LDigitRows$Row;LDigitRows$Row;)V" } : Jvm.MethodName)) ∈ TB := tb_in (List.mem_of_getElem? (i := 147) rfl) rfl
theorem mt_148 : (Jvm.Cond.code ({ cls := "DigitRows$Row", name := "addSigned", desc := "(LDigitRows$Row;LDigitRows$Row;)V" } : Jvm.MethodName) prog_2_method_13_code (3 : Nat) (Option.none : Option Jvm.ClassFile.FieldType)) ∈ TB := tb_in (List.mem_of_getElem? (i := 148) rfl) rfl
theorem mt_149 : (Jvm.Cond.methodLink "DigitRows$Row" (37 : Nat) ({ cls := "DigitRows$Row", name := "clear", desc := "()V" } : Jvm.MethodName)) ∈ TB := tb_in (List.mem_of_getElem? (i := 149) rfl) rfl
theorem mt_15 : (Jvm.Cond.classLink "DigitRows" (13 : Nat) "DigitRows$Row") ∈ TB := tb_in (List.mem_of_getElem? (i := 15) rfl) rfl
theorem mt_150 : (Jvm.Cond.methodLink "DigitRows$Row" (56 : Nat) ({ cls := "DigitRows$Row", name := "addSizes", desc := "(LDigitRows$Row;LDigitRows$Row;)V" } : Jvm.MethodName)) ∈ TB := tb_in (List.mem_of_getElem? (i := 150) rfl) rfl
theorem mt_152 : (Jvm.Cond.instanceMethod ({ cls := "DigitRows$Row", name := "addSizes", desc := "(LDigitRows$Row;LDigitRows$Row;)V" } : Jvm.MethodName)) ∈ TB := tb_in (List.mem_of_getElem? (i := 152) rfl) rfl
theorem mt_153 : (Jvm.Cond.code ({ cls := "DigitRows$Row", name := "addSizes", desc := "(LDigitRows$Row;LDigitRows$Row;)V" } : Jvm.MethodName) prog_2_method_14_code (6 : Nat) (Option.none : Option Jvm.ClassFile.FieldType)) ∈ TB := tb_in (List.mem_of_getElem? (i := 153) rfl) rfl
theorem mt_154 : (Jvm.Cond.methodLink "DigitRows$Row" (48 : Nat) ({ cls := "DigitRows$Row", name := "setDigit", desc := "(II)V" } : Jvm.MethodName)) ∈ TB := tb_in (List.mem_of_getElem? (i := 154) rfl) rfl
theorem mt_155 : (Jvm.Cond.methodLink "DigitRows$Row" (52 : Nat) ({ cls := "DigitRows$Row", name := "orderOfSizes", desc := "(LDigitRows$Row;)I" } : Jvm.MethodName)) ∈ TB := tb_in (List.mem_of_getElem? (i := 155) rfl) rfl
theorem mt_156 : (Jvm.Cond.instanceMethod ({ cls := "DigitRows$Row", name := "orderOfSizes", desc := "(LDigitRows$Row;)I" } : Jvm.MethodName)) ∈ TB := tb_in (List.mem_of_getElem? (i := 156) rfl) rfl
theorem mt_157 : (Jvm.Cond.selects "DigitRows$Row" ({ cls := "DigitRows$Row", name := "orderOfSizes", desc := "(LDigitRows$Row;)I" } : Jvm.MethodName) ({ cls := "DigitRows$Row", name := "orderOfSizes", desc := "(LDigitRows$Row;)I" } : Jvm.MethodName)) ∈ TB := tb_in (List.mem_of_getElem? (i := 157) rfl) rfl
theorem mt_158 : (Jvm.Cond.code ({ cls := "DigitRows$Row", name := "orderOfSizes", desc := "(LDigitRows$Row;)I" } : Jvm.MethodName) prog_2_method_11_code (3 : Nat) (Option.some Jvm.ClassFile.FieldType.int)) ∈ TB := tb_in (List.mem_of_getElem? (i := 158) rfl) rfl
theorem mt_159 : (Jvm.Cond.methodLink "DigitRows$Row" (60 : Nat) ({ cls := "DigitRows$Row", name := "subtractSizes", desc := "(LDigitRows$Row;LDigitRows$Row;)V" } : Jvm.MethodName)) ∈ TB := tb_in (List.mem_of_getElem? (i := 159) rfl) rfl
theorem mt_16 : (Jvm.Cond.instantiable "DigitRows$Row" (2 : Nat)) ∈ TB := tb_in (List.mem_of_getElem? (i := 16) rfl) rfl
theorem mt_161 : (Jvm.Cond.instanceMethod ({ cls := "DigitRows$Row", name := "subtractSizes", desc := "(LDigitRows$Row;LDigitRows$Row;)V" } : Jvm.MethodName)) ∈ TB := tb_in (List.mem_of_getElem? (i := 161) rfl) rfl
theorem mt_162 : (Jvm.Cond.code ({ cls := "DigitRows$Row", name := "subtractSizes", desc := "(LDigitRows$Row;LDigitRows$Row;)V" } : Jvm.MethodName) prog_2_method_15_code (6 : Nat) (Option.none : Option Jvm.ClassFile.FieldType)) ∈ TB := tb_in (List.mem_of_getElem? (i := 162) rfl) rfl
theorem mt_163 : (Jvm.Cond.methodLink "DigitRows" (48 : Nat) ({ cls := "DigitRows", name := "writeDecimal", desc := "(LDigitRows$Row;II)I" } : Jvm.MethodName)) ∈ TB := tb_in (List.mem_of_getElem? (i := 163) rfl) rfl
theorem mt_165 : (Jvm.Cond.instanceMethod ({ cls := "DigitRows", name := "writeDecimal", desc := "(LDigitRows$Row;II)I" } : Jvm.MethodName)) ∈ TB := tb_in (List.mem_of_getElem? (i := 165) rfl) rfl
theorem mt_166 : (Jvm.Cond.code ({ cls := "DigitRows", name := "writeDecimal", desc := "(LDigitRows$Row;II)I" } : Jvm.MethodName) prog_1_method_22_code (9 : Nat) (Option.some Jvm.ClassFile.FieldType.int)) ∈ TB := tb_in (List.mem_of_getElem? (i := 166) rfl) rfl
theorem mt_167 : (Jvm.Cond.methodLink "DigitRows" (100 : Nat) ({ cls := "DigitRows$Row", name := "flagsOfLowest", desc := "(I)I" } : Jvm.MethodName)) ∈ TB := tb_in (List.mem_of_getElem? (i := 167) rfl) rfl
theorem mt_168 : (Jvm.Cond.instanceMethod ({ cls := "DigitRows$Row", name := "flagsOfLowest", desc := "(I)I" } : Jvm.MethodName)) ∈ TB := tb_in (List.mem_of_getElem? (i := 168) rfl) rfl
theorem mt_169 : (Jvm.Cond.selects "DigitRows$Row" ({ cls := "DigitRows$Row", name := "flagsOfLowest", desc := "(I)I" } : Jvm.MethodName) ({ cls := "DigitRows$Row", name := "flagsOfLowest", desc := "(I)I" } : Jvm.MethodName)) ∈ TB := tb_in (List.mem_of_getElem? (i := 169) rfl) rfl
theorem mt_17 : (Jvm.Cond.methodLink "DigitRows" (15 : Nat) ({ cls := "DigitRows$Row", name := "<init>", desc := "()V" } : Jvm.MethodName)) ∈ TB := tb_in (List.mem_of_getElem? (i := 17) rfl) rfl
theorem mt_170 : (Jvm.Cond.code ({ cls := "DigitRows$Row", name := "flagsOfLowest", desc := "(I)I" } : Jvm.MethodName) prog_2_method_8_code (3 : Nat) (Option.some Jvm.ClassFile.FieldType.int)) ∈ TB := tb_in (List.mem_of_getElem? (i := 170) rfl) rfl
theorem mt_171 : (Jvm.Cond.methodLink "DigitRows" (78 : Nat) ({ cls := "DigitRows$Row", name := "digitAt", desc := "(I)I" } : Jvm.MethodName)) ∈ TB := tb_in (List.mem_of_getElem? (i := 171) rfl) rfl
theorem mt_172 : (Jvm.Cond.methodLink "DigitRows" (103 : Nat) ({ cls := "DigitRows", name := "put", desc := "(II)Z" } : Jvm.MethodName)) ∈ TB := tb_in (List.mem_of_getElem? (i := 172) rfl) rfl
theorem mt_173 : (Jvm.Cond.methodLink "DigitRowsLaw" (28 : Nat) ({ cls := "DigitRows", name := "less", desc := "(IIIIII)I" } : Jvm.MethodName)) ∈ TB := tb_in (List.mem_of_getElem? (i := 173) rfl) rfl
theorem mt_174 : (Jvm.Cond.instanceMethod ({ cls := "DigitRows", name := "less", desc := "(IIIIII)I" } : Jvm.MethodName)) ∈ TB := tb_in (List.mem_of_getElem? (i := 174) rfl) rfl
theorem mt_175 : (Jvm.Cond.selects "DigitRows" ({ cls := "DigitRows", name := "less", desc := "(IIIIII)I" } : Jvm.MethodName) ({ cls := "DigitRows", name := "less", desc := "(IIIIII)I" } : Jvm.MethodName)) ∈ TB := tb_in (List.mem_of_getElem? (i := 175) rfl) rfl
theorem mt_176 : (Jvm.Cond.code ({ cls := "DigitRows", name := "less", desc := "(IIIIII)I" } : Jvm.MethodName) prog_1_method_5_code (8 : Nat) (Option.some Jvm.ClassFile.FieldType.int)) ∈ TB := tb_in (List.mem_of_getElem? (i := 176) rfl) rfl
theorem mt_177 : (Jvm.Cond.methodLink "DigitRowsLaw" (32 : Nat) ({ cls := "DigitRows", name := "product", desc := "(IIIIII)I" } : Jvm.MethodName)) ∈ TB := tb_in (List.mem_of_getElem? (i := 177) rfl) rfl
theorem mt_178 : (Jvm.Cond.instanceMethod ({ cls := "DigitRows", name := "product", desc := "(IIIIII)I" } : Jvm.MethodName)) ∈ TB := tb_in (List.mem_of_getElem? (i := 178) rfl) rfl
theorem mt_179 : (Jvm.Cond.selects "DigitRows" ({ cls := "DigitRows", name := "product", desc := "(IIIIII)I" } : Jvm.MethodName) ({ cls := "DigitRows", name := "product", desc := "(IIIIII)I" } : Jvm.MethodName)) ∈ TB := tb_in (List.mem_of_getElem? (i := 179) rfl) rfl
theorem mt_18 : (Jvm.Cond.instanceMethod ({ cls := "DigitRows$Row", name := "<init>", desc := "()V" } : Jvm.MethodName)) ∈ TB := tb_in (List.mem_of_getElem? (i := 18) rfl) rfl
theorem mt_180 : (Jvm.Cond.code ({ cls := "DigitRows", name := "product", desc := "(IIIIII)I" } : Jvm.MethodName) prog_1_method_6_code (8 : Nat) (Option.some Jvm.ClassFile.FieldType.int)) ∈ TB := tb_in (List.mem_of_getElem? (i := 180) rfl) rfl
theorem mt_181 : (Jvm.Cond.methodLink "DigitRows" (55 : Nat) ({ cls := "DigitRows$Row", name := "multiply", desc := "(LDigitRows$Row;LDigitRows$Row;)V" } : Jvm.MethodName)) ∈ TB := tb_in (List.mem_of_getElem? (i := 181) rfl) rfl
theorem mt_182 : (Jvm.Cond.instanceMethod ({ cls := "DigitRows$Row", name := "multiply", desc := "(LDigitRows$Row;LDigitRows$Row;)V" } : Jvm.MethodName)) ∈ TB := tb_in (List.mem_of_getElem? (i := 182) rfl) rfl
theorem mt_183 : (Jvm.Cond.selects "DigitRows$Row" ({ cls := "DigitRows$Row", name := "multiply", desc := "(LDigitRows$Row;LDigitRows$Row;)V" } : Jvm.MethodName) ({ cls := "DigitRows$Row", name := "multiply", desc := "(LDigitRows$Row;LDigitRows$Row;)V" } : Jvm.MethodName)) ∈ TB := tb_in (List.mem_of_getElem? (i := 183) rfl) rfl
theorem mt_184 : (Jvm.Cond.code ({ cls := "DigitRows$Row", name := "multiply", desc := "(LDigitRows$Row;LDigitRows$Row;)V" } : Jvm.MethodName) prog_2_method_17_code (4 : Nat) (Option.none : Option Jvm.ClassFile.FieldType)) ∈ TB := tb_in (List.mem_of_getElem? (i := 184) rfl) rfl
theorem mt_185 : (Jvm.Cond.methodLink "DigitRows$Row" (63 : Nat) ({ cls := "DigitRows$Row", name := "addMultiple", desc := "(LDigitRows$Row;II)V" } : Jvm.MethodName)) ∈ TB := tb_in (List.mem_of_getElem? (i := 185) rfl) rfl
theorem mt_187 : (Jvm.Cond.instanceMethod ({ cls := "DigitRows$Row", name := "addMultiple", desc := "(LDigitRows$Row;II)V" } : Jvm.MethodName)) ∈ TB := tb_in (List.mem_of_getElem? (i := 187) rfl) rfl
theorem mt_188 : (Jvm.Cond.code ({ cls := "DigitRows$Row", name := "addMultiple", desc := "(LDigitRows$Row;II)V" } : Jvm.MethodName) prog_2_method_18_code (7 : Nat) (Option.none : Option Jvm.ClassFile.FieldType)) ∈ TB := tb_in (List.mem_of_getElem? (i := 188) rfl) rfl
theorem mt_189 : (Jvm.Cond.methodLink "DigitRowsLaw" (36 : Nat) ({ cls := "DigitRows", name := "quotient", desc := "(IIIIII)I" } : Jvm.MethodName)) ∈ TB := tb_in (List.mem_of_getElem? (i := 189) rfl) rfl
theorem mt_19 : (Jvm.Cond.code ({ cls := "DigitRows$Row", name := "<init>", desc := "()V" } : Jvm.MethodName) prog_2_method_1_code (1 : Nat) (Option.none : Option Jvm.ClassFile.FieldType)) ∈ TB := tb_in (List.mem_of_getElem? (i := 19) rfl) rfl
theorem mt_190 : (Jvm.Cond.instanceMethod ({ cls := "DigitRows", name := "quotient", desc := "(IIIIII)I" } : Jvm.MethodName)) ∈ TB := tb_in (List.mem_of_getElem? (i := 190) rfl) rfl
theorem mt_191 : (Jvm.Cond.selects "DigitRows" ({ cls := "DigitRows", name := "quotient", desc := "(IIIIII)I" } : Jvm.MethodName) ({ cls := "DigitRows", name := "quotient", desc := "(IIIIII)I" } : Jvm.MethodName)) ∈ TB := tb_in (List.mem_of_getElem? (i := 191) rfl) rfl
theorem mt_192 : (Jvm.Cond.code ({ cls := "DigitRows", name := "quotient", desc := "(IIIIII)I" } : Jvm.MethodName) prog_1_method_7_code (8 : Nat) (Option.some Jvm.ClassFile.FieldType.int)) ∈ TB := tb_in (List.mem_of_getElem? (i := 192) rfl) rfl
theorem mt_193 : (Jvm.Cond.methodLink "DigitRows" (58 : Nat) ({ cls := "DigitRows$Row", name := "isZero", desc := "()Z" } : Jvm.MethodName)) ∈ TB := tb_in (List.mem_of_getElem? (i := 193) rfl) rfl
theorem mt_194 : (Jvm.Cond.methodLink "DigitRows" (62 : Nat) ({ cls := "DigitRows$Row", name := "divide", desc := "(LDigitRows$Row;LDigitRows$Row;LDigitRows$Row;)V" } : Jvm.MethodName)) ∈ TB := tb_in (List.mem_of_getElem? (i := 194) rfl) rfl
theorem mt_195 : (Jvm.Cond.instanceMethod ({ cls := "DigitRows$Row", name := "divide", desc := "(LDigitRows$Row;LDigitRows$Row;LDigitRows$Row;)V" } : Jvm.MethodName)) ∈ TB := tb_in (List.mem_of_getElem? (i := 195) rfl) rfl
theorem mt_196 : (Jvm.Cond.selects "DigitRows$Row" ({ cls := "DigitRows$Row", name := "divide", desc := "(LDigitRows$Row;LDigitRows$Row;LDigitRows$Row;)V" } : Jvm.MethodName) ({ cls := "DigitRows$Row", name := "divide", desc := "(LDigitRows$Row;LDigitRows$Row;LDigitRows$Row;)V" } : Jvm.MethodName)) ∈ TB := tb_in (List.mem_of_getElem? (i := 196) rfl) rfl
theorem mt_197 : (Jvm.Cond.code ({ cls := "DigitRows$Row", name := "divide", desc := "(LDigitRows$Row;LDigitRows$Row;LDigitRows$Row;)V" } : Jvm.MethodName) prog_2_method_19_code (5 : Nat) (Option.none : Option Jvm.ClassFile.FieldType)) ∈ TB := tb_in (List.mem_of_getElem? (i := 197) rfl) rfl
theorem mt_198 : (Jvm.Cond.methodLink "DigitRows$Row" (67 : Nat) ({ cls := "DigitRows$Row", name := "bringDown", desc := "(I)V" } : Jvm.MethodName)) ∈ TB := tb_in (List.mem_of_getElem? (i := 198) rfl) rfl
theorem mt_2 : (Jvm.Cond.initialized "DigitRows$Row") ∈ TB := tb_in (List.mem_of_getElem? (i := 2) rfl) rfl
theorem mt_20 : (Jvm.Cond.methodLink "DigitRows$Row" (3 : Nat) ({ cls := "java/lang/Object", name := "<init>", desc := "()V" } : Jvm.MethodName)) ∈ TB := tb_in (List.mem_of_getElem? (i := 20) rfl) rfl
theorem mt_200 : (Jvm.Cond.instanceMethod ({ cls := "DigitRows$Row", name := "bringDown", desc := "(I)V" } : Jvm.MethodName)) ∈ TB := tb_in (List.mem_of_getElem? (i := 200) rfl) rfl
theorem mt_201 : (Jvm.Cond.code ({ cls := "DigitRows$Row", name := "bringDown", desc := "(I)V" } : Jvm.MethodName) prog_2_method_20_code (3 : Nat) (Option.none : Option Jvm.ClassFile.FieldType)) ∈ TB := tb_in (List.mem_of_getElem? (i := 201) rfl) rfl
theorem mt_202 : (Jvm.Cond.methodLink "DigitRows$Row" (71 : Nat) ({ cls := "DigitRows$Row", name := "takeAway", desc := "(LDigitRows$Row;)I" } : Jvm.MethodName)) ∈ TB := tb_in (List.mem_of_getElem? (i := 202) rfl) rfl
theorem mt_204 : (Jvm.Cond.instanceMethod ({ cls := "DigitRows$Row", name := "takeAway", desc := "(LDigitRows$Row;)I" } : Jvm.MethodName)) ∈ TB := tb_in (List.mem_of_getElem? (i := 204) rfl) rfl
theorem mt_205 : (Jvm.Cond.code ({ cls := "DigitRows$Row", name := "takeAway", desc := "(LDigitRows$Row;)I" } : Jvm.MethodName) prog_2_method_21_code (3 : Nat) (Option.some Jvm.ClassFile.FieldType.int)) ∈ TB := tb_in (List.mem_of_getElem? (i := 205) rfl) rfl
theorem mt_206 : (Jvm.Cond.methodLink "DigitRowsLaw" (40 : Nat) ({ cls := "DigitRows", name := "shift", desc := "(IIIIII)I" } : Jvm.MethodName)) ∈ TB := tb_in (List.mem_of_getElem? (i := 206) rfl) rfl
theorem mt_207 : (Jvm.Cond.instanceMethod ({ cls := "DigitRows", name := "shift", desc := "(IIIIII)I" } : Jvm.MethodName)) ∈ TB := tb_in (List.mem_of_getElem? (i := 207) rfl) rfl
theorem mt_208 : (Jvm.Cond.selects "DigitRows" ({ cls := "DigitRows", name := "shift", desc := "(IIIIII)I" } : Jvm.MethodName) ({ cls := "DigitRows", name := "shift", desc := "(IIIIII)I" } : Jvm.MethodName)) ∈ TB := tb_in (List.mem_of_getElem? (i := 208) rfl) rfl
theorem mt_209 : (Jvm.Cond.code ({ cls := "DigitRows", name := "shift", desc := "(IIIIII)I" } : Jvm.MethodName) prog_1_method_8_code (7 : Nat) (Option.some Jvm.ClassFile.FieldType.int)) ∈ TB := tb_in (List.mem_of_getElem? (i := 209) rfl) rfl
theorem mt_21 : (Jvm.Cond.fieldLink "DigitRows$Row" (9 : Nat) "DigitRows$Row" "places" "[I") ∈ TB := tb_in (List.mem_of_getElem? (i := 21) rfl) rfl
theorem mt_210 : (Jvm.Cond.methodLink "DigitRows" (74 : Nat) ({ cls := "DigitRows$Row", name := "moveLeft", desc := "(LDigitRows$Row;I)V" } : Jvm.MethodName)) ∈ TB := tb_in (List.mem_of_getElem? (i := 210) rfl) rfl
theorem mt_211 : (Jvm.Cond.instanceMethod ({ cls := "DigitRows$Row", name := "moveLeft", desc := "(LDigitRows$Row;I)V" } : Jvm.MethodName)) ∈ TB := tb_in (List.mem_of_getElem? (i := 211) rfl) rfl
theorem mt_212 : (Jvm.Cond.selects "DigitRows$Row" ({ cls := "DigitRows$Row", name := "moveLeft", desc := "(LDigitRows$Row;I)V" } : Jvm.MethodName) ({ cls := "DigitRows$Row", name := "moveLeft", desc := "(LDigitRows$Row;I)V" } : Jvm.MethodName)) ∈ TB := tb_in (List.mem_of_getElem? (i := 212) rfl) rfl
theorem mt_213 : (Jvm.Cond.code ({ cls := "DigitRows$Row", name := "moveLeft", desc := "(LDigitRows$Row;I)V" } : Jvm.MethodName) prog_2_method_22_code (4 : Nat) (Option.none : Option Jvm.ClassFile.FieldType)) ∈ TB := tb_in (List.mem_of_getElem? (i := 213) rfl) rfl
theorem mt_214 : (Jvm.Cond.methodLink "DigitRows" (82 : Nat) ({ cls := "DigitRows$Row", name := "addOne", desc := "()V" } : Jvm.MethodName)) ∈ TB := tb_in (List.mem_of_getElem? (i := 214) rfl) rfl
theorem mt_215 : (Jvm.Cond.instanceMethod ({ cls := "DigitRows$Row", name := "addOne", desc := "()V" } : Jvm.MethodName)) ∈ TB := tb_in (List.mem_of_getElem? (i := 215) rfl) rfl
theorem mt_216 : (Jvm.Cond.selects "DigitRows$Row" ({ cls := "DigitRows$Row", name := "addOne", desc := "()V" } : Jvm.MethodName) ({ cls := "DigitRows$Row", name := "addOne", desc := "()V" } : Jvm.MethodName)) ∈ TB := tb_in (List.mem_of_getElem? (i := 216) rfl) rfl
theorem mt_217 : (Jvm.Cond.code ({ cls := "DigitRows$Row", name := "addOne", desc := "()V" } : Jvm.MethodName) prog_2_method_16_code (4 : Nat) (Option.none : Option Jvm.ClassFile.FieldType)) ∈ TB := tb_in (List.mem_of_getElem? (i := 217) rfl) rfl
theorem mt_218 : (Jvm.Cond.methodLink "DigitRowsLaw" (44 : Nat) ({ cls := "DigitRows", name := "compare", desc := "(IIII)I" } : Jvm.MethodName)) ∈ TB := tb_in (List.mem_of_getElem? (i := 218) rfl) rfl
theorem mt_219 : (Jvm.Cond.instanceMethod ({ cls := "DigitRows", name := "compare", desc := "(IIII)I" } : Jvm.MethodName)) ∈ TB := tb_in (List.mem_of_getElem? (i := 219) rfl) rfl
theorem mt_22 : (Jvm.Cond.fieldLink "DigitRows$Row" (15 : Nat) "DigitRows$Row" "minus" "Z") ∈ TB := tb_in (List.mem_of_getElem? (i := 22) rfl) rfl
theorem mt_220 : (Jvm.Cond.selects "DigitRows" ({ cls := "DigitRows", name := "compare", desc := "(IIII)I" } : Jvm.MethodName) ({ cls := "DigitRows", name := "compare", desc := "(IIII)I" } : Jvm.MethodName)) ∈ TB := tb_in (List.mem_of_getElem? (i := 220) rfl) rfl
theorem mt_221 : (Jvm.Cond.code ({ cls := "DigitRows", name := "compare", desc := "(IIII)I" } : Jvm.MethodName) prog_1_method_9_code (6 : Nat) (Option.some Jvm.ClassFile.FieldType.int)) ∈ TB := tb_in (List.mem_of_getElem? (i := 221) rfl) rfl
theorem mt_222 : (Jvm.Cond.methodLink "DigitRows" (85 : Nat) ({ cls := "DigitRows$Row", name := "orderSigned", desc := "(LDigitRows$Row;)I" } : Jvm.MethodName)) ∈ TB := tb_in (List.mem_of_getElem? (i := 222) rfl) rfl
theorem mt_223 : (Jvm.Cond.instanceMethod ({ cls := "DigitRows$Row", name := "orderSigned", desc := "(LDigitRows$Row;)I" } : Jvm.MethodName)) ∈ TB := tb_in (List.mem_of_getElem? (i := 223) rfl) rfl
theorem mt_224 : (Jvm.Cond.selects "DigitRows$Row" ({ cls := "DigitRows$Row", name := "orderSigned", desc := "(LDigitRows$Row;)I" } : Jvm.MethodName) ({ cls := "DigitRows$Row", name := "orderSigned", desc := "(LDigitRows$Row;)I" } : Jvm.MethodName)) ∈ TB := tb_in (List.mem_of_getElem? (i := 224) rfl) rfl
theorem mt_225 : (Jvm.Cond.code ({ cls := "DigitRows$Row", name := "orderSigned", desc := "(LDigitRows$Row;)I" } : Jvm.MethodName) prog_2_method_12_code (3 : Nat) (Option.some Jvm.ClassFile.FieldType.int)) ∈ TB := tb_in (List.mem_of_getElem? (i := 225) rfl) rfl
theorem mt_226 : (Jvm.Cond.methodLink "DigitRowsLaw" (49 : Nat) ({ cls := "DigitRows", name := "number", desc := "(III)I" } : Jvm.MethodName)) ∈ TB := tb_in (List.mem_of_getElem? (i := 226) rfl) rfl
theorem mt_227 : (Jvm.Cond.instanceMethod ({ cls := "DigitRows", name := "number", desc := "(III)I" } : Jvm.MethodName)) ∈ TB := tb_in (List.mem_of_getElem? (i := 227) rfl) rfl
theorem mt_228 : (Jvm.Cond.selects "DigitRows" ({ cls := "DigitRows", name := "number", desc := "(III)I" } : Jvm.MethodName) ({ cls := "DigitRows", name := "number", desc := "(III)I" } : Jvm.MethodName)) ∈ TB := tb_in (List.mem_of_getElem? (i := 228) rfl) rfl
theorem mt_229 : (Jvm.Cond.code ({ cls := "DigitRows", name := "number", desc := "(III)I" } : Jvm.MethodName) prog_1_method_10_code (4 : Nat) (Option.some Jvm.ClassFile.FieldType.int)) ∈ TB := tb_in (List.mem_of_getElem? (i := 229) rfl) rfl
theorem mt_23 : (Jvm.Cond.fieldLink "DigitRows$Writing" (35 : Nat) "DigitRows$Row" "minus" "Z") ∈ TB := tb_in (List.mem_of_getElem? (i := 23) rfl) rfl
theorem mt_230 : (Jvm.Cond.methodLink "DigitRows" (89 : Nat) ({ cls := "DigitRows$Row", name := "take", desc := "(I)V" } : Jvm.MethodName)) ∈ TB := tb_in (List.mem_of_getElem? (i := 230) rfl) rfl
theorem mt_231 : (Jvm.Cond.instanceMethod ({ cls := "DigitRows$Row", name := "take", desc := "(I)V" } : Jvm.MethodName)) ∈ TB := tb_in (List.mem_of_getElem? (i := 231) rfl) rfl
theorem mt_232 : (Jvm.Cond.selects "DigitRows$Row" ({ cls := "DigitRows$Row", name := "take", desc := "(I)V" } : Jvm.MethodName) ({ cls := "DigitRows$Row", name := "take", desc := "(I)V" } : Jvm.MethodName)) ∈ TB := tb_in (List.mem_of_getElem? (i := 232) rfl) rfl
theorem mt_233 : (Jvm.Cond.code ({ cls := "DigitRows$Row", name := "take", desc := "(I)V" } : Jvm.MethodName) prog_2_method_9_code (5 : Nat) (Option.none : Option Jvm.ClassFile.FieldType)) ∈ TB := tb_in (List.mem_of_getElem? (i := 233) rfl) rfl
theorem mt_234 : (Jvm.Cond.methodLink "DigitRows$Row" (40 : Nat) ({ cls := "java/lang/Math", name := "abs", desc := "(J)J" } : Jvm.MethodName)) ∈ TB := tb_in (List.mem_of_getElem? (i := 234) rfl) rfl
theorem mt_235 : (Jvm.Cond.static ({ cls := "java/lang/Math", name := "abs", desc := "(J)J" } : Jvm.MethodName)) ∈ TB := tb_in (List.mem_of_getElem? (i := 235) rfl) rfl
theorem mt_236 : (Jvm.Cond.code ({ cls := "java/lang/Math", name := "abs", desc := "(J)J" } : Jvm.MethodName) prog_6_method_61_code (2 : Nat) (Option.some Jvm.ClassFile.FieldType.long)) ∈ TB := tb_in (List.mem_of_getElem? (i := 236) rfl) rfl
theorem mt_237 : (Jvm.Cond.constantLong "DigitRows$Row" (46 : Nat) (10 : Int64)) ∈ TB := tb_in (List.mem_of_getElem? (i := 237) rfl) rfl
theorem mt_238 : (Jvm.Cond.methodLink "DigitRowsLaw" (54 : Nat) ({ cls := "DigitRows", name := "value", desc := "(II)J" } : Jvm.MethodName)) ∈ TB := tb_in (List.mem_of_getElem? (i := 238) rfl) rfl
theorem mt_239 : (Jvm.Cond.instanceMethod ({ cls := "DigitRows", name := "value", desc := "(II)J" } : Jvm.MethodName)) ∈ TB := tb_in (List.mem_of_getElem? (i := 239) rfl) rfl
theorem mt_24 : (Jvm.Cond.fieldLink "DigitRows" (52 : Nat) "DigitRows$Row" "minus" "Z") ∈ TB := tb_in (List.mem_of_getElem? (i := 24) rfl) rfl
theorem mt_240 : (Jvm.Cond.selects "DigitRows" ({ cls := "DigitRows", name := "value", desc := "(II)J" } : Jvm.MethodName) ({ cls := "DigitRows", name := "value", desc := "(II)J" } : Jvm.MethodName)) ∈ TB := tb_in (List.mem_of_getElem? (i := 240) rfl) rfl
theorem mt_241 : (Jvm.Cond.code ({ cls := "DigitRows", name := "value", desc := "(II)J" } : Jvm.MethodName) prog_1_method_11_code (3 : Nat) (Option.some Jvm.ClassFile.FieldType.long)) ∈ TB := tb_in (List.mem_of_getElem? (i := 241) rfl) rfl
theorem mt_242 : (Jvm.Cond.methodLink "DigitRows" (93 : Nat) ({ cls := "DigitRows$Row", name := "lowestBits", desc := "()J" } : Jvm.MethodName)) ∈ TB := tb_in (List.mem_of_getElem? (i := 242) rfl) rfl
theorem mt_243 : (Jvm.Cond.instanceMethod ({ cls := "DigitRows$Row", name := "lowestBits", desc := "()J" } : Jvm.MethodName)) ∈ TB := tb_in (List.mem_of_getElem? (i := 243) rfl) rfl
theorem mt_244 : (Jvm.Cond.selects "DigitRows$Row" ({ cls := "DigitRows$Row", name := "lowestBits", desc := "()J" } : Jvm.MethodName) ({ cls := "DigitRows$Row", name := "lowestBits", desc := "()J" } : Jvm.MethodName)) ∈ TB := tb_in (List.mem_of_getElem? (i := 244) rfl) rfl
theorem mt_245 : (Jvm.Cond.code ({ cls := "DigitRows$Row", name := "lowestBits", desc := "()J" } : Jvm.MethodName) prog_2_method_10_code (4 : Nat) (Option.some Jvm.ClassFile.FieldType.long)) ∈ TB := tb_in (List.mem_of_getElem? (i := 245) rfl) rfl
theorem mt_246 : (Jvm.Cond.methodLink "DigitRowsLaw" (59 : Nat) ({ cls := "DigitRows", name := "characters", desc := "(IIII)I" } : Jvm.MethodName)) ∈ TB := tb_in (List.mem_of_getElem? (i := 246) rfl) rfl
theorem mt_247 : (Jvm.Cond.instanceMethod ({ cls := "DigitRows", name := "characters", desc := "(IIII)I" } : Jvm.MethodName)) ∈ TB := tb_in (List.mem_of_getElem? (i := 247) rfl) rfl
theorem mt_248 : (Jvm.Cond.selects "DigitRows" ({ cls := "DigitRows", name := "characters", desc := "(IIII)I" } : Jvm.MethodName) ({ cls := "DigitRows", name := "characters", desc := "(IIII)I" } : Jvm.MethodName)) ∈ TB := tb_in (List.mem_of_getElem? (i := 248) rfl) rfl
theorem mt_249 : (Jvm.Cond.code ({ cls := "DigitRows", name := "characters", desc := "(IIII)I" } : Jvm.MethodName) prog_1_method_12_code (7 : Nat) (Option.some Jvm.ClassFile.FieldType.int)) ∈ TB := tb_in (List.mem_of_getElem? (i := 249) rfl) rfl
theorem mt_250 : (Jvm.Cond.methodLink "DigitRows" (97 : Nat) ({ cls := "DigitRows", name := "charactersFit", desc := "(II)Z" } : Jvm.MethodName)) ∈ TB := tb_in (List.mem_of_getElem? (i := 250) rfl) rfl
theorem mt_251 : (Jvm.Cond.static ({ cls := "DigitRows", name := "charactersFit", desc := "(II)Z" } : Jvm.MethodName)) ∈ TB := tb_in (List.mem_of_getElem? (i := 251) rfl) rfl
theorem mt_252 : (Jvm.Cond.code ({ cls := "DigitRows", name := "charactersFit", desc := "(II)Z" } : Jvm.MethodName) prog_1_method_17_code (2 : Nat) (Option.some Jvm.ClassFile.FieldType.boolean)) ∈ TB := tb_in (List.mem_of_getElem? (i := 252) rfl) rfl
theorem mt_253 : (Jvm.Cond.methodLink "DigitRowsLaw" (63 : Nat) ({ cls := "DigitRows", name := "digits", desc := "(IIII)I" } : Jvm.MethodName)) ∈ TB := tb_in (List.mem_of_getElem? (i := 253) rfl) rfl
theorem mt_254 : (Jvm.Cond.instanceMethod ({ cls := "DigitRows", name := "digits", desc := "(IIII)I" } : Jvm.MethodName)) ∈ TB := tb_in (List.mem_of_getElem? (i := 254) rfl) rfl
theorem mt_255 : (Jvm.Cond.selects "DigitRows" ({ cls := "DigitRows", name := "digits", desc := "(IIII)I" } : Jvm.MethodName) ({ cls := "DigitRows", name := "digits", desc := "(IIII)I" } : Jvm.MethodName)) ∈ TB := tb_in (List.mem_of_getElem? (i := 255) rfl) rfl
theorem mt_256 : (Jvm.Cond.code ({ cls := "DigitRows", name := "digits", desc := "(IIII)I" } : Jvm.MethodName) prog_1_method_13_code (5 : Nat) (Option.some Jvm.ClassFile.FieldType.int)) ∈ TB := tb_in (List.mem_of_getElem? (i := 256) rfl) rfl
theorem mt_257 : (Jvm.Cond.methodLink "DigitRows" (106 : Nat) ({ cls := "DigitRows", name := "readCharacters", desc := "(LDigitRows$Row;II)Z" } : Jvm.MethodName)) ∈ TB := tb_in (List.mem_of_getElem? (i := 257) rfl) rfl
theorem mt_259 : (Jvm.Cond.instanceMethod ({ cls := "DigitRows", name := "readCharacters", desc := "(LDigitRows$Row;II)Z" } : Jvm.MethodName)) ∈ TB := tb_in (List.mem_of_getElem? (i := 259) rfl) rfl
theorem mt_260 : (Jvm.Cond.code ({ cls := "DigitRows", name := "readCharacters", desc := "(LDigitRows$Row;II)Z" } : Jvm.MethodName) prog_1_method_21_code (7 : Nat) (Option.some Jvm.ClassFile.FieldType.boolean)) ∈ TB := tb_in (List.mem_of_getElem? (i := 260) rfl) rfl
theorem mt_261 : (Jvm.Cond.methodLink "DigitRowsLaw" (67 : Nat) ({ cls := "DigitRows", name := "edit", desc := "(IIII)I" } : Jvm.MethodName)) ∈ TB := tb_in (List.mem_of_getElem? (i := 261) rfl) rfl
theorem mt_262 : (Jvm.Cond.instanceMethod ({ cls := "DigitRows", name := "edit", desc := "(IIII)I" } : Jvm.MethodName)) ∈ TB := tb_in (List.mem_of_getElem? (i := 262) rfl) rfl
theorem mt_263 : (Jvm.Cond.selects "DigitRows" ({ cls := "DigitRows", name := "edit", desc := "(IIII)I" } : Jvm.MethodName) ({ cls := "DigitRows", name := "edit", desc := "(IIII)I" } : Jvm.MethodName)) ∈ TB := tb_in (List.mem_of_getElem? (i := 263) rfl) rfl
theorem mt_264 : (Jvm.Cond.code ({ cls := "DigitRows", name := "edit", desc := "(IIII)I" } : Jvm.MethodName) prog_1_method_14_code (6 : Nat) (Option.some Jvm.ClassFile.FieldType.int)) ∈ TB := tb_in (List.mem_of_getElem? (i := 264) rfl) rfl
theorem mt_265 : (Jvm.Cond.methodLink "DigitRows" (109 : Nat) ({ cls := "DigitRows$Writing", name := "begin", desc := "(LDigitRows$Row;I)V" } : Jvm.MethodName)) ∈ TB := tb_in (List.mem_of_getElem? (i := 265) rfl) rfl
theorem mt_266 : (Jvm.Cond.instanceMethod ({ cls := "DigitRows$Writing", name := "begin", desc := "(LDigitRows$Row;I)V" } : Jvm.MethodName)) ∈ TB := tb_in (List.mem_of_getElem? (i := 266) rfl) rfl
theorem mt_267 : (Jvm.Cond.selects "DigitRows$Writing" ({ cls := "DigitRows$Writing", name := "begin", desc := "(LDigitRows$Row;I)V" } : Jvm.MethodName) ({ cls := "DigitRows$Writing", name := "begin", desc := "(LDigitRows$Row;I)V" } : Jvm.MethodName)) ∈ TB := tb_in (List.mem_of_getElem? (i := 267) rfl) rfl
theorem mt_268 : (Jvm.Cond.code ({ cls := "DigitRows$Writing", name := "begin", desc := "(LDigitRows$Row;I)V" } : Jvm.MethodName) prog_3_method_2_code (4 : Nat) (Option.none : Option Jvm.ClassFile.FieldType)) ∈ TB := tb_in (List.mem_of_getElem? (i := 268) rfl) rfl
theorem mt_269 : (Jvm.Cond.methodLink "DigitRows$Writing" (18 : Nat) ({ cls := "DigitRows$Row", name := "digitAt", desc := "(I)I" } : Jvm.MethodName)) ∈ TB := tb_in (List.mem_of_getElem? (i := 269) rfl) rfl
theorem mt_270 : (Jvm.Cond.methodLink "DigitRows$Writing" (41 : Nat) ({ cls := "DigitRows$Row", name := "isZero", desc := "()Z" } : Jvm.MethodName)) ∈ TB := tb_in (List.mem_of_getElem? (i := 270) rfl) rfl
theorem mt_271 : (Jvm.Cond.methodLink "DigitRows" (112 : Nat) ({ cls := "DigitRows", name := "followPattern", desc := "(I)Z" } : Jvm.MethodName)) ∈ TB := tb_in (List.mem_of_getElem? (i := 271) rfl) rfl
theorem mt_273 : (Jvm.Cond.instanceMethod ({ cls := "DigitRows", name := "followPattern", desc := "(I)Z" } : Jvm.MethodName)) ∈ TB := tb_in (List.mem_of_getElem? (i := 273) rfl) rfl
theorem mt_274 : (Jvm.Cond.code ({ cls := "DigitRows", name := "followPattern", desc := "(I)Z" } : Jvm.MethodName) prog_1_method_23_code (5 : Nat) (Option.some Jvm.ClassFile.FieldType.boolean)) ∈ TB := tb_in (List.mem_of_getElem? (i := 274) rfl) rfl
theorem mt_275 : (Jvm.Cond.methodLink "DigitRows" (147 : Nat) ({ cls := "DigitRows$Writing", name := "obey", desc := "(II)Z" } : Jvm.MethodName)) ∈ TB := tb_in (List.mem_of_getElem? (i := 275) rfl) rfl
theorem mt_276 : (Jvm.Cond.instanceMethod ({ cls := "DigitRows$Writing", name := "obey", desc := "(II)Z" } : Jvm.MethodName)) ∈ TB := tb_in (List.mem_of_getElem? (i := 276) rfl) rfl
theorem mt_277 : (Jvm.Cond.selects "DigitRows$Writing" ({ cls := "DigitRows$Writing", name := "obey", desc := "(II)Z" } : Jvm.MethodName) ({ cls := "DigitRows$Writing", name := "obey", desc := "(II)Z" } : Jvm.MethodName)) ∈ TB := tb_in (List.mem_of_getElem? (i := 277) rfl) rfl
theorem mt_278 : (Jvm.Cond.code ({ cls := "DigitRows$Writing", name := "obey", desc := "(II)Z" } : Jvm.MethodName) prog_3_method_5_code (3 : Nat) (Option.some Jvm.ClassFile.FieldType.boolean)) ∈ TB := tb_in (List.mem_of_getElem? (i := 278) rfl) rfl
theorem mt_279 : (Jvm.Cond.methodLink "DigitRows$Writing" (54 : Nat) ({ cls := "DigitRows$Writing", name := "isRun", desc := "(II)Z" } : Jvm.MethodName)) ∈ TB := tb_in (List.mem_of_getElem? (i := 279) rfl) rfl
theorem mt_280 : (Jvm.Cond.static ({ cls := "DigitRows$Writing", name := "isRun", desc := "(II)Z" } : Jvm.MethodName)) ∈ TB := tb_in (List.mem_of_getElem? (i := 280) rfl) rfl
theorem mt_281 : (Jvm.Cond.code ({ cls := "DigitRows$Writing", name := "isRun", desc := "(II)Z" } : Jvm.MethodName) prog_3_method_6_code (2 : Nat) (Option.some Jvm.ClassFile.FieldType.boolean)) ∈ TB := tb_in (List.mem_of_getElem? (i := 281) rfl) rfl
theorem mt_282 : (Jvm.Cond.methodLink "DigitRows$Writing" (58 : Nat) ({ cls := "DigitRows$Writing", name := "writeDigits", desc := "(IZ)Z" } : Jvm.MethodName)) ∈ TB := tb_in (List.mem_of_getElem? (i := 282) rfl) rfl
theorem mt_284 : (Jvm.Cond.instanceMethod ({ cls := "DigitRows$Writing", name := "writeDigits", desc := "(IZ)Z" } : Jvm.MethodName)) ∈ TB := tb_in (List.mem_of_getElem? (i := 284) rfl) rfl
theorem mt_285 : (Jvm.Cond.code ({ cls := "DigitRows$Writing", name := "writeDigits", desc := "(IZ)Z" } : Jvm.MethodName) prog_3_method_10_code (4 : Nat) (Option.some Jvm.ClassFile.FieldType.boolean)) ∈ TB := tb_in (List.mem_of_getElem? (i := 285) rfl) rfl
theorem mt_286 : (Jvm.Cond.methodLink "DigitRows$Writing" (78 : Nat) ({ cls := "DigitRows$Writing", name := "writeDigit", desc := "(IZ)Z" } : Jvm.MethodName)) ∈ TB := tb_in (List.mem_of_getElem? (i := 286) rfl) rfl
theorem mt_288 : (Jvm.Cond.instanceMethod ({ cls := "DigitRows$Writing", name := "writeDigit", desc := "(IZ)Z" } : Jvm.MethodName)) ∈ TB := tb_in (List.mem_of_getElem? (i := 288) rfl) rfl
theorem mt_289 : (Jvm.Cond.code ({ cls := "DigitRows$Writing", name := "writeDigit", desc := "(IZ)Z" } : Jvm.MethodName) prog_3_method_11_code (5 : Nat) (Option.some Jvm.ClassFile.FieldType.boolean)) ∈ TB := tb_in (List.mem_of_getElem? (i := 289) rfl) rfl
theorem mt_290 : (Jvm.Cond.methodLink "DigitRows$Writing" (72 : Nat) ({ cls := "DigitRows$Writing", name := "write", desc := "(I)Z" } : Jvm.MethodName)) ∈ TB := tb_in (List.mem_of_getElem? (i := 290) rfl) rfl
theorem mt_292 : (Jvm.Cond.instanceMethod ({ cls := "DigitRows$Writing", name := "write", desc := "(I)Z" } : Jvm.MethodName)) ∈ TB := tb_in (List.mem_of_getElem? (i := 292) rfl) rfl
theorem mt_293 : (Jvm.Cond.code ({ cls := "DigitRows$Writing", name := "write", desc := "(I)Z" } : Jvm.MethodName) prog_3_method_8_code (2 : Nat) (Option.some Jvm.ClassFile.FieldType.boolean)) ∈ TB := tb_in (List.mem_of_getElem? (i := 293) rfl) rfl
theorem mt_294 : (Jvm.Cond.methodLink "DigitRows$Writing" (62 : Nat) ({ cls := "DigitRows$Writing", name := "writeFills", desc := "(I)Z" } : Jvm.MethodName)) ∈ TB := tb_in (List.mem_of_getElem? (i := 294) rfl) rfl
theorem mt_296 : (Jvm.Cond.instanceMethod ({ cls := "DigitRows$Writing", name := "writeFills", desc := "(I)Z" } : Jvm.MethodName)) ∈ TB := tb_in (List.mem_of_getElem? (i := 296) rfl) rfl
theorem mt_297 : (Jvm.Cond.code ({ cls := "DigitRows$Writing", name := "writeFills", desc := "(I)Z" } : Jvm.MethodName) prog_3_method_9_code (3 : Nat) (Option.some Jvm.ClassFile.FieldType.boolean)) ∈ TB := tb_in (List.mem_of_getElem? (i := 297) rfl) rfl
theorem mt_298 : (Jvm.Cond.methodLink "DigitRows$Writing" (66 : Nat) ({ cls := "DigitRows$Writing", name := "takesNext", desc := "(I)Z" } : Jvm.MethodName)) ∈ TB := tb_in (List.mem_of_getElem? (i := 298) rfl) rfl
theorem mt_299 : (Jvm.Cond.static ({ cls := "DigitRows$Writing", name := "takesNext", desc := "(I)Z" } : Jvm.MethodName)) ∈ TB := tb_in (List.mem_of_getElem? (i := 299) rfl) rfl
theorem mt_3 : (Jvm.Cond.initialized "DigitRows$Writing") ∈ TB := tb_in (List.mem_of_getElem? (i := 3) rfl) rfl
theorem mt_30 : (Jvm.Cond.arrayClass Jvm.ClassFile.FieldType.int) ∈ TB := tb_in (List.mem_of_getElem? (i := 30) rfl) rfl
theorem mt_300 : (Jvm.Cond.code ({ cls := "DigitRows$Writing", name := "takesNext", desc := "(I)Z" } : Jvm.MethodName) prog_3_method_3_code (1 : Nat) (Option.some Jvm.ClassFile.FieldType.boolean)) ∈ TB := tb_in (List.mem_of_getElem? (i := 300) rfl) rfl
theorem mt_301 : (Jvm.Cond.methodLink "DigitRows$Writing" (69 : Nat) ({ cls := "DigitRows$Writing", name := "obeyWithNext", desc := "(II)Z" } : Jvm.MethodName)) ∈ TB := tb_in (List.mem_of_getElem? (i := 301) rfl) rfl
theorem mt_303 : (Jvm.Cond.instanceMethod ({ cls := "DigitRows$Writing", name := "obeyWithNext", desc := "(II)Z" } : Jvm.MethodName)) ∈ TB := tb_in (List.mem_of_getElem? (i := 303) rfl) rfl
theorem mt_304 : (Jvm.Cond.code ({ cls := "DigitRows$Writing", name := "obeyWithNext", desc := "(II)Z" } : Jvm.MethodName) prog_3_method_7_code (3 : Nat) (Option.some Jvm.ClassFile.FieldType.boolean)) ∈ TB := tb_in (List.mem_of_getElem? (i := 304) rfl) rfl
theorem mt_305 : (Jvm.Cond.methodLink "DigitRows$Writing" (75 : Nat) ({ cls := "DigitRows$Writing", name := "fillLast", desc := "(I)Z" } : Jvm.MethodName)) ∈ TB := tb_in (List.mem_of_getElem? (i := 305) rfl) rfl
theorem mt_307 : (Jvm.Cond.instanceMethod ({ cls := "DigitRows$Writing", name := "fillLast", desc := "(I)Z" } : Jvm.MethodName)) ∈ TB := tb_in (List.mem_of_getElem? (i := 307) rfl) rfl
theorem mt_308 : (Jvm.Cond.code ({ cls := "DigitRows$Writing", name := "fillLast", desc := "(I)Z" } : Jvm.MethodName) prog_3_method_12_code (3 : Nat) (Option.some Jvm.ClassFile.FieldType.boolean)) ∈ TB := tb_in (List.mem_of_getElem? (i := 308) rfl) rfl
theorem mt_309 : (Jvm.Cond.methodLink "DigitRows" (150 : Nat) ({ cls := "DigitRows$Writing", name := "takesNext", desc := "(I)Z" } : Jvm.MethodName)) ∈ TB := tb_in (List.mem_of_getElem? (i := 309) rfl) rfl
theorem mt_31 : (Jvm.Cond.classLink "DigitRows" (29 : Nat) "DigitRows$Writing") ∈ TB := tb_in (List.mem_of_getElem? (i := 31) rfl) rfl
theorem mt_310 : (Jvm.Cond.methodLink "DigitRows" (120 : Nat) ({ cls := "DigitRows$Writing", name := "characterAt", desc := "(I)I" } : Jvm.MethodName)) ∈ TB := tb_in (List.mem_of_getElem? (i := 310) rfl) rfl
theorem mt_311 : (Jvm.Cond.instanceMethod ({ cls := "DigitRows$Writing", name := "characterAt", desc := "(I)I" } : Jvm.MethodName)) ∈ TB := tb_in (List.mem_of_getElem? (i := 311) rfl) rfl
theorem mt_312 : (Jvm.Cond.selects "DigitRows$Writing" ({ cls := "DigitRows$Writing", name := "characterAt", desc := "(I)I" } : Jvm.MethodName) ({ cls := "DigitRows$Writing", name := "characterAt", desc := "(I)I" } : Jvm.MethodName)) ∈ TB := tb_in (List.mem_of_getElem? (i := 312) rfl) rfl
theorem mt_313 : (Jvm.Cond.code ({ cls := "DigitRows$Writing", name := "characterAt", desc := "(I)I" } : Jvm.MethodName) prog_3_method_4_code (2 : Nat) (Option.some Jvm.ClassFile.FieldType.int)) ∈ TB := tb_in (List.mem_of_getElem? (i := 313) rfl) rfl
theorem mt_314 : (Jvm.Cond.methodLink "DigitRowsLaw" (71 : Nat) ({ cls := "DigitRows", name := "significant", desc := "()Z" } : Jvm.MethodName)) ∈ TB := tb_in (List.mem_of_getElem? (i := 314) rfl) rfl
theorem mt_315 : (Jvm.Cond.instanceMethod ({ cls := "DigitRows", name := "significant", desc := "()Z" } : Jvm.MethodName)) ∈ TB := tb_in (List.mem_of_getElem? (i := 315) rfl) rfl
theorem mt_316 : (Jvm.Cond.selects "DigitRows" ({ cls := "DigitRows", name := "significant", desc := "()Z" } : Jvm.MethodName) ({ cls := "DigitRows", name := "significant", desc := "()Z" } : Jvm.MethodName)) ∈ TB := tb_in (List.mem_of_getElem? (i := 316) rfl) rfl
theorem mt_317 : (Jvm.Cond.code ({ cls := "DigitRows", name := "significant", desc := "()Z" } : Jvm.MethodName) prog_1_method_15_code (1 : Nat) (Option.some Jvm.ClassFile.FieldType.boolean)) ∈ TB := tb_in (List.mem_of_getElem? (i := 317) rfl) rfl
theorem mt_318 : (Jvm.Cond.classLink "DigitRowsLaw" (10 : Nat) "DigitRowsModel") ∈ TB := tb_in (List.mem_of_getElem? (i := 318) rfl) rfl
theorem mt_319 : (Jvm.Cond.instantiable "DigitRowsModel" (10 : Nat)) ∈ TB := tb_in (List.mem_of_getElem? (i := 319) rfl) rfl
theorem mt_32 : (Jvm.Cond.instantiable "DigitRows$Writing" (9 : Nat)) ∈ TB := tb_in (List.mem_of_getElem? (i := 32) rfl) rfl
theorem mt_320 : (Jvm.Cond.methodLink "DigitRowsLaw" (12 : Nat) ({ cls := "DigitRowsModel", name := "<init>", desc := "()V" } : Jvm.MethodName)) ∈ TB := tb_in (List.mem_of_getElem? (i := 320) rfl) rfl
theorem mt_321 : (Jvm.Cond.instanceMethod ({ cls := "DigitRowsModel", name := "<init>", desc := "()V" } : Jvm.MethodName)) ∈ TB := tb_in (List.mem_of_getElem? (i := 321) rfl) rfl
theorem mt_322 : (Jvm.Cond.code ({ cls := "DigitRowsModel", name := "<init>", desc := "()V" } : Jvm.MethodName) prog_5_method_1_code (1 : Nat) (Option.none : Option Jvm.ClassFile.FieldType)) ∈ TB := tb_in (List.mem_of_getElem? (i := 322) rfl) rfl
theorem mt_323 : (Jvm.Cond.methodLink "DigitRowsModel" (1 : Nat) ({ cls := "java/lang/Object", name := "<init>", desc := "()V" } : Jvm.MethodName)) ∈ TB := tb_in (List.mem_of_getElem? (i := 323) rfl) rfl
theorem mt_324 : (Jvm.Cond.fieldLink "DigitRowsModel" (7 : Nat) "DigitRowsModel" "memory" "[I") ∈ TB := tb_in (List.mem_of_getElem? (i := 324) rfl) rfl
theorem mt_325 : (Jvm.Cond.fieldLink "DigitRowsModel" (13 : Nat) "DigitRowsModel" "one" "[I") ∈ TB := tb_in (List.mem_of_getElem? (i := 325) rfl) rfl
theorem mt_326 : (Jvm.Cond.fieldLink "DigitRowsModel" (16 : Nat) "DigitRowsModel" "two" "[I") ∈ TB := tb_in (List.mem_of_getElem? (i := 326) rfl) rfl
theorem mt_327 : (Jvm.Cond.fieldLink "DigitRowsModel" (19 : Nat) "DigitRowsModel" "out" "[I") ∈ TB := tb_in (List.mem_of_getElem? (i := 327) rfl) rfl
theorem mt_328 : (Jvm.Cond.fieldLink "DigitRowsModel" (22 : Nat) "DigitRowsModel" "rest" "[I") ∈ TB := tb_in (List.mem_of_getElem? (i := 328) rfl) rfl
theorem mt_329 : (Jvm.Cond.fieldLink "DigitRowsModel" (55 : Nat) "DigitRowsModel" "oneMinus" "Z") ∈ TB := tb_in (List.mem_of_getElem? (i := 329) rfl) rfl
theorem mt_33 : (Jvm.Cond.methodLink "DigitRows" (31 : Nat) ({ cls := "DigitRows$Writing", name := "<init>", desc := "()V" } : Jvm.MethodName)) ∈ TB := tb_in (List.mem_of_getElem? (i := 33) rfl) rfl
theorem mt_330 : (Jvm.Cond.fieldLink "DigitRowsModel" (58 : Nat) "DigitRowsModel" "twoMinus" "Z") ∈ TB := tb_in (List.mem_of_getElem? (i := 330) rfl) rfl
theorem mt_331 : (Jvm.Cond.fieldLink "DigitRowsModel" (40 : Nat) "DigitRowsModel" "outMinus" "Z") ∈ TB := tb_in (List.mem_of_getElem? (i := 331) rfl) rfl
theorem mt_332 : (Jvm.Cond.fieldLink "DigitRowsModel" (25 : Nat) "DigitRowsModel" "written" "[I") ∈ TB := tb_in (List.mem_of_getElem? (i := 332) rfl) rfl
theorem mt_333 : (Jvm.Cond.fieldLink "DigitRowsModel" (85 : Nat) "DigitRowsModel" "ended" "Z") ∈ TB := tb_in (List.mem_of_getElem? (i := 333) rfl) rfl
theorem mt_34 : (Jvm.Cond.instanceMethod ({ cls := "DigitRows$Writing", name := "<init>", desc := "()V" } : Jvm.MethodName)) ∈ TB := tb_in (List.mem_of_getElem? (i := 34) rfl) rfl
theorem mt_35 : (Jvm.Cond.code ({ cls := "DigitRows$Writing", name := "<init>", desc := "()V" } : Jvm.MethodName) prog_3_method_1_code (1 : Nat) (Option.none : Option Jvm.ClassFile.FieldType)) ∈ TB := tb_in (List.mem_of_getElem? (i := 35) rfl) rfl
theorem mt_355 : (Jvm.Cond.methodLink "DigitRowsLaw" (17 : Nat) ({ cls := "DigitRowsModel", name := "put", desc := "(II)Z" } : Jvm.MethodName)) ∈ TB := tb_in (List.mem_of_getElem? (i := 355) rfl) rfl
theorem mt_356 : (Jvm.Cond.instanceMethod ({ cls := "DigitRowsModel", name := "put", desc := "(II)Z" } : Jvm.MethodName)) ∈ TB := tb_in (List.mem_of_getElem? (i := 356) rfl) rfl
theorem mt_357 : (Jvm.Cond.selects "DigitRowsModel" ({ cls := "DigitRowsModel", name := "put", desc := "(II)Z" } : Jvm.MethodName) ({ cls := "DigitRowsModel", name := "put", desc := "(II)Z" } : Jvm.MethodName)) ∈ TB := tb_in (List.mem_of_getElem? (i := 357) rfl) rfl
theorem mt_358 : (Jvm.Cond.code ({ cls := "DigitRowsModel", name := "put", desc := "(II)Z" } : Jvm.MethodName) prog_5_method_2_code (3 : Nat) (Option.some Jvm.ClassFile.FieldType.boolean)) ∈ TB := tb_in (List.mem_of_getElem? (i := 358) rfl) rfl
theorem mt_359 : (Jvm.Cond.methodLink "DigitRowsLaw" (22 : Nat) ({ cls := "DigitRowsModel", name := "byteOf", desc := "(I)I" } : Jvm.MethodName)) ∈ TB := tb_in (List.mem_of_getElem? (i := 359) rfl) rfl
theorem mt_36 : (Jvm.Cond.methodLink "DigitRows$Writing" (3 : Nat) ({ cls := "java/lang/Object", name := "<init>", desc := "()V" } : Jvm.MethodName)) ∈ TB := tb_in (List.mem_of_getElem? (i := 36) rfl) rfl
theorem mt_360 : (Jvm.Cond.instanceMethod ({ cls := "DigitRowsModel", name := "byteOf", desc := "(I)I" } : Jvm.MethodName)) ∈ TB := tb_in (List.mem_of_getElem? (i := 360) rfl) rfl
theorem mt_361 : (Jvm.Cond.selects "DigitRowsModel" ({ cls := "DigitRowsModel", name := "byteOf", desc := "(I)I" } : Jvm.MethodName) ({ cls := "DigitRowsModel", name := "byteOf", desc := "(I)I" } : Jvm.MethodName)) ∈ TB := tb_in (List.mem_of_getElem? (i := 361) rfl) rfl
theorem mt_362 : (Jvm.Cond.code ({ cls := "DigitRowsModel", name := "byteOf", desc := "(I)I" } : Jvm.MethodName) prog_5_method_3_code (2 : Nat) (Option.some Jvm.ClassFile.FieldType.int)) ∈ TB := tb_in (List.mem_of_getElem? (i := 362) rfl) rfl
theorem mt_363 : (Jvm.Cond.methodLink "DigitRowsLaw" (27 : Nat) ({ cls := "DigitRowsModel", name := "sum", desc := "(IIIIII)I" } : Jvm.MethodName)) ∈ TB := tb_in (List.mem_of_getElem? (i := 363) rfl) rfl
theorem mt_364 : (Jvm.Cond.instanceMethod ({ cls := "DigitRowsModel", name := "sum", desc := "(IIIIII)I" } : Jvm.MethodName)) ∈ TB := tb_in (List.mem_of_getElem? (i := 364) rfl) rfl
theorem mt_365 : (Jvm.Cond.selects "DigitRowsModel" ({ cls := "DigitRowsModel", name := "sum", desc := "(IIIIII)I" } : Jvm.MethodName) ({ cls := "DigitRowsModel", name := "sum", desc := "(IIIIII)I" } : Jvm.MethodName)) ∈ TB := tb_in (List.mem_of_getElem? (i := 365) rfl) rfl
theorem mt_366 : (Jvm.Cond.code ({ cls := "DigitRowsModel", name := "sum", desc := "(IIIIII)I" } : Jvm.MethodName) prog_5_method_16_code (8 : Nat) (Option.some Jvm.ClassFile.FieldType.int)) ∈ TB := tb_in (List.mem_of_getElem? (i := 366) rfl) rfl
theorem mt_367 : (Jvm.Cond.methodLink "DigitRowsModel" (72 : Nat) ({ cls := "DigitRowsModel", name := "three", desc := "(IIIIII)I" } : Jvm.MethodName)) ∈ TB := tb_in (List.mem_of_getElem? (i := 367) rfl) rfl
theorem mt_369 : (Jvm.Cond.instanceMethod ({ cls := "DigitRowsModel", name := "three", desc := "(IIIIII)I" } : Jvm.MethodName)) ∈ TB := tb_in (List.mem_of_getElem? (i := 369) rfl) rfl
theorem mt_37 : (Jvm.Cond.fieldLink "DigitRows$Writing" (9 : Nat) "DigitRows$Writing" "written" "[I") ∈ TB := tb_in (List.mem_of_getElem? (i := 37) rfl) rfl
theorem mt_370 : (Jvm.Cond.code ({ cls := "DigitRowsModel", name := "three", desc := "(IIIIII)I" } : Jvm.MethodName) prog_5_method_13_code (7 : Nat) (Option.some Jvm.ClassFile.FieldType.int)) ∈ TB := tb_in (List.mem_of_getElem? (i := 370) rfl) rfl
theorem mt_371 : (Jvm.Cond.methodLink "DigitRowsModel" (61 : Nat) ({ cls := "DigitRowsModel", name := "isThere", desc := "(II)Z" } : Jvm.MethodName)) ∈ TB := tb_in (List.mem_of_getElem? (i := 371) rfl) rfl
theorem mt_372 : (Jvm.Cond.static ({ cls := "DigitRowsModel", name := "isThere", desc := "(II)Z" } : Jvm.MethodName)) ∈ TB := tb_in (List.mem_of_getElem? (i := 372) rfl) rfl
theorem mt_373 : (Jvm.Cond.code ({ cls := "DigitRowsModel", name := "isThere", desc := "(II)Z" } : Jvm.MethodName) prog_5_method_6_code (2 : Nat) (Option.some Jvm.ClassFile.FieldType.boolean)) ∈ TB := tb_in (List.mem_of_getElem? (i := 373) rfl) rfl
theorem mt_374 : (Jvm.Cond.methodLink "DigitRowsModel" (28 : Nat) ({ cls := "DigitRowsModel", name := "isCount", desc := "(I)Z" } : Jvm.MethodName)) ∈ TB := tb_in (List.mem_of_getElem? (i := 374) rfl) rfl
theorem mt_375 : (Jvm.Cond.static ({ cls := "DigitRowsModel", name := "isCount", desc := "(I)Z" } : Jvm.MethodName)) ∈ TB := tb_in (List.mem_of_getElem? (i := 375) rfl) rfl
theorem mt_376 : (Jvm.Cond.code ({ cls := "DigitRowsModel", name := "isCount", desc := "(I)Z" } : Jvm.MethodName) prog_5_method_4_code (1 : Nat) (Option.some Jvm.ClassFile.FieldType.boolean)) ∈ TB := tb_in (List.mem_of_getElem? (i := 376) rfl) rfl
theorem mt_377 : (Jvm.Cond.methodLink "DigitRowsModel" (32 : Nat) ({ cls := "DigitRowsModel", name := "are", desc := "(II)Z" } : Jvm.MethodName)) ∈ TB := tb_in (List.mem_of_getElem? (i := 377) rfl) rfl
theorem mt_378 : (Jvm.Cond.static ({ cls := "DigitRowsModel", name := "are", desc := "(II)Z" } : Jvm.MethodName)) ∈ TB := tb_in (List.mem_of_getElem? (i := 378) rfl) rfl
theorem mt_379 : (Jvm.Cond.code ({ cls := "DigitRowsModel", name := "are", desc := "(II)Z" } : Jvm.MethodName) prog_5_method_5_code (2 : Nat) (Option.some Jvm.ClassFile.FieldType.boolean)) ∈ TB := tb_in (List.mem_of_getElem? (i := 379) rfl) rfl
theorem mt_38 : (Jvm.Cond.fieldLink "DigitRows$Writing" (15 : Nat) "DigitRows$Writing" "digitsToTake" "[I") ∈ TB := tb_in (List.mem_of_getElem? (i := 38) rfl) rfl
theorem mt_380 : (Jvm.Cond.methodLink "DigitRowsModel" (64 : Nat) ({ cls := "DigitRowsModel", name := "reads", desc := "(IIII)I" } : Jvm.MethodName)) ∈ TB := tb_in (List.mem_of_getElem? (i := 380) rfl) rfl
theorem mt_382 : (Jvm.Cond.instanceMethod ({ cls := "DigitRowsModel", name := "reads", desc := "(IIII)I" } : Jvm.MethodName)) ∈ TB := tb_in (List.mem_of_getElem? (i := 382) rfl) rfl
theorem mt_383 : (Jvm.Cond.code ({ cls := "DigitRowsModel", name := "reads", desc := "(IIII)I" } : Jvm.MethodName) prog_5_method_12_code (7 : Nat) (Option.some Jvm.ClassFile.FieldType.int)) ∈ TB := tb_in (List.mem_of_getElem? (i := 383) rfl) rfl
theorem mt_384 : (Jvm.Cond.methodLink "DigitRowsModel" (51 : Nat) ({ cls := "DigitRowsModel", name := "read", desc := "(II[I)I" } : Jvm.MethodName)) ∈ TB := tb_in (List.mem_of_getElem? (i := 384) rfl) rfl
theorem mt_386 : (Jvm.Cond.instanceMethod ({ cls := "DigitRowsModel", name := "read", desc := "(II[I)I" } : Jvm.MethodName)) ∈ TB := tb_in (List.mem_of_getElem? (i := 386) rfl) rfl
theorem mt_387 : (Jvm.Cond.code ({ cls := "DigitRowsModel", name := "read", desc := "(II[I)I" } : Jvm.MethodName) prog_5_method_7_code (10 : Nat) (Option.some Jvm.ClassFile.FieldType.int)) ∈ TB := tb_in (List.mem_of_getElem? (i := 387) rfl) rfl
theorem mt_388 : (Jvm.Cond.methodLink "DigitRowsModel" (76 : Nat) ({ cls := "DigitRowsModel", name := "adds", desc := "()V" } : Jvm.MethodName)) ∈ TB := tb_in (List.mem_of_getElem? (i := 388) rfl) rfl
theorem mt_39 : (Jvm.Cond.fieldLink "DigitRows$Writing" (24 : Nat) "DigitRows$Writing" "count" "I") ∈ TB := tb_in (List.mem_of_getElem? (i := 39) rfl) rfl
theorem mt_390 : (Jvm.Cond.instanceMethod ({ cls := "DigitRowsModel", name := "adds", desc := "()V" } : Jvm.MethodName)) ∈ TB := tb_in (List.mem_of_getElem? (i := 390) rfl) rfl
theorem mt_391 : (Jvm.Cond.code ({ cls := "DigitRowsModel", name := "adds", desc := "()V" } : Jvm.MethodName) prog_5_method_15_code (5 : Nat) (Option.none : Option Jvm.ClassFile.FieldType)) ∈ TB := tb_in (List.mem_of_getElem? (i := 391) rfl) rfl
theorem mt_392 : (Jvm.Cond.methodLink "DigitRowsModel" (68 : Nat) ({ cls := "DigitRowsModel", name := "than", desc := "([I[I)I" } : Jvm.MethodName)) ∈ TB := tb_in (List.mem_of_getElem? (i := 392) rfl) rfl
theorem mt_393 : (Jvm.Cond.static ({ cls := "DigitRowsModel", name := "than", desc := "([I[I)I" } : Jvm.MethodName)) ∈ TB := tb_in (List.mem_of_getElem? (i := 393) rfl) rfl
theorem mt_394 : (Jvm.Cond.code ({ cls := "DigitRowsModel", name := "than", desc := "([I[I)I" } : Jvm.MethodName) prog_5_method_14_code (4 : Nat) (Option.some Jvm.ClassFile.FieldType.int)) ∈ TB := tb_in (List.mem_of_getElem? (i := 394) rfl) rfl
theorem mt_395 : (Jvm.Cond.methodLink "DigitRowsModel" (79 : Nat) ({ cls := "DigitRowsModel", name := "write", desc := "(II)I" } : Jvm.MethodName)) ∈ TB := tb_in (List.mem_of_getElem? (i := 395) rfl) rfl
theorem mt_397 : (Jvm.Cond.instanceMethod ({ cls := "DigitRowsModel", name := "write", desc := "(II)I" } : Jvm.MethodName)) ∈ TB := tb_in (List.mem_of_getElem? (i := 397) rfl) rfl
theorem mt_398 : (Jvm.Cond.code ({ cls := "DigitRowsModel", name := "write", desc := "(II)I" } : Jvm.MethodName) prog_5_method_11_code (7 : Nat) (Option.some Jvm.ClassFile.FieldType.int)) ∈ TB := tb_in (List.mem_of_getElem? (i := 398) rfl) rfl
theorem mt_399 : (Jvm.Cond.methodLink "DigitRowsModel" (44 : Nat) ({ cls := "DigitRowsModel", name := "cuts", desc := "(I)Z" } : Jvm.MethodName)) ∈ TB := tb_in (List.mem_of_getElem? (i := 399) rfl) rfl
theorem mt_4 : (Jvm.Cond.initialized "DigitRowsModel") ∈ TB := tb_in (List.mem_of_getElem? (i := 4) rfl) rfl
theorem mt_40 : (Jvm.Cond.fieldLink "DigitRows" (116 : Nat) "DigitRows$Writing" "count" "I") ∈ TB := tb_in (List.mem_of_getElem? (i := 40) rfl) rfl
theorem mt_401 : (Jvm.Cond.instanceMethod ({ cls := "DigitRowsModel", name := "cuts", desc := "(I)Z" } : Jvm.MethodName)) ∈ TB := tb_in (List.mem_of_getElem? (i := 401) rfl) rfl
theorem mt_402 : (Jvm.Cond.code ({ cls := "DigitRowsModel", name := "cuts", desc := "(I)Z" } : Jvm.MethodName) prog_5_method_9_code (4 : Nat) (Option.some Jvm.ClassFile.FieldType.boolean)) ∈ TB := tb_in (List.mem_of_getElem? (i := 402) rfl) rfl
theorem mt_403 : (Jvm.Cond.methodLink "DigitRowsModel" (47 : Nat) ({ cls := "DigitRowsModel", name := "flags", desc := "(Z)I" } : Jvm.MethodName)) ∈ TB := tb_in (List.mem_of_getElem? (i := 403) rfl) rfl
theorem mt_405 : (Jvm.Cond.instanceMethod ({ cls := "DigitRowsModel", name := "flags", desc := "(Z)I" } : Jvm.MethodName)) ∈ TB := tb_in (List.mem_of_getElem? (i := 405) rfl) rfl
theorem mt_406 : (Jvm.Cond.code ({ cls := "DigitRowsModel", name := "flags", desc := "(Z)I" } : Jvm.MethodName) prog_5_method_10_code (3 : Nat) (Option.some Jvm.ClassFile.FieldType.int)) ∈ TB := tb_in (List.mem_of_getElem? (i := 406) rfl) rfl
theorem mt_407 : (Jvm.Cond.methodLink "DigitRowsModel" (36 : Nat) ({ cls := "DigitRowsModel", name := "isZero", desc := "([I)Z" } : Jvm.MethodName)) ∈ TB := tb_in (List.mem_of_getElem? (i := 407) rfl) rfl
theorem mt_408 : (Jvm.Cond.static ({ cls := "DigitRowsModel", name := "isZero", desc := "([I)Z" } : Jvm.MethodName)) ∈ TB := tb_in (List.mem_of_getElem? (i := 408) rfl) rfl
theorem mt_409 : (Jvm.Cond.code ({ cls := "DigitRowsModel", name := "isZero", desc := "([I)Z" } : Jvm.MethodName) prog_5_method_8_code (3 : Nat) (Option.some Jvm.ClassFile.FieldType.boolean)) ∈ TB := tb_in (List.mem_of_getElem? (i := 409) rfl) rfl
theorem mt_41 : (Jvm.Cond.fieldLink "DigitRows$Writing" (28 : Nat) "DigitRows$Writing" "digitsLeft" "I") ∈ TB := tb_in (List.mem_of_getElem? (i := 41) rfl) rfl
theorem mt_410 : (Jvm.Cond.methodLink "DigitRowsLaw" (31 : Nat) ({ cls := "DigitRowsModel", name := "less", desc := "(IIIIII)I" } : Jvm.MethodName)) ∈ TB := tb_in (List.mem_of_getElem? (i := 410) rfl) rfl
theorem mt_411 : (Jvm.Cond.instanceMethod ({ cls := "DigitRowsModel", name := "less", desc := "(IIIIII)I" } : Jvm.MethodName)) ∈ TB := tb_in (List.mem_of_getElem? (i := 411) rfl) rfl
theorem mt_412 : (Jvm.Cond.selects "DigitRowsModel" ({ cls := "DigitRowsModel", name := "less", desc := "(IIIIII)I" } : Jvm.MethodName) ({ cls := "DigitRowsModel", name := "less", desc := "(IIIIII)I" } : Jvm.MethodName)) ∈ TB := tb_in (List.mem_of_getElem? (i := 412) rfl) rfl
theorem mt_413 : (Jvm.Cond.code ({ cls := "DigitRowsModel", name := "less", desc := "(IIIIII)I" } : Jvm.MethodName) prog_5_method_17_code (8 : Nat) (Option.some Jvm.ClassFile.FieldType.int)) ∈ TB := tb_in (List.mem_of_getElem? (i := 413) rfl) rfl
theorem mt_414 : (Jvm.Cond.methodLink "DigitRowsLaw" (35 : Nat) ({ cls := "DigitRowsModel", name := "product", desc := "(IIIIII)I" } : Jvm.MethodName)) ∈ TB := tb_in (List.mem_of_getElem? (i := 414) rfl) rfl
theorem mt_415 : (Jvm.Cond.instanceMethod ({ cls := "DigitRowsModel", name := "product", desc := "(IIIIII)I" } : Jvm.MethodName)) ∈ TB := tb_in (List.mem_of_getElem? (i := 415) rfl) rfl
theorem mt_416 : (Jvm.Cond.selects "DigitRowsModel" ({ cls := "DigitRowsModel", name := "product", desc := "(IIIIII)I" } : Jvm.MethodName) ({ cls := "DigitRowsModel", name := "product", desc := "(IIIIII)I" } : Jvm.MethodName)) ∈ TB := tb_in (List.mem_of_getElem? (i := 416) rfl) rfl
theorem mt_417 : (Jvm.Cond.code ({ cls := "DigitRowsModel", name := "product", desc := "(IIIIII)I" } : Jvm.MethodName) prog_5_method_18_code (10 : Nat) (Option.some Jvm.ClassFile.FieldType.int)) ∈ TB := tb_in (List.mem_of_getElem? (i := 417) rfl) rfl
theorem mt_418 : (Jvm.Cond.methodLink "DigitRowsLaw" (39 : Nat) ({ cls := "DigitRowsModel", name := "quotient", desc := "(IIIIII)I" } : Jvm.MethodName)) ∈ TB := tb_in (List.mem_of_getElem? (i := 418) rfl) rfl
theorem mt_419 : (Jvm.Cond.instanceMethod ({ cls := "DigitRowsModel", name := "quotient", desc := "(IIIIII)I" } : Jvm.MethodName)) ∈ TB := tb_in (List.mem_of_getElem? (i := 419) rfl) rfl
theorem mt_42 : (Jvm.Cond.fieldLink "DigitRows" (144 : Nat) "DigitRows$Writing" "digitsLeft" "I") ∈ TB := tb_in (List.mem_of_getElem? (i := 42) rfl) rfl
theorem mt_420 : (Jvm.Cond.selects "DigitRowsModel" ({ cls := "DigitRowsModel", name := "quotient", desc := "(IIIIII)I" } : Jvm.MethodName) ({ cls := "DigitRowsModel", name := "quotient", desc := "(IIIIII)I" } : Jvm.MethodName)) ∈ TB := tb_in (List.mem_of_getElem? (i := 420) rfl) rfl
theorem mt_421 : (Jvm.Cond.code ({ cls := "DigitRowsModel", name := "quotient", desc := "(IIIIII)I" } : Jvm.MethodName) prog_5_method_19_code (13 : Nat) (Option.some Jvm.ClassFile.FieldType.int)) ∈ TB := tb_in (List.mem_of_getElem? (i := 421) rfl) rfl
theorem mt_422 : (Jvm.Cond.methodLink "DigitRowsLaw" (43 : Nat) ({ cls := "DigitRowsModel", name := "shift", desc := "(IIIIII)I" } : Jvm.MethodName)) ∈ TB := tb_in (List.mem_of_getElem? (i := 422) rfl) rfl
theorem mt_423 : (Jvm.Cond.instanceMethod ({ cls := "DigitRowsModel", name := "shift", desc := "(IIIIII)I" } : Jvm.MethodName)) ∈ TB := tb_in (List.mem_of_getElem? (i := 423) rfl) rfl
theorem mt_424 : (Jvm.Cond.selects "DigitRowsModel" ({ cls := "DigitRowsModel", name := "shift", desc := "(IIIIII)I" } : Jvm.MethodName) ({ cls := "DigitRowsModel", name := "shift", desc := "(IIIIII)I" } : Jvm.MethodName)) ∈ TB := tb_in (List.mem_of_getElem? (i := 424) rfl) rfl
theorem mt_425 : (Jvm.Cond.code ({ cls := "DigitRowsModel", name := "shift", desc := "(IIIIII)I" } : Jvm.MethodName) prog_5_method_20_code (11 : Nat) (Option.some Jvm.ClassFile.FieldType.int)) ∈ TB := tb_in (List.mem_of_getElem? (i := 425) rfl) rfl
theorem mt_426 : (Jvm.Cond.methodLink "DigitRowsLaw" (48 : Nat) ({ cls := "DigitRowsModel", name := "compare", desc := "(IIII)I" } : Jvm.MethodName)) ∈ TB := tb_in (List.mem_of_getElem? (i := 426) rfl) rfl
theorem mt_427 : (Jvm.Cond.instanceMethod ({ cls := "DigitRowsModel", name := "compare", desc := "(IIII)I" } : Jvm.MethodName)) ∈ TB := tb_in (List.mem_of_getElem? (i := 427) rfl) rfl
theorem mt_428 : (Jvm.Cond.selects "DigitRowsModel" ({ cls := "DigitRowsModel", name := "compare", desc := "(IIII)I" } : Jvm.MethodName) ({ cls := "DigitRowsModel", name := "compare", desc := "(IIII)I" } : Jvm.MethodName)) ∈ TB := tb_in (List.mem_of_getElem? (i := 428) rfl) rfl
theorem mt_429 : (Jvm.Cond.code ({ cls := "DigitRowsModel", name := "compare", desc := "(IIII)I" } : Jvm.MethodName) prog_5_method_21_code (9 : Nat) (Option.some Jvm.ClassFile.FieldType.int)) ∈ TB := tb_in (List.mem_of_getElem? (i := 429) rfl) rfl
theorem mt_43 : (Jvm.Cond.fieldLink "DigitRows$Writing" (31 : Nat) "DigitRows$Writing" "significance" "Z") ∈ TB := tb_in (List.mem_of_getElem? (i := 43) rfl) rfl
theorem mt_430 : (Jvm.Cond.methodLink "DigitRowsLaw" (53 : Nat) ({ cls := "DigitRowsModel", name := "number", desc := "(III)I" } : Jvm.MethodName)) ∈ TB := tb_in (List.mem_of_getElem? (i := 430) rfl) rfl
theorem mt_431 : (Jvm.Cond.instanceMethod ({ cls := "DigitRowsModel", name := "number", desc := "(III)I" } : Jvm.MethodName)) ∈ TB := tb_in (List.mem_of_getElem? (i := 431) rfl) rfl
theorem mt_432 : (Jvm.Cond.selects "DigitRowsModel" ({ cls := "DigitRowsModel", name := "number", desc := "(III)I" } : Jvm.MethodName) ({ cls := "DigitRowsModel", name := "number", desc := "(III)I" } : Jvm.MethodName)) ∈ TB := tb_in (List.mem_of_getElem? (i := 432) rfl) rfl
theorem mt_433 : (Jvm.Cond.code ({ cls := "DigitRowsModel", name := "number", desc := "(III)I" } : Jvm.MethodName) prog_5_method_22_code (7 : Nat) (Option.some Jvm.ClassFile.FieldType.int)) ∈ TB := tb_in (List.mem_of_getElem? (i := 433) rfl) rfl
theorem mt_434 : (Jvm.Cond.constantLong "DigitRowsModel" (83 : Nat) (10 : Int64)) ∈ TB := tb_in (List.mem_of_getElem? (i := 434) rfl) rfl
theorem mt_435 : (Jvm.Cond.methodLink "DigitRowsLaw" (58 : Nat) ({ cls := "DigitRowsModel", name := "value", desc := "(II)J" } : Jvm.MethodName)) ∈ TB := tb_in (List.mem_of_getElem? (i := 435) rfl) rfl
theorem mt_436 : (Jvm.Cond.instanceMethod ({ cls := "DigitRowsModel", name := "value", desc := "(II)J" } : Jvm.MethodName)) ∈ TB := tb_in (List.mem_of_getElem? (i := 436) rfl) rfl
theorem mt_437 : (Jvm.Cond.selects "DigitRowsModel" ({ cls := "DigitRowsModel", name := "value", desc := "(II)J" } : Jvm.MethodName) ({ cls := "DigitRowsModel", name := "value", desc := "(II)J" } : Jvm.MethodName)) ∈ TB := tb_in (List.mem_of_getElem? (i := 437) rfl) rfl
theorem mt_438 : (Jvm.Cond.code ({ cls := "DigitRowsModel", name := "value", desc := "(II)J" } : Jvm.MethodName) prog_5_method_23_code (7 : Nat) (Option.some Jvm.ClassFile.FieldType.long)) ∈ TB := tb_in (List.mem_of_getElem? (i := 438) rfl) rfl
theorem mt_439 : (Jvm.Cond.methodLink "DigitRowsLaw" (62 : Nat) ({ cls := "DigitRowsModel", name := "characters", desc := "(IIII)I" } : Jvm.MethodName)) ∈ TB := tb_in (List.mem_of_getElem? (i := 439) rfl) rfl
theorem mt_44 : (Jvm.Cond.fieldLink "DigitRows" (123 : Nat) "DigitRows$Writing" "significance" "Z") ∈ TB := tb_in (List.mem_of_getElem? (i := 44) rfl) rfl
theorem mt_440 : (Jvm.Cond.instanceMethod ({ cls := "DigitRowsModel", name := "characters", desc := "(IIII)I" } : Jvm.MethodName)) ∈ TB := tb_in (List.mem_of_getElem? (i := 440) rfl) rfl
theorem mt_441 : (Jvm.Cond.selects "DigitRowsModel" ({ cls := "DigitRowsModel", name := "characters", desc := "(IIII)I" } : Jvm.MethodName) ({ cls := "DigitRowsModel", name := "characters", desc := "(IIII)I" } : Jvm.MethodName)) ∈ TB := tb_in (List.mem_of_getElem? (i := 441) rfl) rfl
theorem mt_442 : (Jvm.Cond.code ({ cls := "DigitRowsModel", name := "characters", desc := "(IIII)I" } : Jvm.MethodName) prog_5_method_24_code (9 : Nat) (Option.some Jvm.ClassFile.FieldType.int)) ∈ TB := tb_in (List.mem_of_getElem? (i := 442) rfl) rfl
theorem mt_443 : (Jvm.Cond.methodLink "DigitRowsLaw" (66 : Nat) ({ cls := "DigitRowsModel", name := "digits", desc := "(IIII)I" } : Jvm.MethodName)) ∈ TB := tb_in (List.mem_of_getElem? (i := 443) rfl) rfl
theorem mt_444 : (Jvm.Cond.instanceMethod ({ cls := "DigitRowsModel", name := "digits", desc := "(IIII)I" } : Jvm.MethodName)) ∈ TB := tb_in (List.mem_of_getElem? (i := 444) rfl) rfl
theorem mt_445 : (Jvm.Cond.selects "DigitRowsModel" ({ cls := "DigitRowsModel", name := "digits", desc := "(IIII)I" } : Jvm.MethodName) ({ cls := "DigitRowsModel", name := "digits", desc := "(IIII)I" } : Jvm.MethodName)) ∈ TB := tb_in (List.mem_of_getElem? (i := 445) rfl) rfl
theorem mt_446 : (Jvm.Cond.code ({ cls := "DigitRowsModel", name := "digits", desc := "(IIII)I" } : Jvm.MethodName) prog_5_method_25_code (9 : Nat) (Option.some Jvm.ClassFile.FieldType.int)) ∈ TB := tb_in (List.mem_of_getElem? (i := 446) rfl) rfl
theorem mt_447 : (Jvm.Cond.methodLink "DigitRowsLaw" (70 : Nat) ({ cls := "DigitRowsModel", name := "edit", desc := "(IIII)I" } : Jvm.MethodName)) ∈ TB := tb_in (List.mem_of_getElem? (i := 447) rfl) rfl
theorem mt_448 : (Jvm.Cond.instanceMethod ({ cls := "DigitRowsModel", name := "edit", desc := "(IIII)I" } : Jvm.MethodName)) ∈ TB := tb_in (List.mem_of_getElem? (i := 448) rfl) rfl
theorem mt_449 : (Jvm.Cond.selects "DigitRowsModel" ({ cls := "DigitRowsModel", name := "edit", desc := "(IIII)I" } : Jvm.MethodName) ({ cls := "DigitRowsModel", name := "edit", desc := "(IIII)I" } : Jvm.MethodName)) ∈ TB := tb_in (List.mem_of_getElem? (i := 449) rfl) rfl
theorem mt_45 : (Jvm.Cond.fieldLink "DigitRows$Writing" (38 : Nat) "DigitRows$Writing" "below" "Z") ∈ TB := tb_in (List.mem_of_getElem? (i := 45) rfl) rfl
theorem mt_450 : (Jvm.Cond.code ({ cls := "DigitRowsModel", name := "edit", desc := "(IIII)I" } : Jvm.MethodName) prog_5_method_26_code (25 : Nat) (Option.some Jvm.ClassFile.FieldType.int)) ∈ TB := tb_in (List.mem_of_getElem? (i := 450) rfl) rfl
theorem mt_451 : (Jvm.Cond.methodLink "DigitRowsLaw" (75 : Nat) ({ cls := "DigitRowsModel", name := "significant", desc := "()Z" } : Jvm.MethodName)) ∈ TB := tb_in (List.mem_of_getElem? (i := 451) rfl) rfl
theorem mt_452 : (Jvm.Cond.instanceMethod ({ cls := "DigitRowsModel", name := "significant", desc := "()Z" } : Jvm.MethodName)) ∈ TB := tb_in (List.mem_of_getElem? (i := 452) rfl) rfl
theorem mt_453 : (Jvm.Cond.selects "DigitRowsModel" ({ cls := "DigitRowsModel", name := "significant", desc := "()Z" } : Jvm.MethodName) ({ cls := "DigitRowsModel", name := "significant", desc := "()Z" } : Jvm.MethodName)) ∈ TB := tb_in (List.mem_of_getElem? (i := 453) rfl) rfl
theorem mt_454 : (Jvm.Cond.code ({ cls := "DigitRowsModel", name := "significant", desc := "()Z" } : Jvm.MethodName) prog_5_method_27_code (1 : Nat) (Option.some Jvm.ClassFile.FieldType.boolean)) ∈ TB := tb_in (List.mem_of_getElem? (i := 454) rfl) rfl
theorem mt_46 : (Jvm.Cond.fieldLink "DigitRows$Writing" (45 : Nat) "DigitRows$Writing" "zero" "Z") ∈ TB := tb_in (List.mem_of_getElem? (i := 46) rfl) rfl
theorem mt_47 : (Jvm.Cond.fieldLink "DigitRows$Writing" (48 : Nat) "DigitRows$Writing" "fill" "I") ∈ TB := tb_in (List.mem_of_getElem? (i := 47) rfl) rfl
theorem mt_48 : (Jvm.Cond.fieldLink "DigitRows$Writing" (51 : Nat) "DigitRows$Writing" "sign" "I") ∈ TB := tb_in (List.mem_of_getElem? (i := 48) rfl) rfl
theorem mt_5 : (Jvm.Cond.initialized "java/util/Arrays") ∈ TB := tb_in (List.mem_of_getElem? (i := 5) rfl) rfl
theorem mt_6 : (Jvm.Cond.initialized "java/lang/Math") ∈ TB := tb_in (List.mem_of_getElem? (i := 6) rfl) rfl
theorem mt_68 : (Jvm.Cond.fieldLink "DigitRows" (9 : Nat) "DigitRows" "memory" "[I") ∈ TB := tb_in (List.mem_of_getElem? (i := 68) rfl) rfl
theorem mt_69 : (Jvm.Cond.fieldLink "DigitRows" (16 : Nat) "DigitRows" "first" "LDigitRows$Row;") ∈ TB := tb_in (List.mem_of_getElem? (i := 69) rfl) rfl
theorem mt_7 : (Jvm.Cond.classLink "DigitRowsLaw" (7 : Nat) "DigitRows") ∈ TB := tb_in (List.mem_of_getElem? (i := 7) rfl) rfl
theorem mt_70 : (Jvm.Cond.fieldLink "DigitRows" (20 : Nat) "DigitRows" "second" "LDigitRows$Row;") ∈ TB := tb_in (List.mem_of_getElem? (i := 70) rfl) rfl
theorem mt_71 : (Jvm.Cond.fieldLink "DigitRows" (23 : Nat) "DigitRows" "rest" "LDigitRows$Row;") ∈ TB := tb_in (List.mem_of_getElem? (i := 71) rfl) rfl
theorem mt_72 : (Jvm.Cond.fieldLink "DigitRows" (26 : Nat) "DigitRows" "result" "LDigitRows$Row;") ∈ TB := tb_in (List.mem_of_getElem? (i := 72) rfl) rfl
theorem mt_73 : (Jvm.Cond.fieldLink "DigitRows" (32 : Nat) "DigitRows" "writing" "LDigitRows$Writing;") ∈ TB := tb_in (List.mem_of_getElem? (i := 73) rfl) rfl
theorem mt_74 : (Jvm.Cond.fieldLink "DigitRows" (36 : Nat) "DigitRows" "endedSignificant" "Z") ∈ TB := tb_in (List.mem_of_getElem? (i := 74) rfl) rfl
theorem mt_8 : (Jvm.Cond.instantiable "DigitRows" (7 : Nat)) ∈ TB := tb_in (List.mem_of_getElem? (i := 8) rfl) rfl
theorem mt_9 : (Jvm.Cond.methodLink "DigitRowsLaw" (9 : Nat) ({ cls := "DigitRows", name := "<init>", desc := "()V" } : Jvm.MethodName)) ∈ TB := tb_in (List.mem_of_getElem? (i := 9) rfl) rfl
theorem mt_90 : (Jvm.Cond.methodLink "DigitRowsLaw" (13 : Nat) ({ cls := "DigitRows", name := "put", desc := "(II)Z" } : Jvm.MethodName)) ∈ TB := tb_in (List.mem_of_getElem? (i := 90) rfl) rfl
theorem mt_91 : (Jvm.Cond.instanceMethod ({ cls := "DigitRows", name := "put", desc := "(II)Z" } : Jvm.MethodName)) ∈ TB := tb_in (List.mem_of_getElem? (i := 91) rfl) rfl
theorem mt_92 : (Jvm.Cond.selects "DigitRows" ({ cls := "DigitRows", name := "put", desc := "(II)Z" } : Jvm.MethodName) ({ cls := "DigitRows", name := "put", desc := "(II)Z" } : Jvm.MethodName)) ∈ TB := tb_in (List.mem_of_getElem? (i := 92) rfl) rfl
theorem mt_93 : (Jvm.Cond.code ({ cls := "DigitRows", name := "put", desc := "(II)Z" } : Jvm.MethodName) prog_1_method_2_code (3 : Nat) (Option.some Jvm.ClassFile.FieldType.boolean)) ∈ TB := tb_in (List.mem_of_getElem? (i := 93) rfl) rfl
theorem mt_94 : (Jvm.Cond.methodLink "DigitRowsLaw" (18 : Nat) ({ cls := "DigitRows", name := "byteOf", desc := "(I)I" } : Jvm.MethodName)) ∈ TB := tb_in (List.mem_of_getElem? (i := 94) rfl) rfl
theorem mt_95 : (Jvm.Cond.instanceMethod ({ cls := "DigitRows", name := "byteOf", desc := "(I)I" } : Jvm.MethodName)) ∈ TB := tb_in (List.mem_of_getElem? (i := 95) rfl) rfl
theorem mt_96 : (Jvm.Cond.selects "DigitRows" ({ cls := "DigitRows", name := "byteOf", desc := "(I)I" } : Jvm.MethodName) ({ cls := "DigitRows", name := "byteOf", desc := "(I)I" } : Jvm.MethodName)) ∈ TB := tb_in (List.mem_of_getElem? (i := 96) rfl) rfl
theorem mt_97 : (Jvm.Cond.code ({ cls := "DigitRows", name := "byteOf", desc := "(I)I" } : Jvm.MethodName) prog_1_method_3_code (2 : Nat) (Option.some Jvm.ClassFile.FieldType.int)) ∈ TB := tb_in (List.mem_of_getElem? (i := 97) rfl) rfl
theorem mt_98 : (Jvm.Cond.methodLink "DigitRowsLaw" (23 : Nat) ({ cls := "DigitRows", name := "sum", desc := "(IIIIII)I" } : Jvm.MethodName)) ∈ TB := tb_in (List.mem_of_getElem? (i := 98) rfl) rfl
theorem mt_99 : (Jvm.Cond.instanceMethod ({ cls := "DigitRows", name := "sum", desc := "(IIIIII)I" } : Jvm.MethodName)) ∈ TB := tb_in (List.mem_of_getElem? (i := 99) rfl) rfl
end
section
theorem dR_init_0 : decode cR_init 0 = .ok (.aload_n 0, 1) := by decide +kernel
theorem dR_init_1 : decode cR_init 1 = .ok (.invokespecial 3, 3) := by decide +kernel
theorem dR_init_4 : decode cR_init 4 = .ok (.aload_n 0, 1) := by decide +kernel
theorem dR_init_5 : decode cR_init 5 = .ok (.sipush 130, 3) := by decide +kernel
theorem dR_init_8 : decode cR_init 8 = .ok (.newarray .int, 2) := by decide +kernel
theorem dR_init_10 : decode cR_init 10 = .ok (.putfield 9, 3) := by decide +kernel
theorem dR_init_13 : decode cR_init 13 = .ok (.aload_n 0, 1) := by decide +kernel
theorem dR_init_14 : decode cR_init 14 = .ok (.iconst 0, 1) := by decide +kernel
theorem dR_init_15 : decode cR_init 15 = .ok (.putfield 15, 3) := by decide +kernel
theorem dR_init_18 : decode cR_init 18 = .ok (.return_, 1) := by decide +kernel
theorem dR_digitAt_0 : decode cR_digitAt 0 = .ok (.iload_n 1, 1) := by decide +kernel
theorem dR_digitAt_1 : decode cR_digitAt 1 = .ok (.ifCond .lt 19, 3) := by decide +kernel
theorem dR_digitAt_4 : decode cR_digitAt 4 = .ok (.iload_n 1, 1) := by decide +kernel
theorem dR_digitAt_5 : decode cR_digitAt 5 = .ok (.sipush 130, 3) := by decide +kernel
theorem dR_digitAt_8 : decode cR_digitAt 8 = .ok (.if_icmp .ge 12, 3) := by decide +kernel
theorem dR_digitAt_11 : decode cR_digitAt 11 = .ok (.aload_n 0, 1) := by decide +kernel
theorem dR_digitAt_12 : decode cR_digitAt 12 = .ok (.getfield 9, 3) := by decide +kernel
theorem dR_digitAt_15 : decode cR_digitAt 15 = .ok (.iload_n 1, 1) := by decide +kernel
theorem dR_digitAt_16 : decode cR_digitAt 16 = .ok (.iaload, 1) := by decide +kernel
theorem dR_digitAt_17 : decode cR_digitAt 17 = .ok (.goto 4, 3) := by decide +kernel
theorem dR_digitAt_20 : decode cR_digitAt 20 = .ok (.iconst 0, 1) := by decide +kernel
theorem dR_digitAt_21 : decode cR_digitAt 21 = .ok (.ireturn, 1) := by decide +kernel
theorem dR_setDigit_0 : decode cR_setDigit 0 = .ok (.iload_n 1, 1) := by decide +kernel
theorem dR_setDigit_1 : decode cR_setDigit 1 = .ok (.ifCond .lt 17, 3) := by decide +kernel
theorem dR_setDigit_4 : decode cR_setDigit 4 = .ok (.iload_n 1, 1) := by decide +kernel
theorem dR_setDigit_5 : decode cR_setDigit 5 = .ok (.sipush 130, 3) := by decide +kernel
theorem dR_setDigit_8 : decode cR_setDigit 8 = .ok (.if_icmp .ge 10, 3) := by decide +kernel
theorem dR_setDigit_11 : decode cR_setDigit 11 = .ok (.aload_n 0, 1) := by decide +kernel
theorem dR_setDigit_12 : decode cR_setDigit 12 = .ok (.getfield 9, 3) := by decide +kernel
theorem dR_setDigit_15 : decode cR_setDigit 15 = .ok (.iload_n 1, 1) := by decide +kernel
theorem dR_setDigit_16 : decode cR_setDigit 16 = .ok (.iload_n 2, 1) := by decide +kernel
theorem dR_setDigit_17 : decode cR_setDigit 17 = .ok (.iastore, 1) := by decide +kernel
theorem dR_setDigit_18 : decode cR_setDigit 18 = .ok (.return_, 1) := by decide +kernel
theorem dR_clear_0 : decode cR_clear 0 = .ok (.aload_n 0, 1) := by decide +kernel
theorem dR_clear_1 : decode cR_clear 1 = .ok (.getfield 9, 3) := by decide +kernel
theorem dR_clear_4 : decode cR_clear 4 = .ok (.iconst 0, 1) := by decide +kernel
theorem dR_clear_5 : decode cR_clear 5 = .ok (.invokestatic 19, 3) := by decide +kernel
theorem dR_clear_8 : decode cR_clear 8 = .ok (.aload_n 0, 1) := by decide +kernel
theorem dR_clear_9 : decode cR_clear 9 = .ok (.iconst 0, 1) := by decide +kernel
theorem dR_clear_10 : decode cR_clear 10 = .ok (.putfield 15, 3) := by decide +kernel
theorem dR_clear_13 : decode cR_clear 13 = .ok (.return_, 1) := by decide +kernel
theorem dR_setSign_0 : decode cR_setSign 0 = .ok (.aload_n 0, 1) := by decide +kernel
theorem dR_setSign_1 : decode cR_setSign 1 = .ok (.iload_n 1, 1) := by decide +kernel
theorem dR_setSign_2 : decode cR_setSign 2 = .ok (.ifCond .eq 14, 3) := by decide +kernel
theorem dR_setSign_5 : decode cR_setSign 5 = .ok (.aload_n 0, 1) := by decide +kernel
theorem dR_setSign_6 : decode cR_setSign 6 = .ok (.invokevirtual 25, 3) := by decide +kernel
theorem dR_setSign_9 : decode cR_setSign 9 = .ok (.ifCond .ne 7, 3) := by decide +kernel
theorem dR_setSign_12 : decode cR_setSign 12 = .ok (.iconst 1, 1) := by decide +kernel
theorem dR_setSign_13 : decode cR_setSign 13 = .ok (.goto 4, 3) := by decide +kernel
theorem dR_setSign_16 : decode cR_setSign 16 = .ok (.iconst 0, 1) := by decide +kernel
theorem dR_setSign_17 : decode cR_setSign 17 = .ok (.putfield 15, 3) := by decide +kernel
theorem dR_setSign_20 : decode cR_setSign 20 = .ok (.return_, 1) := by decide +kernel
theorem dR_isZero_0 : decode cR_isZero 0 = .ok (.aload_n 0, 1) := by decide +kernel
theorem dR_isZero_1 : decode cR_isZero 1 = .ok (.iconst 0, 1) := by decide +kernel
theorem dR_isZero_2 : decode cR_isZero 2 = .ok (.sipush 130, 3) := by decide +kernel
theorem dR_isZero_5 : decode cR_isZero 5 = .ok (.invokevirtual 29, 3) := by decide +kernel
theorem dR_isZero_8 : decode cR_isZero 8 = .ok (.ifCond .ne 7, 3) := by decide +kernel
theorem dR_isZero_11 : decode cR_isZero 11 = .ok (.iconst 1, 1) := by decide +kernel
theorem dR_isZero_12 : decode cR_isZero 12 = .ok (.goto 4, 3) := by decide +kernel
theorem dR_isZero_15 : decode cR_isZero 15 = .ok (.iconst 0, 1) := by decide +kernel
theorem dR_isZero_16 : decode cR_isZero 16 = .ok (.ireturn, 1) := by decide +kernel
theorem dR_hasDigit_0 : decode cR_hasDigit 0 = .ok (.iload_n 1, 1) := by decide +kernel
theorem dR_hasDigit_1 : decode cR_hasDigit 1 = .ok (.istore_n 3, 1) := by decide +kernel
theorem dR_hasDigit_2 : decode cR_hasDigit 2 = .ok (.iload_n 3, 1) := by decide +kernel
theorem dR_hasDigit_3 : decode cR_hasDigit 3 = .ok (.iload_n 2, 1) := by decide +kernel
theorem dR_hasDigit_4 : decode cR_hasDigit 4 = .ok (.if_icmp .ge 19, 3) := by decide +kernel
theorem dR_hasDigit_7 : decode cR_hasDigit 7 = .ok (.aload_n 0, 1) := by decide +kernel
theorem dR_hasDigit_8 : decode cR_hasDigit 8 = .ok (.iload_n 3, 1) := by decide +kernel
theorem dR_hasDigit_9 : decode cR_hasDigit 9 = .ok (.invokevirtual 33, 3) := by decide +kernel
theorem dR_hasDigit_12 : decode cR_hasDigit 12 = .ok (.ifCond .eq 5, 3) := by decide +kernel
theorem dR_hasDigit_15 : decode cR_hasDigit 15 = .ok (.iconst 1, 1) := by decide +kernel
theorem dR_hasDigit_16 : decode cR_hasDigit 16 = .ok (.ireturn, 1) := by decide +kernel
theorem dR_hasDigit_17 : decode cR_hasDigit 17 = .ok (.iinc 3 1, 3) := by decide +kernel
theorem dR_hasDigit_20 : decode cR_hasDigit 20 = .ok (.goto (-18), 3) := by decide +kernel
theorem dR_hasDigit_23 : decode cR_hasDigit 23 = .ok (.iconst 0, 1) := by decide +kernel
theorem dR_hasDigit_24 : decode cR_hasDigit 24 = .ok (.ireturn, 1) := by decide +kernel
theorem dR_flagsOfLowest_0 : decode cR_flagsOfLowest 0 = .ok (.iconst 0, 1) := by decide +kernel
theorem dR_flagsOfLowest_1 : decode cR_flagsOfLowest 1 = .ok (.istore_n 2, 1) := by decide +kernel
theorem dR_flagsOfLowest_2 : decode cR_flagsOfLowest 2 = .ok (.aload_n 0, 1) := by decide +kernel
theorem dR_flagsOfLowest_3 : decode cR_flagsOfLowest 3 = .ok (.iconst 0, 1) := by decide +kernel
theorem dR_flagsOfLowest_4 : decode cR_flagsOfLowest 4 = .ok (.iload_n 1, 1) := by decide +kernel
theorem dR_flagsOfLowest_5 : decode cR_flagsOfLowest 5 = .ok (.invokevirtual 29, 3) := by decide +kernel
theorem dR_flagsOfLowest_8 : decode cR_flagsOfLowest 8 = .ok (.ifCond .ne 8, 3) := by decide +kernel
theorem dR_flagsOfLowest_11 : decode cR_flagsOfLowest 11 = .ok (.iconst 4, 1) := by decide +kernel
theorem dR_flagsOfLowest_12 : decode cR_flagsOfLowest 12 = .ok (.istore_n 2, 1) := by decide +kernel
theorem dR_flagsOfLowest_13 : decode cR_flagsOfLowest 13 = .ok (.goto 13, 3) := by decide +kernel
theorem dR_flagsOfLowest_16 : decode cR_flagsOfLowest 16 = .ok (.aload_n 0, 1) := by decide +kernel
theorem dR_flagsOfLowest_17 : decode cR_flagsOfLowest 17 = .ok (.getfield 15, 3) := by decide +kernel
theorem dR_flagsOfLowest_20 : decode cR_flagsOfLowest 20 = .ok (.ifCond .eq 6, 3) := by decide +kernel
theorem dR_flagsOfLowest_23 : decode cR_flagsOfLowest 23 = .ok (.bipush 8, 2) := by decide +kernel
theorem dR_flagsOfLowest_25 : decode cR_flagsOfLowest 25 = .ok (.istore_n 2, 1) := by decide +kernel
theorem dR_flagsOfLowest_26 : decode cR_flagsOfLowest 26 = .ok (.aload_n 0, 1) := by decide +kernel
theorem dR_flagsOfLowest_27 : decode cR_flagsOfLowest 27 = .ok (.iload_n 1, 1) := by decide +kernel
theorem dR_flagsOfLowest_28 : decode cR_flagsOfLowest 28 = .ok (.sipush 130, 3) := by decide +kernel
theorem dR_flagsOfLowest_31 : decode cR_flagsOfLowest 31 = .ok (.invokevirtual 29, 3) := by decide +kernel
theorem dR_flagsOfLowest_34 : decode cR_flagsOfLowest 34 = .ok (.ifCond .eq 9, 3) := by decide +kernel
theorem dR_flagsOfLowest_37 : decode cR_flagsOfLowest 37 = .ok (.iload_n 2, 1) := by decide +kernel
theorem dR_flagsOfLowest_38 : decode cR_flagsOfLowest 38 = .ok (.iconst 2, 1) := by decide +kernel
theorem dR_flagsOfLowest_39 : decode cR_flagsOfLowest 39 = .ok (.ior, 1) := by decide +kernel
theorem dR_flagsOfLowest_40 : decode cR_flagsOfLowest 40 = .ok (.goto 4, 3) := by decide +kernel
theorem dR_flagsOfLowest_43 : decode cR_flagsOfLowest 43 = .ok (.iload_n 2, 1) := by decide +kernel
theorem dR_flagsOfLowest_44 : decode cR_flagsOfLowest 44 = .ok (.ireturn, 1) := by decide +kernel
theorem dR_take_0 : decode cR_take 0 = .ok (.aload_n 0, 1) := by decide +kernel
theorem dR_take_1 : decode cR_take 1 = .ok (.invokevirtual 37, 3) := by decide +kernel
theorem dR_take_4 : decode cR_take 4 = .ok (.iload_n 1, 1) := by decide +kernel
theorem dR_take_5 : decode cR_take 5 = .ok (.i2l, 1) := by decide +kernel
theorem dR_take_6 : decode cR_take 6 = .ok (.invokestatic 40, 3) := by decide +kernel
theorem dR_take_9 : decode cR_take 9 = .ok (.lstore_n 2, 1) := by decide +kernel
theorem dR_take_10 : decode cR_take 10 = .ok (.iconst 0, 1) := by decide +kernel
theorem dR_take_11 : decode cR_take 11 = .ok (.istore 4, 2) := by decide +kernel
theorem dR_take_13 : decode cR_take 13 = .ok (.iload 4, 2) := by decide +kernel
theorem dR_take_15 : decode cR_take 15 = .ok (.bipush 31, 2) := by decide +kernel
theorem dR_take_17 : decode cR_take 17 = .ok (.if_icmp .ge 27, 3) := by decide +kernel
theorem dR_take_20 : decode cR_take 20 = .ok (.aload_n 0, 1) := by decide +kernel
theorem dR_take_21 : decode cR_take 21 = .ok (.iload 4, 2) := by decide +kernel
theorem dR_take_23 : decode cR_take 23 = .ok (.lload_n 2, 1) := by decide +kernel
theorem dR_take_24 : decode cR_take 24 = .ok (.ldc2_w 46, 3) := by decide +kernel
theorem dR_take_27 : decode cR_take 27 = .ok (.lrem, 1) := by decide +kernel
theorem dR_take_28 : decode cR_take 28 = .ok (.l2i, 1) := by decide +kernel
theorem dR_take_29 : decode cR_take 29 = .ok (.invokevirtual 48, 3) := by decide +kernel
theorem dR_take_32 : decode cR_take 32 = .ok (.lload_n 2, 1) := by decide +kernel
theorem dR_take_33 : decode cR_take 33 = .ok (.ldc2_w 46, 3) := by decide +kernel
theorem dR_take_36 : decode cR_take 36 = .ok (.ldiv, 1) := by decide +kernel
theorem dR_take_37 : decode cR_take 37 = .ok (.lstore_n 2, 1) := by decide +kernel
theorem dR_take_38 : decode cR_take 38 = .ok (.iinc 4 1, 3) := by decide +kernel
theorem dR_take_41 : decode cR_take 41 = .ok (.goto (-28), 3) := by decide +kernel
theorem dR_take_44 : decode cR_take 44 = .ok (.aload_n 0, 1) := by decide +kernel
theorem dR_take_45 : decode cR_take 45 = .ok (.iload_n 1, 1) := by decide +kernel
theorem dR_take_46 : decode cR_take 46 = .ok (.ifCond .ge 7, 3) := by decide +kernel
theorem dR_take_49 : decode cR_take 49 = .ok (.iconst 1, 1) := by decide +kernel
theorem dR_take_50 : decode cR_take 50 = .ok (.goto 4, 3) := by decide +kernel
theorem dR_take_53 : decode cR_take 53 = .ok (.iconst 0, 1) := by decide +kernel
theorem dR_take_54 : decode cR_take 54 = .ok (.putfield 15, 3) := by decide +kernel
theorem dR_take_57 : decode cR_take 57 = .ok (.return_, 1) := by decide +kernel
theorem dR_lowestBits_0 : decode cR_lowestBits 0 = .ok (.lconst 0, 1) := by decide +kernel
theorem dR_lowestBits_1 : decode cR_lowestBits 1 = .ok (.lstore_n 1, 1) := by decide +kernel
theorem dR_lowestBits_2 : decode cR_lowestBits 2 = .ok (.bipush 30, 2) := by decide +kernel
theorem dR_lowestBits_4 : decode cR_lowestBits 4 = .ok (.istore_n 3, 1) := by decide +kernel
theorem dR_lowestBits_5 : decode cR_lowestBits 5 = .ok (.iload_n 3, 1) := by decide +kernel
theorem dR_lowestBits_6 : decode cR_lowestBits 6 = .ok (.ifCond .lt 22, 3) := by decide +kernel
theorem dR_lowestBits_9 : decode cR_lowestBits 9 = .ok (.lload_n 1, 1) := by decide +kernel
theorem dR_lowestBits_10 : decode cR_lowestBits 10 = .ok (.ldc2_w 46, 3) := by decide +kernel
theorem dR_lowestBits_13 : decode cR_lowestBits 13 = .ok (.lmul, 1) := by decide +kernel
theorem dR_lowestBits_14 : decode cR_lowestBits 14 = .ok (.aload_n 0, 1) := by decide +kernel
theorem dR_lowestBits_15 : decode cR_lowestBits 15 = .ok (.iload_n 3, 1) := by decide +kernel
theorem dR_lowestBits_16 : decode cR_lowestBits 16 = .ok (.invokevirtual 33, 3) := by decide +kernel
theorem dR_lowestBits_19 : decode cR_lowestBits 19 = .ok (.i2l, 1) := by decide +kernel
theorem dR_lowestBits_20 : decode cR_lowestBits 20 = .ok (.ladd, 1) := by decide +kernel
theorem dR_lowestBits_21 : decode cR_lowestBits 21 = .ok (.lstore_n 1, 1) := by decide +kernel
theorem dR_lowestBits_22 : decode cR_lowestBits 22 = .ok (.iinc 3 (-1), 3) := by decide +kernel
theorem dR_lowestBits_25 : decode cR_lowestBits 25 = .ok (.goto (-20), 3) := by decide +kernel
theorem dR_lowestBits_28 : decode cR_lowestBits 28 = .ok (.aload_n 0, 1) := by decide +kernel
theorem dR_lowestBits_29 : decode cR_lowestBits 29 = .ok (.getfield 15, 3) := by decide +kernel
theorem dR_lowestBits_32 : decode cR_lowestBits 32 = .ok (.ifCond .eq 8, 3) := by decide +kernel
theorem dR_lowestBits_35 : decode cR_lowestBits 35 = .ok (.lload_n 1, 1) := by decide +kernel
theorem dR_lowestBits_36 : decode cR_lowestBits 36 = .ok (.lneg, 1) := by decide +kernel
theorem dR_lowestBits_37 : decode cR_lowestBits 37 = .ok (.goto 4, 3) := by decide +kernel
theorem dR_lowestBits_40 : decode cR_lowestBits 40 = .ok (.lload_n 1, 1) := by decide +kernel
theorem dR_lowestBits_41 : decode cR_lowestBits 41 = .ok (.lreturn, 1) := by decide +kernel
theorem dR_orderOfSizes_0 : decode cR_orderOfSizes 0 = .ok (.bipush 31, 2) := by decide +kernel
theorem dR_orderOfSizes_2 : decode cR_orderOfSizes 2 = .ok (.istore_n 2, 1) := by decide +kernel
theorem dR_orderOfSizes_3 : decode cR_orderOfSizes 3 = .ok (.iload_n 2, 1) := by decide +kernel
theorem dR_orderOfSizes_4 : decode cR_orderOfSizes 4 = .ok (.ifCond .lt 41, 3) := by decide +kernel
theorem dR_orderOfSizes_7 : decode cR_orderOfSizes 7 = .ok (.aload_n 0, 1) := by decide +kernel
theorem dR_orderOfSizes_8 : decode cR_orderOfSizes 8 = .ok (.iload_n 2, 1) := by decide +kernel
theorem dR_orderOfSizes_9 : decode cR_orderOfSizes 9 = .ok (.invokevirtual 33, 3) := by decide +kernel
theorem dR_orderOfSizes_12 : decode cR_orderOfSizes 12 = .ok (.aload_n 1, 1) := by decide +kernel
theorem dR_orderOfSizes_13 : decode cR_orderOfSizes 13 = .ok (.iload_n 2, 1) := by decide +kernel
theorem dR_orderOfSizes_14 : decode cR_orderOfSizes 14 = .ok (.invokevirtual 33, 3) := by decide +kernel
theorem dR_orderOfSizes_17 : decode cR_orderOfSizes 17 = .ok (.if_icmp .eq 22, 3) := by decide +kernel
theorem dR_orderOfSizes_20 : decode cR_orderOfSizes 20 = .ok (.aload_n 0, 1) := by decide +kernel
theorem dR_orderOfSizes_21 : decode cR_orderOfSizes 21 = .ok (.iload_n 2, 1) := by decide +kernel
theorem dR_orderOfSizes_22 : decode cR_orderOfSizes 22 = .ok (.invokevirtual 33, 3) := by decide +kernel
theorem dR_orderOfSizes_25 : decode cR_orderOfSizes 25 = .ok (.aload_n 1, 1) := by decide +kernel
theorem dR_orderOfSizes_26 : decode cR_orderOfSizes 26 = .ok (.iload_n 2, 1) := by decide +kernel
theorem dR_orderOfSizes_27 : decode cR_orderOfSizes 27 = .ok (.invokevirtual 33, 3) := by decide +kernel
theorem dR_orderOfSizes_30 : decode cR_orderOfSizes 30 = .ok (.if_icmp .ge 7, 3) := by decide +kernel
theorem dR_orderOfSizes_33 : decode cR_orderOfSizes 33 = .ok (.iconst (-1), 1) := by decide +kernel
theorem dR_orderOfSizes_34 : decode cR_orderOfSizes 34 = .ok (.goto 4, 3) := by decide +kernel
theorem dR_orderOfSizes_37 : decode cR_orderOfSizes 37 = .ok (.iconst 1, 1) := by decide +kernel
theorem dR_orderOfSizes_38 : decode cR_orderOfSizes 38 = .ok (.ireturn, 1) := by decide +kernel
theorem dR_orderOfSizes_39 : decode cR_orderOfSizes 39 = .ok (.iinc 2 (-1), 3) := by decide +kernel
theorem dR_orderOfSizes_42 : decode cR_orderOfSizes 42 = .ok (.goto (-39), 3) := by decide +kernel
theorem dR_orderOfSizes_45 : decode cR_orderOfSizes 45 = .ok (.iconst 0, 1) := by decide +kernel
theorem dR_orderOfSizes_46 : decode cR_orderOfSizes 46 = .ok (.ireturn, 1) := by decide +kernel
theorem dR_orderSigned_0 : decode cR_orderSigned 0 = .ok (.aload_n 0, 1) := by decide +kernel
theorem dR_orderSigned_1 : decode cR_orderSigned 1 = .ok (.getfield 15, 3) := by decide +kernel
theorem dR_orderSigned_4 : decode cR_orderSigned 4 = .ok (.aload_n 1, 1) := by decide +kernel
theorem dR_orderSigned_5 : decode cR_orderSigned 5 = .ok (.getfield 15, 3) := by decide +kernel
theorem dR_orderSigned_8 : decode cR_orderSigned 8 = .ok (.if_icmp .eq 16, 3) := by decide +kernel
theorem dR_orderSigned_11 : decode cR_orderSigned 11 = .ok (.aload_n 0, 1) := by decide +kernel
theorem dR_orderSigned_12 : decode cR_orderSigned 12 = .ok (.getfield 15, 3) := by decide +kernel
theorem dR_orderSigned_15 : decode cR_orderSigned 15 = .ok (.ifCond .eq 7, 3) := by decide +kernel
theorem dR_orderSigned_18 : decode cR_orderSigned 18 = .ok (.iconst (-1), 1) := by decide +kernel
theorem dR_orderSigned_19 : decode cR_orderSigned 19 = .ok (.goto 4, 3) := by decide +kernel
theorem dR_orderSigned_22 : decode cR_orderSigned 22 = .ok (.iconst 1, 1) := by decide +kernel
theorem dR_orderSigned_23 : decode cR_orderSigned 23 = .ok (.ireturn, 1) := by decide +kernel
theorem dR_orderSigned_24 : decode cR_orderSigned 24 = .ok (.aload_n 0, 1) := by decide +kernel
theorem dR_orderSigned_25 : decode cR_orderSigned 25 = .ok (.aload_n 1, 1) := by decide +kernel
theorem dR_orderSigned_26 : decode cR_orderSigned 26 = .ok (.invokevirtual 52, 3) := by decide +kernel
theorem dR_orderSigned_29 : decode cR_orderSigned 29 = .ok (.istore_n 2, 1) := by decide +kernel
theorem dR_orderSigned_30 : decode cR_orderSigned 30 = .ok (.aload_n 0, 1) := by decide +kernel
theorem dR_orderSigned_31 : decode cR_orderSigned 31 = .ok (.getfield 15, 3) := by decide +kernel
theorem dR_orderSigned_34 : decode cR_orderSigned 34 = .ok (.ifCond .eq 8, 3) := by decide +kernel
theorem dR_orderSigned_37 : decode cR_orderSigned 37 = .ok (.iload_n 2, 1) := by decide +kernel
theorem dR_orderSigned_38 : decode cR_orderSigned 38 = .ok (.ineg, 1) := by decide +kernel
theorem dR_orderSigned_39 : decode cR_orderSigned 39 = .ok (.goto 4, 3) := by decide +kernel
theorem dR_orderSigned_42 : decode cR_orderSigned 42 = .ok (.iload_n 2, 1) := by decide +kernel
theorem dR_orderSigned_43 : decode cR_orderSigned 43 = .ok (.ireturn, 1) := by decide +kernel
theorem dR_addSigned_0 : decode cR_addSigned 0 = .ok (.aload_n 0, 1) := by decide +kernel
theorem dR_addSigned_1 : decode cR_addSigned 1 = .ok (.invokevirtual 37, 3) := by decide +kernel
theorem dR_addSigned_4 : decode cR_addSigned 4 = .ok (.aload_n 1, 1) := by decide +kernel
theorem dR_addSigned_5 : decode cR_addSigned 5 = .ok (.getfield 15, 3) := by decide +kernel
theorem dR_addSigned_8 : decode cR_addSigned 8 = .ok (.aload_n 2, 1) := by decide +kernel
theorem dR_addSigned_9 : decode cR_addSigned 9 = .ok (.getfield 15, 3) := by decide +kernel
theorem dR_addSigned_12 : decode cR_addSigned 12 = .ok (.if_icmp .ne 20, 3) := by decide +kernel
theorem dR_addSigned_15 : decode cR_addSigned 15 = .ok (.aload_n 0, 1) := by decide +kernel
theorem dR_addSigned_16 : decode cR_addSigned 16 = .ok (.aload_n 1, 1) := by decide +kernel
theorem dR_addSigned_17 : decode cR_addSigned 17 = .ok (.aload_n 2, 1) := by decide +kernel
theorem dR_addSigned_18 : decode cR_addSigned 18 = .ok (.invokevirtual 56, 3) := by decide +kernel
theorem dR_addSigned_21 : decode cR_addSigned 21 = .ok (.aload_n 0, 1) := by decide +kernel
theorem dR_addSigned_22 : decode cR_addSigned 22 = .ok (.aload_n 1, 1) := by decide +kernel
theorem dR_addSigned_23 : decode cR_addSigned 23 = .ok (.getfield 15, 3) := by decide +kernel
theorem dR_addSigned_26 : decode cR_addSigned 26 = .ok (.putfield 15, 3) := by decide +kernel
theorem dR_addSigned_29 : decode cR_addSigned 29 = .ok (.goto 42, 3) := by decide +kernel
theorem dR_addSigned_32 : decode cR_addSigned 32 = .ok (.aload_n 1, 1) := by decide +kernel
theorem dR_addSigned_33 : decode cR_addSigned 33 = .ok (.aload_n 2, 1) := by decide +kernel
theorem dR_addSigned_34 : decode cR_addSigned 34 = .ok (.invokevirtual 52, 3) := by decide +kernel
theorem dR_addSigned_37 : decode cR_addSigned 37 = .ok (.ifCond .lt 20, 3) := by decide +kernel
theorem dR_addSigned_40 : decode cR_addSigned 40 = .ok (.aload_n 0, 1) := by decide +kernel
theorem dR_addSigned_41 : decode cR_addSigned 41 = .ok (.aload_n 1, 1) := by decide +kernel
theorem dR_addSigned_42 : decode cR_addSigned 42 = .ok (.aload_n 2, 1) := by decide +kernel
theorem dR_addSigned_43 : decode cR_addSigned 43 = .ok (.invokevirtual 60, 3) := by decide +kernel
theorem dR_addSigned_46 : decode cR_addSigned 46 = .ok (.aload_n 0, 1) := by decide +kernel
theorem dR_addSigned_47 : decode cR_addSigned 47 = .ok (.aload_n 1, 1) := by decide +kernel
theorem dR_addSigned_48 : decode cR_addSigned 48 = .ok (.getfield 15, 3) := by decide +kernel
theorem dR_addSigned_51 : decode cR_addSigned 51 = .ok (.putfield 15, 3) := by decide +kernel
theorem dR_addSigned_54 : decode cR_addSigned 54 = .ok (.goto 17, 3) := by decide +kernel
theorem dR_addSigned_57 : decode cR_addSigned 57 = .ok (.aload_n 0, 1) := by decide +kernel
theorem dR_addSigned_58 : decode cR_addSigned 58 = .ok (.aload_n 2, 1) := by decide +kernel
theorem dR_addSigned_59 : decode cR_addSigned 59 = .ok (.aload_n 1, 1) := by decide +kernel
theorem dR_addSigned_60 : decode cR_addSigned 60 = .ok (.invokevirtual 60, 3) := by decide +kernel
theorem dR_addSigned_63 : decode cR_addSigned 63 = .ok (.aload_n 0, 1) := by decide +kernel
theorem dR_addSigned_64 : decode cR_addSigned 64 = .ok (.aload_n 2, 1) := by decide +kernel
theorem dR_addSigned_65 : decode cR_addSigned 65 = .ok (.getfield 15, 3) := by decide +kernel
theorem dR_addSigned_68 : decode cR_addSigned 68 = .ok (.putfield 15, 3) := by decide +kernel
theorem dR_addSigned_71 : decode cR_addSigned 71 = .ok (.return_, 1) := by decide +kernel
theorem dR_addSizes_0 : decode cR_addSizes 0 = .ok (.iconst 0, 1) := by decide +kernel
theorem dR_addSizes_1 : decode cR_addSizes 1 = .ok (.istore_n 3, 1) := by decide +kernel
theorem dR_addSizes_2 : decode cR_addSizes 2 = .ok (.iconst 0, 1) := by decide +kernel
theorem dR_addSizes_3 : decode cR_addSizes 3 = .ok (.istore 4, 2) := by decide +kernel
theorem dR_addSizes_5 : decode cR_addSizes 5 = .ok (.iload 4, 2) := by decide +kernel
theorem dR_addSizes_7 : decode cR_addSizes 7 = .ok (.bipush 32, 2) := by decide +kernel
theorem dR_addSizes_9 : decode cR_addSizes 9 = .ok (.if_icmp .ge 43, 3) := by decide +kernel
theorem dR_addSizes_12 : decode cR_addSizes 12 = .ok (.aload_n 1, 1) := by decide +kernel
theorem dR_addSizes_13 : decode cR_addSizes 13 = .ok (.iload 4, 2) := by decide +kernel
theorem dR_addSizes_15 : decode cR_addSizes 15 = .ok (.invokevirtual 33, 3) := by decide +kernel
theorem dR_addSizes_18 : decode cR_addSizes 18 = .ok (.aload_n 2, 1) := by decide +kernel
theorem dR_addSizes_19 : decode cR_addSizes 19 = .ok (.iload 4, 2) := by decide +kernel
theorem dR_addSizes_21 : decode cR_addSizes 21 = .ok (.invokevirtual 33, 3) := by decide +kernel
theorem dR_addSizes_24 : decode cR_addSizes 24 = .ok (.iadd, 1) := by decide +kernel
theorem dR_addSizes_25 : decode cR_addSizes 25 = .ok (.iload_n 3, 1) := by decide +kernel
theorem dR_addSizes_26 : decode cR_addSizes 26 = .ok (.iadd, 1) := by decide +kernel
theorem dR_addSizes_27 : decode cR_addSizes 27 = .ok (.istore 5, 2) := by decide +kernel
theorem dR_addSizes_29 : decode cR_addSizes 29 = .ok (.iload 5, 2) := by decide +kernel
theorem dR_addSizes_31 : decode cR_addSizes 31 = .ok (.bipush 10, 2) := by decide +kernel
theorem dR_addSizes_33 : decode cR_addSizes 33 = .ok (.idiv, 1) := by decide +kernel
theorem dR_addSizes_34 : decode cR_addSizes 34 = .ok (.istore_n 3, 1) := by decide +kernel
theorem dR_addSizes_35 : decode cR_addSizes 35 = .ok (.aload_n 0, 1) := by decide +kernel
theorem dR_addSizes_36 : decode cR_addSizes 36 = .ok (.iload 4, 2) := by decide +kernel
theorem dR_addSizes_38 : decode cR_addSizes 38 = .ok (.iload 5, 2) := by decide +kernel
theorem dR_addSizes_40 : decode cR_addSizes 40 = .ok (.bipush 10, 2) := by decide +kernel
theorem dR_addSizes_42 : decode cR_addSizes 42 = .ok (.irem, 1) := by decide +kernel
theorem dR_addSizes_43 : decode cR_addSizes 43 = .ok (.invokevirtual 48, 3) := by decide +kernel
theorem dR_addSizes_46 : decode cR_addSizes 46 = .ok (.iinc 4 1, 3) := by decide +kernel
theorem dR_addSizes_49 : decode cR_addSizes 49 = .ok (.goto (-44), 3) := by decide +kernel
theorem dR_addSizes_52 : decode cR_addSizes 52 = .ok (.return_, 1) := by decide +kernel
theorem dR_subtractSizes_0 : decode cR_subtractSizes 0 = .ok (.iconst 0, 1) := by decide +kernel
theorem dR_subtractSizes_1 : decode cR_subtractSizes 1 = .ok (.istore_n 3, 1) := by decide +kernel
theorem dR_subtractSizes_2 : decode cR_subtractSizes 2 = .ok (.iconst 0, 1) := by decide +kernel
theorem dR_subtractSizes_3 : decode cR_subtractSizes 3 = .ok (.istore 4, 2) := by decide +kernel
theorem dR_subtractSizes_5 : decode cR_subtractSizes 5 = .ok (.iload 4, 2) := by decide +kernel
theorem dR_subtractSizes_7 : decode cR_subtractSizes 7 = .ok (.bipush 32, 2) := by decide +kernel
theorem dR_subtractSizes_9 : decode cR_subtractSizes 9 = .ok (.if_icmp .ge 50, 3) := by decide +kernel
theorem dR_subtractSizes_12 : decode cR_subtractSizes 12 = .ok (.aload_n 1, 1) := by decide +kernel
theorem dR_subtractSizes_13 : decode cR_subtractSizes 13 = .ok (.iload 4, 2) := by decide +kernel
theorem dR_subtractSizes_15 : decode cR_subtractSizes 15 = .ok (.invokevirtual 33, 3) := by decide +kernel
theorem dR_subtractSizes_18 : decode cR_subtractSizes 18 = .ok (.aload_n 2, 1) := by decide +kernel
theorem dR_subtractSizes_19 : decode cR_subtractSizes 19 = .ok (.iload 4, 2) := by decide +kernel
theorem dR_subtractSizes_21 : decode cR_subtractSizes 21 = .ok (.invokevirtual 33, 3) := by decide +kernel
theorem dR_subtractSizes_24 : decode cR_subtractSizes 24 = .ok (.isub, 1) := by decide +kernel
theorem dR_subtractSizes_25 : decode cR_subtractSizes 25 = .ok (.iload_n 3, 1) := by decide +kernel
theorem dR_subtractSizes_26 : decode cR_subtractSizes 26 = .ok (.isub, 1) := by decide +kernel
theorem dR_subtractSizes_27 : decode cR_subtractSizes 27 = .ok (.istore 5, 2) := by decide +kernel
theorem dR_subtractSizes_29 : decode cR_subtractSizes 29 = .ok (.iload 5, 2) := by decide +kernel
theorem dR_subtractSizes_31 : decode cR_subtractSizes 31 = .ok (.ifCond .ge 7, 3) := by decide +kernel
theorem dR_subtractSizes_34 : decode cR_subtractSizes 34 = .ok (.iconst 1, 1) := by decide +kernel
theorem dR_subtractSizes_35 : decode cR_subtractSizes 35 = .ok (.goto 4, 3) := by decide +kernel
theorem dR_subtractSizes_38 : decode cR_subtractSizes 38 = .ok (.iconst 0, 1) := by decide +kernel
theorem dR_subtractSizes_39 : decode cR_subtractSizes 39 = .ok (.istore_n 3, 1) := by decide +kernel
theorem dR_subtractSizes_40 : decode cR_subtractSizes 40 = .ok (.aload_n 0, 1) := by decide +kernel
theorem dR_subtractSizes_41 : decode cR_subtractSizes 41 = .ok (.iload 4, 2) := by decide +kernel
theorem dR_subtractSizes_43 : decode cR_subtractSizes 43 = .ok (.iload 5, 2) := by decide +kernel
theorem dR_subtractSizes_45 : decode cR_subtractSizes 45 = .ok (.bipush 10, 2) := by decide +kernel
theorem dR_subtractSizes_47 : decode cR_subtractSizes 47 = .ok (.iload_n 3, 1) := by decide +kernel
theorem dR_subtractSizes_48 : decode cR_subtractSizes 48 = .ok (.imul, 1) := by decide +kernel
theorem dR_subtractSizes_49 : decode cR_subtractSizes 49 = .ok (.iadd, 1) := by decide +kernel
theorem dR_subtractSizes_50 : decode cR_subtractSizes 50 = .ok (.invokevirtual 48, 3) := by decide +kernel
theorem dR_subtractSizes_53 : decode cR_subtractSizes 53 = .ok (.iinc 4 1, 3) := by decide +kernel
theorem dR_subtractSizes_56 : decode cR_subtractSizes 56 = .ok (.goto (-51), 3) := by decide +kernel
theorem dR_subtractSizes_59 : decode cR_subtractSizes 59 = .ok (.return_, 1) := by decide +kernel
theorem dR_addOne_0 : decode cR_addOne 0 = .ok (.iconst 1, 1) := by decide +kernel
theorem dR_addOne_1 : decode cR_addOne 1 = .ok (.istore_n 1, 1) := by decide +kernel
theorem dR_addOne_2 : decode cR_addOne 2 = .ok (.iconst 0, 1) := by decide +kernel
theorem dR_addOne_3 : decode cR_addOne 3 = .ok (.istore_n 2, 1) := by decide +kernel
theorem dR_addOne_4 : decode cR_addOne 4 = .ok (.iload_n 2, 1) := by decide +kernel
theorem dR_addOne_5 : decode cR_addOne 5 = .ok (.bipush 32, 2) := by decide +kernel
theorem dR_addOne_7 : decode cR_addOne 7 = .ok (.if_icmp .ge 35, 3) := by decide +kernel
theorem dR_addOne_10 : decode cR_addOne 10 = .ok (.iload_n 1, 1) := by decide +kernel
theorem dR_addOne_11 : decode cR_addOne 11 = .ok (.ifCond .le 31, 3) := by decide +kernel
theorem dR_addOne_14 : decode cR_addOne 14 = .ok (.aload_n 0, 1) := by decide +kernel
theorem dR_addOne_15 : decode cR_addOne 15 = .ok (.iload_n 2, 1) := by decide +kernel
theorem dR_addOne_16 : decode cR_addOne 16 = .ok (.invokevirtual 33, 3) := by decide +kernel
theorem dR_addOne_19 : decode cR_addOne 19 = .ok (.iload_n 1, 1) := by decide +kernel
theorem dR_addOne_20 : decode cR_addOne 20 = .ok (.iadd, 1) := by decide +kernel
theorem dR_addOne_21 : decode cR_addOne 21 = .ok (.istore_n 3, 1) := by decide +kernel
theorem dR_addOne_22 : decode cR_addOne 22 = .ok (.iload_n 3, 1) := by decide +kernel
theorem dR_addOne_23 : decode cR_addOne 23 = .ok (.bipush 10, 2) := by decide +kernel
theorem dR_addOne_25 : decode cR_addOne 25 = .ok (.idiv, 1) := by decide +kernel
theorem dR_addOne_26 : decode cR_addOne 26 = .ok (.istore_n 1, 1) := by decide +kernel
theorem dR_addOne_27 : decode cR_addOne 27 = .ok (.aload_n 0, 1) := by decide +kernel
theorem dR_addOne_28 : decode cR_addOne 28 = .ok (.iload_n 2, 1) := by decide +kernel
theorem dR_addOne_29 : decode cR_addOne 29 = .ok (.iload_n 3, 1) := by decide +kernel
theorem dR_addOne_30 : decode cR_addOne 30 = .ok (.bipush 10, 2) := by decide +kernel
theorem dR_addOne_32 : decode cR_addOne 32 = .ok (.irem, 1) := by decide +kernel
theorem dR_addOne_33 : decode cR_addOne 33 = .ok (.invokevirtual 48, 3) := by decide +kernel
theorem dR_addOne_36 : decode cR_addOne 36 = .ok (.iinc 2 1, 3) := by decide +kernel
theorem dR_addOne_39 : decode cR_addOne 39 = .ok (.goto (-35), 3) := by decide +kernel
theorem dR_addOne_42 : decode cR_addOne 42 = .ok (.return_, 1) := by decide +kernel
theorem dR_multiply_0 : decode cR_multiply 0 = .ok (.aload_n 0, 1) := by decide +kernel
theorem dR_multiply_1 : decode cR_multiply 1 = .ok (.invokevirtual 37, 3) := by decide +kernel
theorem dR_multiply_4 : decode cR_multiply 4 = .ok (.iconst 0, 1) := by decide +kernel
theorem dR_multiply_5 : decode cR_multiply 5 = .ok (.istore_n 3, 1) := by decide +kernel
theorem dR_multiply_6 : decode cR_multiply 6 = .ok (.iload_n 3, 1) := by decide +kernel
theorem dR_multiply_7 : decode cR_multiply 7 = .ok (.bipush 31, 2) := by decide +kernel
theorem dR_multiply_9 : decode cR_multiply 9 = .ok (.if_icmp .ge 28, 3) := by decide +kernel
theorem dR_multiply_12 : decode cR_multiply 12 = .ok (.aload_n 1, 1) := by decide +kernel
theorem dR_multiply_13 : decode cR_multiply 13 = .ok (.iload_n 3, 1) := by decide +kernel
theorem dR_multiply_14 : decode cR_multiply 14 = .ok (.invokevirtual 33, 3) := by decide +kernel
theorem dR_multiply_17 : decode cR_multiply 17 = .ok (.ifCond .eq 14, 3) := by decide +kernel
theorem dR_multiply_20 : decode cR_multiply 20 = .ok (.aload_n 0, 1) := by decide +kernel
theorem dR_multiply_21 : decode cR_multiply 21 = .ok (.aload_n 2, 1) := by decide +kernel
theorem dR_multiply_22 : decode cR_multiply 22 = .ok (.aload_n 1, 1) := by decide +kernel
theorem dR_multiply_23 : decode cR_multiply 23 = .ok (.iload_n 3, 1) := by decide +kernel
theorem dR_multiply_24 : decode cR_multiply 24 = .ok (.invokevirtual 33, 3) := by decide +kernel
theorem dR_multiply_27 : decode cR_multiply 27 = .ok (.iload_n 3, 1) := by decide +kernel
theorem dR_multiply_28 : decode cR_multiply 28 = .ok (.invokevirtual 63, 3) := by decide +kernel
theorem dR_multiply_31 : decode cR_multiply 31 = .ok (.iinc 3 1, 3) := by decide +kernel
theorem dR_multiply_34 : decode cR_multiply 34 = .ok (.goto (-28), 3) := by decide +kernel
theorem dR_multiply_37 : decode cR_multiply 37 = .ok (.aload_n 0, 1) := by decide +kernel
theorem dR_multiply_38 : decode cR_multiply 38 = .ok (.aload_n 1, 1) := by decide +kernel
theorem dR_multiply_39 : decode cR_multiply 39 = .ok (.getfield 15, 3) := by decide +kernel
theorem dR_multiply_42 : decode cR_multiply 42 = .ok (.aload_n 2, 1) := by decide +kernel
theorem dR_multiply_43 : decode cR_multiply 43 = .ok (.getfield 15, 3) := by decide +kernel
theorem dR_multiply_46 : decode cR_multiply 46 = .ok (.if_icmp .eq 7, 3) := by decide +kernel
theorem dR_multiply_49 : decode cR_multiply 49 = .ok (.iconst 1, 1) := by decide +kernel
theorem dR_multiply_50 : decode cR_multiply 50 = .ok (.goto 4, 3) := by decide +kernel
theorem dR_multiply_53 : decode cR_multiply 53 = .ok (.iconst 0, 1) := by decide +kernel
theorem dR_multiply_54 : decode cR_multiply 54 = .ok (.putfield 15, 3) := by decide +kernel
theorem dR_multiply_57 : decode cR_multiply 57 = .ok (.return_, 1) := by decide +kernel
theorem dR_addMultiple_0 : decode cR_addMultiple 0 = .ok (.iconst 0, 1) := by decide +kernel
theorem dR_addMultiple_1 : decode cR_addMultiple 1 = .ok (.istore 4, 2) := by decide +kernel
theorem dR_addMultiple_3 : decode cR_addMultiple 3 = .ok (.iconst 0, 1) := by decide +kernel
theorem dR_addMultiple_4 : decode cR_addMultiple 4 = .ok (.istore 5, 2) := by decide +kernel
theorem dR_addMultiple_6 : decode cR_addMultiple 6 = .ok (.iload 5, 2) := by decide +kernel
theorem dR_addMultiple_8 : decode cR_addMultiple 8 = .ok (.bipush 32, 2) := by decide +kernel
theorem dR_addMultiple_10 : decode cR_addMultiple 10 = .ok (.if_icmp .ge 51, 3) := by decide +kernel
theorem dR_addMultiple_13 : decode cR_addMultiple 13 = .ok (.aload_n 0, 1) := by decide +kernel
theorem dR_addMultiple_14 : decode cR_addMultiple 14 = .ok (.iload_n 3, 1) := by decide +kernel
theorem dR_addMultiple_15 : decode cR_addMultiple 15 = .ok (.iload 5, 2) := by decide +kernel
theorem dR_addMultiple_17 : decode cR_addMultiple 17 = .ok (.iadd, 1) := by decide +kernel
theorem dR_addMultiple_18 : decode cR_addMultiple 18 = .ok (.invokevirtual 33, 3) := by decide +kernel
theorem dR_addMultiple_21 : decode cR_addMultiple 21 = .ok (.iload_n 2, 1) := by decide +kernel
theorem dR_addMultiple_22 : decode cR_addMultiple 22 = .ok (.aload_n 1, 1) := by decide +kernel
theorem dR_addMultiple_23 : decode cR_addMultiple 23 = .ok (.iload 5, 2) := by decide +kernel
theorem dR_addMultiple_25 : decode cR_addMultiple 25 = .ok (.invokevirtual 33, 3) := by decide +kernel
theorem dR_addMultiple_28 : decode cR_addMultiple 28 = .ok (.imul, 1) := by decide +kernel
theorem dR_addMultiple_29 : decode cR_addMultiple 29 = .ok (.iadd, 1) := by decide +kernel
theorem dR_addMultiple_30 : decode cR_addMultiple 30 = .ok (.iload 4, 2) := by decide +kernel
theorem dR_addMultiple_32 : decode cR_addMultiple 32 = .ok (.iadd, 1) := by decide +kernel
theorem dR_addMultiple_33 : decode cR_addMultiple 33 = .ok (.istore 6, 2) := by decide +kernel
theorem dR_addMultiple_35 : decode cR_addMultiple 35 = .ok (.iload 6, 2) := by decide +kernel
theorem dR_addMultiple_37 : decode cR_addMultiple 37 = .ok (.bipush 10, 2) := by decide +kernel
theorem dR_addMultiple_39 : decode cR_addMultiple 39 = .ok (.idiv, 1) := by decide +kernel
theorem dR_addMultiple_40 : decode cR_addMultiple 40 = .ok (.istore 4, 2) := by decide +kernel
theorem dR_addMultiple_42 : decode cR_addMultiple 42 = .ok (.aload_n 0, 1) := by decide +kernel
theorem dR_addMultiple_43 : decode cR_addMultiple 43 = .ok (.iload_n 3, 1) := by decide +kernel
theorem dR_addMultiple_44 : decode cR_addMultiple 44 = .ok (.iload 5, 2) := by decide +kernel
theorem dR_addMultiple_46 : decode cR_addMultiple 46 = .ok (.iadd, 1) := by decide +kernel
theorem dR_addMultiple_47 : decode cR_addMultiple 47 = .ok (.iload 6, 2) := by decide +kernel
theorem dR_addMultiple_49 : decode cR_addMultiple 49 = .ok (.bipush 10, 2) := by decide +kernel
theorem dR_addMultiple_51 : decode cR_addMultiple 51 = .ok (.irem, 1) := by decide +kernel
theorem dR_addMultiple_52 : decode cR_addMultiple 52 = .ok (.invokevirtual 48, 3) := by decide +kernel
theorem dR_addMultiple_55 : decode cR_addMultiple 55 = .ok (.iinc 5 1, 3) := by decide +kernel
theorem dR_addMultiple_58 : decode cR_addMultiple 58 = .ok (.goto (-52), 3) := by decide +kernel
theorem dR_addMultiple_61 : decode cR_addMultiple 61 = .ok (.return_, 1) := by decide +kernel
theorem dR_divide_0 : decode cR_divide 0 = .ok (.aload_n 0, 1) := by decide +kernel
theorem dR_divide_1 : decode cR_divide 1 = .ok (.invokevirtual 37, 3) := by decide +kernel
theorem dR_divide_4 : decode cR_divide 4 = .ok (.aload_n 3, 1) := by decide +kernel
theorem dR_divide_5 : decode cR_divide 5 = .ok (.invokevirtual 37, 3) := by decide +kernel
theorem dR_divide_8 : decode cR_divide 8 = .ok (.bipush 30, 2) := by decide +kernel
theorem dR_divide_10 : decode cR_divide 10 = .ok (.istore 4, 2) := by decide +kernel
theorem dR_divide_12 : decode cR_divide 12 = .ok (.iload 4, 2) := by decide +kernel
theorem dR_divide_14 : decode cR_divide 14 = .ok (.ifCond .lt 30, 3) := by decide +kernel
theorem dR_divide_17 : decode cR_divide 17 = .ok (.aload_n 3, 1) := by decide +kernel
theorem dR_divide_18 : decode cR_divide 18 = .ok (.aload_n 1, 1) := by decide +kernel
theorem dR_divide_19 : decode cR_divide 19 = .ok (.iload 4, 2) := by decide +kernel
theorem dR_divide_21 : decode cR_divide 21 = .ok (.invokevirtual 33, 3) := by decide +kernel
theorem dR_divide_24 : decode cR_divide 24 = .ok (.invokevirtual 67, 3) := by decide +kernel
theorem dR_divide_27 : decode cR_divide 27 = .ok (.aload_n 0, 1) := by decide +kernel
theorem dR_divide_28 : decode cR_divide 28 = .ok (.iload 4, 2) := by decide +kernel
theorem dR_divide_30 : decode cR_divide 30 = .ok (.aload_n 3, 1) := by decide +kernel
theorem dR_divide_31 : decode cR_divide 31 = .ok (.aload_n 2, 1) := by decide +kernel
theorem dR_divide_32 : decode cR_divide 32 = .ok (.invokevirtual 71, 3) := by decide +kernel
theorem dR_divide_35 : decode cR_divide 35 = .ok (.invokevirtual 48, 3) := by decide +kernel
theorem dR_divide_38 : decode cR_divide 38 = .ok (.iinc 4 (-1), 3) := by decide +kernel
theorem dR_divide_41 : decode cR_divide 41 = .ok (.goto (-29), 3) := by decide +kernel
theorem dR_divide_44 : decode cR_divide 44 = .ok (.aload_n 0, 1) := by decide +kernel
theorem dR_divide_45 : decode cR_divide 45 = .ok (.aload_n 1, 1) := by decide +kernel
theorem dR_divide_46 : decode cR_divide 46 = .ok (.getfield 15, 3) := by decide +kernel
theorem dR_divide_49 : decode cR_divide 49 = .ok (.aload_n 2, 1) := by decide +kernel
theorem dR_divide_50 : decode cR_divide 50 = .ok (.getfield 15, 3) := by decide +kernel
theorem dR_divide_53 : decode cR_divide 53 = .ok (.if_icmp .eq 7, 3) := by decide +kernel
theorem dR_divide_56 : decode cR_divide 56 = .ok (.iconst 1, 1) := by decide +kernel
theorem dR_divide_57 : decode cR_divide 57 = .ok (.goto 4, 3) := by decide +kernel
theorem dR_divide_60 : decode cR_divide 60 = .ok (.iconst 0, 1) := by decide +kernel
theorem dR_divide_61 : decode cR_divide 61 = .ok (.putfield 15, 3) := by decide +kernel
theorem dR_divide_64 : decode cR_divide 64 = .ok (.return_, 1) := by decide +kernel
theorem dR_bringDown_0 : decode cR_bringDown 0 = .ok (.bipush 31, 2) := by decide +kernel
theorem dR_bringDown_2 : decode cR_bringDown 2 = .ok (.istore_n 2, 1) := by decide +kernel
theorem dR_bringDown_3 : decode cR_bringDown 3 = .ok (.iload_n 2, 1) := by decide +kernel
theorem dR_bringDown_4 : decode cR_bringDown 4 = .ok (.ifCond .le 21, 3) := by decide +kernel
theorem dR_bringDown_7 : decode cR_bringDown 7 = .ok (.aload_n 0, 1) := by decide +kernel
theorem dR_bringDown_8 : decode cR_bringDown 8 = .ok (.iload_n 2, 1) := by decide +kernel
theorem dR_bringDown_9 : decode cR_bringDown 9 = .ok (.aload_n 0, 1) := by decide +kernel
theorem dR_bringDown_10 : decode cR_bringDown 10 = .ok (.iload_n 2, 1) := by decide +kernel
theorem dR_bringDown_11 : decode cR_bringDown 11 = .ok (.iconst 1, 1) := by decide +kernel
theorem dR_bringDown_12 : decode cR_bringDown 12 = .ok (.isub, 1) := by decide +kernel
theorem dR_bringDown_13 : decode cR_bringDown 13 = .ok (.invokevirtual 33, 3) := by decide +kernel
theorem dR_bringDown_16 : decode cR_bringDown 16 = .ok (.invokevirtual 48, 3) := by decide +kernel
theorem dR_bringDown_19 : decode cR_bringDown 19 = .ok (.iinc 2 (-1), 3) := by decide +kernel
theorem dR_bringDown_22 : decode cR_bringDown 22 = .ok (.goto (-19), 3) := by decide +kernel
theorem dR_bringDown_25 : decode cR_bringDown 25 = .ok (.aload_n 0, 1) := by decide +kernel
theorem dR_bringDown_26 : decode cR_bringDown 26 = .ok (.iconst 0, 1) := by decide +kernel
theorem dR_bringDown_27 : decode cR_bringDown 27 = .ok (.iload_n 1, 1) := by decide +kernel
theorem dR_bringDown_28 : decode cR_bringDown 28 = .ok (.invokevirtual 48, 3) := by decide +kernel
theorem dR_bringDown_31 : decode cR_bringDown 31 = .ok (.return_, 1) := by decide +kernel
theorem dR_takeAway_0 : decode cR_takeAway 0 = .ok (.iconst 0, 1) := by decide +kernel
theorem dR_takeAway_1 : decode cR_takeAway 1 = .ok (.istore_n 2, 1) := by decide +kernel
theorem dR_takeAway_2 : decode cR_takeAway 2 = .ok (.iload_n 2, 1) := by decide +kernel
theorem dR_takeAway_3 : decode cR_takeAway 3 = .ok (.bipush 9, 2) := by decide +kernel
theorem dR_takeAway_5 : decode cR_takeAway 5 = .ok (.if_icmp .ge 23, 3) := by decide +kernel
theorem dR_takeAway_8 : decode cR_takeAway 8 = .ok (.aload_n 0, 1) := by decide +kernel
theorem dR_takeAway_9 : decode cR_takeAway 9 = .ok (.aload_n 1, 1) := by decide +kernel
theorem dR_takeAway_10 : decode cR_takeAway 10 = .ok (.invokevirtual 52, 3) := by decide +kernel
theorem dR_takeAway_13 : decode cR_takeAway 13 = .ok (.ifCond .lt 15, 3) := by decide +kernel
theorem dR_takeAway_16 : decode cR_takeAway 16 = .ok (.aload_n 0, 1) := by decide +kernel
theorem dR_takeAway_17 : decode cR_takeAway 17 = .ok (.aload_n 0, 1) := by decide +kernel
theorem dR_takeAway_18 : decode cR_takeAway 18 = .ok (.aload_n 1, 1) := by decide +kernel
theorem dR_takeAway_19 : decode cR_takeAway 19 = .ok (.invokevirtual 60, 3) := by decide +kernel
theorem dR_takeAway_22 : decode cR_takeAway 22 = .ok (.iinc 2 1, 3) := by decide +kernel
theorem dR_takeAway_25 : decode cR_takeAway 25 = .ok (.goto (-23), 3) := by decide +kernel
theorem dR_takeAway_28 : decode cR_takeAway 28 = .ok (.iload_n 2, 1) := by decide +kernel
theorem dR_takeAway_29 : decode cR_takeAway 29 = .ok (.ireturn, 1) := by decide +kernel
theorem dR_moveLeft_0 : decode cR_moveLeft 0 = .ok (.aload_n 0, 1) := by decide +kernel
theorem dR_moveLeft_1 : decode cR_moveLeft 1 = .ok (.invokevirtual 37, 3) := by decide +kernel
theorem dR_moveLeft_4 : decode cR_moveLeft 4 = .ok (.iconst 0, 1) := by decide +kernel
theorem dR_moveLeft_5 : decode cR_moveLeft 5 = .ok (.istore_n 3, 1) := by decide +kernel
theorem dR_moveLeft_6 : decode cR_moveLeft 6 = .ok (.iload_n 3, 1) := by decide +kernel
theorem dR_moveLeft_7 : decode cR_moveLeft 7 = .ok (.bipush 31, 2) := by decide +kernel
theorem dR_moveLeft_9 : decode cR_moveLeft 9 = .ok (.if_icmp .ge 21, 3) := by decide +kernel
theorem dR_moveLeft_12 : decode cR_moveLeft 12 = .ok (.aload_n 0, 1) := by decide +kernel
theorem dR_moveLeft_13 : decode cR_moveLeft 13 = .ok (.iload_n 3, 1) := by decide +kernel
theorem dR_moveLeft_14 : decode cR_moveLeft 14 = .ok (.iload_n 2, 1) := by decide +kernel
theorem dR_moveLeft_15 : decode cR_moveLeft 15 = .ok (.iadd, 1) := by decide +kernel
theorem dR_moveLeft_16 : decode cR_moveLeft 16 = .ok (.aload_n 1, 1) := by decide +kernel
theorem dR_moveLeft_17 : decode cR_moveLeft 17 = .ok (.iload_n 3, 1) := by decide +kernel
theorem dR_moveLeft_18 : decode cR_moveLeft 18 = .ok (.invokevirtual 33, 3) := by decide +kernel
theorem dR_moveLeft_21 : decode cR_moveLeft 21 = .ok (.invokevirtual 48, 3) := by decide +kernel
theorem dR_moveLeft_24 : decode cR_moveLeft 24 = .ok (.iinc 3 1, 3) := by decide +kernel
theorem dR_moveLeft_27 : decode cR_moveLeft 27 = .ok (.goto (-21), 3) := by decide +kernel
theorem dR_moveLeft_30 : decode cR_moveLeft 30 = .ok (.aload_n 0, 1) := by decide +kernel
theorem dR_moveLeft_31 : decode cR_moveLeft 31 = .ok (.aload_n 1, 1) := by decide +kernel
theorem dR_moveLeft_32 : decode cR_moveLeft 32 = .ok (.getfield 15, 3) := by decide +kernel
theorem dR_moveLeft_35 : decode cR_moveLeft 35 = .ok (.putfield 15, 3) := by decide +kernel
theorem dR_moveLeft_38 : decode cR_moveLeft 38 = .ok (.return_, 1) := by decide +kernel
theorem dJM_abs_0 : decode cJM_abs 0 = .ok (.lload_n 0, 1) := by decide +kernel
theorem dJM_abs_1 : decode cJM_abs 1 = .ok (.lconst 0, 1) := by decide +kernel
theorem dJM_abs_2 : decode cJM_abs 2 = .ok (.lcmp, 1) := by decide +kernel
theorem dJM_abs_3 : decode cJM_abs 3 = .ok (.ifCond .ge 8, 3) := by decide +kernel
theorem dJM_abs_6 : decode cJM_abs 6 = .ok (.lload_n 0, 1) := by decide +kernel
theorem dJM_abs_7 : decode cJM_abs 7 = .ok (.lneg, 1) := by decide +kernel
theorem dJM_abs_8 : decode cJM_abs 8 = .ok (.goto 4, 3) := by decide +kernel
theorem dJM_abs_11 : decode cJM_abs 11 = .ok (.lload_n 0, 1) := by decide +kernel
theorem dJM_abs_12 : decode cJM_abs 12 = .ok (.lreturn, 1) := by decide +kernel
theorem dJA_fill_0 : decode cJA_fill 0 = .ok (.iconst 0, 1) := by decide +kernel
theorem dJA_fill_1 : decode cJA_fill 1 = .ok (.istore_n 2, 1) := by decide +kernel
theorem dJA_fill_2 : decode cJA_fill 2 = .ok (.aload_n 0, 1) := by decide +kernel
theorem dJA_fill_3 : decode cJA_fill 3 = .ok (.arraylength, 1) := by decide +kernel
theorem dJA_fill_4 : decode cJA_fill 4 = .ok (.istore_n 3, 1) := by decide +kernel
theorem dJA_fill_5 : decode cJA_fill 5 = .ok (.iload_n 2, 1) := by decide +kernel
theorem dJA_fill_6 : decode cJA_fill 6 = .ok (.iload_n 3, 1) := by decide +kernel
theorem dJA_fill_7 : decode cJA_fill 7 = .ok (.if_icmp .ge 13, 3) := by decide +kernel
theorem dJA_fill_10 : decode cJA_fill 10 = .ok (.aload_n 0, 1) := by decide +kernel
theorem dJA_fill_11 : decode cJA_fill 11 = .ok (.iload_n 2, 1) := by decide +kernel
theorem dJA_fill_12 : decode cJA_fill 12 = .ok (.iload_n 1, 1) := by decide +kernel
theorem dJA_fill_13 : decode cJA_fill 13 = .ok (.iastore, 1) := by decide +kernel
theorem dJA_fill_14 : decode cJA_fill 14 = .ok (.iinc 2 1, 3) := by decide +kernel
theorem dJA_fill_17 : decode cJA_fill 17 = .ok (.goto (-12), 3) := by decide +kernel
theorem dJA_fill_20 : decode cJA_fill 20 = .ok (.return_, 1) := by decide +kernel
end
section
theorem dD_init_0 : decode cD_init 0 = .ok (.aload_n 0, 1) := by decide +kernel
theorem dD_init_1 : decode cD_init 1 = .ok (.invokespecial 3, 3) := by decide +kernel
theorem dD_init_4 : decode cD_init 4 = .ok (.aload_n 0, 1) := by decide +kernel
theorem dD_init_5 : decode cD_init 5 = .ok (.sipush 256, 3) := by decide +kernel
theorem dD_init_8 : decode cD_init 8 = .ok (.newarray .int, 2) := by decide +kernel
theorem dD_init_10 : decode cD_init 10 = .ok (.putfield 9, 3) := by decide +kernel
theorem dD_init_13 : decode cD_init 13 = .ok (.aload_n 0, 1) := by decide +kernel
theorem dD_init_14 : decode cD_init 14 = .ok (.new 13, 3) := by decide +kernel
theorem dD_init_17 : decode cD_init 17 = .ok (.dup, 1) := by decide +kernel
theorem dD_init_18 : decode cD_init 18 = .ok (.invokespecial 15, 3) := by decide +kernel
theorem dD_init_21 : decode cD_init 21 = .ok (.putfield 16, 3) := by decide +kernel
theorem dD_init_24 : decode cD_init 24 = .ok (.aload_n 0, 1) := by decide +kernel
theorem dD_init_25 : decode cD_init 25 = .ok (.new 13, 3) := by decide +kernel
theorem dD_init_28 : decode cD_init 28 = .ok (.dup, 1) := by decide +kernel
theorem dD_init_29 : decode cD_init 29 = .ok (.invokespecial 15, 3) := by decide +kernel
theorem dD_init_32 : decode cD_init 32 = .ok (.putfield 20, 3) := by decide +kernel
theorem dD_init_35 : decode cD_init 35 = .ok (.aload_n 0, 1) := by decide +kernel
theorem dD_init_36 : decode cD_init 36 = .ok (.new 13, 3) := by decide +kernel
theorem dD_init_39 : decode cD_init 39 = .ok (.dup, 1) := by decide +kernel
theorem dD_init_40 : decode cD_init 40 = .ok (.invokespecial 15, 3) := by decide +kernel
theorem dD_init_43 : decode cD_init 43 = .ok (.putfield 23, 3) := by decide +kernel
theorem dD_init_46 : decode cD_init 46 = .ok (.aload_n 0, 1) := by decide +kernel
theorem dD_init_47 : decode cD_init 47 = .ok (.new 13, 3) := by decide +kernel
theorem dD_init_50 : decode cD_init 50 = .ok (.dup, 1) := by decide +kernel
theorem dD_init_51 : decode cD_init 51 = .ok (.invokespecial 15, 3) := by decide +kernel
theorem dD_init_54 : decode cD_init 54 = .ok (.putfield 26, 3) := by decide +kernel
theorem dD_init_57 : decode cD_init 57 = .ok (.aload_n 0, 1) := by decide +kernel
theorem dD_init_58 : decode cD_init 58 = .ok (.new 29, 3) := by decide +kernel
theorem dD_init_61 : decode cD_init 61 = .ok (.dup, 1) := by decide +kernel
theorem dD_init_62 : decode cD_init 62 = .ok (.invokespecial 31, 3) := by decide +kernel
theorem dD_init_65 : decode cD_init 65 = .ok (.putfield 32, 3) := by decide +kernel
theorem dD_init_68 : decode cD_init 68 = .ok (.aload_n 0, 1) := by decide +kernel
theorem dD_init_69 : decode cD_init 69 = .ok (.iconst 0, 1) := by decide +kernel
theorem dD_init_70 : decode cD_init 70 = .ok (.putfield 36, 3) := by decide +kernel
theorem dD_init_73 : decode cD_init 73 = .ok (.return_, 1) := by decide +kernel
theorem dD_put_0 : decode cD_put 0 = .ok (.iload_n 1, 1) := by decide +kernel
theorem dD_put_1 : decode cD_put 1 = .ok (.ifCond .lt 10, 3) := by decide +kernel
theorem dD_put_4 : decode cD_put 4 = .ok (.iload_n 1, 1) := by decide +kernel
theorem dD_put_5 : decode cD_put 5 = .ok (.sipush 256, 3) := by decide +kernel
theorem dD_put_8 : decode cD_put 8 = .ok (.if_icmp .lt 5, 3) := by decide +kernel
theorem dD_put_11 : decode cD_put 11 = .ok (.iconst 0, 1) := by decide +kernel
theorem dD_put_12 : decode cD_put 12 = .ok (.ireturn, 1) := by decide +kernel
theorem dD_put_13 : decode cD_put 13 = .ok (.aload_n 0, 1) := by decide +kernel
theorem dD_put_14 : decode cD_put 14 = .ok (.getfield 9, 3) := by decide +kernel
theorem dD_put_17 : decode cD_put 17 = .ok (.iload_n 1, 1) := by decide +kernel
theorem dD_put_18 : decode cD_put 18 = .ok (.iload_n 2, 1) := by decide +kernel
theorem dD_put_19 : decode cD_put 19 = .ok (.sipush 255, 3) := by decide +kernel
theorem dD_put_22 : decode cD_put 22 = .ok (.iand, 1) := by decide +kernel
theorem dD_put_23 : decode cD_put 23 = .ok (.iastore, 1) := by decide +kernel
theorem dD_put_24 : decode cD_put 24 = .ok (.iconst 1, 1) := by decide +kernel
theorem dD_put_25 : decode cD_put 25 = .ok (.ireturn, 1) := by decide +kernel
theorem dD_byteOf_0 : decode cD_byteOf 0 = .ok (.iload_n 1, 1) := by decide +kernel
theorem dD_byteOf_1 : decode cD_byteOf 1 = .ok (.ifCond .lt 10, 3) := by decide +kernel
theorem dD_byteOf_4 : decode cD_byteOf 4 = .ok (.iload_n 1, 1) := by decide +kernel
theorem dD_byteOf_5 : decode cD_byteOf 5 = .ok (.sipush 256, 3) := by decide +kernel
theorem dD_byteOf_8 : decode cD_byteOf 8 = .ok (.if_icmp .lt 5, 3) := by decide +kernel
theorem dD_byteOf_11 : decode cD_byteOf 11 = .ok (.iconst (-1), 1) := by decide +kernel
theorem dD_byteOf_12 : decode cD_byteOf 12 = .ok (.ireturn, 1) := by decide +kernel
theorem dD_byteOf_13 : decode cD_byteOf 13 = .ok (.aload_n 0, 1) := by decide +kernel
theorem dD_byteOf_14 : decode cD_byteOf 14 = .ok (.getfield 9, 3) := by decide +kernel
theorem dD_byteOf_17 : decode cD_byteOf 17 = .ok (.iload_n 1, 1) := by decide +kernel
theorem dD_byteOf_18 : decode cD_byteOf 18 = .ok (.iaload, 1) := by decide +kernel
theorem dD_byteOf_19 : decode cD_byteOf 19 = .ok (.ireturn, 1) := by decide +kernel
theorem dD_sum_0 : decode cD_sum 0 = .ok (.aload_n 0, 1) := by decide +kernel
theorem dD_sum_1 : decode cD_sum 1 = .ok (.iload_n 1, 1) := by decide +kernel
theorem dD_sum_2 : decode cD_sum 2 = .ok (.iload_n 2, 1) := by decide +kernel
theorem dD_sum_3 : decode cD_sum 3 = .ok (.iload_n 3, 1) := by decide +kernel
theorem dD_sum_4 : decode cD_sum 4 = .ok (.iload 4, 2) := by decide +kernel
theorem dD_sum_6 : decode cD_sum 6 = .ok (.iload 5, 2) := by decide +kernel
theorem dD_sum_8 : decode cD_sum 8 = .ok (.iload 6, 2) := by decide +kernel
theorem dD_sum_10 : decode cD_sum 10 = .ok (.invokevirtual 40, 3) := by decide +kernel
theorem dD_sum_13 : decode cD_sum 13 = .ok (.istore 7, 2) := by decide +kernel
theorem dD_sum_15 : decode cD_sum 15 = .ok (.iload 7, 2) := by decide +kernel
theorem dD_sum_17 : decode cD_sum 17 = .ok (.ifCond .eq 6, 3) := by decide +kernel
theorem dD_sum_20 : decode cD_sum 20 = .ok (.iload 7, 2) := by decide +kernel
theorem dD_sum_22 : decode cD_sum 22 = .ok (.ireturn, 1) := by decide +kernel
theorem dD_sum_23 : decode cD_sum 23 = .ok (.aload_n 0, 1) := by decide +kernel
theorem dD_sum_24 : decode cD_sum 24 = .ok (.getfield 26, 3) := by decide +kernel
theorem dD_sum_27 : decode cD_sum 27 = .ok (.aload_n 0, 1) := by decide +kernel
theorem dD_sum_28 : decode cD_sum 28 = .ok (.getfield 20, 3) := by decide +kernel
theorem dD_sum_31 : decode cD_sum 31 = .ok (.aload_n 0, 1) := by decide +kernel
theorem dD_sum_32 : decode cD_sum 32 = .ok (.getfield 16, 3) := by decide +kernel
theorem dD_sum_35 : decode cD_sum 35 = .ok (.invokevirtual 44, 3) := by decide +kernel
theorem dD_sum_38 : decode cD_sum 38 = .ok (.aload_n 0, 1) := by decide +kernel
theorem dD_sum_39 : decode cD_sum 39 = .ok (.aload_n 0, 1) := by decide +kernel
theorem dD_sum_40 : decode cD_sum 40 = .ok (.getfield 26, 3) := by decide +kernel
theorem dD_sum_43 : decode cD_sum 43 = .ok (.iload 5, 2) := by decide +kernel
theorem dD_sum_45 : decode cD_sum 45 = .ok (.iload 6, 2) := by decide +kernel
theorem dD_sum_47 : decode cD_sum 47 = .ok (.invokevirtual 48, 3) := by decide +kernel
theorem dD_sum_50 : decode cD_sum 50 = .ok (.ireturn, 1) := by decide +kernel
theorem dD_less_0 : decode cD_less 0 = .ok (.aload_n 0, 1) := by decide +kernel
theorem dD_less_1 : decode cD_less 1 = .ok (.iload_n 1, 1) := by decide +kernel
theorem dD_less_2 : decode cD_less 2 = .ok (.iload_n 2, 1) := by decide +kernel
theorem dD_less_3 : decode cD_less 3 = .ok (.iload_n 3, 1) := by decide +kernel
theorem dD_less_4 : decode cD_less 4 = .ok (.iload 4, 2) := by decide +kernel
theorem dD_less_6 : decode cD_less 6 = .ok (.iload 5, 2) := by decide +kernel
theorem dD_less_8 : decode cD_less 8 = .ok (.iload 6, 2) := by decide +kernel
theorem dD_less_10 : decode cD_less 10 = .ok (.invokevirtual 40, 3) := by decide +kernel
theorem dD_less_13 : decode cD_less 13 = .ok (.istore 7, 2) := by decide +kernel
theorem dD_less_15 : decode cD_less 15 = .ok (.iload 7, 2) := by decide +kernel
theorem dD_less_17 : decode cD_less 17 = .ok (.ifCond .eq 6, 3) := by decide +kernel
theorem dD_less_20 : decode cD_less 20 = .ok (.iload 7, 2) := by decide +kernel
theorem dD_less_22 : decode cD_less 22 = .ok (.ireturn, 1) := by decide +kernel
theorem dD_less_23 : decode cD_less 23 = .ok (.aload_n 0, 1) := by decide +kernel
theorem dD_less_24 : decode cD_less 24 = .ok (.getfield 16, 3) := by decide +kernel
theorem dD_less_27 : decode cD_less 27 = .ok (.aload_n 0, 1) := by decide +kernel
theorem dD_less_28 : decode cD_less 28 = .ok (.getfield 16, 3) := by decide +kernel
theorem dD_less_31 : decode cD_less 31 = .ok (.getfield 52, 3) := by decide +kernel
theorem dD_less_34 : decode cD_less 34 = .ok (.ifCond .ne 7, 3) := by decide +kernel
theorem dD_less_37 : decode cD_less 37 = .ok (.iconst 1, 1) := by decide +kernel
theorem dD_less_38 : decode cD_less 38 = .ok (.goto 4, 3) := by decide +kernel
theorem dD_less_41 : decode cD_less 41 = .ok (.iconst 0, 1) := by decide +kernel
theorem dD_less_42 : decode cD_less 42 = .ok (.putfield 52, 3) := by decide +kernel
theorem dD_less_45 : decode cD_less 45 = .ok (.aload_n 0, 1) := by decide +kernel
theorem dD_less_46 : decode cD_less 46 = .ok (.getfield 26, 3) := by decide +kernel
theorem dD_less_49 : decode cD_less 49 = .ok (.aload_n 0, 1) := by decide +kernel
theorem dD_less_50 : decode cD_less 50 = .ok (.getfield 20, 3) := by decide +kernel
theorem dD_less_53 : decode cD_less 53 = .ok (.aload_n 0, 1) := by decide +kernel
theorem dD_less_54 : decode cD_less 54 = .ok (.getfield 16, 3) := by decide +kernel
theorem dD_less_57 : decode cD_less 57 = .ok (.invokevirtual 44, 3) := by decide +kernel
theorem dD_less_60 : decode cD_less 60 = .ok (.aload_n 0, 1) := by decide +kernel
theorem dD_less_61 : decode cD_less 61 = .ok (.aload_n 0, 1) := by decide +kernel
theorem dD_less_62 : decode cD_less 62 = .ok (.getfield 26, 3) := by decide +kernel
theorem dD_less_65 : decode cD_less 65 = .ok (.iload 5, 2) := by decide +kernel
theorem dD_less_67 : decode cD_less 67 = .ok (.iload 6, 2) := by decide +kernel
theorem dD_less_69 : decode cD_less 69 = .ok (.invokevirtual 48, 3) := by decide +kernel
theorem dD_less_72 : decode cD_less 72 = .ok (.ireturn, 1) := by decide +kernel
theorem dD_product_0 : decode cD_product 0 = .ok (.aload_n 0, 1) := by decide +kernel
theorem dD_product_1 : decode cD_product 1 = .ok (.iload_n 1, 1) := by decide +kernel
theorem dD_product_2 : decode cD_product 2 = .ok (.iload_n 2, 1) := by decide +kernel
theorem dD_product_3 : decode cD_product 3 = .ok (.iload_n 3, 1) := by decide +kernel
theorem dD_product_4 : decode cD_product 4 = .ok (.iload 4, 2) := by decide +kernel
theorem dD_product_6 : decode cD_product 6 = .ok (.iload 5, 2) := by decide +kernel
theorem dD_product_8 : decode cD_product 8 = .ok (.iload 6, 2) := by decide +kernel
theorem dD_product_10 : decode cD_product 10 = .ok (.invokevirtual 40, 3) := by decide +kernel
theorem dD_product_13 : decode cD_product 13 = .ok (.istore 7, 2) := by decide +kernel
theorem dD_product_15 : decode cD_product 15 = .ok (.iload 7, 2) := by decide +kernel
theorem dD_product_17 : decode cD_product 17 = .ok (.ifCond .eq 6, 3) := by decide +kernel
theorem dD_product_20 : decode cD_product 20 = .ok (.iload 7, 2) := by decide +kernel
theorem dD_product_22 : decode cD_product 22 = .ok (.ireturn, 1) := by decide +kernel
theorem dD_product_23 : decode cD_product 23 = .ok (.aload_n 0, 1) := by decide +kernel
theorem dD_product_24 : decode cD_product 24 = .ok (.getfield 26, 3) := by decide +kernel
theorem dD_product_27 : decode cD_product 27 = .ok (.aload_n 0, 1) := by decide +kernel
theorem dD_product_28 : decode cD_product 28 = .ok (.getfield 16, 3) := by decide +kernel
theorem dD_product_31 : decode cD_product 31 = .ok (.aload_n 0, 1) := by decide +kernel
theorem dD_product_32 : decode cD_product 32 = .ok (.getfield 20, 3) := by decide +kernel
theorem dD_product_35 : decode cD_product 35 = .ok (.invokevirtual 55, 3) := by decide +kernel
theorem dD_product_38 : decode cD_product 38 = .ok (.aload_n 0, 1) := by decide +kernel
theorem dD_product_39 : decode cD_product 39 = .ok (.aload_n 0, 1) := by decide +kernel
theorem dD_product_40 : decode cD_product 40 = .ok (.getfield 26, 3) := by decide +kernel
theorem dD_product_43 : decode cD_product 43 = .ok (.iload 5, 2) := by decide +kernel
theorem dD_product_45 : decode cD_product 45 = .ok (.iload 6, 2) := by decide +kernel
theorem dD_product_47 : decode cD_product 47 = .ok (.invokevirtual 48, 3) := by decide +kernel
theorem dD_product_50 : decode cD_product 50 = .ok (.ireturn, 1) := by decide +kernel
theorem dD_quotient_0 : decode cD_quotient 0 = .ok (.aload_n 0, 1) := by decide +kernel
theorem dD_quotient_1 : decode cD_quotient 1 = .ok (.iload_n 1, 1) := by decide +kernel
theorem dD_quotient_2 : decode cD_quotient 2 = .ok (.iload_n 2, 1) := by decide +kernel
theorem dD_quotient_3 : decode cD_quotient 3 = .ok (.iload_n 3, 1) := by decide +kernel
theorem dD_quotient_4 : decode cD_quotient 4 = .ok (.iload 4, 2) := by decide +kernel
theorem dD_quotient_6 : decode cD_quotient 6 = .ok (.iload 5, 2) := by decide +kernel
theorem dD_quotient_8 : decode cD_quotient 8 = .ok (.iload 6, 2) := by decide +kernel
theorem dD_quotient_10 : decode cD_quotient 10 = .ok (.invokevirtual 40, 3) := by decide +kernel
theorem dD_quotient_13 : decode cD_quotient 13 = .ok (.istore 7, 2) := by decide +kernel
theorem dD_quotient_15 : decode cD_quotient 15 = .ok (.iload 7, 2) := by decide +kernel
theorem dD_quotient_17 : decode cD_quotient 17 = .ok (.ifCond .eq 6, 3) := by decide +kernel
theorem dD_quotient_20 : decode cD_quotient 20 = .ok (.iload 7, 2) := by decide +kernel
theorem dD_quotient_22 : decode cD_quotient 22 = .ok (.ireturn, 1) := by decide +kernel
theorem dD_quotient_23 : decode cD_quotient 23 = .ok (.aload_n 0, 1) := by decide +kernel
theorem dD_quotient_24 : decode cD_quotient 24 = .ok (.getfield 16, 3) := by decide +kernel
theorem dD_quotient_27 : decode cD_quotient 27 = .ok (.invokevirtual 58, 3) := by decide +kernel
theorem dD_quotient_30 : decode cD_quotient 30 = .ok (.ifCond .eq 6, 3) := by decide +kernel
theorem dD_quotient_33 : decode cD_quotient 33 = .ok (.bipush (-3), 2) := by decide +kernel
theorem dD_quotient_35 : decode cD_quotient 35 = .ok (.ireturn, 1) := by decide +kernel
theorem dD_quotient_36 : decode cD_quotient 36 = .ok (.aload_n 0, 1) := by decide +kernel
theorem dD_quotient_37 : decode cD_quotient 37 = .ok (.getfield 26, 3) := by decide +kernel
theorem dD_quotient_40 : decode cD_quotient 40 = .ok (.aload_n 0, 1) := by decide +kernel
theorem dD_quotient_41 : decode cD_quotient 41 = .ok (.getfield 20, 3) := by decide +kernel
theorem dD_quotient_44 : decode cD_quotient 44 = .ok (.aload_n 0, 1) := by decide +kernel
theorem dD_quotient_45 : decode cD_quotient 45 = .ok (.getfield 16, 3) := by decide +kernel
theorem dD_quotient_48 : decode cD_quotient 48 = .ok (.aload_n 0, 1) := by decide +kernel
theorem dD_quotient_49 : decode cD_quotient 49 = .ok (.getfield 23, 3) := by decide +kernel
theorem dD_quotient_52 : decode cD_quotient 52 = .ok (.invokevirtual 62, 3) := by decide +kernel
theorem dD_quotient_55 : decode cD_quotient 55 = .ok (.aload_n 0, 1) := by decide +kernel
theorem dD_quotient_56 : decode cD_quotient 56 = .ok (.aload_n 0, 1) := by decide +kernel
theorem dD_quotient_57 : decode cD_quotient 57 = .ok (.getfield 26, 3) := by decide +kernel
theorem dD_quotient_60 : decode cD_quotient 60 = .ok (.iload 5, 2) := by decide +kernel
theorem dD_quotient_62 : decode cD_quotient 62 = .ok (.iload 6, 2) := by decide +kernel
theorem dD_quotient_64 : decode cD_quotient 64 = .ok (.invokevirtual 48, 3) := by decide +kernel
theorem dD_quotient_67 : decode cD_quotient 67 = .ok (.ireturn, 1) := by decide +kernel
theorem dD_shift_0 : decode cD_shift 0 = .ok (.iload_n 1, 1) := by decide +kernel
theorem dD_shift_1 : decode cD_shift 1 = .ok (.iload_n 2, 1) := by decide +kernel
theorem dD_shift_2 : decode cD_shift 2 = .ok (.invokestatic 66, 3) := by decide +kernel
theorem dD_shift_5 : decode cD_shift 5 = .ok (.ifCond .eq 13, 3) := by decide +kernel
theorem dD_shift_8 : decode cD_shift 8 = .ok (.iload 5, 2) := by decide +kernel
theorem dD_shift_10 : decode cD_shift 10 = .ok (.iload 6, 2) := by decide +kernel
theorem dD_shift_12 : decode cD_shift 12 = .ok (.invokestatic 66, 3) := by decide +kernel
theorem dD_shift_15 : decode cD_shift 15 = .ok (.ifCond .ne 5, 3) := by decide +kernel
theorem dD_shift_18 : decode cD_shift 18 = .ok (.iconst (-1), 1) := by decide +kernel
theorem dD_shift_19 : decode cD_shift 19 = .ok (.ireturn, 1) := by decide +kernel
theorem dD_shift_20 : decode cD_shift 20 = .ok (.iload_n 3, 1) := by decide +kernel
theorem dD_shift_21 : decode cD_shift 21 = .ok (.bipush (-99), 2) := by decide +kernel
theorem dD_shift_23 : decode cD_shift 23 = .ok (.if_icmp .lt 21, 3) := by decide +kernel
theorem dD_shift_26 : decode cD_shift 26 = .ok (.iload_n 3, 1) := by decide +kernel
theorem dD_shift_27 : decode cD_shift 27 = .ok (.bipush 99, 2) := by decide +kernel
theorem dD_shift_29 : decode cD_shift 29 = .ok (.if_icmp .gt 15, 3) := by decide +kernel
theorem dD_shift_32 : decode cD_shift 32 = .ok (.iload 4, 2) := by decide +kernel
theorem dD_shift_34 : decode cD_shift 34 = .ok (.ifCond .lt 10, 3) := by decide +kernel
theorem dD_shift_37 : decode cD_shift 37 = .ok (.iload 4, 2) := by decide +kernel
theorem dD_shift_39 : decode cD_shift 39 = .ok (.bipush 9, 2) := by decide +kernel
theorem dD_shift_41 : decode cD_shift 41 = .ok (.if_icmp .le 5, 3) := by decide +kernel
theorem dD_shift_44 : decode cD_shift 44 = .ok (.iconst (-1), 1) := by decide +kernel
theorem dD_shift_45 : decode cD_shift 45 = .ok (.ireturn, 1) := by decide +kernel
theorem dD_shift_46 : decode cD_shift 46 = .ok (.aload_n 0, 1) := by decide +kernel
theorem dD_shift_47 : decode cD_shift 47 = .ok (.aload_n 0, 1) := by decide +kernel
theorem dD_shift_48 : decode cD_shift 48 = .ok (.getfield 16, 3) := by decide +kernel
theorem dD_shift_51 : decode cD_shift 51 = .ok (.iload_n 1, 1) := by decide +kernel
theorem dD_shift_52 : decode cD_shift 52 = .ok (.iload_n 2, 1) := by decide +kernel
theorem dD_shift_53 : decode cD_shift 53 = .ok (.invokevirtual 70, 3) := by decide +kernel
theorem dD_shift_56 : decode cD_shift 56 = .ok (.ifCond .ne 6, 3) := by decide +kernel
theorem dD_shift_59 : decode cD_shift 59 = .ok (.bipush (-2), 2) := by decide +kernel
theorem dD_shift_61 : decode cD_shift 61 = .ok (.ireturn, 1) := by decide +kernel
theorem dD_shift_62 : decode cD_shift 62 = .ok (.aload_n 0, 1) := by decide +kernel
theorem dD_shift_63 : decode cD_shift 63 = .ok (.getfield 26, 3) := by decide +kernel
theorem dD_shift_66 : decode cD_shift 66 = .ok (.aload_n 0, 1) := by decide +kernel
theorem dD_shift_67 : decode cD_shift 67 = .ok (.getfield 16, 3) := by decide +kernel
theorem dD_shift_70 : decode cD_shift 70 = .ok (.iload_n 3, 1) := by decide +kernel
theorem dD_shift_71 : decode cD_shift 71 = .ok (.invokevirtual 74, 3) := by decide +kernel
theorem dD_shift_74 : decode cD_shift 74 = .ok (.iload_n 3, 1) := by decide +kernel
theorem dD_shift_75 : decode cD_shift 75 = .ok (.ifCond .ge 29, 3) := by decide +kernel
theorem dD_shift_78 : decode cD_shift 78 = .ok (.aload_n 0, 1) := by decide +kernel
theorem dD_shift_79 : decode cD_shift 79 = .ok (.getfield 16, 3) := by decide +kernel
theorem dD_shift_82 : decode cD_shift 82 = .ok (.iload_n 3, 1) := by decide +kernel
theorem dD_shift_83 : decode cD_shift 83 = .ok (.ineg, 1) := by decide +kernel
theorem dD_shift_84 : decode cD_shift 84 = .ok (.iconst 1, 1) := by decide +kernel
theorem dD_shift_85 : decode cD_shift 85 = .ok (.isub, 1) := by decide +kernel
theorem dD_shift_86 : decode cD_shift 86 = .ok (.invokevirtual 78, 3) := by decide +kernel
theorem dD_shift_89 : decode cD_shift 89 = .ok (.iload 4, 2) := by decide +kernel
theorem dD_shift_91 : decode cD_shift 91 = .ok (.iadd, 1) := by decide +kernel
theorem dD_shift_92 : decode cD_shift 92 = .ok (.bipush 9, 2) := by decide +kernel
theorem dD_shift_94 : decode cD_shift 94 = .ok (.if_icmp .le 10, 3) := by decide +kernel
theorem dD_shift_97 : decode cD_shift 97 = .ok (.aload_n 0, 1) := by decide +kernel
theorem dD_shift_98 : decode cD_shift 98 = .ok (.getfield 26, 3) := by decide +kernel
theorem dD_shift_101 : decode cD_shift 101 = .ok (.invokevirtual 82, 3) := by decide +kernel
theorem dD_shift_104 : decode cD_shift 104 = .ok (.aload_n 0, 1) := by decide +kernel
theorem dD_shift_105 : decode cD_shift 105 = .ok (.aload_n 0, 1) := by decide +kernel
theorem dD_shift_106 : decode cD_shift 106 = .ok (.getfield 26, 3) := by decide +kernel
theorem dD_shift_109 : decode cD_shift 109 = .ok (.iload 5, 2) := by decide +kernel
theorem dD_shift_111 : decode cD_shift 111 = .ok (.iload 6, 2) := by decide +kernel
theorem dD_shift_113 : decode cD_shift 113 = .ok (.invokevirtual 48, 3) := by decide +kernel
theorem dD_shift_116 : decode cD_shift 116 = .ok (.ireturn, 1) := by decide +kernel
theorem dD_compare_0 : decode cD_compare 0 = .ok (.iload_n 1, 1) := by decide +kernel
theorem dD_compare_1 : decode cD_compare 1 = .ok (.iload_n 2, 1) := by decide +kernel
theorem dD_compare_2 : decode cD_compare 2 = .ok (.invokestatic 66, 3) := by decide +kernel
theorem dD_compare_5 : decode cD_compare 5 = .ok (.ifCond .eq 12, 3) := by decide +kernel
theorem dD_compare_8 : decode cD_compare 8 = .ok (.iload_n 3, 1) := by decide +kernel
theorem dD_compare_9 : decode cD_compare 9 = .ok (.iload 4, 2) := by decide +kernel
theorem dD_compare_11 : decode cD_compare 11 = .ok (.invokestatic 66, 3) := by decide +kernel
theorem dD_compare_14 : decode cD_compare 14 = .ok (.ifCond .ne 5, 3) := by decide +kernel
theorem dD_compare_17 : decode cD_compare 17 = .ok (.iconst (-1), 1) := by decide +kernel
theorem dD_compare_18 : decode cD_compare 18 = .ok (.ireturn, 1) := by decide +kernel
theorem dD_compare_19 : decode cD_compare 19 = .ok (.aload_n 0, 1) := by decide +kernel
theorem dD_compare_20 : decode cD_compare 20 = .ok (.aload_n 0, 1) := by decide +kernel
theorem dD_compare_21 : decode cD_compare 21 = .ok (.getfield 16, 3) := by decide +kernel
theorem dD_compare_24 : decode cD_compare 24 = .ok (.iload_n 1, 1) := by decide +kernel
theorem dD_compare_25 : decode cD_compare 25 = .ok (.iload_n 2, 1) := by decide +kernel
theorem dD_compare_26 : decode cD_compare 26 = .ok (.invokevirtual 70, 3) := by decide +kernel
theorem dD_compare_29 : decode cD_compare 29 = .ok (.ifCond .eq 17, 3) := by decide +kernel
theorem dD_compare_32 : decode cD_compare 32 = .ok (.aload_n 0, 1) := by decide +kernel
theorem dD_compare_33 : decode cD_compare 33 = .ok (.aload_n 0, 1) := by decide +kernel
theorem dD_compare_34 : decode cD_compare 34 = .ok (.getfield 20, 3) := by decide +kernel
theorem dD_compare_37 : decode cD_compare 37 = .ok (.iload_n 3, 1) := by decide +kernel
theorem dD_compare_38 : decode cD_compare 38 = .ok (.iload 4, 2) := by decide +kernel
theorem dD_compare_40 : decode cD_compare 40 = .ok (.invokevirtual 70, 3) := by decide +kernel
theorem dD_compare_43 : decode cD_compare 43 = .ok (.ifCond .ne 6, 3) := by decide +kernel
theorem dD_compare_46 : decode cD_compare 46 = .ok (.bipush (-2), 2) := by decide +kernel
theorem dD_compare_48 : decode cD_compare 48 = .ok (.ireturn, 1) := by decide +kernel
theorem dD_compare_49 : decode cD_compare 49 = .ok (.aload_n 0, 1) := by decide +kernel
theorem dD_compare_50 : decode cD_compare 50 = .ok (.getfield 16, 3) := by decide +kernel
theorem dD_compare_53 : decode cD_compare 53 = .ok (.aload_n 0, 1) := by decide +kernel
theorem dD_compare_54 : decode cD_compare 54 = .ok (.getfield 20, 3) := by decide +kernel
theorem dD_compare_57 : decode cD_compare 57 = .ok (.invokevirtual 85, 3) := by decide +kernel
theorem dD_compare_60 : decode cD_compare 60 = .ok (.istore 5, 2) := by decide +kernel
theorem dD_compare_62 : decode cD_compare 62 = .ok (.iload 5, 2) := by decide +kernel
theorem dD_compare_64 : decode cD_compare 64 = .ok (.ifCond .ne 5, 3) := by decide +kernel
theorem dD_compare_67 : decode cD_compare 67 = .ok (.iconst 4, 1) := by decide +kernel
theorem dD_compare_68 : decode cD_compare 68 = .ok (.ireturn, 1) := by decide +kernel
theorem dD_compare_69 : decode cD_compare 69 = .ok (.iload 5, 2) := by decide +kernel
theorem dD_compare_71 : decode cD_compare 71 = .ok (.ifCond .ge 8, 3) := by decide +kernel
theorem dD_compare_74 : decode cD_compare 74 = .ok (.bipush 8, 2) := by decide +kernel
theorem dD_compare_76 : decode cD_compare 76 = .ok (.goto 4, 3) := by decide +kernel
theorem dD_compare_79 : decode cD_compare 79 = .ok (.iconst 0, 1) := by decide +kernel
theorem dD_compare_80 : decode cD_compare 80 = .ok (.ireturn, 1) := by decide +kernel
theorem dD_number_0 : decode cD_number 0 = .ok (.iload_n 2, 1) := by decide +kernel
theorem dD_number_1 : decode cD_number 1 = .ok (.iload_n 3, 1) := by decide +kernel
theorem dD_number_2 : decode cD_number 2 = .ok (.invokestatic 66, 3) := by decide +kernel
theorem dD_number_5 : decode cD_number 5 = .ok (.ifCond .ne 5, 3) := by decide +kernel
theorem dD_number_8 : decode cD_number 8 = .ok (.iconst (-1), 1) := by decide +kernel
theorem dD_number_9 : decode cD_number 9 = .ok (.ireturn, 1) := by decide +kernel
theorem dD_number_10 : decode cD_number 10 = .ok (.aload_n 0, 1) := by decide +kernel
theorem dD_number_11 : decode cD_number 11 = .ok (.getfield 26, 3) := by decide +kernel
theorem dD_number_14 : decode cD_number 14 = .ok (.iload_n 1, 1) := by decide +kernel
theorem dD_number_15 : decode cD_number 15 = .ok (.invokevirtual 89, 3) := by decide +kernel
theorem dD_number_18 : decode cD_number 18 = .ok (.aload_n 0, 1) := by decide +kernel
theorem dD_number_19 : decode cD_number 19 = .ok (.aload_n 0, 1) := by decide +kernel
theorem dD_number_20 : decode cD_number 20 = .ok (.getfield 26, 3) := by decide +kernel
theorem dD_number_23 : decode cD_number 23 = .ok (.iload_n 2, 1) := by decide +kernel
theorem dD_number_24 : decode cD_number 24 = .ok (.iload_n 3, 1) := by decide +kernel
theorem dD_number_25 : decode cD_number 25 = .ok (.invokevirtual 48, 3) := by decide +kernel
theorem dD_number_28 : decode cD_number 28 = .ok (.ireturn, 1) := by decide +kernel
theorem dD_value_0 : decode cD_value 0 = .ok (.iload_n 1, 1) := by decide +kernel
theorem dD_value_1 : decode cD_value 1 = .ok (.iload_n 2, 1) := by decide +kernel
theorem dD_value_2 : decode cD_value 2 = .ok (.invokestatic 66, 3) := by decide +kernel
theorem dD_value_5 : decode cD_value 5 = .ok (.ifCond .eq 16, 3) := by decide +kernel
theorem dD_value_8 : decode cD_value 8 = .ok (.aload_n 0, 1) := by decide +kernel
theorem dD_value_9 : decode cD_value 9 = .ok (.aload_n 0, 1) := by decide +kernel
theorem dD_value_10 : decode cD_value 10 = .ok (.getfield 16, 3) := by decide +kernel
theorem dD_value_13 : decode cD_value 13 = .ok (.iload_n 1, 1) := by decide +kernel
theorem dD_value_14 : decode cD_value 14 = .ok (.iload_n 2, 1) := by decide +kernel
theorem dD_value_15 : decode cD_value 15 = .ok (.invokevirtual 70, 3) := by decide +kernel
theorem dD_value_18 : decode cD_value 18 = .ok (.ifCond .ne 5, 3) := by decide +kernel
theorem dD_value_21 : decode cD_value 21 = .ok (.lconst 0, 1) := by decide +kernel
theorem dD_value_22 : decode cD_value 22 = .ok (.lreturn, 1) := by decide +kernel
theorem dD_value_23 : decode cD_value 23 = .ok (.aload_n 0, 1) := by decide +kernel
theorem dD_value_24 : decode cD_value 24 = .ok (.getfield 16, 3) := by decide +kernel
theorem dD_value_27 : decode cD_value 27 = .ok (.invokevirtual 93, 3) := by decide +kernel
theorem dD_value_30 : decode cD_value 30 = .ok (.lreturn, 1) := by decide +kernel
theorem dD_characters_0 : decode cD_characters 0 = .ok (.iload_n 1, 1) := by decide +kernel
theorem dD_characters_1 : decode cD_characters 1 = .ok (.iload_n 2, 1) := by decide +kernel
theorem dD_characters_2 : decode cD_characters 2 = .ok (.invokestatic 66, 3) := by decide +kernel
theorem dD_characters_5 : decode cD_characters 5 = .ok (.ifCond .eq 12, 3) := by decide +kernel
theorem dD_characters_8 : decode cD_characters 8 = .ok (.iload_n 3, 1) := by decide +kernel
theorem dD_characters_9 : decode cD_characters 9 = .ok (.iload 4, 2) := by decide +kernel
theorem dD_characters_11 : decode cD_characters 11 = .ok (.invokestatic 97, 3) := by decide +kernel
theorem dD_characters_14 : decode cD_characters 14 = .ok (.ifCond .ne 5, 3) := by decide +kernel
theorem dD_characters_17 : decode cD_characters 17 = .ok (.iconst (-1), 1) := by decide +kernel
theorem dD_characters_18 : decode cD_characters 18 = .ok (.ireturn, 1) := by decide +kernel
theorem dD_characters_19 : decode cD_characters 19 = .ok (.aload_n 0, 1) := by decide +kernel
theorem dD_characters_20 : decode cD_characters 20 = .ok (.aload_n 0, 1) := by decide +kernel
theorem dD_characters_21 : decode cD_characters 21 = .ok (.getfield 16, 3) := by decide +kernel
theorem dD_characters_24 : decode cD_characters 24 = .ok (.iload_n 1, 1) := by decide +kernel
theorem dD_characters_25 : decode cD_characters 25 = .ok (.iload_n 2, 1) := by decide +kernel
theorem dD_characters_26 : decode cD_characters 26 = .ok (.invokevirtual 70, 3) := by decide +kernel
theorem dD_characters_29 : decode cD_characters 29 = .ok (.ifCond .ne 6, 3) := by decide +kernel
theorem dD_characters_32 : decode cD_characters 32 = .ok (.bipush (-2), 2) := by decide +kernel
theorem dD_characters_34 : decode cD_characters 34 = .ok (.ireturn, 1) := by decide +kernel
theorem dD_characters_35 : decode cD_characters 35 = .ok (.aload_n 0, 1) := by decide +kernel
theorem dD_characters_36 : decode cD_characters 36 = .ok (.getfield 16, 3) := by decide +kernel
theorem dD_characters_39 : decode cD_characters 39 = .ok (.iload_n 3, 1) := by decide +kernel
theorem dD_characters_40 : decode cD_characters 40 = .ok (.invokevirtual 100, 3) := by decide +kernel
theorem dD_characters_43 : decode cD_characters 43 = .ok (.istore 5, 2) := by decide +kernel
theorem dD_characters_45 : decode cD_characters 45 = .ok (.aload_n 0, 1) := by decide +kernel
theorem dD_characters_46 : decode cD_characters 46 = .ok (.iload 4, 2) := by decide +kernel
theorem dD_characters_48 : decode cD_characters 48 = .ok (.iload 5, 2) := by decide +kernel
theorem dD_characters_50 : decode cD_characters 50 = .ok (.bipush 8, 2) := by decide +kernel
theorem dD_characters_52 : decode cD_characters 52 = .ok (.iand, 1) := by decide +kernel
theorem dD_characters_53 : decode cD_characters 53 = .ok (.ifCond .eq 8, 3) := by decide +kernel
theorem dD_characters_56 : decode cD_characters 56 = .ok (.bipush 45, 2) := by decide +kernel
theorem dD_characters_58 : decode cD_characters 58 = .ok (.goto 5, 3) := by decide +kernel
theorem dD_characters_61 : decode cD_characters 61 = .ok (.bipush 43, 2) := by decide +kernel
theorem dD_characters_63 : decode cD_characters 63 = .ok (.invokevirtual 103, 3) := by decide +kernel
theorem dD_characters_66 : decode cD_characters 66 = .ok (.pop, 1) := by decide +kernel
theorem dD_characters_67 : decode cD_characters 67 = .ok (.iconst 0, 1) := by decide +kernel
theorem dD_characters_68 : decode cD_characters 68 = .ok (.istore 6, 2) := by decide +kernel
theorem dD_characters_70 : decode cD_characters 70 = .ok (.iload 6, 2) := by decide +kernel
theorem dD_characters_72 : decode cD_characters 72 = .ok (.iload_n 3, 1) := by decide +kernel
theorem dD_characters_73 : decode cD_characters 73 = .ok (.if_icmp .ge 33, 3) := by decide +kernel
theorem dD_characters_76 : decode cD_characters 76 = .ok (.aload_n 0, 1) := by decide +kernel
theorem dD_characters_77 : decode cD_characters 77 = .ok (.iload 4, 2) := by decide +kernel
theorem dD_characters_79 : decode cD_characters 79 = .ok (.iload_n 3, 1) := by decide +kernel
theorem dD_characters_80 : decode cD_characters 80 = .ok (.iadd, 1) := by decide +kernel
theorem dD_characters_81 : decode cD_characters 81 = .ok (.iload 6, 2) := by decide +kernel
theorem dD_characters_83 : decode cD_characters 83 = .ok (.isub, 1) := by decide +kernel
theorem dD_characters_84 : decode cD_characters 84 = .ok (.bipush 48, 2) := by decide +kernel
theorem dD_characters_86 : decode cD_characters 86 = .ok (.aload_n 0, 1) := by decide +kernel
theorem dD_characters_87 : decode cD_characters 87 = .ok (.getfield 16, 3) := by decide +kernel
theorem dD_characters_90 : decode cD_characters 90 = .ok (.iload 6, 2) := by decide +kernel
theorem dD_characters_92 : decode cD_characters 92 = .ok (.invokevirtual 78, 3) := by decide +kernel
theorem dD_characters_95 : decode cD_characters 95 = .ok (.iadd, 1) := by decide +kernel
theorem dD_characters_96 : decode cD_characters 96 = .ok (.invokevirtual 103, 3) := by decide +kernel
theorem dD_characters_99 : decode cD_characters 99 = .ok (.pop, 1) := by decide +kernel
theorem dD_characters_100 : decode cD_characters 100 = .ok (.iinc 6 1, 3) := by decide +kernel
theorem dD_characters_103 : decode cD_characters 103 = .ok (.goto (-33), 3) := by decide +kernel
theorem dD_characters_106 : decode cD_characters 106 = .ok (.iload 5, 2) := by decide +kernel
theorem dD_characters_108 : decode cD_characters 108 = .ok (.ireturn, 1) := by decide +kernel
theorem dD_digits_0 : decode cD_digits 0 = .ok (.iload_n 1, 1) := by decide +kernel
theorem dD_digits_1 : decode cD_digits 1 = .ok (.iload_n 2, 1) := by decide +kernel
theorem dD_digits_2 : decode cD_digits 2 = .ok (.invokestatic 97, 3) := by decide +kernel
theorem dD_digits_5 : decode cD_digits 5 = .ok (.ifCond .eq 12, 3) := by decide +kernel
theorem dD_digits_8 : decode cD_digits 8 = .ok (.iload_n 3, 1) := by decide +kernel
theorem dD_digits_9 : decode cD_digits 9 = .ok (.iload 4, 2) := by decide +kernel
theorem dD_digits_11 : decode cD_digits 11 = .ok (.invokestatic 66, 3) := by decide +kernel
theorem dD_digits_14 : decode cD_digits 14 = .ok (.ifCond .ne 5, 3) := by decide +kernel
theorem dD_digits_17 : decode cD_digits 17 = .ok (.iconst (-1), 1) := by decide +kernel
theorem dD_digits_18 : decode cD_digits 18 = .ok (.ireturn, 1) := by decide +kernel
theorem dD_digits_19 : decode cD_digits 19 = .ok (.aload_n 0, 1) := by decide +kernel
theorem dD_digits_20 : decode cD_digits 20 = .ok (.aload_n 0, 1) := by decide +kernel
theorem dD_digits_21 : decode cD_digits 21 = .ok (.getfield 26, 3) := by decide +kernel
theorem dD_digits_24 : decode cD_digits 24 = .ok (.iload_n 1, 1) := by decide +kernel
theorem dD_digits_25 : decode cD_digits 25 = .ok (.iload_n 2, 1) := by decide +kernel
theorem dD_digits_26 : decode cD_digits 26 = .ok (.invokevirtual 106, 3) := by decide +kernel
theorem dD_digits_29 : decode cD_digits 29 = .ok (.ifCond .ne 6, 3) := by decide +kernel
theorem dD_digits_32 : decode cD_digits 32 = .ok (.bipush (-2), 2) := by decide +kernel
theorem dD_digits_34 : decode cD_digits 34 = .ok (.ireturn, 1) := by decide +kernel
theorem dD_digits_35 : decode cD_digits 35 = .ok (.aload_n 0, 1) := by decide +kernel
theorem dD_digits_36 : decode cD_digits 36 = .ok (.aload_n 0, 1) := by decide +kernel
theorem dD_digits_37 : decode cD_digits 37 = .ok (.getfield 26, 3) := by decide +kernel
theorem dD_digits_40 : decode cD_digits 40 = .ok (.iload_n 3, 1) := by decide +kernel
theorem dD_digits_41 : decode cD_digits 41 = .ok (.iload 4, 2) := by decide +kernel
theorem dD_digits_43 : decode cD_digits 43 = .ok (.invokevirtual 48, 3) := by decide +kernel
theorem dD_digits_46 : decode cD_digits 46 = .ok (.ireturn, 1) := by decide +kernel
theorem dD_edit_0 : decode cD_edit 0 = .ok (.iload_n 1, 1) := by decide +kernel
theorem dD_edit_1 : decode cD_edit 1 = .ok (.iload_n 2, 1) := by decide +kernel
theorem dD_edit_2 : decode cD_edit 2 = .ok (.invokestatic 66, 3) := by decide +kernel
theorem dD_edit_5 : decode cD_edit 5 = .ok (.ifCond .ne 5, 3) := by decide +kernel
theorem dD_edit_8 : decode cD_edit 8 = .ok (.iconst (-1), 1) := by decide +kernel
theorem dD_edit_9 : decode cD_edit 9 = .ok (.ireturn, 1) := by decide +kernel
theorem dD_edit_10 : decode cD_edit 10 = .ok (.aload_n 0, 1) := by decide +kernel
theorem dD_edit_11 : decode cD_edit 11 = .ok (.aload_n 0, 1) := by decide +kernel
theorem dD_edit_12 : decode cD_edit 12 = .ok (.getfield 16, 3) := by decide +kernel
theorem dD_edit_15 : decode cD_edit 15 = .ok (.iload_n 1, 1) := by decide +kernel
theorem dD_edit_16 : decode cD_edit 16 = .ok (.iload_n 2, 1) := by decide +kernel
theorem dD_edit_17 : decode cD_edit 17 = .ok (.invokevirtual 70, 3) := by decide +kernel
theorem dD_edit_20 : decode cD_edit 20 = .ok (.ifCond .ne 6, 3) := by decide +kernel
theorem dD_edit_23 : decode cD_edit 23 = .ok (.bipush (-2), 2) := by decide +kernel
theorem dD_edit_25 : decode cD_edit 25 = .ok (.ireturn, 1) := by decide +kernel
theorem dD_edit_26 : decode cD_edit 26 = .ok (.aload_n 0, 1) := by decide +kernel
theorem dD_edit_27 : decode cD_edit 27 = .ok (.getfield 32, 3) := by decide +kernel
theorem dD_edit_30 : decode cD_edit 30 = .ok (.aload_n 0, 1) := by decide +kernel
theorem dD_edit_31 : decode cD_edit 31 = .ok (.getfield 16, 3) := by decide +kernel
theorem dD_edit_34 : decode cD_edit 34 = .ok (.iload_n 1, 1) := by decide +kernel
theorem dD_edit_35 : decode cD_edit 35 = .ok (.invokevirtual 109, 3) := by decide +kernel
theorem dD_edit_38 : decode cD_edit 38 = .ok (.aload_n 0, 1) := by decide +kernel
theorem dD_edit_39 : decode cD_edit 39 = .ok (.iload_n 3, 1) := by decide +kernel
theorem dD_edit_40 : decode cD_edit 40 = .ok (.invokevirtual 112, 3) := by decide +kernel
theorem dD_edit_43 : decode cD_edit 43 = .ok (.ifCond .ne 6, 3) := by decide +kernel
theorem dD_edit_46 : decode cD_edit 46 = .ok (.bipush (-2), 2) := by decide +kernel
theorem dD_edit_48 : decode cD_edit 48 = .ok (.ireturn, 1) := by decide +kernel
theorem dD_edit_49 : decode cD_edit 49 = .ok (.iload 4, 2) := by decide +kernel
theorem dD_edit_51 : decode cD_edit 51 = .ok (.ifCond .lt 27, 3) := by decide +kernel
theorem dD_edit_54 : decode cD_edit 54 = .ok (.iload 4, 2) := by decide +kernel
theorem dD_edit_56 : decode cD_edit 56 = .ok (.sipush 256, 3) := by decide +kernel
theorem dD_edit_59 : decode cD_edit 59 = .ok (.if_icmp .gt 19, 3) := by decide +kernel
theorem dD_edit_62 : decode cD_edit 62 = .ok (.aload_n 0, 1) := by decide +kernel
theorem dD_edit_63 : decode cD_edit 63 = .ok (.getfield 32, 3) := by decide +kernel
theorem dD_edit_66 : decode cD_edit 66 = .ok (.getfield 116, 3) := by decide +kernel
theorem dD_edit_69 : decode cD_edit 69 = .ok (.sipush 256, 3) := by decide +kernel
theorem dD_edit_72 : decode cD_edit 72 = .ok (.iload 4, 2) := by decide +kernel
theorem dD_edit_74 : decode cD_edit 74 = .ok (.isub, 1) := by decide +kernel
theorem dD_edit_75 : decode cD_edit 75 = .ok (.if_icmp .le 5, 3) := by decide +kernel
theorem dD_edit_78 : decode cD_edit 78 = .ok (.iconst (-1), 1) := by decide +kernel
theorem dD_edit_79 : decode cD_edit 79 = .ok (.ireturn, 1) := by decide +kernel
theorem dD_edit_80 : decode cD_edit 80 = .ok (.iconst 0, 1) := by decide +kernel
theorem dD_edit_81 : decode cD_edit 81 = .ok (.istore 5, 2) := by decide +kernel
theorem dD_edit_83 : decode cD_edit 83 = .ok (.iload 5, 2) := by decide +kernel
theorem dD_edit_85 : decode cD_edit 85 = .ok (.aload_n 0, 1) := by decide +kernel
theorem dD_edit_86 : decode cD_edit 86 = .ok (.getfield 32, 3) := by decide +kernel
theorem dD_edit_89 : decode cD_edit 89 = .ok (.getfield 116, 3) := by decide +kernel
theorem dD_edit_92 : decode cD_edit 92 = .ok (.if_icmp .ge 28, 3) := by decide +kernel
theorem dD_edit_95 : decode cD_edit 95 = .ok (.aload_n 0, 1) := by decide +kernel
theorem dD_edit_96 : decode cD_edit 96 = .ok (.iload 4, 2) := by decide +kernel
theorem dD_edit_98 : decode cD_edit 98 = .ok (.iload 5, 2) := by decide +kernel
theorem dD_edit_100 : decode cD_edit 100 = .ok (.iadd, 1) := by decide +kernel
theorem dD_edit_101 : decode cD_edit 101 = .ok (.aload_n 0, 1) := by decide +kernel
theorem dD_edit_102 : decode cD_edit 102 = .ok (.getfield 32, 3) := by decide +kernel
theorem dD_edit_105 : decode cD_edit 105 = .ok (.iload 5, 2) := by decide +kernel
theorem dD_edit_107 : decode cD_edit 107 = .ok (.invokevirtual 120, 3) := by decide +kernel
theorem dD_edit_110 : decode cD_edit 110 = .ok (.invokevirtual 103, 3) := by decide +kernel
theorem dD_edit_113 : decode cD_edit 113 = .ok (.pop, 1) := by decide +kernel
theorem dD_edit_114 : decode cD_edit 114 = .ok (.iinc 5 1, 3) := by decide +kernel
theorem dD_edit_117 : decode cD_edit 117 = .ok (.goto (-34), 3) := by decide +kernel
theorem dD_edit_120 : decode cD_edit 120 = .ok (.aload_n 0, 1) := by decide +kernel
theorem dD_edit_121 : decode cD_edit 121 = .ok (.aload_n 0, 1) := by decide +kernel
theorem dD_edit_122 : decode cD_edit 122 = .ok (.getfield 32, 3) := by decide +kernel
theorem dD_edit_125 : decode cD_edit 125 = .ok (.getfield 123, 3) := by decide +kernel
theorem dD_edit_128 : decode cD_edit 128 = .ok (.putfield 36, 3) := by decide +kernel
theorem dD_edit_131 : decode cD_edit 131 = .ok (.aload_n 0, 1) := by decide +kernel
theorem dD_edit_132 : decode cD_edit 132 = .ok (.getfield 32, 3) := by decide +kernel
theorem dD_edit_135 : decode cD_edit 135 = .ok (.getfield 116, 3) := by decide +kernel
theorem dD_edit_138 : decode cD_edit 138 = .ok (.ireturn, 1) := by decide +kernel
theorem dD_significant_0 : decode cD_significant 0 = .ok (.aload_n 0, 1) := by decide +kernel
theorem dD_significant_1 : decode cD_significant 1 = .ok (.getfield 36, 3) := by decide +kernel
theorem dD_significant_4 : decode cD_significant 4 = .ok (.ireturn, 1) := by decide +kernel
theorem dD_decimalFits_0 : decode cD_decimalFits 0 = .ok (.iload_n 0, 1) := by decide +kernel
theorem dD_decimalFits_1 : decode cD_decimalFits 1 = .ok (.ifCond .lt 28, 3) := by decide +kernel
theorem dD_decimalFits_4 : decode cD_decimalFits 4 = .ok (.iload_n 0, 1) := by decide +kernel
theorem dD_decimalFits_5 : decode cD_decimalFits 5 = .ok (.bipush 31, 2) := by decide +kernel
theorem dD_decimalFits_7 : decode cD_decimalFits 7 = .ok (.if_icmp .gt 22, 3) := by decide +kernel
theorem dD_decimalFits_10 : decode cD_decimalFits 10 = .ok (.iload_n 1, 1) := by decide +kernel
theorem dD_decimalFits_11 : decode cD_decimalFits 11 = .ok (.ifCond .lt 18, 3) := by decide +kernel
theorem dD_decimalFits_14 : decode cD_decimalFits 14 = .ok (.iload_n 1, 1) := by decide +kernel
theorem dD_decimalFits_15 : decode cD_decimalFits 15 = .ok (.sipush 256, 3) := by decide +kernel
theorem dD_decimalFits_18 : decode cD_decimalFits 18 = .ok (.iload_n 0, 1) := by decide +kernel
theorem dD_decimalFits_19 : decode cD_decimalFits 19 = .ok (.iconst 2, 1) := by decide +kernel
theorem dD_decimalFits_20 : decode cD_decimalFits 20 = .ok (.idiv, 1) := by decide +kernel
theorem dD_decimalFits_21 : decode cD_decimalFits 21 = .ok (.isub, 1) := by decide +kernel
theorem dD_decimalFits_22 : decode cD_decimalFits 22 = .ok (.if_icmp .ge 7, 3) := by decide +kernel
theorem dD_decimalFits_25 : decode cD_decimalFits 25 = .ok (.iconst 1, 1) := by decide +kernel
theorem dD_decimalFits_26 : decode cD_decimalFits 26 = .ok (.goto 4, 3) := by decide +kernel
theorem dD_decimalFits_29 : decode cD_decimalFits 29 = .ok (.iconst 0, 1) := by decide +kernel
theorem dD_decimalFits_30 : decode cD_decimalFits 30 = .ok (.ireturn, 1) := by decide +kernel
theorem dD_charactersFit_0 : decode cD_charactersFit 0 = .ok (.iload_n 0, 1) := by decide +kernel
theorem dD_charactersFit_1 : decode cD_charactersFit 1 = .ok (.ifCond .lt 26, 3) := by decide +kernel
theorem dD_charactersFit_4 : decode cD_charactersFit 4 = .ok (.iload_n 0, 1) := by decide +kernel
theorem dD_charactersFit_5 : decode cD_charactersFit 5 = .ok (.bipush 31, 2) := by decide +kernel
theorem dD_charactersFit_7 : decode cD_charactersFit 7 = .ok (.if_icmp .gt 20, 3) := by decide +kernel
theorem dD_charactersFit_10 : decode cD_charactersFit 10 = .ok (.iload_n 1, 1) := by decide +kernel
theorem dD_charactersFit_11 : decode cD_charactersFit 11 = .ok (.ifCond .lt 16, 3) := by decide +kernel
theorem dD_charactersFit_14 : decode cD_charactersFit 14 = .ok (.iload_n 1, 1) := by decide +kernel
theorem dD_charactersFit_15 : decode cD_charactersFit 15 = .ok (.sipush 256, 3) := by decide +kernel
theorem dD_charactersFit_18 : decode cD_charactersFit 18 = .ok (.iload_n 0, 1) := by decide +kernel
theorem dD_charactersFit_19 : decode cD_charactersFit 19 = .ok (.isub, 1) := by decide +kernel
theorem dD_charactersFit_20 : decode cD_charactersFit 20 = .ok (.if_icmp .ge 7, 3) := by decide +kernel
theorem dD_charactersFit_23 : decode cD_charactersFit 23 = .ok (.iconst 1, 1) := by decide +kernel
theorem dD_charactersFit_24 : decode cD_charactersFit 24 = .ok (.goto 4, 3) := by decide +kernel
theorem dD_charactersFit_27 : decode cD_charactersFit 27 = .ok (.iconst 0, 1) := by decide +kernel
theorem dD_charactersFit_28 : decode cD_charactersFit 28 = .ok (.ireturn, 1) := by decide +kernel
theorem dD_readOperands_0 : decode cD_readOperands 0 = .ok (.iload_n 1, 1) := by decide +kernel
theorem dD_readOperands_1 : decode cD_readOperands 1 = .ok (.iload_n 2, 1) := by decide +kernel
theorem dD_readOperands_2 : decode cD_readOperands 2 = .ok (.invokestatic 66, 3) := by decide +kernel
theorem dD_readOperands_5 : decode cD_readOperands 5 = .ok (.ifCond .eq 22, 3) := by decide +kernel
theorem dD_readOperands_8 : decode cD_readOperands 8 = .ok (.iload_n 3, 1) := by decide +kernel
theorem dD_readOperands_9 : decode cD_readOperands 9 = .ok (.iload 4, 2) := by decide +kernel
theorem dD_readOperands_11 : decode cD_readOperands 11 = .ok (.invokestatic 66, 3) := by decide +kernel
theorem dD_readOperands_14 : decode cD_readOperands 14 = .ok (.ifCond .eq 13, 3) := by decide +kernel
theorem dD_readOperands_17 : decode cD_readOperands 17 = .ok (.iload 5, 2) := by decide +kernel
theorem dD_readOperands_19 : decode cD_readOperands 19 = .ok (.iload 6, 2) := by decide +kernel
theorem dD_readOperands_21 : decode cD_readOperands 21 = .ok (.invokestatic 66, 3) := by decide +kernel
theorem dD_readOperands_24 : decode cD_readOperands 24 = .ok (.ifCond .ne 5, 3) := by decide +kernel
theorem dD_readOperands_27 : decode cD_readOperands 27 = .ok (.iconst (-1), 1) := by decide +kernel
theorem dD_readOperands_28 : decode cD_readOperands 28 = .ok (.ireturn, 1) := by decide +kernel
theorem dD_readOperands_29 : decode cD_readOperands 29 = .ok (.aload_n 0, 1) := by decide +kernel
theorem dD_readOperands_30 : decode cD_readOperands 30 = .ok (.aload_n 0, 1) := by decide +kernel
theorem dD_readOperands_31 : decode cD_readOperands 31 = .ok (.getfield 16, 3) := by decide +kernel
theorem dD_readOperands_34 : decode cD_readOperands 34 = .ok (.iload_n 1, 1) := by decide +kernel
theorem dD_readOperands_35 : decode cD_readOperands 35 = .ok (.iload_n 2, 1) := by decide +kernel
theorem dD_readOperands_36 : decode cD_readOperands 36 = .ok (.invokevirtual 70, 3) := by decide +kernel
theorem dD_readOperands_39 : decode cD_readOperands 39 = .ok (.ifCond .eq 17, 3) := by decide +kernel
theorem dD_readOperands_42 : decode cD_readOperands 42 = .ok (.aload_n 0, 1) := by decide +kernel
theorem dD_readOperands_43 : decode cD_readOperands 43 = .ok (.aload_n 0, 1) := by decide +kernel
theorem dD_readOperands_44 : decode cD_readOperands 44 = .ok (.getfield 20, 3) := by decide +kernel
theorem dD_readOperands_47 : decode cD_readOperands 47 = .ok (.iload_n 3, 1) := by decide +kernel
theorem dD_readOperands_48 : decode cD_readOperands 48 = .ok (.iload 4, 2) := by decide +kernel
theorem dD_readOperands_50 : decode cD_readOperands 50 = .ok (.invokevirtual 70, 3) := by decide +kernel
theorem dD_readOperands_53 : decode cD_readOperands 53 = .ok (.ifCond .ne 6, 3) := by decide +kernel
theorem dD_readOperands_56 : decode cD_readOperands 56 = .ok (.bipush (-2), 2) := by decide +kernel
theorem dD_readOperands_58 : decode cD_readOperands 58 = .ok (.ireturn, 1) := by decide +kernel
theorem dD_readOperands_59 : decode cD_readOperands 59 = .ok (.iconst 0, 1) := by decide +kernel
theorem dD_readOperands_60 : decode cD_readOperands 60 = .ok (.ireturn, 1) := by decide +kernel
theorem dD_halfFromEnd_0 : decode cD_halfFromEnd 0 = .ok (.aload_n 0, 1) := by decide +kernel
theorem dD_halfFromEnd_1 : decode cD_halfFromEnd 1 = .ok (.iload_n 2, 1) := by decide +kernel
theorem dD_halfFromEnd_2 : decode cD_halfFromEnd 2 = .ok (.iload_n 1, 1) := by decide +kernel
theorem dD_halfFromEnd_3 : decode cD_halfFromEnd 3 = .ok (.iconst 2, 1) := by decide +kernel
theorem dD_halfFromEnd_4 : decode cD_halfFromEnd 4 = .ok (.idiv, 1) := by decide +kernel
theorem dD_halfFromEnd_5 : decode cD_halfFromEnd 5 = .ok (.iadd, 1) := by decide +kernel
theorem dD_halfFromEnd_6 : decode cD_halfFromEnd 6 = .ok (.iload_n 3, 1) := by decide +kernel
theorem dD_halfFromEnd_7 : decode cD_halfFromEnd 7 = .ok (.iconst 2, 1) := by decide +kernel
theorem dD_halfFromEnd_8 : decode cD_halfFromEnd 8 = .ok (.idiv, 1) := by decide +kernel
theorem dD_halfFromEnd_9 : decode cD_halfFromEnd 9 = .ok (.isub, 1) := by decide +kernel
theorem dD_halfFromEnd_10 : decode cD_halfFromEnd 10 = .ok (.invokevirtual 126, 3) := by decide +kernel
theorem dD_halfFromEnd_13 : decode cD_halfFromEnd 13 = .ok (.istore 4, 2) := by decide +kernel
theorem dD_halfFromEnd_15 : decode cD_halfFromEnd 15 = .ok (.iload_n 3, 1) := by decide +kernel
theorem dD_halfFromEnd_16 : decode cD_halfFromEnd 16 = .ok (.iconst 2, 1) := by decide +kernel
theorem dD_halfFromEnd_17 : decode cD_halfFromEnd 17 = .ok (.irem, 1) := by decide +kernel
theorem dD_halfFromEnd_18 : decode cD_halfFromEnd 18 = .ok (.ifCond .ne 11, 3) := by decide +kernel
theorem dD_halfFromEnd_21 : decode cD_halfFromEnd 21 = .ok (.iload 4, 2) := by decide +kernel
theorem dD_halfFromEnd_23 : decode cD_halfFromEnd 23 = .ok (.bipush 15, 2) := by decide +kernel
theorem dD_halfFromEnd_25 : decode cD_halfFromEnd 25 = .ok (.iand, 1) := by decide +kernel
theorem dD_halfFromEnd_26 : decode cD_halfFromEnd 26 = .ok (.goto 10, 3) := by decide +kernel
theorem dD_halfFromEnd_29 : decode cD_halfFromEnd 29 = .ok (.iload 4, 2) := by decide +kernel
theorem dD_halfFromEnd_31 : decode cD_halfFromEnd 31 = .ok (.iconst 4, 1) := by decide +kernel
theorem dD_halfFromEnd_32 : decode cD_halfFromEnd 32 = .ok (.ishr, 1) := by decide +kernel
theorem dD_halfFromEnd_33 : decode cD_halfFromEnd 33 = .ok (.bipush 15, 2) := by decide +kernel
theorem dD_halfFromEnd_35 : decode cD_halfFromEnd 35 = .ok (.iand, 1) := by decide +kernel
theorem dD_halfFromEnd_36 : decode cD_halfFromEnd 36 = .ok (.ireturn, 1) := by decide +kernel
theorem dD_readDecimal_0 : decode cD_readDecimal 0 = .ok (.aload_n 0, 1) := by decide +kernel
theorem dD_readDecimal_1 : decode cD_readDecimal 1 = .ok (.iload_n 2, 1) := by decide +kernel
theorem dD_readDecimal_2 : decode cD_readDecimal 2 = .ok (.iload_n 3, 1) := by decide +kernel
theorem dD_readDecimal_3 : decode cD_readDecimal 3 = .ok (.iconst 0, 1) := by decide +kernel
theorem dD_readDecimal_4 : decode cD_readDecimal 4 = .ok (.invokevirtual 129, 3) := by decide +kernel
theorem dD_readDecimal_7 : decode cD_readDecimal 7 = .ok (.istore 4, 2) := by decide +kernel
theorem dD_readDecimal_9 : decode cD_readDecimal 9 = .ok (.iload 4, 2) := by decide +kernel
theorem dD_readDecimal_11 : decode cD_readDecimal 11 = .ok (.bipush 10, 2) := by decide +kernel
theorem dD_readDecimal_13 : decode cD_readDecimal 13 = .ok (.if_icmp .ge 5, 3) := by decide +kernel
theorem dD_readDecimal_16 : decode cD_readDecimal 16 = .ok (.iconst 0, 1) := by decide +kernel
theorem dD_readDecimal_17 : decode cD_readDecimal 17 = .ok (.ireturn, 1) := by decide +kernel
theorem dD_readDecimal_18 : decode cD_readDecimal 18 = .ok (.aload_n 1, 1) := by decide +kernel
theorem dD_readDecimal_19 : decode cD_readDecimal 19 = .ok (.invokevirtual 133, 3) := by decide +kernel
theorem dD_readDecimal_22 : decode cD_readDecimal 22 = .ok (.iconst 0, 1) := by decide +kernel
theorem dD_readDecimal_23 : decode cD_readDecimal 23 = .ok (.istore 5, 2) := by decide +kernel
theorem dD_readDecimal_25 : decode cD_readDecimal 25 = .ok (.iload 5, 2) := by decide +kernel
theorem dD_readDecimal_27 : decode cD_readDecimal 27 = .ok (.iload_n 2, 1) := by decide +kernel
theorem dD_readDecimal_28 : decode cD_readDecimal 28 = .ok (.if_icmp .ge 38, 3) := by decide +kernel
theorem dD_readDecimal_31 : decode cD_readDecimal 31 = .ok (.aload_n 0, 1) := by decide +kernel
theorem dD_readDecimal_32 : decode cD_readDecimal 32 = .ok (.iload_n 2, 1) := by decide +kernel
theorem dD_readDecimal_33 : decode cD_readDecimal 33 = .ok (.iload_n 3, 1) := by decide +kernel
theorem dD_readDecimal_34 : decode cD_readDecimal 34 = .ok (.iload 5, 2) := by decide +kernel
theorem dD_readDecimal_36 : decode cD_readDecimal 36 = .ok (.iconst 1, 1) := by decide +kernel
theorem dD_readDecimal_37 : decode cD_readDecimal 37 = .ok (.iadd, 1) := by decide +kernel
theorem dD_readDecimal_38 : decode cD_readDecimal 38 = .ok (.invokevirtual 129, 3) := by decide +kernel
theorem dD_readDecimal_41 : decode cD_readDecimal 41 = .ok (.istore 6, 2) := by decide +kernel
theorem dD_readDecimal_43 : decode cD_readDecimal 43 = .ok (.iload 6, 2) := by decide +kernel
theorem dD_readDecimal_45 : decode cD_readDecimal 45 = .ok (.bipush 9, 2) := by decide +kernel
theorem dD_readDecimal_47 : decode cD_readDecimal 47 = .ok (.if_icmp .le 5, 3) := by decide +kernel
theorem dD_readDecimal_50 : decode cD_readDecimal 50 = .ok (.iconst 0, 1) := by decide +kernel
theorem dD_readDecimal_51 : decode cD_readDecimal 51 = .ok (.ireturn, 1) := by decide +kernel
theorem dD_readDecimal_52 : decode cD_readDecimal 52 = .ok (.aload_n 1, 1) := by decide +kernel
theorem dD_readDecimal_53 : decode cD_readDecimal 53 = .ok (.iload 5, 2) := by decide +kernel
theorem dD_readDecimal_55 : decode cD_readDecimal 55 = .ok (.iload 6, 2) := by decide +kernel
theorem dD_readDecimal_57 : decode cD_readDecimal 57 = .ok (.invokevirtual 136, 3) := by decide +kernel
theorem dD_readDecimal_60 : decode cD_readDecimal 60 = .ok (.iinc 5 1, 3) := by decide +kernel
theorem dD_readDecimal_63 : decode cD_readDecimal 63 = .ok (.goto (-38), 3) := by decide +kernel
theorem dD_readDecimal_66 : decode cD_readDecimal 66 = .ok (.aload_n 1, 1) := by decide +kernel
theorem dD_readDecimal_67 : decode cD_readDecimal 67 = .ok (.iload 4, 2) := by decide +kernel
theorem dD_readDecimal_69 : decode cD_readDecimal 69 = .ok (.bipush 13, 2) := by decide +kernel
theorem dD_readDecimal_71 : decode cD_readDecimal 71 = .ok (.if_icmp .eq 10, 3) := by decide +kernel
theorem dD_readDecimal_74 : decode cD_readDecimal 74 = .ok (.iload 4, 2) := by decide +kernel
theorem dD_readDecimal_76 : decode cD_readDecimal 76 = .ok (.bipush 11, 2) := by decide +kernel
theorem dD_readDecimal_78 : decode cD_readDecimal 78 = .ok (.if_icmp .ne 7, 3) := by decide +kernel
theorem dD_readDecimal_81 : decode cD_readDecimal 81 = .ok (.iconst 1, 1) := by decide +kernel
theorem dD_readDecimal_82 : decode cD_readDecimal 82 = .ok (.goto 4, 3) := by decide +kernel
theorem dD_readDecimal_85 : decode cD_readDecimal 85 = .ok (.iconst 0, 1) := by decide +kernel
theorem dD_readDecimal_86 : decode cD_readDecimal 86 = .ok (.invokevirtual 140, 3) := by decide +kernel
theorem dD_readDecimal_89 : decode cD_readDecimal 89 = .ok (.iconst 1, 1) := by decide +kernel
theorem dD_readDecimal_90 : decode cD_readDecimal 90 = .ok (.ireturn, 1) := by decide +kernel
theorem dD_readCharacters_0 : decode cD_readCharacters 0 = .ok (.aload_n 0, 1) := by decide +kernel
theorem dD_readCharacters_1 : decode cD_readCharacters 1 = .ok (.iload_n 3, 1) := by decide +kernel
theorem dD_readCharacters_2 : decode cD_readCharacters 2 = .ok (.invokevirtual 126, 3) := by decide +kernel
theorem dD_readCharacters_5 : decode cD_readCharacters 5 = .ok (.istore 4, 2) := by decide +kernel
theorem dD_readCharacters_7 : decode cD_readCharacters 7 = .ok (.iload 4, 2) := by decide +kernel
theorem dD_readCharacters_9 : decode cD_readCharacters 9 = .ok (.bipush 43, 2) := by decide +kernel
theorem dD_readCharacters_11 : decode cD_readCharacters 11 = .ok (.if_icmp .eq 19, 3) := by decide +kernel
theorem dD_readCharacters_14 : decode cD_readCharacters 14 = .ok (.iload 4, 2) := by decide +kernel
theorem dD_readCharacters_16 : decode cD_readCharacters 16 = .ok (.bipush 45, 2) := by decide +kernel
theorem dD_readCharacters_18 : decode cD_readCharacters 18 = .ok (.if_icmp .eq 12, 3) := by decide +kernel
theorem dD_readCharacters_21 : decode cD_readCharacters 21 = .ok (.iload 4, 2) := by decide +kernel
theorem dD_readCharacters_23 : decode cD_readCharacters 23 = .ok (.bipush 32, 2) := by decide +kernel
theorem dD_readCharacters_25 : decode cD_readCharacters 25 = .ok (.if_icmp .eq 5, 3) := by decide +kernel
theorem dD_readCharacters_28 : decode cD_readCharacters 28 = .ok (.iconst 0, 1) := by decide +kernel
theorem dD_readCharacters_29 : decode cD_readCharacters 29 = .ok (.ireturn, 1) := by decide +kernel
theorem dD_readCharacters_30 : decode cD_readCharacters 30 = .ok (.aload_n 1, 1) := by decide +kernel
theorem dD_readCharacters_31 : decode cD_readCharacters 31 = .ok (.invokevirtual 133, 3) := by decide +kernel
theorem dD_readCharacters_34 : decode cD_readCharacters 34 = .ok (.iconst 0, 1) := by decide +kernel
theorem dD_readCharacters_35 : decode cD_readCharacters 35 = .ok (.istore 5, 2) := by decide +kernel
theorem dD_readCharacters_37 : decode cD_readCharacters 37 = .ok (.iload 5, 2) := by decide +kernel
theorem dD_readCharacters_39 : decode cD_readCharacters 39 = .ok (.iload_n 2, 1) := by decide +kernel
theorem dD_readCharacters_40 : decode cD_readCharacters 40 = .ok (.if_icmp .ge 46, 3) := by decide +kernel
theorem dD_readCharacters_43 : decode cD_readCharacters 43 = .ok (.aload_n 0, 1) := by decide +kernel
theorem dD_readCharacters_44 : decode cD_readCharacters 44 = .ok (.iload_n 3, 1) := by decide +kernel
theorem dD_readCharacters_45 : decode cD_readCharacters 45 = .ok (.iload_n 2, 1) := by decide +kernel
theorem dD_readCharacters_46 : decode cD_readCharacters 46 = .ok (.iadd, 1) := by decide +kernel
theorem dD_readCharacters_47 : decode cD_readCharacters 47 = .ok (.iload 5, 2) := by decide +kernel
theorem dD_readCharacters_49 : decode cD_readCharacters 49 = .ok (.isub, 1) := by decide +kernel
theorem dD_readCharacters_50 : decode cD_readCharacters 50 = .ok (.invokevirtual 126, 3) := by decide +kernel
theorem dD_readCharacters_53 : decode cD_readCharacters 53 = .ok (.bipush 48, 2) := by decide +kernel
theorem dD_readCharacters_55 : decode cD_readCharacters 55 = .ok (.isub, 1) := by decide +kernel
theorem dD_readCharacters_56 : decode cD_readCharacters 56 = .ok (.istore 6, 2) := by decide +kernel
theorem dD_readCharacters_58 : decode cD_readCharacters 58 = .ok (.iload 6, 2) := by decide +kernel
theorem dD_readCharacters_60 : decode cD_readCharacters 60 = .ok (.ifCond .lt 10, 3) := by decide +kernel
theorem dD_readCharacters_63 : decode cD_readCharacters 63 = .ok (.iload 6, 2) := by decide +kernel
theorem dD_readCharacters_65 : decode cD_readCharacters 65 = .ok (.bipush 9, 2) := by decide +kernel
theorem dD_readCharacters_67 : decode cD_readCharacters 67 = .ok (.if_icmp .le 5, 3) := by decide +kernel
theorem dD_readCharacters_70 : decode cD_readCharacters 70 = .ok (.iconst 0, 1) := by decide +kernel
theorem dD_readCharacters_71 : decode cD_readCharacters 71 = .ok (.ireturn, 1) := by decide +kernel
theorem dD_readCharacters_72 : decode cD_readCharacters 72 = .ok (.aload_n 1, 1) := by decide +kernel
theorem dD_readCharacters_73 : decode cD_readCharacters 73 = .ok (.iload 5, 2) := by decide +kernel
theorem dD_readCharacters_75 : decode cD_readCharacters 75 = .ok (.iload 6, 2) := by decide +kernel
theorem dD_readCharacters_77 : decode cD_readCharacters 77 = .ok (.invokevirtual 136, 3) := by decide +kernel
theorem dD_readCharacters_80 : decode cD_readCharacters 80 = .ok (.iinc 5 1, 3) := by decide +kernel
theorem dD_readCharacters_83 : decode cD_readCharacters 83 = .ok (.goto (-46), 3) := by decide +kernel
theorem dD_readCharacters_86 : decode cD_readCharacters 86 = .ok (.aload_n 1, 1) := by decide +kernel
theorem dD_readCharacters_87 : decode cD_readCharacters 87 = .ok (.iload 4, 2) := by decide +kernel
theorem dD_readCharacters_89 : decode cD_readCharacters 89 = .ok (.bipush 45, 2) := by decide +kernel
theorem dD_readCharacters_91 : decode cD_readCharacters 91 = .ok (.if_icmp .ne 7, 3) := by decide +kernel
theorem dD_readCharacters_94 : decode cD_readCharacters 94 = .ok (.iconst 1, 1) := by decide +kernel
theorem dD_readCharacters_95 : decode cD_readCharacters 95 = .ok (.goto 4, 3) := by decide +kernel
theorem dD_readCharacters_98 : decode cD_readCharacters 98 = .ok (.iconst 0, 1) := by decide +kernel
theorem dD_readCharacters_99 : decode cD_readCharacters 99 = .ok (.invokevirtual 140, 3) := by decide +kernel
theorem dD_readCharacters_102 : decode cD_readCharacters 102 = .ok (.iconst 1, 1) := by decide +kernel
theorem dD_readCharacters_103 : decode cD_readCharacters 103 = .ok (.ireturn, 1) := by decide +kernel
theorem dD_writeDecimal_0 : decode cD_writeDecimal 0 = .ok (.aload_n 1, 1) := by decide +kernel
theorem dD_writeDecimal_1 : decode cD_writeDecimal 1 = .ok (.iload_n 2, 1) := by decide +kernel
theorem dD_writeDecimal_2 : decode cD_writeDecimal 2 = .ok (.invokevirtual 100, 3) := by decide +kernel
theorem dD_writeDecimal_5 : decode cD_writeDecimal 5 = .ok (.istore 4, 2) := by decide +kernel
theorem dD_writeDecimal_7 : decode cD_writeDecimal 7 = .ok (.iload 4, 2) := by decide +kernel
theorem dD_writeDecimal_9 : decode cD_writeDecimal 9 = .ok (.bipush 8, 2) := by decide +kernel
theorem dD_writeDecimal_11 : decode cD_writeDecimal 11 = .ok (.iand, 1) := by decide +kernel
theorem dD_writeDecimal_12 : decode cD_writeDecimal 12 = .ok (.ifCond .eq 8, 3) := by decide +kernel
theorem dD_writeDecimal_15 : decode cD_writeDecimal 15 = .ok (.bipush 13, 2) := by decide +kernel
theorem dD_writeDecimal_17 : decode cD_writeDecimal 17 = .ok (.goto 5, 3) := by decide +kernel
theorem dD_writeDecimal_20 : decode cD_writeDecimal 20 = .ok (.bipush 12, 2) := by decide +kernel
theorem dD_writeDecimal_22 : decode cD_writeDecimal 22 = .ok (.istore 5, 2) := by decide +kernel
theorem dD_writeDecimal_24 : decode cD_writeDecimal 24 = .ok (.iload_n 2, 1) := by decide +kernel
theorem dD_writeDecimal_25 : decode cD_writeDecimal 25 = .ok (.iconst 2, 1) := by decide +kernel
theorem dD_writeDecimal_26 : decode cD_writeDecimal 26 = .ok (.idiv, 1) := by decide +kernel
theorem dD_writeDecimal_27 : decode cD_writeDecimal 27 = .ok (.iconst 1, 1) := by decide +kernel
theorem dD_writeDecimal_28 : decode cD_writeDecimal 28 = .ok (.iadd, 1) := by decide +kernel
theorem dD_writeDecimal_29 : decode cD_writeDecimal 29 = .ok (.istore 6, 2) := by decide +kernel
theorem dD_writeDecimal_31 : decode cD_writeDecimal 31 = .ok (.iconst 0, 1) := by decide +kernel
theorem dD_writeDecimal_32 : decode cD_writeDecimal 32 = .ok (.istore 7, 2) := by decide +kernel
theorem dD_writeDecimal_34 : decode cD_writeDecimal 34 = .ok (.iload 7, 2) := by decide +kernel
theorem dD_writeDecimal_36 : decode cD_writeDecimal 36 = .ok (.iload 6, 2) := by decide +kernel
theorem dD_writeDecimal_38 : decode cD_writeDecimal 38 = .ok (.if_icmp .ge 64, 3) := by decide +kernel
theorem dD_writeDecimal_41 : decode cD_writeDecimal 41 = .ok (.iconst 2, 1) := by decide +kernel
theorem dD_writeDecimal_42 : decode cD_writeDecimal 42 = .ok (.iload 7, 2) := by decide +kernel
theorem dD_writeDecimal_44 : decode cD_writeDecimal 44 = .ok (.imul, 1) := by decide +kernel
theorem dD_writeDecimal_45 : decode cD_writeDecimal 45 = .ok (.iload_n 2, 1) := by decide +kernel
theorem dD_writeDecimal_46 : decode cD_writeDecimal 46 = .ok (.if_icmp .ge 14, 3) := by decide +kernel
theorem dD_writeDecimal_49 : decode cD_writeDecimal 49 = .ok (.aload_n 1, 1) := by decide +kernel
theorem dD_writeDecimal_50 : decode cD_writeDecimal 50 = .ok (.iconst 2, 1) := by decide +kernel
theorem dD_writeDecimal_51 : decode cD_writeDecimal 51 = .ok (.iload 7, 2) := by decide +kernel
theorem dD_writeDecimal_53 : decode cD_writeDecimal 53 = .ok (.imul, 1) := by decide +kernel
theorem dD_writeDecimal_54 : decode cD_writeDecimal 54 = .ok (.invokevirtual 78, 3) := by decide +kernel
theorem dD_writeDecimal_57 : decode cD_writeDecimal 57 = .ok (.goto 4, 3) := by decide +kernel
theorem dD_writeDecimal_60 : decode cD_writeDecimal 60 = .ok (.iconst 0, 1) := by decide +kernel
theorem dD_writeDecimal_61 : decode cD_writeDecimal 61 = .ok (.istore 8, 2) := by decide +kernel
theorem dD_writeDecimal_63 : decode cD_writeDecimal 63 = .ok (.aload_n 0, 1) := by decide +kernel
theorem dD_writeDecimal_64 : decode cD_writeDecimal 64 = .ok (.iload_n 3, 1) := by decide +kernel
theorem dD_writeDecimal_65 : decode cD_writeDecimal 65 = .ok (.iload_n 2, 1) := by decide +kernel
theorem dD_writeDecimal_66 : decode cD_writeDecimal 66 = .ok (.iconst 2, 1) := by decide +kernel
theorem dD_writeDecimal_67 : decode cD_writeDecimal 67 = .ok (.idiv, 1) := by decide +kernel
theorem dD_writeDecimal_68 : decode cD_writeDecimal 68 = .ok (.iadd, 1) := by decide +kernel
theorem dD_writeDecimal_69 : decode cD_writeDecimal 69 = .ok (.iload 7, 2) := by decide +kernel
theorem dD_writeDecimal_71 : decode cD_writeDecimal 71 = .ok (.isub, 1) := by decide +kernel
theorem dD_writeDecimal_72 : decode cD_writeDecimal 72 = .ok (.iload 8, 2) := by decide +kernel
theorem dD_writeDecimal_74 : decode cD_writeDecimal 74 = .ok (.bipush 16, 2) := by decide +kernel
theorem dD_writeDecimal_76 : decode cD_writeDecimal 76 = .ok (.imul, 1) := by decide +kernel
theorem dD_writeDecimal_77 : decode cD_writeDecimal 77 = .ok (.iload 5, 2) := by decide +kernel
theorem dD_writeDecimal_79 : decode cD_writeDecimal 79 = .ok (.iadd, 1) := by decide +kernel
theorem dD_writeDecimal_80 : decode cD_writeDecimal 80 = .ok (.invokevirtual 103, 3) := by decide +kernel
theorem dD_writeDecimal_83 : decode cD_writeDecimal 83 = .ok (.pop, 1) := by decide +kernel
theorem dD_writeDecimal_84 : decode cD_writeDecimal 84 = .ok (.aload_n 1, 1) := by decide +kernel
theorem dD_writeDecimal_85 : decode cD_writeDecimal 85 = .ok (.iconst 2, 1) := by decide +kernel
theorem dD_writeDecimal_86 : decode cD_writeDecimal 86 = .ok (.iload 7, 2) := by decide +kernel
theorem dD_writeDecimal_88 : decode cD_writeDecimal 88 = .ok (.imul, 1) := by decide +kernel
theorem dD_writeDecimal_89 : decode cD_writeDecimal 89 = .ok (.iconst 1, 1) := by decide +kernel
theorem dD_writeDecimal_90 : decode cD_writeDecimal 90 = .ok (.iadd, 1) := by decide +kernel
theorem dD_writeDecimal_91 : decode cD_writeDecimal 91 = .ok (.invokevirtual 78, 3) := by decide +kernel
theorem dD_writeDecimal_94 : decode cD_writeDecimal 94 = .ok (.istore 5, 2) := by decide +kernel
theorem dD_writeDecimal_96 : decode cD_writeDecimal 96 = .ok (.iinc 7 1, 3) := by decide +kernel
theorem dD_writeDecimal_99 : decode cD_writeDecimal 99 = .ok (.goto (-65), 3) := by decide +kernel
theorem dD_writeDecimal_102 : decode cD_writeDecimal 102 = .ok (.iload 4, 2) := by decide +kernel
theorem dD_writeDecimal_104 : decode cD_writeDecimal 104 = .ok (.ireturn, 1) := by decide +kernel
theorem dD_followPattern_0 : decode cD_followPattern 0 = .ok (.iload_n 1, 1) := by decide +kernel
theorem dD_followPattern_1 : decode cD_followPattern 1 = .ok (.istore_n 2, 1) := by decide +kernel
theorem dD_followPattern_2 : decode cD_followPattern 2 = .ok (.iconst 1, 1) := by decide +kernel
theorem dD_followPattern_3 : decode cD_followPattern 3 = .ok (.istore_n 3, 1) := by decide +kernel
theorem dD_followPattern_4 : decode cD_followPattern 4 = .ok (.iload_n 3, 1) := by decide +kernel
theorem dD_followPattern_5 : decode cD_followPattern 5 = .ok (.bipush 64, 2) := by decide +kernel
theorem dD_followPattern_7 : decode cD_followPattern 7 = .ok (.if_icmp .gt 87, 3) := by decide +kernel
theorem dD_followPattern_10 : decode cD_followPattern 10 = .ok (.aload_n 0, 1) := by decide +kernel
theorem dD_followPattern_11 : decode cD_followPattern 11 = .ok (.iload_n 2, 1) := by decide +kernel
theorem dD_followPattern_12 : decode cD_followPattern 12 = .ok (.invokevirtual 126, 3) := by decide +kernel
theorem dD_followPattern_15 : decode cD_followPattern 15 = .ok (.istore 4, 2) := by decide +kernel
theorem dD_followPattern_17 : decode cD_followPattern 17 = .ok (.iload 4, 2) := by decide +kernel
theorem dD_followPattern_19 : decode cD_followPattern 19 = .ok (.ifCond .ne 19, 3) := by decide +kernel
theorem dD_followPattern_22 : decode cD_followPattern 22 = .ok (.aload_n 0, 1) := by decide +kernel
theorem dD_followPattern_23 : decode cD_followPattern 23 = .ok (.getfield 32, 3) := by decide +kernel
theorem dD_followPattern_26 : decode cD_followPattern 26 = .ok (.getfield 144, 3) := by decide +kernel
theorem dD_followPattern_29 : decode cD_followPattern 29 = .ok (.ifCond .ne 7, 3) := by decide +kernel
theorem dD_followPattern_32 : decode cD_followPattern 32 = .ok (.iconst 1, 1) := by decide +kernel
theorem dD_followPattern_33 : decode cD_followPattern 33 = .ok (.goto 4, 3) := by decide +kernel
theorem dD_followPattern_36 : decode cD_followPattern 36 = .ok (.iconst 0, 1) := by decide +kernel
theorem dD_followPattern_37 : decode cD_followPattern 37 = .ok (.ireturn, 1) := by decide +kernel
theorem dD_followPattern_38 : decode cD_followPattern 38 = .ok (.iload 4, 2) := by decide +kernel
theorem dD_followPattern_40 : decode cD_followPattern 40 = .ok (.ifCond .lt 9, 3) := by decide +kernel
theorem dD_followPattern_43 : decode cD_followPattern 43 = .ok (.iload_n 3, 1) := by decide +kernel
theorem dD_followPattern_44 : decode cD_followPattern 44 = .ok (.bipush 64, 2) := by decide +kernel
theorem dD_followPattern_46 : decode cD_followPattern 46 = .ok (.if_icmp .ne 5, 3) := by decide +kernel
theorem dD_followPattern_49 : decode cD_followPattern 49 = .ok (.iconst 0, 1) := by decide +kernel
theorem dD_followPattern_50 : decode cD_followPattern 50 = .ok (.ireturn, 1) := by decide +kernel
theorem dD_followPattern_51 : decode cD_followPattern 51 = .ok (.aload_n 0, 1) := by decide +kernel
theorem dD_followPattern_52 : decode cD_followPattern 52 = .ok (.getfield 32, 3) := by decide +kernel
theorem dD_followPattern_55 : decode cD_followPattern 55 = .ok (.iload 4, 2) := by decide +kernel
theorem dD_followPattern_57 : decode cD_followPattern 57 = .ok (.aload_n 0, 1) := by decide +kernel
theorem dD_followPattern_58 : decode cD_followPattern 58 = .ok (.iload_n 2, 1) := by decide +kernel
theorem dD_followPattern_59 : decode cD_followPattern 59 = .ok (.iconst 1, 1) := by decide +kernel
theorem dD_followPattern_60 : decode cD_followPattern 60 = .ok (.iadd, 1) := by decide +kernel
theorem dD_followPattern_61 : decode cD_followPattern 61 = .ok (.invokevirtual 126, 3) := by decide +kernel
theorem dD_followPattern_64 : decode cD_followPattern 64 = .ok (.invokevirtual 147, 3) := by decide +kernel
theorem dD_followPattern_67 : decode cD_followPattern 67 = .ok (.ifCond .ne 5, 3) := by decide +kernel
theorem dD_followPattern_70 : decode cD_followPattern 70 = .ok (.iconst 0, 1) := by decide +kernel
theorem dD_followPattern_71 : decode cD_followPattern 71 = .ok (.ireturn, 1) := by decide +kernel
theorem dD_followPattern_72 : decode cD_followPattern 72 = .ok (.iload_n 2, 1) := by decide +kernel
theorem dD_followPattern_73 : decode cD_followPattern 73 = .ok (.iload 4, 2) := by decide +kernel
theorem dD_followPattern_75 : decode cD_followPattern 75 = .ok (.invokestatic 150, 3) := by decide +kernel
theorem dD_followPattern_78 : decode cD_followPattern 78 = .ok (.ifCond .eq 7, 3) := by decide +kernel
theorem dD_followPattern_81 : decode cD_followPattern 81 = .ok (.iconst 2, 1) := by decide +kernel
theorem dD_followPattern_82 : decode cD_followPattern 82 = .ok (.goto 4, 3) := by decide +kernel
theorem dD_followPattern_85 : decode cD_followPattern 85 = .ok (.iconst 1, 1) := by decide +kernel
theorem dD_followPattern_86 : decode cD_followPattern 86 = .ok (.iadd, 1) := by decide +kernel
theorem dD_followPattern_87 : decode cD_followPattern 87 = .ok (.istore_n 2, 1) := by decide +kernel
theorem dD_followPattern_88 : decode cD_followPattern 88 = .ok (.iinc 3 1, 3) := by decide +kernel
theorem dD_followPattern_91 : decode cD_followPattern 91 = .ok (.goto (-87), 3) := by decide +kernel
theorem dD_followPattern_94 : decode cD_followPattern 94 = .ok (.iconst 0, 1) := by decide +kernel
theorem dD_followPattern_95 : decode cD_followPattern 95 = .ok (.ireturn, 1) := by decide +kernel
end
section
theorem dW_init_0 : decode cW_init 0 = .ok (.aload_n 0, 1) := by decide +kernel
theorem dW_init_1 : decode cW_init 1 = .ok (.invokespecial 3, 3) := by decide +kernel
theorem dW_init_4 : decode cW_init 4 = .ok (.aload_n 0, 1) := by decide +kernel
theorem dW_init_5 : decode cW_init 5 = .ok (.bipush 64, 2) := by decide +kernel
theorem dW_init_7 : decode cW_init 7 = .ok (.newarray .int, 2) := by decide +kernel
theorem dW_init_9 : decode cW_init 9 = .ok (.putfield 9, 3) := by decide +kernel
theorem dW_init_12 : decode cW_init 12 = .ok (.aload_n 0, 1) := by decide +kernel
theorem dW_init_13 : decode cW_init 13 = .ok (.bipush 31, 2) := by decide +kernel
theorem dW_init_15 : decode cW_init 15 = .ok (.newarray .int, 2) := by decide +kernel
theorem dW_init_17 : decode cW_init 17 = .ok (.putfield 15, 3) := by decide +kernel
theorem dW_init_20 : decode cW_init 20 = .ok (.return_, 1) := by decide +kernel
theorem dW_begin_0 : decode cW_begin 0 = .ok (.iconst 0, 1) := by decide +kernel
theorem dW_begin_1 : decode cW_begin 1 = .ok (.istore_n 3, 1) := by decide +kernel
theorem dW_begin_2 : decode cW_begin 2 = .ok (.iload_n 3, 1) := by decide +kernel
theorem dW_begin_3 : decode cW_begin 3 = .ok (.bipush 31, 2) := by decide +kernel
theorem dW_begin_5 : decode cW_begin 5 = .ok (.if_icmp .ge 20, 3) := by decide +kernel
theorem dW_begin_8 : decode cW_begin 8 = .ok (.aload_n 0, 1) := by decide +kernel
theorem dW_begin_9 : decode cW_begin 9 = .ok (.getfield 15, 3) := by decide +kernel
theorem dW_begin_12 : decode cW_begin 12 = .ok (.iload_n 3, 1) := by decide +kernel
theorem dW_begin_13 : decode cW_begin 13 = .ok (.aload_n 1, 1) := by decide +kernel
theorem dW_begin_14 : decode cW_begin 14 = .ok (.iload_n 3, 1) := by decide +kernel
theorem dW_begin_15 : decode cW_begin 15 = .ok (.invokevirtual 18, 3) := by decide +kernel
theorem dW_begin_18 : decode cW_begin 18 = .ok (.iastore, 1) := by decide +kernel
theorem dW_begin_19 : decode cW_begin 19 = .ok (.iinc 3 1, 3) := by decide +kernel
theorem dW_begin_22 : decode cW_begin 22 = .ok (.goto (-20), 3) := by decide +kernel
theorem dW_begin_25 : decode cW_begin 25 = .ok (.aload_n 0, 1) := by decide +kernel
theorem dW_begin_26 : decode cW_begin 26 = .ok (.iconst 0, 1) := by decide +kernel
theorem dW_begin_27 : decode cW_begin 27 = .ok (.putfield 24, 3) := by decide +kernel
theorem dW_begin_30 : decode cW_begin 30 = .ok (.aload_n 0, 1) := by decide +kernel
theorem dW_begin_31 : decode cW_begin 31 = .ok (.iload_n 2, 1) := by decide +kernel
theorem dW_begin_32 : decode cW_begin 32 = .ok (.putfield 28, 3) := by decide +kernel
theorem dW_begin_35 : decode cW_begin 35 = .ok (.aload_n 0, 1) := by decide +kernel
theorem dW_begin_36 : decode cW_begin 36 = .ok (.iconst 0, 1) := by decide +kernel
theorem dW_begin_37 : decode cW_begin 37 = .ok (.putfield 31, 3) := by decide +kernel
theorem dW_begin_40 : decode cW_begin 40 = .ok (.aload_n 0, 1) := by decide +kernel
theorem dW_begin_41 : decode cW_begin 41 = .ok (.aload_n 1, 1) := by decide +kernel
theorem dW_begin_42 : decode cW_begin 42 = .ok (.getfield 35, 3) := by decide +kernel
theorem dW_begin_45 : decode cW_begin 45 = .ok (.putfield 38, 3) := by decide +kernel
theorem dW_begin_48 : decode cW_begin 48 = .ok (.aload_n 0, 1) := by decide +kernel
theorem dW_begin_49 : decode cW_begin 49 = .ok (.aload_n 1, 1) := by decide +kernel
theorem dW_begin_50 : decode cW_begin 50 = .ok (.invokevirtual 41, 3) := by decide +kernel
theorem dW_begin_53 : decode cW_begin 53 = .ok (.putfield 45, 3) := by decide +kernel
theorem dW_begin_56 : decode cW_begin 56 = .ok (.aload_n 0, 1) := by decide +kernel
theorem dW_begin_57 : decode cW_begin 57 = .ok (.bipush 32, 2) := by decide +kernel
theorem dW_begin_59 : decode cW_begin 59 = .ok (.putfield 48, 3) := by decide +kernel
theorem dW_begin_62 : decode cW_begin 62 = .ok (.aload_n 0, 1) := by decide +kernel
theorem dW_begin_63 : decode cW_begin 63 = .ok (.aload_n 0, 1) := by decide +kernel
theorem dW_begin_64 : decode cW_begin 64 = .ok (.getfield 38, 3) := by decide +kernel
theorem dW_begin_67 : decode cW_begin 67 = .ok (.ifCond .eq 8, 3) := by decide +kernel
theorem dW_begin_70 : decode cW_begin 70 = .ok (.bipush 45, 2) := by decide +kernel
theorem dW_begin_72 : decode cW_begin 72 = .ok (.goto 5, 3) := by decide +kernel
theorem dW_begin_75 : decode cW_begin 75 = .ok (.bipush 32, 2) := by decide +kernel
theorem dW_begin_77 : decode cW_begin 77 = .ok (.putfield 51, 3) := by decide +kernel
theorem dW_begin_80 : decode cW_begin 80 = .ok (.return_, 1) := by decide +kernel
theorem dW_takesNext_0 : decode cW_takesNext 0 = .ok (.iload_n 0, 1) := by decide +kernel
theorem dW_takesNext_1 : decode cW_takesNext 1 = .ok (.iconst 4, 1) := by decide +kernel
theorem dW_takesNext_2 : decode cW_takesNext 2 = .ok (.if_icmp .lt 13, 3) := by decide +kernel
theorem dW_takesNext_5 : decode cW_takesNext 5 = .ok (.iload_n 0, 1) := by decide +kernel
theorem dW_takesNext_6 : decode cW_takesNext 6 = .ok (.bipush 8, 2) := by decide +kernel
theorem dW_takesNext_8 : decode cW_takesNext 8 = .ok (.if_icmp .gt 7, 3) := by decide +kernel
theorem dW_takesNext_11 : decode cW_takesNext 11 = .ok (.iconst 1, 1) := by decide +kernel
theorem dW_takesNext_12 : decode cW_takesNext 12 = .ok (.goto 4, 3) := by decide +kernel
theorem dW_takesNext_15 : decode cW_takesNext 15 = .ok (.iconst 0, 1) := by decide +kernel
theorem dW_takesNext_16 : decode cW_takesNext 16 = .ok (.ireturn, 1) := by decide +kernel
theorem dW_characterAt_0 : decode cW_characterAt 0 = .ok (.iload_n 1, 1) := by decide +kernel
theorem dW_characterAt_1 : decode cW_characterAt 1 = .ok (.ifCond .lt 18, 3) := by decide +kernel
theorem dW_characterAt_4 : decode cW_characterAt 4 = .ok (.iload_n 1, 1) := by decide +kernel
theorem dW_characterAt_5 : decode cW_characterAt 5 = .ok (.bipush 64, 2) := by decide +kernel
theorem dW_characterAt_7 : decode cW_characterAt 7 = .ok (.if_icmp .ge 12, 3) := by decide +kernel
theorem dW_characterAt_10 : decode cW_characterAt 10 = .ok (.aload_n 0, 1) := by decide +kernel
theorem dW_characterAt_11 : decode cW_characterAt 11 = .ok (.getfield 9, 3) := by decide +kernel
theorem dW_characterAt_14 : decode cW_characterAt 14 = .ok (.iload_n 1, 1) := by decide +kernel
theorem dW_characterAt_15 : decode cW_characterAt 15 = .ok (.iaload, 1) := by decide +kernel
theorem dW_characterAt_16 : decode cW_characterAt 16 = .ok (.goto 5, 3) := by decide +kernel
theorem dW_characterAt_19 : decode cW_characterAt 19 = .ok (.bipush 32, 2) := by decide +kernel
theorem dW_characterAt_21 : decode cW_characterAt 21 = .ok (.ireturn, 1) := by decide +kernel
theorem dW_obey_0 : decode cW_obey 0 = .ok (.iload_n 1, 1) := by decide +kernel
theorem dW_obey_1 : decode cW_obey 1 = .ok (.sipush 160, 3) := by decide +kernel
theorem dW_obey_4 : decode cW_obey 4 = .ok (.invokestatic 54, 3) := by decide +kernel
theorem dW_obey_7 : decode cW_obey 7 = .ok (.ifCond .eq 14, 3) := by decide +kernel
theorem dW_obey_10 : decode cW_obey 10 = .ok (.aload_n 0, 1) := by decide +kernel
theorem dW_obey_11 : decode cW_obey 11 = .ok (.iload_n 1, 1) := by decide +kernel
theorem dW_obey_12 : decode cW_obey 12 = .ok (.sipush 160, 3) := by decide +kernel
theorem dW_obey_15 : decode cW_obey 15 = .ok (.isub, 1) := by decide +kernel
theorem dW_obey_16 : decode cW_obey 16 = .ok (.iconst 1, 1) := by decide +kernel
theorem dW_obey_17 : decode cW_obey 17 = .ok (.invokevirtual 58, 3) := by decide +kernel
theorem dW_obey_20 : decode cW_obey 20 = .ok (.ireturn, 1) := by decide +kernel
theorem dW_obey_21 : decode cW_obey 21 = .ok (.iload_n 1, 1) := by decide +kernel
theorem dW_obey_22 : decode cW_obey 22 = .ok (.sipush 144, 3) := by decide +kernel
theorem dW_obey_25 : decode cW_obey 25 = .ok (.invokestatic 54, 3) := by decide +kernel
theorem dW_obey_28 : decode cW_obey 28 = .ok (.ifCond .eq 14, 3) := by decide +kernel
theorem dW_obey_31 : decode cW_obey 31 = .ok (.aload_n 0, 1) := by decide +kernel
theorem dW_obey_32 : decode cW_obey 32 = .ok (.iload_n 1, 1) := by decide +kernel
theorem dW_obey_33 : decode cW_obey 33 = .ok (.sipush 144, 3) := by decide +kernel
theorem dW_obey_36 : decode cW_obey 36 = .ok (.isub, 1) := by decide +kernel
theorem dW_obey_37 : decode cW_obey 37 = .ok (.iconst 0, 1) := by decide +kernel
theorem dW_obey_38 : decode cW_obey 38 = .ok (.invokevirtual 58, 3) := by decide +kernel
theorem dW_obey_41 : decode cW_obey 41 = .ok (.ireturn, 1) := by decide +kernel
theorem dW_obey_42 : decode cW_obey 42 = .ok (.iload_n 1, 1) := by decide +kernel
theorem dW_obey_43 : decode cW_obey 43 = .ok (.sipush 128, 3) := by decide +kernel
theorem dW_obey_46 : decode cW_obey 46 = .ok (.invokestatic 54, 3) := by decide +kernel
theorem dW_obey_49 : decode cW_obey 49 = .ok (.ifCond .eq 13, 3) := by decide +kernel
theorem dW_obey_52 : decode cW_obey 52 = .ok (.aload_n 0, 1) := by decide +kernel
theorem dW_obey_53 : decode cW_obey 53 = .ok (.iload_n 1, 1) := by decide +kernel
theorem dW_obey_54 : decode cW_obey 54 = .ok (.sipush 128, 3) := by decide +kernel
theorem dW_obey_57 : decode cW_obey 57 = .ok (.isub, 1) := by decide +kernel
theorem dW_obey_58 : decode cW_obey 58 = .ok (.invokevirtual 62, 3) := by decide +kernel
theorem dW_obey_61 : decode cW_obey 61 = .ok (.ireturn, 1) := by decide +kernel
theorem dW_obey_62 : decode cW_obey 62 = .ok (.iload_n 1, 1) := by decide +kernel
theorem dW_obey_63 : decode cW_obey 63 = .ok (.invokestatic 66, 3) := by decide +kernel
theorem dW_obey_66 : decode cW_obey 66 = .ok (.ifCond .eq 22, 3) := by decide +kernel
theorem dW_obey_69 : decode cW_obey 69 = .ok (.iload_n 2, 1) := by decide +kernel
theorem dW_obey_70 : decode cW_obey 70 = .ok (.ifCond .lt 16, 3) := by decide +kernel
theorem dW_obey_73 : decode cW_obey 73 = .ok (.aload_n 0, 1) := by decide +kernel
theorem dW_obey_74 : decode cW_obey 74 = .ok (.iload_n 1, 1) := by decide +kernel
theorem dW_obey_75 : decode cW_obey 75 = .ok (.iload_n 2, 1) := by decide +kernel
theorem dW_obey_76 : decode cW_obey 76 = .ok (.invokevirtual 69, 3) := by decide +kernel
theorem dW_obey_79 : decode cW_obey 79 = .ok (.ifCond .eq 7, 3) := by decide +kernel
theorem dW_obey_82 : decode cW_obey 82 = .ok (.iconst 1, 1) := by decide +kernel
theorem dW_obey_83 : decode cW_obey 83 = .ok (.goto 4, 3) := by decide +kernel
theorem dW_obey_86 : decode cW_obey 86 = .ok (.iconst 0, 1) := by decide +kernel
theorem dW_obey_87 : decode cW_obey 87 = .ok (.ireturn, 1) := by decide +kernel
theorem dW_obey_88 : decode cW_obey 88 = .ok (.iload_n 1, 1) := by decide +kernel
theorem dW_obey_89 : decode cW_obey 89 = .ok (.iconst 1, 1) := by decide +kernel
theorem dW_obey_90 : decode cW_obey 90 = .ok (.if_icmp .eq 8, 3) := by decide +kernel
theorem dW_obey_93 : decode cW_obey 93 = .ok (.iload_n 1, 1) := by decide +kernel
theorem dW_obey_94 : decode cW_obey 94 = .ok (.iconst 2, 1) := by decide +kernel
theorem dW_obey_95 : decode cW_obey 95 = .ok (.if_icmp .ne 19, 3) := by decide +kernel
theorem dW_obey_98 : decode cW_obey 98 = .ok (.aload_n 0, 1) := by decide +kernel
theorem dW_obey_99 : decode cW_obey 99 = .ok (.iload_n 1, 1) := by decide +kernel
theorem dW_obey_100 : decode cW_obey 100 = .ok (.iconst 2, 1) := by decide +kernel
theorem dW_obey_101 : decode cW_obey 101 = .ok (.if_icmp .ne 7, 3) := by decide +kernel
theorem dW_obey_104 : decode cW_obey 104 = .ok (.iconst 1, 1) := by decide +kernel
theorem dW_obey_105 : decode cW_obey 105 = .ok (.goto 4, 3) := by decide +kernel
theorem dW_obey_108 : decode cW_obey 108 = .ok (.iconst 0, 1) := by decide +kernel
theorem dW_obey_109 : decode cW_obey 109 = .ok (.putfield 31, 3) := by decide +kernel
theorem dW_obey_112 : decode cW_obey 112 = .ok (.iconst 1, 1) := by decide +kernel
theorem dW_obey_113 : decode cW_obey 113 = .ok (.ireturn, 1) := by decide +kernel
theorem dW_obey_114 : decode cW_obey 114 = .ok (.iload_n 1, 1) := by decide +kernel
theorem dW_obey_115 : decode cW_obey 115 = .ok (.iconst 3, 1) := by decide +kernel
theorem dW_obey_116 : decode cW_obey 116 = .ok (.if_icmp .ne 18, 3) := by decide +kernel
theorem dW_obey_119 : decode cW_obey 119 = .ok (.aload_n 0, 1) := by decide +kernel
theorem dW_obey_120 : decode cW_obey 120 = .ok (.aload_n 0, 1) := by decide +kernel
theorem dW_obey_121 : decode cW_obey 121 = .ok (.getfield 51, 3) := by decide +kernel
theorem dW_obey_124 : decode cW_obey 124 = .ok (.invokevirtual 72, 3) := by decide +kernel
theorem dW_obey_127 : decode cW_obey 127 = .ok (.ifCond .eq 7, 3) := by decide +kernel
theorem dW_obey_130 : decode cW_obey 130 = .ok (.iconst 1, 1) := by decide +kernel
theorem dW_obey_131 : decode cW_obey 131 = .ok (.goto 4, 3) := by decide +kernel
theorem dW_obey_134 : decode cW_obey 134 = .ok (.iconst 0, 1) := by decide +kernel
theorem dW_obey_135 : decode cW_obey 135 = .ok (.ireturn, 1) := by decide +kernel
theorem dW_isRun_0 : decode cW_isRun 0 = .ok (.iload_n 0, 1) := by decide +kernel
theorem dW_isRun_1 : decode cW_isRun 1 = .ok (.iload_n 1, 1) := by decide +kernel
theorem dW_isRun_2 : decode cW_isRun 2 = .ok (.if_icmp .le 15, 3) := by decide +kernel
theorem dW_isRun_5 : decode cW_isRun 5 = .ok (.iload_n 0, 1) := by decide +kernel
theorem dW_isRun_6 : decode cW_isRun 6 = .ok (.iload_n 1, 1) := by decide +kernel
theorem dW_isRun_7 : decode cW_isRun 7 = .ok (.bipush 15, 2) := by decide +kernel
theorem dW_isRun_9 : decode cW_isRun 9 = .ok (.iadd, 1) := by decide +kernel
theorem dW_isRun_10 : decode cW_isRun 10 = .ok (.if_icmp .gt 7, 3) := by decide +kernel
theorem dW_isRun_13 : decode cW_isRun 13 = .ok (.iconst 1, 1) := by decide +kernel
theorem dW_isRun_14 : decode cW_isRun 14 = .ok (.goto 4, 3) := by decide +kernel
theorem dW_isRun_17 : decode cW_isRun 17 = .ok (.iconst 0, 1) := by decide +kernel
theorem dW_isRun_18 : decode cW_isRun 18 = .ok (.ireturn, 1) := by decide +kernel
theorem dW_obeyWithNext_0 : decode cW_obeyWithNext 0 = .ok (.iload_n 1, 1) := by decide +kernel
theorem dW_obeyWithNext_1 : decode cW_obeyWithNext 1 = .ok (.tableswitch 110 4 8 #[35, 42, 63, 84, 104], 35) := by decide +kernel
theorem dW_obeyWithNext_36 : decode cW_obeyWithNext 36 = .ok (.aload_n 0, 1) := by decide +kernel
theorem dW_obeyWithNext_37 : decode cW_obeyWithNext 37 = .ok (.iload_n 2, 1) := by decide +kernel
theorem dW_obeyWithNext_38 : decode cW_obeyWithNext 38 = .ok (.putfield 48, 3) := by decide +kernel
theorem dW_obeyWithNext_41 : decode cW_obeyWithNext 41 = .ok (.iconst 1, 1) := by decide +kernel
theorem dW_obeyWithNext_42 : decode cW_obeyWithNext 42 = .ok (.ireturn, 1) := by decide +kernel
theorem dW_obeyWithNext_43 : decode cW_obeyWithNext 43 = .ok (.aload_n 0, 1) := by decide +kernel
theorem dW_obeyWithNext_44 : decode cW_obeyWithNext 44 = .ok (.aload_n 0, 1) := by decide +kernel
theorem dW_obeyWithNext_45 : decode cW_obeyWithNext 45 = .ok (.getfield 38, 3) := by decide +kernel
theorem dW_obeyWithNext_48 : decode cW_obeyWithNext 48 = .ok (.ifCond .eq 10, 3) := by decide +kernel
theorem dW_obeyWithNext_51 : decode cW_obeyWithNext 51 = .ok (.aload_n 0, 1) := by decide +kernel
theorem dW_obeyWithNext_52 : decode cW_obeyWithNext 52 = .ok (.getfield 51, 3) := by decide +kernel
theorem dW_obeyWithNext_55 : decode cW_obeyWithNext 55 = .ok (.goto 4, 3) := by decide +kernel
theorem dW_obeyWithNext_58 : decode cW_obeyWithNext 58 = .ok (.iload_n 2, 1) := by decide +kernel
theorem dW_obeyWithNext_59 : decode cW_obeyWithNext 59 = .ok (.putfield 51, 3) := by decide +kernel
theorem dW_obeyWithNext_62 : decode cW_obeyWithNext 62 = .ok (.iconst 1, 1) := by decide +kernel
theorem dW_obeyWithNext_63 : decode cW_obeyWithNext 63 = .ok (.ireturn, 1) := by decide +kernel
theorem dW_obeyWithNext_64 : decode cW_obeyWithNext 64 = .ok (.aload_n 0, 1) := by decide +kernel
theorem dW_obeyWithNext_65 : decode cW_obeyWithNext 65 = .ok (.aload_n 0, 1) := by decide +kernel
theorem dW_obeyWithNext_66 : decode cW_obeyWithNext 66 = .ok (.getfield 38, 3) := by decide +kernel
theorem dW_obeyWithNext_69 : decode cW_obeyWithNext 69 = .ok (.ifCond .eq 7, 3) := by decide +kernel
theorem dW_obeyWithNext_72 : decode cW_obeyWithNext 72 = .ok (.iload_n 2, 1) := by decide +kernel
theorem dW_obeyWithNext_73 : decode cW_obeyWithNext 73 = .ok (.goto 7, 3) := by decide +kernel
theorem dW_obeyWithNext_76 : decode cW_obeyWithNext 76 = .ok (.aload_n 0, 1) := by decide +kernel
theorem dW_obeyWithNext_77 : decode cW_obeyWithNext 77 = .ok (.getfield 51, 3) := by decide +kernel
theorem dW_obeyWithNext_80 : decode cW_obeyWithNext 80 = .ok (.putfield 51, 3) := by decide +kernel
theorem dW_obeyWithNext_83 : decode cW_obeyWithNext 83 = .ok (.iconst 1, 1) := by decide +kernel
theorem dW_obeyWithNext_84 : decode cW_obeyWithNext 84 = .ok (.ireturn, 1) := by decide +kernel
theorem dW_obeyWithNext_85 : decode cW_obeyWithNext 85 = .ok (.aload_n 0, 1) := by decide +kernel
theorem dW_obeyWithNext_86 : decode cW_obeyWithNext 86 = .ok (.aload_n 0, 1) := by decide +kernel
theorem dW_obeyWithNext_87 : decode cW_obeyWithNext 87 = .ok (.getfield 31, 3) := by decide +kernel
theorem dW_obeyWithNext_90 : decode cW_obeyWithNext 90 = .ok (.ifCond .eq 7, 3) := by decide +kernel
theorem dW_obeyWithNext_93 : decode cW_obeyWithNext 93 = .ok (.iload_n 2, 1) := by decide +kernel
theorem dW_obeyWithNext_94 : decode cW_obeyWithNext 94 = .ok (.goto 7, 3) := by decide +kernel
theorem dW_obeyWithNext_97 : decode cW_obeyWithNext 97 = .ok (.aload_n 0, 1) := by decide +kernel
theorem dW_obeyWithNext_98 : decode cW_obeyWithNext 98 = .ok (.getfield 48, 3) := by decide +kernel
theorem dW_obeyWithNext_101 : decode cW_obeyWithNext 101 = .ok (.invokevirtual 72, 3) := by decide +kernel
theorem dW_obeyWithNext_104 : decode cW_obeyWithNext 104 = .ok (.ireturn, 1) := by decide +kernel
theorem dW_obeyWithNext_105 : decode cW_obeyWithNext 105 = .ok (.aload_n 0, 1) := by decide +kernel
theorem dW_obeyWithNext_106 : decode cW_obeyWithNext 106 = .ok (.iload_n 2, 1) := by decide +kernel
theorem dW_obeyWithNext_107 : decode cW_obeyWithNext 107 = .ok (.invokevirtual 75, 3) := by decide +kernel
theorem dW_obeyWithNext_110 : decode cW_obeyWithNext 110 = .ok (.ireturn, 1) := by decide +kernel
theorem dW_obeyWithNext_111 : decode cW_obeyWithNext 111 = .ok (.iconst 0, 1) := by decide +kernel
theorem dW_obeyWithNext_112 : decode cW_obeyWithNext 112 = .ok (.ireturn, 1) := by decide +kernel
theorem dW_write_0 : decode cW_write 0 = .ok (.aload_n 0, 1) := by decide +kernel
theorem dW_write_1 : decode cW_write 1 = .ok (.getfield 24, 3) := by decide +kernel
theorem dW_write_4 : decode cW_write 4 = .ok (.ifCond .lt 12, 3) := by decide +kernel
theorem dW_write_7 : decode cW_write 7 = .ok (.aload_n 0, 1) := by decide +kernel
theorem dW_write_8 : decode cW_write 8 = .ok (.getfield 24, 3) := by decide +kernel
theorem dW_write_11 : decode cW_write 11 = .ok (.bipush 64, 2) := by decide +kernel
theorem dW_write_13 : decode cW_write 13 = .ok (.if_icmp .lt 5, 3) := by decide +kernel
theorem dW_write_16 : decode cW_write 16 = .ok (.iconst 0, 1) := by decide +kernel
theorem dW_write_17 : decode cW_write 17 = .ok (.ireturn, 1) := by decide +kernel
theorem dW_write_18 : decode cW_write 18 = .ok (.aload_n 0, 1) := by decide +kernel
theorem dW_write_19 : decode cW_write 19 = .ok (.getfield 9, 3) := by decide +kernel
theorem dW_write_22 : decode cW_write 22 = .ok (.aload_n 0, 1) := by decide +kernel
theorem dW_write_23 : decode cW_write 23 = .ok (.getfield 24, 3) := by decide +kernel
theorem dW_write_26 : decode cW_write 26 = .ok (.iload_n 1, 1) := by decide +kernel
theorem dW_write_27 : decode cW_write 27 = .ok (.iastore, 1) := by decide +kernel
theorem dW_write_28 : decode cW_write 28 = .ok (.aload_n 0, 1) := by decide +kernel
theorem dW_write_29 : decode cW_write 29 = .ok (.dup, 1) := by decide +kernel
theorem dW_write_30 : decode cW_write 30 = .ok (.getfield 24, 3) := by decide +kernel
theorem dW_write_33 : decode cW_write 33 = .ok (.iconst 1, 1) := by decide +kernel
theorem dW_write_34 : decode cW_write 34 = .ok (.iadd, 1) := by decide +kernel
theorem dW_write_35 : decode cW_write 35 = .ok (.putfield 24, 3) := by decide +kernel
theorem dW_write_38 : decode cW_write 38 = .ok (.iconst 1, 1) := by decide +kernel
theorem dW_write_39 : decode cW_write 39 = .ok (.ireturn, 1) := by decide +kernel
theorem dW_writeFills_0 : decode cW_writeFills 0 = .ok (.iconst 0, 1) := by decide +kernel
theorem dW_writeFills_1 : decode cW_writeFills 1 = .ok (.istore_n 2, 1) := by decide +kernel
theorem dW_writeFills_2 : decode cW_writeFills 2 = .ok (.iload_n 2, 1) := by decide +kernel
theorem dW_writeFills_3 : decode cW_writeFills 3 = .ok (.iload_n 1, 1) := by decide +kernel
theorem dW_writeFills_4 : decode cW_writeFills 4 = .ok (.if_icmp .ge 22, 3) := by decide +kernel
theorem dW_writeFills_7 : decode cW_writeFills 7 = .ok (.aload_n 0, 1) := by decide +kernel
theorem dW_writeFills_8 : decode cW_writeFills 8 = .ok (.aload_n 0, 1) := by decide +kernel
theorem dW_writeFills_9 : decode cW_writeFills 9 = .ok (.getfield 48, 3) := by decide +kernel
theorem dW_writeFills_12 : decode cW_writeFills 12 = .ok (.invokevirtual 72, 3) := by decide +kernel
theorem dW_writeFills_15 : decode cW_writeFills 15 = .ok (.ifCond .ne 5, 3) := by decide +kernel
theorem dW_writeFills_18 : decode cW_writeFills 18 = .ok (.iconst 0, 1) := by decide +kernel
theorem dW_writeFills_19 : decode cW_writeFills 19 = .ok (.ireturn, 1) := by decide +kernel
theorem dW_writeFills_20 : decode cW_writeFills 20 = .ok (.iinc 2 1, 3) := by decide +kernel
theorem dW_writeFills_23 : decode cW_writeFills 23 = .ok (.goto (-21), 3) := by decide +kernel
theorem dW_writeFills_26 : decode cW_writeFills 26 = .ok (.iconst 1, 1) := by decide +kernel
theorem dW_writeFills_27 : decode cW_writeFills 27 = .ok (.ireturn, 1) := by decide +kernel
theorem dW_writeDigits_0 : decode cW_writeDigits 0 = .ok (.iload_n 1, 1) := by decide +kernel
theorem dW_writeDigits_1 : decode cW_writeDigits 1 = .ok (.aload_n 0, 1) := by decide +kernel
theorem dW_writeDigits_2 : decode cW_writeDigits 2 = .ok (.getfield 28, 3) := by decide +kernel
theorem dW_writeDigits_5 : decode cW_writeDigits 5 = .ok (.if_icmp .le 5, 3) := by decide +kernel
theorem dW_writeDigits_8 : decode cW_writeDigits 8 = .ok (.iconst 0, 1) := by decide +kernel
theorem dW_writeDigits_9 : decode cW_writeDigits 9 = .ok (.ireturn, 1) := by decide +kernel
theorem dW_writeDigits_10 : decode cW_writeDigits 10 = .ok (.iconst 0, 1) := by decide +kernel
theorem dW_writeDigits_11 : decode cW_writeDigits 11 = .ok (.istore_n 3, 1) := by decide +kernel
theorem dW_writeDigits_12 : decode cW_writeDigits 12 = .ok (.iload_n 3, 1) := by decide +kernel
theorem dW_writeDigits_13 : decode cW_writeDigits 13 = .ok (.iload_n 1, 1) := by decide +kernel
theorem dW_writeDigits_14 : decode cW_writeDigits 14 = .ok (.if_icmp .ge 33, 3) := by decide +kernel
theorem dW_writeDigits_17 : decode cW_writeDigits 17 = .ok (.aload_n 0, 1) := by decide +kernel
theorem dW_writeDigits_18 : decode cW_writeDigits 18 = .ok (.dup, 1) := by decide +kernel
theorem dW_writeDigits_19 : decode cW_writeDigits 19 = .ok (.getfield 28, 3) := by decide +kernel
theorem dW_writeDigits_22 : decode cW_writeDigits 22 = .ok (.iconst 1, 1) := by decide +kernel
theorem dW_writeDigits_23 : decode cW_writeDigits 23 = .ok (.isub, 1) := by decide +kernel
theorem dW_writeDigits_24 : decode cW_writeDigits 24 = .ok (.putfield 28, 3) := by decide +kernel
theorem dW_writeDigits_27 : decode cW_writeDigits 27 = .ok (.aload_n 0, 1) := by decide +kernel
theorem dW_writeDigits_28 : decode cW_writeDigits 28 = .ok (.aload_n 0, 1) := by decide +kernel
theorem dW_writeDigits_29 : decode cW_writeDigits 29 = .ok (.getfield 28, 3) := by decide +kernel
theorem dW_writeDigits_32 : decode cW_writeDigits 32 = .ok (.iload_n 2, 1) := by decide +kernel
theorem dW_writeDigits_33 : decode cW_writeDigits 33 = .ok (.invokevirtual 78, 3) := by decide +kernel
theorem dW_writeDigits_36 : decode cW_writeDigits 36 = .ok (.ifCond .ne 5, 3) := by decide +kernel
theorem dW_writeDigits_39 : decode cW_writeDigits 39 = .ok (.iconst 0, 1) := by decide +kernel
theorem dW_writeDigits_40 : decode cW_writeDigits 40 = .ok (.ireturn, 1) := by decide +kernel
theorem dW_writeDigits_41 : decode cW_writeDigits 41 = .ok (.iinc 3 1, 3) := by decide +kernel
theorem dW_writeDigits_44 : decode cW_writeDigits 44 = .ok (.goto (-32), 3) := by decide +kernel
theorem dW_writeDigits_47 : decode cW_writeDigits 47 = .ok (.iconst 1, 1) := by decide +kernel
theorem dW_writeDigits_48 : decode cW_writeDigits 48 = .ok (.ireturn, 1) := by decide +kernel
theorem dW_writeDigit_0 : decode cW_writeDigit 0 = .ok (.iload_n 1, 1) := by decide +kernel
theorem dW_writeDigit_1 : decode cW_writeDigit 1 = .ok (.ifCond .lt 18, 3) := by decide +kernel
theorem dW_writeDigit_4 : decode cW_writeDigit 4 = .ok (.iload_n 1, 1) := by decide +kernel
theorem dW_writeDigit_5 : decode cW_writeDigit 5 = .ok (.bipush 31, 2) := by decide +kernel
theorem dW_writeDigit_7 : decode cW_writeDigit 7 = .ok (.if_icmp .ge 12, 3) := by decide +kernel
theorem dW_writeDigit_10 : decode cW_writeDigit 10 = .ok (.aload_n 0, 1) := by decide +kernel
theorem dW_writeDigit_11 : decode cW_writeDigit 11 = .ok (.getfield 15, 3) := by decide +kernel
theorem dW_writeDigit_14 : decode cW_writeDigit 14 = .ok (.iload_n 1, 1) := by decide +kernel
theorem dW_writeDigit_15 : decode cW_writeDigit 15 = .ok (.iaload, 1) := by decide +kernel
theorem dW_writeDigit_16 : decode cW_writeDigit 16 = .ok (.goto 4, 3) := by decide +kernel
theorem dW_writeDigit_19 : decode cW_writeDigit 19 = .ok (.iconst 0, 1) := by decide +kernel
theorem dW_writeDigit_20 : decode cW_writeDigit 20 = .ok (.istore_n 3, 1) := by decide +kernel
theorem dW_writeDigit_21 : decode cW_writeDigit 21 = .ok (.iload_n 3, 1) := by decide +kernel
theorem dW_writeDigit_22 : decode cW_writeDigit 22 = .ok (.ifCond .ne 19, 3) := by decide +kernel
theorem dW_writeDigit_25 : decode cW_writeDigit 25 = .ok (.aload_n 0, 1) := by decide +kernel
theorem dW_writeDigit_26 : decode cW_writeDigit 26 = .ok (.getfield 31, 3) := by decide +kernel
theorem dW_writeDigit_29 : decode cW_writeDigit 29 = .ok (.ifCond .ne 12, 3) := by decide +kernel
theorem dW_writeDigit_32 : decode cW_writeDigit 32 = .ok (.aload_n 0, 1) := by decide +kernel
theorem dW_writeDigit_33 : decode cW_writeDigit 33 = .ok (.aload_n 0, 1) := by decide +kernel
theorem dW_writeDigit_34 : decode cW_writeDigit 34 = .ok (.getfield 48, 3) := by decide +kernel
theorem dW_writeDigit_37 : decode cW_writeDigit 37 = .ok (.invokevirtual 72, 3) := by decide +kernel
theorem dW_writeDigit_40 : decode cW_writeDigit 40 = .ok (.ireturn, 1) := by decide +kernel
theorem dW_writeDigit_41 : decode cW_writeDigit 41 = .ok (.iload_n 2, 1) := by decide +kernel
theorem dW_writeDigit_42 : decode cW_writeDigit 42 = .ok (.ifCond .eq 14, 3) := by decide +kernel
theorem dW_writeDigit_45 : decode cW_writeDigit 45 = .ok (.aload_n 0, 1) := by decide +kernel
theorem dW_writeDigit_46 : decode cW_writeDigit 46 = .ok (.getfield 31, 3) := by decide +kernel
theorem dW_writeDigit_49 : decode cW_writeDigit 49 = .ok (.ifCond .ne 7, 3) := by decide +kernel
theorem dW_writeDigit_52 : decode cW_writeDigit 52 = .ok (.iconst 1, 1) := by decide +kernel
theorem dW_writeDigit_53 : decode cW_writeDigit 53 = .ok (.goto 4, 3) := by decide +kernel
theorem dW_writeDigit_56 : decode cW_writeDigit 56 = .ok (.iconst 0, 1) := by decide +kernel
theorem dW_writeDigit_57 : decode cW_writeDigit 57 = .ok (.istore 4, 2) := by decide +kernel
theorem dW_writeDigit_59 : decode cW_writeDigit 59 = .ok (.aload_n 0, 1) := by decide +kernel
theorem dW_writeDigit_60 : decode cW_writeDigit 60 = .ok (.iconst 1, 1) := by decide +kernel
theorem dW_writeDigit_61 : decode cW_writeDigit 61 = .ok (.putfield 31, 3) := by decide +kernel
theorem dW_writeDigit_64 : decode cW_writeDigit 64 = .ok (.iload 4, 2) := by decide +kernel
theorem dW_writeDigit_66 : decode cW_writeDigit 66 = .ok (.ifCond .eq 16, 3) := by decide +kernel
theorem dW_writeDigit_69 : decode cW_writeDigit 69 = .ok (.aload_n 0, 1) := by decide +kernel
theorem dW_writeDigit_70 : decode cW_writeDigit 70 = .ok (.aload_n 0, 1) := by decide +kernel
theorem dW_writeDigit_71 : decode cW_writeDigit 71 = .ok (.getfield 51, 3) := by decide +kernel
theorem dW_writeDigit_74 : decode cW_writeDigit 74 = .ok (.invokevirtual 72, 3) := by decide +kernel
theorem dW_writeDigit_77 : decode cW_writeDigit 77 = .ok (.ifCond .ne 5, 3) := by decide +kernel
theorem dW_writeDigit_80 : decode cW_writeDigit 80 = .ok (.iconst 0, 1) := by decide +kernel
theorem dW_writeDigit_81 : decode cW_writeDigit 81 = .ok (.ireturn, 1) := by decide +kernel
theorem dW_writeDigit_82 : decode cW_writeDigit 82 = .ok (.aload_n 0, 1) := by decide +kernel
theorem dW_writeDigit_83 : decode cW_writeDigit 83 = .ok (.bipush 48, 2) := by decide +kernel
theorem dW_writeDigit_85 : decode cW_writeDigit 85 = .ok (.iload_n 3, 1) := by decide +kernel
theorem dW_writeDigit_86 : decode cW_writeDigit 86 = .ok (.iadd, 1) := by decide +kernel
theorem dW_writeDigit_87 : decode cW_writeDigit 87 = .ok (.invokevirtual 72, 3) := by decide +kernel
theorem dW_writeDigit_90 : decode cW_writeDigit 90 = .ok (.ireturn, 1) := by decide +kernel
theorem dW_fillLast_0 : decode cW_fillLast 0 = .ok (.iload_n 1, 1) := by decide +kernel
theorem dW_fillLast_1 : decode cW_fillLast 1 = .ok (.aload_n 0, 1) := by decide +kernel
theorem dW_fillLast_2 : decode cW_fillLast 2 = .ok (.getfield 24, 3) := by decide +kernel
theorem dW_fillLast_5 : decode cW_fillLast 5 = .ok (.if_icmp .le 5, 3) := by decide +kernel
theorem dW_fillLast_8 : decode cW_fillLast 8 = .ok (.iconst 0, 1) := by decide +kernel
theorem dW_fillLast_9 : decode cW_fillLast 9 = .ok (.ireturn, 1) := by decide +kernel
theorem dW_fillLast_10 : decode cW_fillLast 10 = .ok (.aload_n 0, 1) := by decide +kernel
theorem dW_fillLast_11 : decode cW_fillLast 11 = .ok (.getfield 24, 3) := by decide +kernel
theorem dW_fillLast_14 : decode cW_fillLast 14 = .ok (.iload_n 1, 1) := by decide +kernel
theorem dW_fillLast_15 : decode cW_fillLast 15 = .ok (.isub, 1) := by decide +kernel
theorem dW_fillLast_16 : decode cW_fillLast 16 = .ok (.istore_n 2, 1) := by decide +kernel
theorem dW_fillLast_17 : decode cW_fillLast 17 = .ok (.aload_n 0, 1) := by decide +kernel
theorem dW_fillLast_18 : decode cW_fillLast 18 = .ok (.getfield 45, 3) := by decide +kernel
theorem dW_fillLast_21 : decode cW_fillLast 21 = .ok (.ifCond .eq 37, 3) := by decide +kernel
theorem dW_fillLast_24 : decode cW_fillLast 24 = .ok (.iload_n 2, 1) := by decide +kernel
theorem dW_fillLast_25 : decode cW_fillLast 25 = .ok (.aload_n 0, 1) := by decide +kernel
theorem dW_fillLast_26 : decode cW_fillLast 26 = .ok (.getfield 24, 3) := by decide +kernel
theorem dW_fillLast_29 : decode cW_fillLast 29 = .ok (.if_icmp .ge 29, 3) := by decide +kernel
theorem dW_fillLast_32 : decode cW_fillLast 32 = .ok (.iload_n 2, 1) := by decide +kernel
theorem dW_fillLast_33 : decode cW_fillLast 33 = .ok (.ifCond .lt 19, 3) := by decide +kernel
theorem dW_fillLast_36 : decode cW_fillLast 36 = .ok (.iload_n 2, 1) := by decide +kernel
theorem dW_fillLast_37 : decode cW_fillLast 37 = .ok (.bipush 64, 2) := by decide +kernel
theorem dW_fillLast_39 : decode cW_fillLast 39 = .ok (.if_icmp .ge 13, 3) := by decide +kernel
theorem dW_fillLast_42 : decode cW_fillLast 42 = .ok (.aload_n 0, 1) := by decide +kernel
theorem dW_fillLast_43 : decode cW_fillLast 43 = .ok (.getfield 9, 3) := by decide +kernel
theorem dW_fillLast_46 : decode cW_fillLast 46 = .ok (.iload_n 2, 1) := by decide +kernel
theorem dW_fillLast_47 : decode cW_fillLast 47 = .ok (.aload_n 0, 1) := by decide +kernel
theorem dW_fillLast_48 : decode cW_fillLast 48 = .ok (.getfield 48, 3) := by decide +kernel
theorem dW_fillLast_51 : decode cW_fillLast 51 = .ok (.iastore, 1) := by decide +kernel
theorem dW_fillLast_52 : decode cW_fillLast 52 = .ok (.iinc 2 1, 3) := by decide +kernel
theorem dW_fillLast_55 : decode cW_fillLast 55 = .ok (.goto (-38), 3) := by decide +kernel
theorem dW_fillLast_58 : decode cW_fillLast 58 = .ok (.iconst 1, 1) := by decide +kernel
theorem dW_fillLast_59 : decode cW_fillLast 59 = .ok (.ireturn, 1) := by decide +kernel
end
section
/-! numbers: arrays hold nI of natural numbers, booleans are bI -/
def nf (d : Nat → Nat) : Nat → Int32 := fun j => nI (d j)
def bI (b : Bool) : Int32 := if b = true then 1 else 0
def up (d : Nat → Nat) (k v : Nat) : Nat → Nat := fun j => if j = k then v else d j
theorem up_s {d : Nat → Nat} {k v : Nat} : up d k v k = v := by simp [up]
theorem up_n {d : Nat → Nat} {k v j : Nat} (h : j ≠ k) : up d k v j = d j := by simp [up, h]
theorem upd_nf (d : Nat → Nat) (k v : Nat) : upd (nf d) k (nI v) = nf (up d k v) := by
  funext j
  by_cases h : j = k <;> simp [upd, nf, up, h]
theorem bI_t : bI true = 1 := rfl
theorem bI_f : bI false = 0 := rfl
theorem bI_nI (b : Bool) : bI b = nI (if b = true then 1 else 0) := by cases b <;> rfl
theorem bI_0 {b : Bool} : bI b = 0 ↔ b = false := by cases b <;> decide
theorem bI_inj {a b : Bool} : bI a = bI b ↔ a = b := by cases a <;> cases b <;> decide
theorem xn_ex (x : Int32) : ∃ n : Nat, x = nI n := ⟨x.toBitVec.toNat, by
  apply Int32.toBitVec_inj.mp
  show x.toBitVec = BitVec.ofNat 32 x.toBitVec.toNat
  simp⟩
theorem xn_fun (f : Nat → Int32) : ∃ d : Nat → Nat, f = nf d := ⟨fun j => (f j).toBitVec.toNat, by
  funext j
  apply Int32.toBitVec_inj.mp
  show (f j).toBitVec = BitVec.ofNat 32 (f j).toBitVec.toNat
  simp⟩
theorem xn_ti {n : Nat} (h : n < 2147483648) : (nI n).toInt = (n : Int) := nI_toInt h
abbrev xg_X := Program × Launch × Env × Room × State × MethodId × Array Value × List Frame × Method × Code × (State → Prop) × (Nat → Prop)
/-- the machine comes from these pure data (program counter, world, locals, stack) to what is asked -/
def GG (D : va_G) (X : xg_X) (k n pc : Nat) (ws : va_W) (lv : List (Nat × Value)) (st : List Value) : Prop :=
  match X with
  | (p, l, e, R, s, m, args, below, meth, c, Q, A) => ∀ (H : Heap) (locs : List Loc) (ls : Array Slot), va_P D vwCl ws H → va_D A ws → va_S A s.heap H locs → lv_has ls c.maxLocals lv → W p l e R s m args below meth c H locs k n Q (F0 m pc ls st)
/-- what holds all along a method's body -/
def OK (l : Launch) (D : va_G) (cI : ClassId) (X : xg_X) (cc : ByteArray) (nL : Nat) (own : String) (rm : Room) : Prop :=
  match X with
  | (p, l', e, R, s, m, args, below, meth, c, Q, A) => p.tables.exec = Jvm.exec ∧ c.code = cc ∧ c.maxLocals = nL ∧ s.vm.findClass own = some m.cls ∧ (∀ w ∈ TB, w.before args s = true) ∧ va_K D vwCl [(cI, .int)] s ∧ (∀ q, s.heap.size ≤ q → A q) ∧ R = rm ∧ l' = l
/-- a contract: called with av in the world w0 the method answers res u in the world w u, for some u with post u -/
def Ctr (l : Launch) (D : va_G) (cI : ClassId) (y : MethodName) (cc : ByteArray) (nL : Nat) (ret : Option FieldType) (rm : Room) {S : Type} (av : List Value) (w0 : va_W) (res : S → Option Value) (post : S → Prop) (w : S → va_W) (mc ms : Nat) : Prop :=
  ∀ sz : Nat, Met l y (Cond.code y cc nL ret :: TB) rm (va_Pc av (fun U => U.heap.size = sz ∧ va_P D vwCl w0 U.heap ∧ va_K D vwCl [(cI, .int)] U ∧ va_D (fun _ => True) w0)) (fun _ st oc t => (∃ u : S, oc = .returned (res u) ∧ post u ∧ va_P D vwCl (w u) t.heap ∧ va_K D vwCl [(cI, .int)] t ∧ va_D (va_A w0 sz) (w u)) ∧ va_F (va_A w0 sz) st t) mc ms (va_A w0 sz)
section CM
variable {l : Launch} {D : va_G} {cI : ClassId} {y : MethodName} {cc : ByteArray} {nL : Nat} {rm : Room} {S : Type} {av : List Value} {w0 : va_W} {res : S → Option Value} {post : S → Prop} {w : S → va_W} {mc ms : Nat}
theorem xc_mkI (hy : plainName y.cls = true) (hn : (lg_sl av).length ≤ nL)
    (body : ∀ X : xg_X, OK l D cI X cc nL y.cls rm → (∀ (u : S) (r : Int32) (pc : Nat) (lv : List (Nat × Value)), res u = some (.int r) → post u → decode cc pc = .ok (.ireturn, 1) → GG D X mc ms pc (w u) lv [.int r]) → GG D X 0 0 0 w0 (lv_args 0 av) []) : Ctr l D cI y cc nL (some .int) rm av w0 res post w mc ms := by
  intro sz
  refine Met.ofW (cc := cc) (maxL := nL) (ret := some .int) hy rfl ?_
  intro p e s m args below meth c s₁ B hml hv
  obtain ⟨rfl, hsz, hP, hK, hD0⟩ := hv
  subst hsz
  have hts := atoms_spec (ws := Cond.code y cc nL (some .int) :: TB) B.pre
  have hown : s.vm.findClass y.cls = some m.cls := findClass_of_methodNamed B.named
  have hD := hD0.self (sz := s.heap.size)
  have hl := lv_entry av (n := nL) hn
  have hlocks := B.notSynchronized
  rw [lg_entry_eq]
  refine body (p, l, e, _, s, m, av.toArray, below, meth, c, _, va_A w0 s.heap.size) ⟨B.exec, B.bytes, hml, hown, fun w h => hts w (List.mem_cons_of_mem _ h), hK, fun q h => Or.inr h, rfl, rfl⟩ ?_ s.heap [] _ hP hD va_S.rf (by rw [hml]; exact hl)
  intro u r pc lv hres hpost hdg H locs ls hP hD hS hl
  exact W.iret B.exec B.bytes B.returns (fun t ht hW => ⟨⟨u, by rw [hres], hpost, by rw [ht]; exact hP, va_K.moved hW.alike hK, hD⟩, hS.F ht⟩) hS.2.2 hdg
theorem xc_mkZ (hy : plainName y.cls = true) (hn : (lg_sl av).length ≤ nL)
    (body : ∀ X : xg_X, OK l D cI X cc nL y.cls rm → (∀ (u : S) (r : Int32) (pc : Nat) (lv : List (Nat × Value)), res u = some (.int r) → narrow .boolean (.int r) = .int r → post u → decode cc pc = .ok (.ireturn, 1) → GG D X mc ms pc (w u) lv [.int r]) → GG D X 0 0 0 w0 (lv_args 0 av) []) : Ctr l D cI y cc nL (some .boolean) rm av w0 res post w mc ms := by
  intro sz
  refine Met.ofW (cc := cc) (maxL := nL) (ret := some .boolean) hy rfl ?_
  intro p e s m args below meth c s₁ B hml hv
  obtain ⟨rfl, hsz, hP, hK, hD0⟩ := hv
  subst hsz
  have hts := atoms_spec (ws := Cond.code y cc nL (some .boolean) :: TB) B.pre
  have hown : s.vm.findClass y.cls = some m.cls := findClass_of_methodNamed B.named
  have hD := hD0.self (sz := s.heap.size)
  have hl := lv_entry av (n := nL) hn
  have hlocks := B.notSynchronized
  rw [lg_entry_eq]
  refine body (p, l, e, _, s, m, av.toArray, below, meth, c, _, va_A w0 s.heap.size) ⟨B.exec, B.bytes, hml, hown, fun w h => hts w (List.mem_cons_of_mem _ h), hK, fun q h => Or.inr h, rfl, rfl⟩ ?_ s.heap [] _ hP hD va_S.rf (by rw [hml]; exact hl)
  intro u r pc lv hres hnar hpost hdg H locs ls hP hD hS hl
  exact W.zret B.exec B.bytes B.returns hnar (fun t ht hW => ⟨⟨u, by rw [hres], hpost, by rw [ht]; exact hP, va_K.moved hW.alike hK, hD⟩, hS.F ht⟩) hS.2.2 hdg
theorem xc_mkL (hy : plainName y.cls = true) (hn : (lg_sl av).length ≤ nL)
    (body : ∀ X : xg_X, OK l D cI X cc nL y.cls rm → (∀ (u : S) (r : Int64) (pc : Nat) (lv : List (Nat × Value)), res u = some (.long r) → post u → decode cc pc = .ok (.lreturn, 1) → GG D X mc ms pc (w u) lv [.long r]) → GG D X 0 0 0 w0 (lv_args 0 av) []) : Ctr l D cI y cc nL (some .long) rm av w0 res post w mc ms := by
  intro sz
  refine Met.ofW (cc := cc) (maxL := nL) (ret := some .long) hy rfl ?_
  intro p e s m args below meth c s₁ B hml hv
  obtain ⟨rfl, hsz, hP, hK, hD0⟩ := hv
  subst hsz
  have hts := atoms_spec (ws := Cond.code y cc nL (some .long) :: TB) B.pre
  have hown : s.vm.findClass y.cls = some m.cls := findClass_of_methodNamed B.named
  have hD := hD0.self (sz := s.heap.size)
  have hl := lv_entry av (n := nL) hn
  have hlocks := B.notSynchronized
  rw [lg_entry_eq]
  refine body (p, l, e, _, s, m, av.toArray, below, meth, c, _, va_A w0 s.heap.size) ⟨B.exec, B.bytes, hml, hown, fun w h => hts w (List.mem_cons_of_mem _ h), hK, fun q h => Or.inr h, rfl, rfl⟩ ?_ s.heap [] _ hP hD va_S.rf (by rw [hml]; exact hl)
  intro u r pc lv hres hpost hdg H locs ls hP hD hS hl
  exact W.lret B.exec B.bytes B.returns (fun t ht hW => ⟨⟨u, by rw [hres], hpost, by rw [ht]; exact hP, va_K.moved hW.alike hK, hD⟩, hS.F ht⟩) hS.2.2 hdg
theorem xc_mkV (hy : plainName y.cls = true) (hn : (lg_sl av).length ≤ nL)
    (body : ∀ X : xg_X, OK l D cI X cc nL y.cls rm → (y.name = "<init>" → X.2.2.2.2.2.2.2.2.1.name = "<init>") → (∀ (u : S) (pc : Nat) (lv : List (Nat × Value)), res u = none → post u → decode cc pc = .ok (.return_, 1) → GG D X mc ms pc (w u) lv []) → GG D X 0 0 0 w0 (lv_args 0 av) []) : Ctr l D cI y cc nL none rm av w0 res post w mc ms := by
  intro sz
  refine Met.ofW (cc := cc) (maxL := nL) (ret := none) hy rfl ?_
  intro p e s m args below meth c s₁ B hml hv
  obtain ⟨rfl, hsz, hP, hK, hD0⟩ := hv
  subst hsz
  have hts := atoms_spec (ws := Cond.code y cc nL none :: TB) B.pre
  have hown : s.vm.findClass y.cls = some m.cls := findClass_of_methodNamed B.named
  have hin := (name_of_methodNamed B.named B.method).1
  have hD := hD0.self (sz := s.heap.size)
  have hl := lv_entry av (n := nL) hn
  have hlocks := B.notSynchronized
  rw [lg_entry_eq]
  refine body (p, l, e, _, s, m, av.toArray, below, meth, c, _, va_A w0 s.heap.size) ⟨B.exec, B.bytes, hml, hown, fun w h => hts w (List.mem_cons_of_mem _ h), hK, fun q h => Or.inr h, rfl, rfl⟩ (fun h => hin.trans h) ?_ s.heap [] _ hP hD va_S.rf (by rw [hml]; exact hl)
  intro u pc lv hres hpost hdg H locs ls hP hD hS hl
  exact W.vret B.exec B.bytes B.returns (fun t ht hW => ⟨⟨u, by rw [hres], hpost, by rw [ht]; exact hP, va_K.moved hW.alike hK, hD⟩, hS.F ht⟩) hS.2.2 hdg
end CM
theorem xg_core {l : Launch} {D : va_G} {cI : ClassId} {p : Program} {e : Env} {R : Room} {s : State} {m : MethodId} {args : Array Value} {below : List Frame} {meth : Method} {c : Code} {Q : State → Prop} {A : Nat → Prop} {k n k' n' pc mc ms : Nat} {ws w0 wr : va_W} {lv : List (Nat × Value)} {st rest : List Value} {S : Type} {res : S → Option Value} {post : S → Prop} {w ws' : S → va_W} {st' : S → List Value} {H : Heap} {locs : List Loc} {ls : Array Slot}
    (isC isR is : List Nat) (hP : va_P D vwCl ws H) (hD : va_D A ws) (hS : va_S A s.heap H locs) (hl : lv_has ls c.maxLocals lv) (hA : ∀ q, s.heap.size ≤ q → A q)
    (hC : isC.map (fun i => ws[i]?) = w0.map some) (hRr : isR.map (fun i => ws[i]?) = wr.map some) (hn : va_nd isR = true) (hdis : ∀ i ∈ isR, i ∉ isC) (hnd : va_nd is = true)
    (h1 : ∀ u, is.filterMap (fun i => (wr ++ w u)[i]?) = ws' u) (h2 : ∀ u, is.map (fun i => (wr ++ w u)[i]?) = (ws' u).map some) (hst' : ∀ u, (res u).toList ++ rest = st' u) (hk' : k + mc = k') (hn' : n + ms = n')
    (run : va_Run p l e R s m args below meth c H locs k n mc ms (F0 m pc ls st) rest (fun st oc t => (∃ u : S, oc = .returned (res u) ∧ post u ∧ va_P D vwCl (w u) t.heap ∧ va_K D vwCl [(cI, .int)] t ∧ va_D (va_A w0 H.size) (w u)) ∧ va_F (va_A w0 H.size) st t) (va_A w0 H.size))
    (kk : ∀ u, post u → GG D (p, l, e, R, s, m, args, below, meth, c, Q, A) k' n' (pc + 3) (ws' u) lv (st' u)) : W p l e R s m args below meth c H locs k n Q (F0 m pc ls st) := by
  subst hk'; subst hn'
  have hF := va_free (wc := w0) hD hS hA isC hC
  intro T hT X
  obtain ⟨v, st₀, t, T', L, h0, X', hL, e1, e2, ⟨⟨u, hv, hp, hP1, hK1, hD1⟩, hz, hk⟩, stp⟩ := run T hT X
  cases hv
  rw [h0] at hz hk
  obtain ⟨hP2, hD2⟩ := va_join (H1 := T'.heap) hP hD isC isR hC hRr hn hdis (fun q a1 a2 => by rw [e1]; exact hk q a1 a2) hF (by rw [e1]; exact hP1) hD1
  have hS2 : va_S A s.heap T'.heap (locs ++ L) := ⟨Nat.le_trans hS.1 (by rw [e1]; exact hz), fun q a1 a2 => by
      rw [e1, hk q (Nat.lt_of_lt_of_le a1 hS.1) (fun z => a2 (hF q z))]; exact hS.2.1 q a1 a2, fun q hq => by
      rcases List.mem_append.mp hq with h | h
      · exact hS.2.2 q h
      · exact hF _ (hL q h)⟩
  obtain ⟨t2, a1, b1⟩ := kk u hp T'.heap (locs ++ L) ls (hP2.sub is (h1 u)) (hD2.sub is hnd (h2 u)) hS2 hl T' rfl X'
  rw [← hst' u] at a1
  exact ⟨t2, stp t2 a1, b1⟩
theorem xg_good {y : MethodName} {cc : ByteArray} {nL : Nat} {ret : Option FieldType} (h : Cond.code y cc nL ret ∈ TB) : GoodIn TB (Cond.code y cc nL ret :: TB) := by
  intro w hw
  rcases List.mem_cons.mp hw with rfl | h2
  · exact tb_good _ h
  · exact tb_good _ h2
theorem xg_blind {av : List Value} {D : va_G} {cI : ClassId} {w0 : va_W} {sz : Nat} : FrameBlind (va_Pc av (fun U => U.heap.size = sz ∧ va_P D vwCl w0 U.heap ∧ va_K D vwCl [(cI, .int)] U ∧ va_D (fun _ => True) w0)) :=
  fun a U g mk q => by obtain ⟨q0, q1, qP, qK, qD⟩ := q; exact ⟨q0, q1, qP, va_K.moved (u := U) (U := U.calling g mk a) (Vm.Alike.refl U.vm) qK, qD⟩
section RU
variable {l : Launch} {D : va_G} {cI : ClassId} {X : xg_X} {cc : ByteArray} {nL : Nat} {own : String} {rm : Room} {k n pc : Nat} {ws : va_W} {lv lv' : List (Nat × Value)} {rest : List Value}
theorem xg_iconst (hX : OK l D cI X cc nL own rm) {a : Int} (v : Int32) (hdg : decode cc pc = .ok (.iconst a, 1)) (hv : Int32.ofInt a = v) (kk : GG D X k n (pc + 1) ws lv (.int v :: rest)) : GG D X k n pc ws lv (rest) := by
  obtain ⟨p, l', e, R, s, m, args, below, meth, c, Q, A⟩ := X
  obtain ⟨hx, hb, hml, hown, hts, hK, hA, hR, hl0⟩ := hX
  intro H locs ls hP hD hS hl
  exact lv_iconst hx hb hdg hv (kk H locs ls hP hD hS hl)
theorem xg_bipush (hX : OK l D cI X cc nL own rm) {a : Int} (v : Int32) (hdg : decode cc pc = .ok (.bipush a, 2)) (hv : (Int8.ofInt a).toInt32 = v) (kk : GG D X k n (pc + 2) ws lv (.int v :: rest)) : GG D X k n pc ws lv (rest) := by
  obtain ⟨p, l', e, R, s, m, args, below, meth, c, Q, A⟩ := X
  obtain ⟨hx, hb, hml, hown, hts, hK, hA, hR, hl0⟩ := hX
  intro H locs ls hP hD hS hl
  exact lv_bipush hx hb hdg hv (kk H locs ls hP hD hS hl)
theorem xg_sipush (hX : OK l D cI X cc nL own rm) {a : Int} (v : Int32) (hdg : decode cc pc = .ok (.sipush a, 3)) (hv : (Int16.ofInt a).toInt32 = v) (kk : GG D X k n (pc + 3) ws lv (.int v :: rest)) : GG D X k n pc ws lv (rest) := by
  obtain ⟨p, l', e, R, s, m, args, below, meth, c, Q, A⟩ := X
  obtain ⟨hx, hb, hml, hown, hts, hK, hA, hR, hl0⟩ := hX
  intro H locs ls hP hD hS hl
  exact lv_sipush hx hb hdg hv (kk H locs ls hP hD hS hl)
theorem xg_lconst (hX : OK l D cI X cc nL own rm) {a : Fin 2} (v : Int64) (hdg : decode cc pc = .ok (.lconst a, 1)) (hv : Int64.ofNat (a : Nat) = v) (kk : GG D X k n (pc + 1) ws lv (.long v :: rest)) : GG D X k n pc ws lv (rest) := by
  obtain ⟨p, l', e, R, s, m, args, below, meth, c, Q, A⟩ := X
  obtain ⟨hx, hb, hml, hown, hts, hK, hA, hR, hl0⟩ := hX
  intro H locs ls hP hD hS hl
  exact lv_lconst hx hb hdg hv (kk H locs ls hP hD hS hl)
theorem xg_iload_n (hX : OK l D cI X cc nL own rm) {a : Fin 4} {i : Nat} {x : Int32} (j : Nat) (hdg : decode cc pc = .ok (.iload_n a, 1)) (hi : (a : Nat) = i) (hj : lv[j]? = some (i, .int x)) (kk : GG D X k n (pc + 1) ws lv (.int x :: rest)) : GG D X k n pc ws lv (rest) := by
  obtain ⟨p, l', e, R, s, m, args, below, meth, c, Q, A⟩ := X
  obtain ⟨hx, hb, hml, hown, hts, hK, hA, hR, hl0⟩ := hX
  intro H locs ls hP hD hS hl
  exact lv_iload_n hx hb hdg hi (lv_at hl j hj) (kk H locs ls hP hD hS hl)
theorem xg_iload (hX : OK l D cI X cc nL own rm) {i : Nat} {x : Int32} (j : Nat) (hdg : decode cc pc = .ok (.iload i, 2)) (hj : lv[j]? = some (i, .int x)) (kk : GG D X k n (pc + 2) ws lv (.int x :: rest)) : GG D X k n pc ws lv (rest) := by
  obtain ⟨p, l', e, R, s, m, args, below, meth, c, Q, A⟩ := X
  obtain ⟨hx, hb, hml, hown, hts, hK, hA, hR, hl0⟩ := hX
  intro H locs ls hP hD hS hl
  exact lv_iload hx hb hdg (lv_at hl j hj) (kk H locs ls hP hD hS hl)
theorem xg_istore_n (hX : OK l D cI X cc nL own rm) {a : Fin 4} {i : Nat} {x : Int32} (hdg : decode cc pc = .ok (.istore_n a, 1)) (hi : (a : Nat) = i) (hn : i < nL) (hl' : (i, Value.int x) :: lv.filter (fun q => !(q.1 == i) && !(q.1 + 1 == i && q.2.category == 2)) = lv') (kk : GG D X k n (pc + 1) ws lv' rest) : GG D X k n pc ws lv (.int x :: rest) := by
  obtain ⟨p, l', e, R, s, m, args, below, meth, c, Q, A⟩ := X
  obtain ⟨hx, hb, hml, hown, hts, hK, hA, hR, hl0⟩ := hX
  intro H locs ls hP hD hS hl
  exact lv_istore_n hx hb hdg hi hl (by rw [hml]; exact hn) hl' (fun ls hl => kk H locs ls hP hD hS hl)
theorem xg_istore (hX : OK l D cI X cc nL own rm) {i : Nat} {x : Int32} (hdg : decode cc pc = .ok (.istore i, 2)) (hn : i < nL) (hl' : (i, Value.int x) :: lv.filter (fun q => !(q.1 == i) && !(q.1 + 1 == i && q.2.category == 2)) = lv') (kk : GG D X k n (pc + 2) ws lv' rest) : GG D X k n pc ws lv (.int x :: rest) := by
  obtain ⟨p, l', e, R, s, m, args, below, meth, c, Q, A⟩ := X
  obtain ⟨hx, hb, hml, hown, hts, hK, hA, hR, hl0⟩ := hX
  intro H locs ls hP hD hS hl
  exact lv_istore hx hb hdg hl (by rw [hml]; exact hn) hl' (fun ls hl => kk H locs ls hP hD hS hl)
theorem xg_lload_n (hX : OK l D cI X cc nL own rm) {a : Fin 4} {i : Nat} {x : Int64} (j : Nat) (hdg : decode cc pc = .ok (.lload_n a, 1)) (hi : (a : Nat) = i) (hj : lv[j]? = some (i, .long x)) (kk : GG D X k n (pc + 1) ws lv (.long x :: rest)) : GG D X k n pc ws lv (rest) := by
  obtain ⟨p, l', e, R, s, m, args, below, meth, c, Q, A⟩ := X
  obtain ⟨hx, hb, hml, hown, hts, hK, hA, hR, hl0⟩ := hX
  intro H locs ls hP hD hS hl
  exact lv_lload_n hx hb hdg hi (lv_at hl j hj) (kk H locs ls hP hD hS hl)
theorem xg_lload (hX : OK l D cI X cc nL own rm) {i : Nat} {x : Int64} (j : Nat) (hdg : decode cc pc = .ok (.lload i, 2)) (hj : lv[j]? = some (i, .long x)) (kk : GG D X k n (pc + 2) ws lv (.long x :: rest)) : GG D X k n pc ws lv (rest) := by
  obtain ⟨p, l', e, R, s, m, args, below, meth, c, Q, A⟩ := X
  obtain ⟨hx, hb, hml, hown, hts, hK, hA, hR, hl0⟩ := hX
  intro H locs ls hP hD hS hl
  exact lv_lload hx hb hdg (lv_at hl j hj) (kk H locs ls hP hD hS hl)
theorem xg_lstore_n (hX : OK l D cI X cc nL own rm) {a : Fin 4} {i : Nat} {x : Int64} (hdg : decode cc pc = .ok (.lstore_n a, 1)) (hi : (a : Nat) = i) (hn : i + 1 < nL) (hl' : (i, Value.long x) :: lv.filter (fun q => !(q.1 == i) && (!(q.1 == i + 1) && !(q.1 + 1 == i && q.2.category == 2))) = lv') (kk : GG D X k n (pc + 1) ws lv' rest) : GG D X k n pc ws lv (.long x :: rest) := by
  obtain ⟨p, l', e, R, s, m, args, below, meth, c, Q, A⟩ := X
  obtain ⟨hx, hb, hml, hown, hts, hK, hA, hR, hl0⟩ := hX
  intro H locs ls hP hD hS hl
  exact lv_lstore_n hx hb hdg hi hl (by rw [hml]; exact hn) hl' (fun ls hl => kk H locs ls hP hD hS hl)
theorem xg_lstore (hX : OK l D cI X cc nL own rm) {i : Nat} {x : Int64} (hdg : decode cc pc = .ok (.lstore i, 2)) (hn : i + 1 < nL) (hl' : (i, Value.long x) :: lv.filter (fun q => !(q.1 == i) && (!(q.1 == i + 1) && !(q.1 + 1 == i && q.2.category == 2))) = lv') (kk : GG D X k n (pc + 2) ws lv' rest) : GG D X k n pc ws lv (.long x :: rest) := by
  obtain ⟨p, l', e, R, s, m, args, below, meth, c, Q, A⟩ := X
  obtain ⟨hx, hb, hml, hown, hts, hK, hA, hR, hl0⟩ := hX
  intro H locs ls hP hD hS hl
  exact lv_lstore hx hb hdg hl (by rw [hml]; exact hn) hl' (fun ls hl => kk H locs ls hP hD hS hl)
theorem xg_aload_n (hX : OK l D cI X cc nL own rm) {a : Fin 4} {i : Nat} {x : Nat} (j : Nat) (hdg : decode cc pc = .ok (.aload_n a, 1)) (hi : (a : Nat) = i) (hj : lv[j]? = some (i, .ref x)) (kk : GG D X k n (pc + 1) ws lv (.ref x :: rest)) : GG D X k n pc ws lv (rest) := by
  obtain ⟨p, l', e, R, s, m, args, below, meth, c, Q, A⟩ := X
  obtain ⟨hx, hb, hml, hown, hts, hK, hA, hR, hl0⟩ := hX
  intro H locs ls hP hD hS hl
  exact lv_aload_n hx hb hdg hi (lv_at hl j hj) (kk H locs ls hP hD hS hl)
theorem xg_aload (hX : OK l D cI X cc nL own rm) {i : Nat} {x : Nat} (j : Nat) (hdg : decode cc pc = .ok (.aload i, 2)) (hj : lv[j]? = some (i, .ref x)) (kk : GG D X k n (pc + 2) ws lv (.ref x :: rest)) : GG D X k n pc ws lv (rest) := by
  obtain ⟨p, l', e, R, s, m, args, below, meth, c, Q, A⟩ := X
  obtain ⟨hx, hb, hml, hown, hts, hK, hA, hR, hl0⟩ := hX
  intro H locs ls hP hD hS hl
  exact lv_aload hx hb hdg (lv_at hl j hj) (kk H locs ls hP hD hS hl)
theorem xg_astore_n (hX : OK l D cI X cc nL own rm) {a : Fin 4} {i : Nat} {x : Nat} (hdg : decode cc pc = .ok (.astore_n a, 1)) (hi : (a : Nat) = i) (hn : i < nL) (hl' : (i, Value.ref x) :: lv.filter (fun q => !(q.1 == i) && !(q.1 + 1 == i && q.2.category == 2)) = lv') (kk : GG D X k n (pc + 1) ws lv' rest) : GG D X k n pc ws lv (.ref x :: rest) := by
  obtain ⟨p, l', e, R, s, m, args, below, meth, c, Q, A⟩ := X
  obtain ⟨hx, hb, hml, hown, hts, hK, hA, hR, hl0⟩ := hX
  intro H locs ls hP hD hS hl
  exact lv_astore_n hx hb hdg hi hl (by rw [hml]; exact hn) hl' (fun ls hl => kk H locs ls hP hD hS hl)
theorem xg_astore (hX : OK l D cI X cc nL own rm) {i : Nat} {x : Nat} (hdg : decode cc pc = .ok (.astore i, 2)) (hn : i < nL) (hl' : (i, Value.ref x) :: lv.filter (fun q => !(q.1 == i) && !(q.1 + 1 == i && q.2.category == 2)) = lv') (kk : GG D X k n (pc + 2) ws lv' rest) : GG D X k n pc ws lv (.ref x :: rest) := by
  obtain ⟨p, l', e, R, s, m, args, below, meth, c, Q, A⟩ := X
  obtain ⟨hx, hb, hml, hown, hts, hK, hA, hR, hl0⟩ := hX
  intro H locs ls hP hD hS hl
  exact lv_astore hx hb hdg hl (by rw [hml]; exact hn) hl' (fun ls hl => kk H locs ls hP hD hS hl)
theorem xg_iinc (hX : OK l D cI X cc nL own rm) {i : Nat} {a : Int} {x : Int32} (v : Int32) (j : Nat) (hdg : decode cc pc = .ok (.iinc i a, 3)) (hj : lv[j]? = some (i, .int x)) (hv : x + Int32.ofInt a = v) (hn : i < nL) (hl' : (i, Value.int v) :: lv.filter (fun q => !(q.1 == i) && !(q.1 + 1 == i && q.2.category == 2)) = lv') (kk : GG D X k n (pc + 3) ws lv' rest) : GG D X k n pc ws lv rest := by
  obtain ⟨p, l', e, R, s, m, args, below, meth, c, Q, A⟩ := X
  obtain ⟨hx, hb, hml, hown, hts, hK, hA, hR, hl0⟩ := hX
  intro H locs ls hP hD hS hl
  exact lv_iinc hx hb hdg hl hj hv (by rw [hml]; exact hn) hl' (fun ls hl => kk H locs ls hP hD hS hl)
theorem xg_iadd (hX : OK l D cI X cc nL own rm) {x y : Int32} (hdg : decode cc pc = .ok (.iadd, 1)) (kk : GG D X k n (pc + 1) ws lv (.int (x + y) :: rest)) : GG D X k n pc ws lv (.int y :: .int x :: rest) := by
  obtain ⟨p, l', e, R, s, m, args, below, meth, c, Q, A⟩ := X
  obtain ⟨hx, hb, hml, hown, hts, hK, hA, hR, hl0⟩ := hX
  intro H locs ls hP hD hS hl
  exact lv_iadd hx hb hdg (kk H locs ls hP hD hS hl)
theorem xg_isub (hX : OK l D cI X cc nL own rm) {x y : Int32} (hdg : decode cc pc = .ok (.isub, 1)) (kk : GG D X k n (pc + 1) ws lv (.int (x - y) :: rest)) : GG D X k n pc ws lv (.int y :: .int x :: rest) := by
  obtain ⟨p, l', e, R, s, m, args, below, meth, c, Q, A⟩ := X
  obtain ⟨hx, hb, hml, hown, hts, hK, hA, hR, hl0⟩ := hX
  intro H locs ls hP hD hS hl
  exact lv_isub hx hb hdg (kk H locs ls hP hD hS hl)
theorem xg_imul (hX : OK l D cI X cc nL own rm) {x y : Int32} (hdg : decode cc pc = .ok (.imul, 1)) (kk : GG D X k n (pc + 1) ws lv (.int (x * y) :: rest)) : GG D X k n pc ws lv (.int y :: .int x :: rest) := by
  obtain ⟨p, l', e, R, s, m, args, below, meth, c, Q, A⟩ := X
  obtain ⟨hx, hb, hml, hown, hts, hK, hA, hR, hl0⟩ := hX
  intro H locs ls hP hD hS hl
  exact lv_imul hx hb hdg (kk H locs ls hP hD hS hl)
theorem xg_iand (hX : OK l D cI X cc nL own rm) {x y : Int32} (hdg : decode cc pc = .ok (.iand, 1)) (kk : GG D X k n (pc + 1) ws lv (.int (x &&& y) :: rest)) : GG D X k n pc ws lv (.int y :: .int x :: rest) := by
  obtain ⟨p, l', e, R, s, m, args, below, meth, c, Q, A⟩ := X
  obtain ⟨hx, hb, hml, hown, hts, hK, hA, hR, hl0⟩ := hX
  intro H locs ls hP hD hS hl
  exact lv_iand hx hb hdg (kk H locs ls hP hD hS hl)
theorem xg_ior (hX : OK l D cI X cc nL own rm) {x y : Int32} (hdg : decode cc pc = .ok (.ior, 1)) (kk : GG D X k n (pc + 1) ws lv (.int (x ||| y) :: rest)) : GG D X k n pc ws lv (.int y :: .int x :: rest) := by
  obtain ⟨p, l', e, R, s, m, args, below, meth, c, Q, A⟩ := X
  obtain ⟨hx, hb, hml, hown, hts, hK, hA, hR, hl0⟩ := hX
  intro H locs ls hP hD hS hl
  exact lv_ior hx hb hdg (kk H locs ls hP hD hS hl)
theorem xg_ishr (hX : OK l D cI X cc nL own rm) {x y : Int32} (hdg : decode cc pc = .ok (.ishr, 1)) (kk : GG D X k n (pc + 1) ws lv (.int (x >>> (y &&& 31)) :: rest)) : GG D X k n pc ws lv (.int y :: .int x :: rest) := by
  obtain ⟨p, l', e, R, s, m, args, below, meth, c, Q, A⟩ := X
  obtain ⟨hx, hb, hml, hown, hts, hK, hA, hR, hl0⟩ := hX
  intro H locs ls hP hD hS hl
  exact lv_ishr hx hb hdg (kk H locs ls hP hD hS hl)
theorem xg_idiv (hX : OK l D cI X cc nL own rm) {x y : Int32} (hdg : decode cc pc = .ok (.idiv, 1)) (hne : ¬ y = 0) (kk : GG D X k n (pc + 1) ws lv (.int (x / y) :: rest)) : GG D X k n pc ws lv (.int y :: .int x :: rest) := by
  obtain ⟨p, l', e, R, s, m, args, below, meth, c, Q, A⟩ := X
  obtain ⟨hx, hb, hml, hown, hts, hK, hA, hR, hl0⟩ := hX
  intro H locs ls hP hD hS hl
  exact lv_idiv hx hb hdg hne (kk H locs ls hP hD hS hl)
theorem xg_irem (hX : OK l D cI X cc nL own rm) {x y : Int32} (hdg : decode cc pc = .ok (.irem, 1)) (hne : ¬ y = 0) (kk : GG D X k n (pc + 1) ws lv (.int (x - x / y * y) :: rest)) : GG D X k n pc ws lv (.int y :: .int x :: rest) := by
  obtain ⟨p, l', e, R, s, m, args, below, meth, c, Q, A⟩ := X
  obtain ⟨hx, hb, hml, hown, hts, hK, hA, hR, hl0⟩ := hX
  intro H locs ls hP hD hS hl
  exact lv_irem hx hb hdg hne (kk H locs ls hP hD hS hl)
theorem xg_ineg (hX : OK l D cI X cc nL own rm) {x : Int32} (hdg : decode cc pc = .ok (.ineg, 1)) (kk : GG D X k n (pc + 1) ws lv (.int (-x) :: rest)) : GG D X k n pc ws lv (.int x :: rest) := by
  obtain ⟨p, l', e, R, s, m, args, below, meth, c, Q, A⟩ := X
  obtain ⟨hx, hb, hml, hown, hts, hK, hA, hR, hl0⟩ := hX
  intro H locs ls hP hD hS hl
  exact lv_ineg hx hb hdg (kk H locs ls hP hD hS hl)
theorem xg_ladd (hX : OK l D cI X cc nL own rm) {x y : Int64} (hdg : decode cc pc = .ok (.ladd, 1)) (kk : GG D X k n (pc + 1) ws lv (.long (x + y) :: rest)) : GG D X k n pc ws lv (.long y :: .long x :: rest) := by
  obtain ⟨p, l', e, R, s, m, args, below, meth, c, Q, A⟩ := X
  obtain ⟨hx, hb, hml, hown, hts, hK, hA, hR, hl0⟩ := hX
  intro H locs ls hP hD hS hl
  exact lv_ladd hx hb hdg (kk H locs ls hP hD hS hl)
theorem xg_lmul (hX : OK l D cI X cc nL own rm) {x y : Int64} (hdg : decode cc pc = .ok (.lmul, 1)) (kk : GG D X k n (pc + 1) ws lv (.long (x * y) :: rest)) : GG D X k n pc ws lv (.long y :: .long x :: rest) := by
  obtain ⟨p, l', e, R, s, m, args, below, meth, c, Q, A⟩ := X
  obtain ⟨hx, hb, hml, hown, hts, hK, hA, hR, hl0⟩ := hX
  intro H locs ls hP hD hS hl
  exact lv_lmul hx hb hdg (kk H locs ls hP hD hS hl)
theorem xg_ldiv (hX : OK l D cI X cc nL own rm) {x y : Int64} (hdg : decode cc pc = .ok (.ldiv, 1)) (hne : ¬ y = 0) (kk : GG D X k n (pc + 1) ws lv (.long (x / y) :: rest)) : GG D X k n pc ws lv (.long y :: .long x :: rest) := by
  obtain ⟨p, l', e, R, s, m, args, below, meth, c, Q, A⟩ := X
  obtain ⟨hx, hb, hml, hown, hts, hK, hA, hR, hl0⟩ := hX
  intro H locs ls hP hD hS hl
  exact lv_ldiv hx hb hdg hne (kk H locs ls hP hD hS hl)
theorem xg_lrem (hX : OK l D cI X cc nL own rm) {x y : Int64} (hdg : decode cc pc = .ok (.lrem, 1)) (hne : ¬ y = 0) (kk : GG D X k n (pc + 1) ws lv (.long (x - x / y * y) :: rest)) : GG D X k n pc ws lv (.long y :: .long x :: rest) := by
  obtain ⟨p, l', e, R, s, m, args, below, meth, c, Q, A⟩ := X
  obtain ⟨hx, hb, hml, hown, hts, hK, hA, hR, hl0⟩ := hX
  intro H locs ls hP hD hS hl
  exact lv_lrem hx hb hdg hne (kk H locs ls hP hD hS hl)
theorem xg_lneg (hX : OK l D cI X cc nL own rm) {x : Int64} (hdg : decode cc pc = .ok (.lneg, 1)) (kk : GG D X k n (pc + 1) ws lv (.long (-x) :: rest)) : GG D X k n pc ws lv (.long x :: rest) := by
  obtain ⟨p, l', e, R, s, m, args, below, meth, c, Q, A⟩ := X
  obtain ⟨hx, hb, hml, hown, hts, hK, hA, hR, hl0⟩ := hX
  intro H locs ls hP hD hS hl
  exact lv_lneg hx hb hdg (kk H locs ls hP hD hS hl)
theorem xg_i2l (hX : OK l D cI X cc nL own rm) {x : Int32} (v : Int64) (hdg : decode cc pc = .ok (.i2l, 1)) (hv : x.toInt64 = v) (kk : GG D X k n (pc + 1) ws lv (.long v :: rest)) : GG D X k n pc ws lv (.int x :: rest) := by
  obtain ⟨p, l', e, R, s, m, args, below, meth, c, Q, A⟩ := X
  obtain ⟨hx, hb, hml, hown, hts, hK, hA, hR, hl0⟩ := hX
  intro H locs ls hP hD hS hl
  exact lv_i2l hx hb hdg hv (kk H locs ls hP hD hS hl)
theorem xg_l2i (hX : OK l D cI X cc nL own rm) {x : Int64} (v : Int32) (hdg : decode cc pc = .ok (.l2i, 1)) (hv : x.toInt32 = v) (kk : GG D X k n (pc + 1) ws lv (.int v :: rest)) : GG D X k n pc ws lv (.long x :: rest) := by
  obtain ⟨p, l', e, R, s, m, args, below, meth, c, Q, A⟩ := X
  obtain ⟨hx, hb, hml, hown, hts, hK, hA, hR, hl0⟩ := hX
  intro H locs ls hP hD hS hl
  exact lv_l2i hx hb hdg hv (kk H locs ls hP hD hS hl)
theorem xg_lcmp (hX : OK l D cI X cc nL own rm) {x y : Int64} (hdg : decode cc pc = .ok (.lcmp, 1)) (kk : GG D X k n (pc + 1) ws lv (.int (lg_cmp x y) :: rest)) : GG D X k n pc ws lv (.long y :: .long x :: rest) := by
  obtain ⟨p, l', e, R, s, m, args, below, meth, c, Q, A⟩ := X
  obtain ⟨hx, hb, hml, hown, hts, hK, hA, hR, hl0⟩ := hX
  intro H locs ls hP hD hS hl
  exact W.lcmp hx hb hdg (kk H locs ls hP hD hS hl)
theorem xg_dup (hX : OK l D cI X cc nL own rm) {va : Value} (hdg : decode cc pc = .ok (.dup, 1)) (hva : va.category = 1) (kk : GG D X k n (pc + 1) ws lv (va :: va :: rest)) : GG D X k n pc ws lv (va :: rest) := by
  obtain ⟨p, l', e, R, s, m, args, below, meth, c, Q, A⟩ := X
  obtain ⟨hx, hb, hml, hown, hts, hK, hA, hR, hl0⟩ := hX
  intro H locs ls hP hD hS hl
  exact lv_dup hx hb hdg hva (kk H locs ls hP hD hS hl)
theorem xg_pop (hX : OK l D cI X cc nL own rm) {va : Value} (hdg : decode cc pc = .ok (.pop, 1)) (hva : va.category = 1) (kk : GG D X k n (pc + 1) ws lv (rest)) : GG D X k n pc ws lv (va :: rest) := by
  obtain ⟨p, l', e, R, s, m, args, below, meth, c, Q, A⟩ := X
  obtain ⟨hx, hb, hml, hown, hts, hK, hA, hR, hl0⟩ := hX
  intro H locs ls hP hD hS hl
  exact lv_pop hx hb hdg hva (kk H locs ls hP hD hS hl)
theorem xg_dup2 (hX : OK l D cI X cc nL own rm) {va vb : Value} (hdg : decode cc pc = .ok (.dup2, 1)) (hva : va.category = 1) (hvb : vb.category = 1) (kk : GG D X k n (pc + 1) ws lv (va :: vb :: va :: vb :: rest)) : GG D X k n pc ws lv (va :: vb :: rest) := by
  obtain ⟨p, l', e, R, s, m, args, below, meth, c, Q, A⟩ := X
  obtain ⟨hx, hb, hml, hown, hts, hK, hA, hR, hl0⟩ := hX
  intro H locs ls hP hD hS hl
  exact lv_dup2_11 hx hb hdg hva hvb (kk H locs ls hP hD hS hl)
theorem xg_goto (hX : OK l D cI X cc nL own rm) {off : Int} (tgt : Nat) (hdg : decode cc pc = .ok (.goto off, 3)) (ht : (pc : Int) + off = (tgt : Int)) (kk : GG D X k n tgt ws lv rest) : GG D X k n pc ws lv rest := by
  obtain ⟨p, l', e, R, s, m, args, below, meth, c, Q, A⟩ := X
  obtain ⟨hx, hb, hml, hown, hts, hK, hA, hR, hl0⟩ := hX
  intro H locs ls hP hD hS hl
  exact lv_goto hx hb hdg ht (kk H locs ls hP hD hS hl)
theorem xg_ldc2 (hX : OK l D cI X cc nL own rm) (v : Int64) {index : Nat} (hw : Cond.constantLong own index v ∈ TB) (hdg : decode cc pc = .ok (.ldc2_w index, 3)) (kk : GG D X k n (pc + 3) ws lv (.long v :: rest)) : GG D X k n pc ws lv rest := by
  obtain ⟨p, l', e, R, s, m, args, below, meth, c, Q, A⟩ := X
  obtain ⟨hx, hb, hml, hown, hts, hK, hA, hR, hl0⟩ := hX
  intro H locs ls hP hD hS hl
  exact W.ldc2 hx hb hown (hts _ hw) rfl hdg (kk H locs ls hP hD hS hl)
theorem xg_if_eq (hX : OK l D cI X cc nL own rm) {x : Int32} {off : Int} (tgt : Nat) (hdg : decode cc pc = .ok (.ifCond .eq off, 3)) (ht : (pc : Int) + off = (tgt : Int)) (kt : x = 0 → GG D X k n tgt ws lv rest) (kf : ¬ (x = 0) → GG D X k n (pc + 3) ws lv rest) : GG D X k n pc ws lv (.int x :: rest) := by
  obtain ⟨p, l', e, R, s, m, args, below, meth, c, Q, A⟩ := X
  obtain ⟨hx, hb, hml, hown, hts, hK, hA, hR, hl0⟩ := hX
  intro H locs ls hP hD hS hl
  exact lv_if_eq hx hb hdg ht (fun h => kt h H locs ls hP hD hS hl) (fun h => kf h H locs ls hP hD hS hl)
theorem xg_icmp_eq (hX : OK l D cI X cc nL own rm) {x y : Int32} {off : Int} (tgt : Nat) (hdg : decode cc pc = .ok (.if_icmp .eq off, 3)) (ht : (pc : Int) + off = (tgt : Int)) (kt : x = y → GG D X k n tgt ws lv rest) (kf : ¬ (x = y) → GG D X k n (pc + 3) ws lv rest) : GG D X k n pc ws lv (.int y :: .int x :: rest) := by
  obtain ⟨p, l', e, R, s, m, args, below, meth, c, Q, A⟩ := X
  obtain ⟨hx, hb, hml, hown, hts, hK, hA, hR, hl0⟩ := hX
  intro H locs ls hP hD hS hl
  exact lv_icmp_eq hx hb hdg ht (fun h => kt h H locs ls hP hD hS hl) (fun h => kf h H locs ls hP hD hS hl)
theorem xg_if_ne (hX : OK l D cI X cc nL own rm) {x : Int32} {off : Int} (tgt : Nat) (hdg : decode cc pc = .ok (.ifCond .ne off, 3)) (ht : (pc : Int) + off = (tgt : Int)) (kt : ¬ x = 0 → GG D X k n tgt ws lv rest) (kf : x = 0 → GG D X k n (pc + 3) ws lv rest) : GG D X k n pc ws lv (.int x :: rest) := by
  obtain ⟨p, l', e, R, s, m, args, below, meth, c, Q, A⟩ := X
  obtain ⟨hx, hb, hml, hown, hts, hK, hA, hR, hl0⟩ := hX
  intro H locs ls hP hD hS hl
  exact lv_if_ne hx hb hdg ht (fun h => kt h H locs ls hP hD hS hl) (fun h => kf h H locs ls hP hD hS hl)
theorem xg_icmp_ne (hX : OK l D cI X cc nL own rm) {x y : Int32} {off : Int} (tgt : Nat) (hdg : decode cc pc = .ok (.if_icmp .ne off, 3)) (ht : (pc : Int) + off = (tgt : Int)) (kt : ¬ x = y → GG D X k n tgt ws lv rest) (kf : x = y → GG D X k n (pc + 3) ws lv rest) : GG D X k n pc ws lv (.int y :: .int x :: rest) := by
  obtain ⟨p, l', e, R, s, m, args, below, meth, c, Q, A⟩ := X
  obtain ⟨hx, hb, hml, hown, hts, hK, hA, hR, hl0⟩ := hX
  intro H locs ls hP hD hS hl
  exact lv_icmp_ne hx hb hdg ht (fun h => kt h H locs ls hP hD hS hl) (fun h => kf h H locs ls hP hD hS hl)
theorem xg_if_lt (hX : OK l D cI X cc nL own rm) {x : Int32} {off : Int} (tgt : Nat) (hdg : decode cc pc = .ok (.ifCond .lt off, 3)) (ht : (pc : Int) + off = (tgt : Int)) (kt : x < 0 → GG D X k n tgt ws lv rest) (kf : ¬ (x < 0) → GG D X k n (pc + 3) ws lv rest) : GG D X k n pc ws lv (.int x :: rest) := by
  obtain ⟨p, l', e, R, s, m, args, below, meth, c, Q, A⟩ := X
  obtain ⟨hx, hb, hml, hown, hts, hK, hA, hR, hl0⟩ := hX
  intro H locs ls hP hD hS hl
  exact lv_if_lt hx hb hdg ht (fun h => kt h H locs ls hP hD hS hl) (fun h => kf h H locs ls hP hD hS hl)
theorem xg_icmp_lt (hX : OK l D cI X cc nL own rm) {x y : Int32} {off : Int} (tgt : Nat) (hdg : decode cc pc = .ok (.if_icmp .lt off, 3)) (ht : (pc : Int) + off = (tgt : Int)) (kt : x < y → GG D X k n tgt ws lv rest) (kf : ¬ (x < y) → GG D X k n (pc + 3) ws lv rest) : GG D X k n pc ws lv (.int y :: .int x :: rest) := by
  obtain ⟨p, l', e, R, s, m, args, below, meth, c, Q, A⟩ := X
  obtain ⟨hx, hb, hml, hown, hts, hK, hA, hR, hl0⟩ := hX
  intro H locs ls hP hD hS hl
  exact lv_icmp_lt hx hb hdg ht (fun h => kt h H locs ls hP hD hS hl) (fun h => kf h H locs ls hP hD hS hl)
theorem xg_if_ge (hX : OK l D cI X cc nL own rm) {x : Int32} {off : Int} (tgt : Nat) (hdg : decode cc pc = .ok (.ifCond .ge off, 3)) (ht : (pc : Int) + off = (tgt : Int)) (kt : 0 ≤ x → GG D X k n tgt ws lv rest) (kf : ¬ (0 ≤ x) → GG D X k n (pc + 3) ws lv rest) : GG D X k n pc ws lv (.int x :: rest) := by
  obtain ⟨p, l', e, R, s, m, args, below, meth, c, Q, A⟩ := X
  obtain ⟨hx, hb, hml, hown, hts, hK, hA, hR, hl0⟩ := hX
  intro H locs ls hP hD hS hl
  exact lv_if_ge hx hb hdg ht (fun h => kt h H locs ls hP hD hS hl) (fun h => kf h H locs ls hP hD hS hl)
theorem xg_icmp_ge (hX : OK l D cI X cc nL own rm) {x y : Int32} {off : Int} (tgt : Nat) (hdg : decode cc pc = .ok (.if_icmp .ge off, 3)) (ht : (pc : Int) + off = (tgt : Int)) (kt : y ≤ x → GG D X k n tgt ws lv rest) (kf : ¬ (y ≤ x) → GG D X k n (pc + 3) ws lv rest) : GG D X k n pc ws lv (.int y :: .int x :: rest) := by
  obtain ⟨p, l', e, R, s, m, args, below, meth, c, Q, A⟩ := X
  obtain ⟨hx, hb, hml, hown, hts, hK, hA, hR, hl0⟩ := hX
  intro H locs ls hP hD hS hl
  exact lv_icmp_ge hx hb hdg ht (fun h => kt h H locs ls hP hD hS hl) (fun h => kf h H locs ls hP hD hS hl)
theorem xg_if_gt (hX : OK l D cI X cc nL own rm) {x : Int32} {off : Int} (tgt : Nat) (hdg : decode cc pc = .ok (.ifCond .gt off, 3)) (ht : (pc : Int) + off = (tgt : Int)) (kt : 0 < x → GG D X k n tgt ws lv rest) (kf : ¬ (0 < x) → GG D X k n (pc + 3) ws lv rest) : GG D X k n pc ws lv (.int x :: rest) := by
  obtain ⟨p, l', e, R, s, m, args, below, meth, c, Q, A⟩ := X
  obtain ⟨hx, hb, hml, hown, hts, hK, hA, hR, hl0⟩ := hX
  intro H locs ls hP hD hS hl
  exact lv_if_gt hx hb hdg ht (fun h => kt h H locs ls hP hD hS hl) (fun h => kf h H locs ls hP hD hS hl)
theorem xg_icmp_gt (hX : OK l D cI X cc nL own rm) {x y : Int32} {off : Int} (tgt : Nat) (hdg : decode cc pc = .ok (.if_icmp .gt off, 3)) (ht : (pc : Int) + off = (tgt : Int)) (kt : y < x → GG D X k n tgt ws lv rest) (kf : ¬ (y < x) → GG D X k n (pc + 3) ws lv rest) : GG D X k n pc ws lv (.int y :: .int x :: rest) := by
  obtain ⟨p, l', e, R, s, m, args, below, meth, c, Q, A⟩ := X
  obtain ⟨hx, hb, hml, hown, hts, hK, hA, hR, hl0⟩ := hX
  intro H locs ls hP hD hS hl
  exact lv_icmp_gt hx hb hdg ht (fun h => kt h H locs ls hP hD hS hl) (fun h => kf h H locs ls hP hD hS hl)
theorem xg_if_le (hX : OK l D cI X cc nL own rm) {x : Int32} {off : Int} (tgt : Nat) (hdg : decode cc pc = .ok (.ifCond .le off, 3)) (ht : (pc : Int) + off = (tgt : Int)) (kt : x ≤ 0 → GG D X k n tgt ws lv rest) (kf : ¬ (x ≤ 0) → GG D X k n (pc + 3) ws lv rest) : GG D X k n pc ws lv (.int x :: rest) := by
  obtain ⟨p, l', e, R, s, m, args, below, meth, c, Q, A⟩ := X
  obtain ⟨hx, hb, hml, hown, hts, hK, hA, hR, hl0⟩ := hX
  intro H locs ls hP hD hS hl
  exact lv_if_le hx hb hdg ht (fun h => kt h H locs ls hP hD hS hl) (fun h => kf h H locs ls hP hD hS hl)
theorem xg_icmp_le (hX : OK l D cI X cc nL own rm) {x y : Int32} {off : Int} (tgt : Nat) (hdg : decode cc pc = .ok (.if_icmp .le off, 3)) (ht : (pc : Int) + off = (tgt : Int)) (kt : x ≤ y → GG D X k n tgt ws lv rest) (kf : ¬ (x ≤ y) → GG D X k n (pc + 3) ws lv rest) : GG D X k n pc ws lv (.int y :: .int x :: rest) := by
  obtain ⟨p, l', e, R, s, m, args, below, meth, c, Q, A⟩ := X
  obtain ⟨hx, hb, hml, hown, hts, hK, hA, hR, hl0⟩ := hX
  intro H locs ls hP hD hS hl
  exact lv_icmp_le hx hb hdg ht (fun h => kt h H locs ls hP hD hS hl) (fun h => kf h H locs ls hP hD hS hl)
theorem xg_top {x : Int32} (y : Int32) (h : x = y) (kk : GG D X k n pc ws lv (.int y :: rest)) : GG D X k n pc ws lv (.int x :: rest) := by rw [h]; exact kk
theorem xg_topl {x : Int64} (y : Int64) (h : x = y) (kk : GG D X k n pc ws lv (.long y :: rest)) : GG D X k n pc ws lv (.long x :: rest) := by rw [h]; exact kk
theorem xg_wid (hX : OK l D cI X cc nL own rm) {k' n' : Nat} (h1 : k ≤ k') (h2 : n ≤ n') (kk : GG D X k' n' pc ws lv rest) : GG D X k n pc ws lv rest := by
  obtain ⟨p, l', e, R, s, m, args, below, meth, c, Q, A⟩ := X
  obtain ⟨hx, hb, hml, hown, hts, hK, hA, hR, hl0⟩ := hX
  intro H locs ls hP hD hS hl
  exact W.widen h1 h2 (kk H locs ls hP hD hS hl)
/-- the cells in another order, or fewer -/
theorem xg_pick (hX : OK l D cI X cc nL own rm) {ws' : va_W} (is : List Nat) (hn : va_nd is = true) (h1 : is.filterMap (fun i => ws[i]?) = ws') (h2 : is.map (fun i => ws[i]?) = ws'.map some) (kk : GG D X k n pc ws' lv rest) : GG D X k n pc ws lv rest := by
  obtain ⟨p, l', e, R, s, m, args, below, meth, c, Q, A⟩ := X
  obtain ⟨hx, hb, hml, hown, hts, hK, hA, hR, hl0⟩ := hX
  intro H locs ls hP hD hS hl
  exact kk H locs ls (hP.sub is h1) (hD.sub is hn h2) hS hl
theorem xg_lv (hX : OK l D cI X cc nL own rm) (is : List Nat) (h1 : lv_pick lv is = lv') (kk : GG D X k n pc ws lv' rest) : GG D X k n pc ws lv rest := by
  obtain ⟨p, l', e, R, s, m, args, below, meth, c, Q, A⟩ := X
  obtain ⟨hx, hb, hml, hown, hts, hK, hA, hR, hl0⟩ := hX
  intro H locs ls hP hD hS hl
  exact kk H locs ls hP hD hS (lv_sub hl is h1)
theorem xg_lvE (h1 : lv = lv') (kk : GG D X k n pc ws lv' rest) : GG D X k n pc ws lv rest := by rw [h1]; exact kk
theorem xg_wsE {ws' : va_W} (h1 : ws = ws') (kk : GG D X k n pc ws' lv rest) : GG D X k n pc ws lv rest := by rw [h1]; exact kk
/-- an array's contents under another name -/
theorem xg_ext (hX : OK l D cI X cc nL own rm) {ws' : va_W} (q0 : Nat) {a N : Nat} {f g : Nat → Nat} (ha : ws[q0]? = some (a, .inl (cI, N, .inl (nf f)))) (hfg : ∀ j, j < N → f j = g j) (hws : ws.set q0 (a, .inl (cI, N, .inl (nf g))) = ws') (kk : GG D X k n pc ws' lv rest) : GG D X k n pc ws lv rest := by
  obtain ⟨p, l', e, R, s, m, args, below, meth, c, Q, A⟩ := X
  obtain ⟨hx, hb, hml, hown, hts, hK, hA, hR, hl0⟩ := hX
  intro H locs ls hP hD hS hl
  subst hws
  have he : vp_cell cI (N, .inl (nf f)) = vp_cell cI (N, .inl (nf g)) := by
    rw [vp_cell_i, vp_cell_i]
    unfold arrV
    congr 1
    apply Array.ext
    · simp
    · intro i h1 h2
      simp at h1
      simp [nf, hfg i h1]
  refine kk H locs ls (hP.set hD ha ?_ (fun _ _ => rfl)) (hD.set ha) hS hl
  show H[a]? = some (vp_cell cI (N, .inl (nf g)))
  rw [← he]
  exact hP q0 _ ha
theorem xg_iald (hX : OK l D cI X cc nL own rm) (q0 : Nat) {a N : Nat} {f : Nat → Nat} (i : Nat) (ha : ws[q0]? = some (a, .inl (cI, N, .inl (nf f)))) (hi : i < N) (hN : N < 2147483648) (hdg : decode cc pc = .ok (.iaload, 1)) (kk : GG D X k n (pc + 1) ws lv (.int (nI (f i)) :: rest)) : GG D X k n pc ws lv (.int (nI i) :: .ref a :: rest) := by
  obtain ⟨p, l', e, R, s, m, args, below, meth, c, Q, A⟩ := X
  obtain ⟨hx, hb, hml, hown, hts, hK, hA, hR, hl0⟩ := hX
  intro H locs ls hP hD hS hl
  refine va_iald hx hb hK hP q0 0 ha rfl (vp_in_nI hi hN) hdg ?_
  rw [nI_clamp (show i < 2 ^ 31 by omega)]
  exact kk H locs ls hP hD hS hl
theorem xg_iast (hX : OK l D cI X cc nL own rm) {ws' : va_W} (q0 : Nat) {a N : Nat} {f : Nat → Nat} (i v : Nat) (ha : ws[q0]? = some (a, .inl (cI, N, .inl (nf f)))) (hi : i < N) (hN : N < 2147483648) (hws : ws.set q0 (a, .inl (cI, N, .inl (nf (up f i v)))) = ws') (hdg : decode cc pc = .ok (.iastore, 1)) (kk : GG D X k n (pc + 1) ws' lv rest) : GG D X k n pc ws lv (.int (nI v) :: .int (nI i) :: .ref a :: rest) := by
  obtain ⟨p, l', e, R, s, m, args, below, meth, c, Q, A⟩ := X
  obtain ⟨hx, hb, hml, hown, hts, hK, hA, hR, hl0⟩ := hX
  intro H locs ls hP hD hS hl
  subst hws
  refine va_iast hx hb hK hP hD hS q0 0 ha rfl (vp_in_nI hi hN) hdg (fun H1 locs1 hP1 hD1 hS1 => ?_)
  rw [nI_clamp (show i < 2 ^ 31 by omega), upd_nf] at hP1 hD1
  exact kk H1 locs1 ls hP1 hD1 hS1 hl
theorem xg_alen (hX : OK l D cI X cc nL own rm) (q0 : Nat) {a N : Nat} {f : Nat → Int32} (ha : ws[q0]? = some (a, .inl (cI, N, .inl f))) (hdg : decode cc pc = .ok (.arraylength, 1)) (kk : GG D X k n (pc + 1) ws lv (.int (nI N) :: rest)) : GG D X k n pc ws lv (.ref a :: rest) := by
  obtain ⟨p, l', e, R, s, m, args, below, meth, c, Q, A⟩ := X
  obtain ⟨hx, hb, hml, hown, hts, hK, hA, hR, hl0⟩ := hX
  intro H locs ls hP hD hS hl
  exact va_alen hx hb hK hP q0 0 ha rfl rfl hdg (kk H locs ls hP hD hS hl)

theorem xg_get (hX : OK l D cI X cc nL own rm) {C : String} {T : u_T} {N ci index : Nat} (hc : vwCl[ci]? = some (C, T, N)) (hin : ∀ w ∈ u_ws C T N, w ∈ TB) (q0 : Nat) {a : Nat} {fs : List Value} (he : ws[q0]? = some (a, .inr (ci, fs))) (kf : Nat) (hk : kf < N) (hlink : Cond.fieldLink own index (T kf).1 (T kf).2.1 (T kf).2.2.1 ∈ TB) {v : Value} (hv : fs[kf]? = some v) (hdg : decode cc pc = .ok (.getfield index, 3)) (kk : GG D X k n (pc + 3) ws lv (v :: rest)) : GG D X k n pc ws lv (.ref a :: rest) := by
  obtain ⟨p, l', e, R, s, m, args, below, meth, c, Q, A⟩ := X
  obtain ⟨hx, hb, hml, hown, hts, hK, hA, hR, hl0⟩ := hX
  intro H locs ls hP hD hS hl
  exact va_get hx hb hts hin hown hK hP q0 he hc kf hk (hts _ hlink) (fun _ h => h) hv hdg (kk H locs ls hP hD hS hl)
theorem xg_getN (hX : OK l D cI X cc nL own rm) {C host : String} {T : u_T} {N ci index : Nat} (hc : vwCl[ci]? = some (C, T, N)) (hin : ∀ w ∈ u_ws C T N, w ∈ TB) (q0 : Nat) {a : Nat} {fs : List Value} (he : ws[q0]? = some (a, .inr (ci, fs))) (kf : Nat) (hk : kf < N) (hlink : Cond.fieldLinkNest own index (T kf).1 (T kf).2.1 (T kf).2.2.1 host ∈ TB) {v : Value} (hv : fs[kf]? = some v) (hdg : decode cc pc = .ok (.getfield index, 3)) (kk : GG D X k n (pc + 3) ws lv (v :: rest)) : GG D X k n pc ws lv (.ref a :: rest) := by
  obtain ⟨p, l', e, R, s, m, args, below, meth, c, Q, A⟩ := X
  obtain ⟨hx, hb, hml, hown, hts, hK, hA, hR, hl0⟩ := hX
  intro H locs ls hP hD hS hl
  exact va_getN hx hb hts hin hown hK hP q0 he hc kf hk (hts _ hlink) (fun _ h => h) hv hdg (kk H locs ls hP hD hS hl)
theorem xg_put (hX : OK l D cI X cc nL own rm) {C : String} {T : u_T} {N ci index : Nat} (ty0 : Nat → FieldType) (hty : ∀ k, k < N → parseFieldDescriptor (T k).2.2.1 = some (ty0 k)) (hnm : ∀ a, a < N → ∀ b, b < N → a ≠ b → (T a).2.1 ≠ (T b).2.1) (hc : vwCl[ci]? = some (C, T, N)) (hin : ∀ w ∈ u_ws C T N, w ∈ TB) {ws' : va_W} (q0 : Nat) {a : Nat} {fs : List Value} (he : ws[q0]? = some (a, .inr (ci, fs))) (kf : Nat) (hk : kf < N) (hlink : Cond.fieldLink own index (T kf).1 (T kf).2.1 (T kf).2.2.1 ∈ TB) {v : Value} (hfin : (T kf).2.2.2 = false) (hn : narrow (ty0 kf) v = v) (hfit : fits (ty0 kf) v = true) (hlen : kf < fs.length) (hws : ws.set q0 (a, .inr (ci, fs.set kf v)) = ws') (hdg : decode cc pc = .ok (.putfield index, 3)) (kk : GG D X k n (pc + 3) ws' lv rest) : GG D X k n pc ws lv (v :: .ref a :: rest) := by
  obtain ⟨p, l', e, R, s, m, args, below, meth, c, Q, A⟩ := X
  obtain ⟨hx, hb, hml, hown, hts, hK, hA, hR, hl0⟩ := hX
  intro H locs ls hP hD hS hl
  subst hws
  exact va_put hx hb hts hin ty0 hty hnm hown hK hP hD hS q0 he hc kf hk (hts _ hlink) (fun _ h => h) hfin (hty kf hk) hn hfit hlen hdg (fun H1 locs1 hP1 hD1 hS1 => kk H1 locs1 ls hP1 hD1 hS1 hl)
theorem xg_putN (hX : OK l D cI X cc nL own rm) {C host : String} {T : u_T} {N ci index : Nat} (ty0 : Nat → FieldType) (hty : ∀ k, k < N → parseFieldDescriptor (T k).2.2.1 = some (ty0 k)) (hnm : ∀ a, a < N → ∀ b, b < N → a ≠ b → (T a).2.1 ≠ (T b).2.1) (hc : vwCl[ci]? = some (C, T, N)) (hin : ∀ w ∈ u_ws C T N, w ∈ TB) {ws' : va_W} (q0 : Nat) {a : Nat} {fs : List Value} (he : ws[q0]? = some (a, .inr (ci, fs))) (kf : Nat) (hk : kf < N) (hlink : Cond.fieldLinkNest own index (T kf).1 (T kf).2.1 (T kf).2.2.1 host ∈ TB) {v : Value} (hfin : (T kf).2.2.2 = false) (hn : narrow (ty0 kf) v = v) (hfit : fits (ty0 kf) v = true) (hlen : kf < fs.length) (hws : ws.set q0 (a, .inr (ci, fs.set kf v)) = ws') (hdg : decode cc pc = .ok (.putfield index, 3)) (kk : GG D X k n (pc + 3) ws' lv rest) : GG D X k n pc ws lv (v :: .ref a :: rest) := by
  obtain ⟨p, l', e, R, s, m, args, below, meth, c, Q, A⟩ := X
  obtain ⟨hx, hb, hml, hown, hts, hK, hA, hR, hl0⟩ := hX
  intro H locs ls hP hD hS hl
  subst hws
  exact va_putN hx hb hts hin ty0 hty hnm hown hK hP hD hS q0 he hc kf hk (hts _ hlink) (fun _ h => h) hfin (hty kf hk) hn hfit hlen hdg (fun H1 locs1 hP1 hD1 hS1 => kk H1 locs1 ls hP1 hD1 hS1 hl)
theorem xg_putF (hX : OK l D cI X cc nL own rm) (hini : X.2.2.2.2.2.2.2.2.1.name = "<init>") {C : String} {T : u_T} {N ci index : Nat} (ty0 : Nat → FieldType) (hty : ∀ k, k < N → parseFieldDescriptor (T k).2.2.1 = some (ty0 k)) (hnm : ∀ a, a < N → ∀ b, b < N → a ≠ b → (T a).2.1 ≠ (T b).2.1) (hc : vwCl[ci]? = some (C, T, N)) (hin : ∀ w ∈ u_ws C T N, w ∈ TB) {ws' : va_W} (q0 : Nat) {a : Nat} {fs : List Value} (he : ws[q0]? = some (a, .inr (ci, fs))) (kf : Nat) (hk : kf < N) (hlink : Cond.fieldLink own index (T kf).1 (T kf).2.1 (T kf).2.2.1 ∈ TB) {v : Value} (hfin : (T kf).2.2.2 = true) (hdecl : (T kf).1 = own) (hn : narrow (ty0 kf) v = v) (hfit : fits (ty0 kf) v = true) (hlen : kf < fs.length) (hws : ws.set q0 (a, .inr (ci, fs.set kf v)) = ws') (hdg : decode cc pc = .ok (.putfield index, 3)) (kk : GG D X k n (pc + 3) ws' lv rest) : GG D X k n pc ws lv (v :: .ref a :: rest) := by
  obtain ⟨p, l', e, R, s, m, args, below, meth, c, Q, A⟩ := X
  obtain ⟨hx, hb, hml, hown, hts, hK, hA, hR, hl0⟩ := hX
  intro H locs ls hP hD hS hl
  subst hws
  exact va_putF hx hb hts hin ty0 hty hnm hown hK hP hD hS q0 he hc kf hk (hts _ hlink) (fun _ h => h) hfin hini hdecl (hty kf hk) hn hfit hlen hdg (fun H1 locs1 hP1 hD1 hS1 => kk H1 locs1 ls hP1 hD1 hS1 hl)
theorem xg_new (hX : OK l D cI X cc nL own rm) {C : String} {T : u_T} {N ci index : Nat} (ty0 : Nat → FieldType) (hty : ∀ k, k < N → parseFieldDescriptor (T k).2.2.1 = some (ty0 k)) (hc : vwCl[ci]? = some (C, T, N)) (hin : ∀ w ∈ u_ws C T N, w ∈ TB) (hcl : Cond.classLink own index C ∈ TB) (hinst : Cond.instantiable C N ∈ TB) (hini : Cond.initialized C ∈ TB) (fs : List Value) (hfs : ∀ j, j < N → defaultValue (ty0 j) = vp_V fs j) (hcells : k + 1 ≤ rm.cells) (hslots : n + N ≤ rm.slots) (hdg : decode cc pc = .ok (.new index, 3)) {k' n' : Nat} (hk' : k + 1 = k') (hn' : n + N = n') (kk : ∀ q : Nat, GG D X k' n' (pc + 3) (ws ++ [(q, .inr (ci, fs))]) lv (.ref q :: rest)) : GG D X k n pc ws lv rest := by
  obtain ⟨p, l', e, R, s, m, args, below, meth, c, Q, A⟩ := X
  obtain ⟨hx, hb, hml, hown, hts, hK, hA, hR, hl0⟩ := hX
  intro H locs ls hP hD hS hl
  subst hR; subst hk'; subst hn'
  exact va_new hx hb hts hin ty0 hty hown (hts _ hcl) (hts _ hinst) (hts _ hini) hK hP hD hS hA hc hfs hcells hslots hdg (fun q H1 hP1 hD1 hS1 => kk q H1 locs ls hP1 hD1 hS1 hl)
theorem xg_newa (hX : OK l D cI X cc nL own rm) (harr : Cond.arrayClass .int ∈ TB) (N : Nat) (hN : N < 100000) (hcells : k + 1 ≤ rm.cells) (hslots : n + N ≤ rm.slots) (hdg : decode cc pc = .ok (.newarray .int, 2)) {k' n' : Nat} (hk' : k + 1 = k') (hn' : n + N = n') (kk : ∀ q : Nat, GG D X k' n' (pc + 2) (ws ++ [(q, .inl (cI, N, .inl (nf (fun _ => 0))))]) lv (.ref q :: rest)) : GG D X k n pc ws lv (.int (nI N) :: rest) := by
  obtain ⟨p, l', e, R, s, m, args, below, meth, c, Q, A⟩ := X
  obtain ⟨hx, hb, hml, hown, hts, hK, hA, hR, hl0⟩ := hX
  intro H locs ls hP hD hS hl
  subst hR; subst hk'; subst hn'
  refine va_newa (ty := .int) (a0 := (N, .inl (nf (fun _ => 0)))) (N' := N) hx hb (atype := .int) (hts _ harr) rfl hK hP hD hS hA (fun cA => rfl) (nI_pos (show N < 2 ^ 31 by omega)) (nI_clamp (show N < 2 ^ 31 by omega)) (by show N * 4 ≤ 536870912; omega) hcells hslots hdg (fun q cA H1 hK1 hP1 hD1 hS1 => ?_)
  have h1 : s.vm.findClass ("[" ++ FieldType.int.toString) = some cA := (hK1.2 1 (cA, .int) rfl).2
  have h2 : s.vm.findClass ("[" ++ FieldType.int.toString) = some cI := (hK.2 0 (cI, .int) rfl).2
  rw [h1] at h2
  cases h2
  exact kk q H1 locs ls hP1 hD1 hS1 hl
theorem xg_objInit (hX : OK l D cI X cc nL own rm) {idx a : Nat} (hlink : Cond.methodLink own idx objectInit ∈ TB) (hinst : Cond.instanceMethod objectInit ∈ TB) (hcode : Cond.code objectInit ⟨#[0xb1]⟩ 1 none ∈ TB) (hf : 1 ≤ rm.frames) (hlo : 12 ≤ rm.locals) (hdg : decode cc pc = .ok (.invokespecial idx, 3)) (kk : GG D X k n (pc + 3) ws lv []) : GG D X k n pc ws lv [.ref a] := by
  obtain ⟨p, l', e, R, s, m, args, below, meth, c, Q, A⟩ := X
  obtain ⟨hx, hb, hml, hown, hts, hK, hA, hR, hl0⟩ := hX
  intro H locs ls hP hD hS hl
  subst hR
  refine W.objInit hx hb hown (hts _ hlink) (hts _ hinst) (hts _ hcode) rfl hl.1 rfl hdg hf hlo ?_
  exact W.eq (g2 := F0 m (pc + 3) ls []) rfl (kk H locs ls hP hD hS hl)
theorem xg_labs (hX : OK l D cI X cc nL own rm) {x : Int64} {index : Nat} (hlink : Cond.methodLink own index Lib.MathLoose.abs_long.x ∈ TB) (hstat : Cond.static Lib.MathLoose.abs_long.x ∈ TB) (hini : Cond.initialized "java/lang/Math" ∈ TB) (hcode : Cond.code Lib.MathLoose.abs_long.x Lib.MathLoose.abs_long.code 2 (some .long) ∈ TB) (hf : 1 ≤ rm.frames) (hlo : (rest.map fun v => v.category).sum + 13 ≤ rm.locals) (hc : k ≤ rm.cells) (hs : n ≤ rm.slots) (hdg : decode cc pc = .ok (.invokestatic index, 3)) (kk : GG D X k n (pc + 3) ws lv (.long (if 0 < x then x else -x) :: rest)) : GG D X k n pc ws lv (.long x :: rest) := by
  obtain ⟨p, l', e, R, s, m, args, below, meth, c, Q, A⟩ := X
  obtain ⟨hx, hb, hml, hown, hts, hK, hA, hR, hl0⟩ := hX
  intro H locs ls hP hD hS hl
  subst hR
  exact va_mabs_long hx hb hl.1.symm hown (hts _ hlink) (hts _ hstat) (hts _ hini) (hts _ hcode) hf hlo hc hs hdg (kk H locs ls hP hD hS hl)
theorem xg_cV (hX : OK l D cI X cc nL own rm) {S : Type} {y : MethodName} {cc' : ByteArray} {nL' : Nat} {ret : Option FieldType} {rm' : Room} (b : Nat) (av : List Value) {w0 wr : va_W} {res : S → Option Value} {post : S → Prop} {w : S → va_W} {mc ms : Nat} (hM : Ctr l D cI y cc' nL' ret rm' (.ref b :: av) w0 res post w mc ms) {index : Nat} (isC isR is : List Nat) (rest : List Value) {st : List Value} (hst : st = av.reverse ++ .ref b :: rest)
    (hcode : Cond.code y cc' nL' ret ∈ TB) (hlink : Cond.methodLink own index y ∈ TB) (hini : Cond.initialized y.cls ∈ TB) (hinst : Cond.instanceMethod y ∈ TB) (hsel : Cond.selects y.cls y y ∈ TB) (q1 : Nat) {ci N1 : Nat} {T1 : u_T} {fs : List Value} (he : w0[q1]? = some (b, .inr (ci, fs))) (hcl : vwCl[ci]? = some (y.cls, T1, N1))
    (hd : y.cls ≠ "java/lang/invoke/MethodHandle" ∧ y.cls ≠ "java/lang/invoke/VarHandle" ∧ (parseMethodDescriptor y.desc).map (fun d => d.parameters.length) = some av.length)
    (hRm : rm'.frames + 1 ≤ rm.frames ∧ 8 + (nL' + 11) + rm'.locals ≤ rm.locals) (hrc : rm'.cells = mc ∧ rm'.slots = ms) (hcs : k + mc ≤ rm.cells ∧ n + ms ≤ rm.slots)
    (hC : isC.map (fun i => ws[i]?) = w0.map some) (hCf : isC.filterMap (fun i => ws[i]?) = w0) (hCn : va_nd isC = true) (hRr : isR.map (fun i => ws[i]?) = wr.map some) (hRn : va_nd isR = true) (hdis : ∀ i ∈ isR, i ∉ isC) (hnd : va_nd is = true)
    {ws' : S → va_W} {st' : S → List Value} {k' n' : Nat} (h1 : ∀ u, is.filterMap (fun i => (wr ++ w u)[i]?) = ws' u) (h2 : ∀ u, is.map (fun i => (wr ++ w u)[i]?) = (ws' u).map some) (hst' : ∀ u, (res u).toList ++ rest = st' u) (hk' : k + mc = k') (hn' : n + ms = n')
    (hcat : (rest.map fun v => v.category).sum ≤ 8) (hdg : decode cc pc = .ok (.invokevirtual index, 3)) (kk : ∀ u, post u → GG D X k' n' (pc + 3) (ws' u) lv (st' u)) : GG D X k n pc ws lv st := by
  obtain ⟨p, l', e, R, s, m, args, below, meth, c, Q, A⟩ := X
  obtain ⟨hx, hb, hml, hown, hts, hK, hA, hR, hl0⟩ := hX
  intro H locs ls hP hD hS hl
  subst hR; subst hl0; subst hst
  have hsig : ∀ sig, parseMethodDescriptor y.desc = some sig → av.length = sig.parameters.length := fun sig h => by
    have h2 := hd.2.2
    rw [h] at h2
    exact (Option.some.inj h2).symm
  have hPc := hP.sub (ws' := w0) isC hCf
  have hDc := hD.sub (ws' := w0) isC hCn hC
  exact xg_core isC isR is hP hD hS hl hA hC hRr hRn hdis hnd h1 h2 hst' hk' hn' (va_runV (As := av) (rest := rest) ⟨hx, hb, rfl, hown, hts⟩ (hM H.size) ⟨⟨hrc.1, hrc.2, hRm.1, hRm.2, pay_in hts (xg_good hcode), List.mem_cons_self, hts _ hcode, hts _ hini, ⟨hd.1, hd.2.1⟩, hsig, hts _ hlink⟩, hts _ hinst, hts _ hsel⟩ ⟨xg_blind, va_recv hK hPc hcl he, fun U hU hW => ⟨rfl, by rw [hU], by rw [hU]; exact hPc, va_K.moved hW.alike hK, hDc.weaken (fun _ _ _ _ => trivial)⟩⟩ rfl rfl hl.1 rfl (lv_room hcat) hdg hcs) kk
theorem xg_cVN (hX : OK l D cI X cc nL own rm) {S : Type} {y : MethodName} {host : String} {cc' : ByteArray} {nL' : Nat} {ret : Option FieldType} {rm' : Room} (b : Nat) (av : List Value) {w0 wr : va_W} {res : S → Option Value} {post : S → Prop} {w : S → va_W} {mc ms : Nat} (hM : Ctr l D cI y cc' nL' ret rm' (.ref b :: av) w0 res post w mc ms) {index : Nat} (isC isR is : List Nat) (rest : List Value) {st : List Value} (hst : st = av.reverse ++ .ref b :: rest)
    (hcode : Cond.code y cc' nL' ret ∈ TB) (hlink : Cond.methodLinkNest own index y host ∈ TB) (hini : Cond.initialized y.cls ∈ TB) (hinst : Cond.instanceMethod y ∈ TB) (hsel : Cond.selects y.cls y y ∈ TB) (q1 : Nat) {ci N1 : Nat} {T1 : u_T} {fs : List Value} (he : w0[q1]? = some (b, .inr (ci, fs))) (hcl : vwCl[ci]? = some (y.cls, T1, N1))
    (hd : y.cls ≠ "java/lang/invoke/MethodHandle" ∧ y.cls ≠ "java/lang/invoke/VarHandle" ∧ (parseMethodDescriptor y.desc).map (fun d => d.parameters.length) = some av.length)
    (hRm : rm'.frames + 1 ≤ rm.frames ∧ 8 + (nL' + 11) + rm'.locals ≤ rm.locals) (hrc : rm'.cells = mc ∧ rm'.slots = ms) (hcs : k + mc ≤ rm.cells ∧ n + ms ≤ rm.slots)
    (hC : isC.map (fun i => ws[i]?) = w0.map some) (hCf : isC.filterMap (fun i => ws[i]?) = w0) (hCn : va_nd isC = true) (hRr : isR.map (fun i => ws[i]?) = wr.map some) (hRn : va_nd isR = true) (hdis : ∀ i ∈ isR, i ∉ isC) (hnd : va_nd is = true)
    {ws' : S → va_W} {st' : S → List Value} {k' n' : Nat} (h1 : ∀ u, is.filterMap (fun i => (wr ++ w u)[i]?) = ws' u) (h2 : ∀ u, is.map (fun i => (wr ++ w u)[i]?) = (ws' u).map some) (hst' : ∀ u, (res u).toList ++ rest = st' u) (hk' : k + mc = k') (hn' : n + ms = n')
    (hcat : (rest.map fun v => v.category).sum ≤ 8) (hdg : decode cc pc = .ok (.invokevirtual index, 3)) (kk : ∀ u, post u → GG D X k' n' (pc + 3) (ws' u) lv (st' u)) : GG D X k n pc ws lv st := by
  obtain ⟨p, l', e, R, s, m, args, below, meth, c, Q, A⟩ := X
  obtain ⟨hx, hb, hml, hown, hts, hK, hA, hR, hl0⟩ := hX
  intro H locs ls hP hD hS hl
  subst hR; subst hl0; subst hst
  have hsig : ∀ sig, parseMethodDescriptor y.desc = some sig → av.length = sig.parameters.length := fun sig h => by
    have h2 := hd.2.2
    rw [h] at h2
    exact (Option.some.inj h2).symm
  have hPc := hP.sub (ws' := w0) isC hCf
  have hDc := hD.sub (ws' := w0) isC hCn hC
  exact xg_core isC isR is hP hD hS hl hA hC hRr hRn hdis hnd h1 h2 hst' hk' hn' (va_runVN (As := av) (rest := rest) ⟨hx, hb, rfl, hown, hts⟩ (hM H.size) ⟨⟨⟨hrc.1, hrc.2, hRm.1, hRm.2, pay_in hts (xg_good hcode), List.mem_cons_self⟩, hts _ hcode, hts _ hini, ⟨hd.1, hd.2.1⟩, hsig, hts _ hlink⟩, hts _ hinst, hts _ hsel⟩ ⟨xg_blind, va_recv hK hPc hcl he, fun U hU hW => ⟨rfl, by rw [hU], by rw [hU]; exact hPc, va_K.moved hW.alike hK, hDc.weaken (fun _ _ _ _ => trivial)⟩⟩ rfl rfl hl.1 rfl (lv_room hcat) hdg hcs) kk
theorem xg_cS (hX : OK l D cI X cc nL own rm) {S : Type} {y : MethodName} {cc' : ByteArray} {nL' : Nat} {ret : Option FieldType} {rm' : Room} (av : List Value) {w0 wr : va_W} {res : S → Option Value} {post : S → Prop} {w : S → va_W} {mc ms : Nat} (hM : Ctr l D cI y cc' nL' ret rm' (av) w0 res post w mc ms) {index : Nat} (isC isR is : List Nat) (rest : List Value) {st : List Value} (hst : st = av.reverse ++ rest)
    (hcode : Cond.code y cc' nL' ret ∈ TB) (hlink : Cond.methodLink own index y ∈ TB) (hini : Cond.initialized y.cls ∈ TB) (hstat : Cond.static y ∈ TB)
    (hd : y.cls ≠ "java/lang/invoke/MethodHandle" ∧ y.cls ≠ "java/lang/invoke/VarHandle" ∧ (parseMethodDescriptor y.desc).map (fun d => d.parameters.length) = some av.length)
    (hRm : rm'.frames + 1 ≤ rm.frames ∧ 8 + (nL' + 11) + rm'.locals ≤ rm.locals) (hrc : rm'.cells = mc ∧ rm'.slots = ms) (hcs : k + mc ≤ rm.cells ∧ n + ms ≤ rm.slots)
    (hC : isC.map (fun i => ws[i]?) = w0.map some) (hCf : isC.filterMap (fun i => ws[i]?) = w0) (hCn : va_nd isC = true) (hRr : isR.map (fun i => ws[i]?) = wr.map some) (hRn : va_nd isR = true) (hdis : ∀ i ∈ isR, i ∉ isC) (hnd : va_nd is = true)
    {ws' : S → va_W} {st' : S → List Value} {k' n' : Nat} (h1 : ∀ u, is.filterMap (fun i => (wr ++ w u)[i]?) = ws' u) (h2 : ∀ u, is.map (fun i => (wr ++ w u)[i]?) = (ws' u).map some) (hst' : ∀ u, (res u).toList ++ rest = st' u) (hk' : k + mc = k') (hn' : n + ms = n')
    (hcat : (rest.map fun v => v.category).sum ≤ 8) (hdg : decode cc pc = .ok (.invokestatic index, 3)) (kk : ∀ u, post u → GG D X k' n' (pc + 3) (ws' u) lv (st' u)) : GG D X k n pc ws lv st := by
  obtain ⟨p, l', e, R, s, m, args, below, meth, c, Q, A⟩ := X
  obtain ⟨hx, hb, hml, hown, hts, hK, hA, hR, hl0⟩ := hX
  intro H locs ls hP hD hS hl
  subst hR; subst hl0; subst hst
  have hsig : ∀ sig, parseMethodDescriptor y.desc = some sig → av.length = sig.parameters.length := fun sig h => by
    have h2 := hd.2.2
    rw [h] at h2
    exact (Option.some.inj h2).symm
  have hPc := hP.sub (ws' := w0) isC hCf
  have hDc := hD.sub (ws' := w0) isC hCn hC
  exact xg_core isC isR is hP hD hS hl hA hC hRr hRn hdis hnd h1 h2 hst' hk' hn' (va_runS (As := av) (rest := rest) ⟨hx, hb, rfl, hown, hts⟩ (hM H.size) ⟨⟨hrc.1, hrc.2, hRm.1, hRm.2, pay_in hts (xg_good hcode), List.mem_cons_self, hts _ hcode, hts _ hini, ⟨hd.1, hd.2.1⟩, hsig, hts _ hlink⟩, hts _ hstat⟩ ⟨xg_blind, fun U hU hW => ⟨rfl, by rw [hU], by rw [hU]; exact hPc, va_K.moved hW.alike hK, hDc.weaken (fun _ _ _ _ => trivial)⟩⟩ rfl rfl hl.1 rfl (lv_room hcat) hdg hcs) kk
theorem xg_cSN (hX : OK l D cI X cc nL own rm) {S : Type} {y : MethodName} {host : String} {cc' : ByteArray} {nL' : Nat} {ret : Option FieldType} {rm' : Room} (av : List Value) {w0 wr : va_W} {res : S → Option Value} {post : S → Prop} {w : S → va_W} {mc ms : Nat} (hM : Ctr l D cI y cc' nL' ret rm' (av) w0 res post w mc ms) {index : Nat} (isC isR is : List Nat) (rest : List Value) {st : List Value} (hst : st = av.reverse ++ rest)
    (hcode : Cond.code y cc' nL' ret ∈ TB) (hlink : Cond.methodLinkNest own index y host ∈ TB) (hini : Cond.initialized y.cls ∈ TB) (hstat : Cond.static y ∈ TB)
    (hd : y.cls ≠ "java/lang/invoke/MethodHandle" ∧ y.cls ≠ "java/lang/invoke/VarHandle" ∧ (parseMethodDescriptor y.desc).map (fun d => d.parameters.length) = some av.length)
    (hRm : rm'.frames + 1 ≤ rm.frames ∧ 8 + (nL' + 11) + rm'.locals ≤ rm.locals) (hrc : rm'.cells = mc ∧ rm'.slots = ms) (hcs : k + mc ≤ rm.cells ∧ n + ms ≤ rm.slots)
    (hC : isC.map (fun i => ws[i]?) = w0.map some) (hCf : isC.filterMap (fun i => ws[i]?) = w0) (hCn : va_nd isC = true) (hRr : isR.map (fun i => ws[i]?) = wr.map some) (hRn : va_nd isR = true) (hdis : ∀ i ∈ isR, i ∉ isC) (hnd : va_nd is = true)
    {ws' : S → va_W} {st' : S → List Value} {k' n' : Nat} (h1 : ∀ u, is.filterMap (fun i => (wr ++ w u)[i]?) = ws' u) (h2 : ∀ u, is.map (fun i => (wr ++ w u)[i]?) = (ws' u).map some) (hst' : ∀ u, (res u).toList ++ rest = st' u) (hk' : k + mc = k') (hn' : n + ms = n')
    (hcat : (rest.map fun v => v.category).sum ≤ 8) (hdg : decode cc pc = .ok (.invokestatic index, 3)) (kk : ∀ u, post u → GG D X k' n' (pc + 3) (ws' u) lv (st' u)) : GG D X k n pc ws lv st := by
  obtain ⟨p, l', e, R, s, m, args, below, meth, c, Q, A⟩ := X
  obtain ⟨hx, hb, hml, hown, hts, hK, hA, hR, hl0⟩ := hX
  intro H locs ls hP hD hS hl
  subst hR; subst hl0; subst hst
  have hsig : ∀ sig, parseMethodDescriptor y.desc = some sig → av.length = sig.parameters.length := fun sig h => by
    have h2 := hd.2.2
    rw [h] at h2
    exact (Option.some.inj h2).symm
  have hPc := hP.sub (ws' := w0) isC hCf
  have hDc := hD.sub (ws' := w0) isC hCn hC
  exact xg_core isC isR is hP hD hS hl hA hC hRr hRn hdis hnd h1 h2 hst' hk' hn' (va_runSN (As := av) (rest := rest) ⟨hx, hb, rfl, hown, hts⟩ (hM H.size) ⟨⟨⟨hrc.1, hrc.2, hRm.1, hRm.2, pay_in hts (xg_good hcode), List.mem_cons_self⟩, hts _ hcode, hts _ hini, ⟨hd.1, hd.2.1⟩, hsig, hts _ hlink⟩, hts _ hstat, trivial⟩ ⟨xg_blind, fun U hU hW => ⟨rfl, by rw [hU], by rw [hU]; exact hPc, va_K.moved hW.alike hK, hDc.weaken (fun _ _ _ _ => trivial)⟩⟩ rfl rfl hl.1 rfl (lv_room hcat) hdg hcs) kk
theorem xg_cI (hX : OK l D cI X cc nL own rm) {S : Type} {y : MethodName} {cc' : ByteArray} {nL' : Nat} {rm' : Room} (b : Nat) (av : List Value) {w0 wr : va_W} {res : S → Option Value} {post : S → Prop} {w : S → va_W} {mc ms : Nat} (hM : Ctr l D cI y cc' nL' none rm' (.ref b :: av) w0 res post w mc ms) {index : Nat} (isC isR is : List Nat) (rest : List Value) {st : List Value} (hst : st = av.reverse ++ .ref b :: rest)
    (hcode : Cond.code y cc' nL' none ∈ TB) (hlink : Cond.methodLink own index y ∈ TB) (hini : Cond.initialized y.cls ∈ TB) (hinst : Cond.instanceMethod y ∈ TB) (hnm : y.name = "<init>")
    (hd : y.cls ≠ "java/lang/invoke/MethodHandle" ∧ y.cls ≠ "java/lang/invoke/VarHandle" ∧ (parseMethodDescriptor y.desc).map (fun d => d.parameters.length) = some av.length)
    (hRm : rm'.frames + 1 ≤ rm.frames ∧ 8 + (nL' + 11) + rm'.locals ≤ rm.locals) (hrc : rm'.cells = mc ∧ rm'.slots = ms) (hcs : k + mc ≤ rm.cells ∧ n + ms ≤ rm.slots)
    (hC : isC.map (fun i => ws[i]?) = w0.map some) (hCf : isC.filterMap (fun i => ws[i]?) = w0) (hCn : va_nd isC = true) (hRr : isR.map (fun i => ws[i]?) = wr.map some) (hRn : va_nd isR = true) (hdis : ∀ i ∈ isR, i ∉ isC) (hnd : va_nd is = true)
    {ws' : S → va_W} {st' : S → List Value} {k' n' : Nat} (h1 : ∀ u, is.filterMap (fun i => (wr ++ w u)[i]?) = ws' u) (h2 : ∀ u, is.map (fun i => (wr ++ w u)[i]?) = (ws' u).map some) (hst' : ∀ u, (res u).toList ++ rest = st' u) (hk' : k + mc = k') (hn' : n + ms = n')
    (hcat : (rest.map fun v => v.category).sum ≤ 8) (hdg : decode cc pc = .ok (.invokespecial index, 3)) (kk : ∀ u, post u → GG D X k' n' (pc + 3) (ws' u) lv (st' u)) : GG D X k n pc ws lv st := by
  obtain ⟨p, l', e, R, s, m, args, below, meth, c, Q, A⟩ := X
  obtain ⟨hx, hb, hml, hown, hts, hK, hA, hR, hl0⟩ := hX
  intro H locs ls hP hD hS hl
  subst hR; subst hl0; subst hst
  have hsig : ∀ sig, parseMethodDescriptor y.desc = some sig → av.length = sig.parameters.length := fun sig h => by
    have h2 := hd.2.2
    rw [h] at h2
    exact (Option.some.inj h2).symm
  have hPc := hP.sub (ws' := w0) isC hCf
  have hDc := hD.sub (ws' := w0) isC hCn hC
  exact xg_core isC isR is hP hD hS hl hA hC hRr hRn hdis hnd h1 h2 hst' hk' hn' (va_runI (As := av) (rest := rest) ⟨hx, hb, rfl, hown, hts⟩ (hM H.size) ⟨⟨hrc.1, hrc.2, hRm.1, hRm.2, pay_in hts (xg_good hcode), List.mem_cons_self, hts _ hcode, hts _ hini, ⟨hd.1, hd.2.1⟩, hsig, hts _ hlink⟩, hnm, hts _ hinst⟩ ⟨xg_blind, fun U hU hW => ⟨rfl, by rw [hU], by rw [hU]; exact hPc, va_K.moved hW.alike hK, hDc.weaken (fun _ _ _ _ => trivial)⟩⟩ rfl rfl hl.1 rfl (lv_room hcat) hdg hcs) kk
theorem xg_cIN (hX : OK l D cI X cc nL own rm) {S : Type} {y : MethodName} {host : String} {cc' : ByteArray} {nL' : Nat} {rm' : Room} (b : Nat) (av : List Value) {w0 wr : va_W} {res : S → Option Value} {post : S → Prop} {w : S → va_W} {mc ms : Nat} (hM : Ctr l D cI y cc' nL' none rm' (.ref b :: av) w0 res post w mc ms) {index : Nat} (isC isR is : List Nat) (rest : List Value) {st : List Value} (hst : st = av.reverse ++ .ref b :: rest)
    (hcode : Cond.code y cc' nL' none ∈ TB) (hlink : Cond.methodLinkNest own index y host ∈ TB) (hini : Cond.initialized y.cls ∈ TB) (hinst : Cond.instanceMethod y ∈ TB) (hnm : y.name = "<init>")
    (hd : y.cls ≠ "java/lang/invoke/MethodHandle" ∧ y.cls ≠ "java/lang/invoke/VarHandle" ∧ (parseMethodDescriptor y.desc).map (fun d => d.parameters.length) = some av.length)
    (hRm : rm'.frames + 1 ≤ rm.frames ∧ 8 + (nL' + 11) + rm'.locals ≤ rm.locals) (hrc : rm'.cells = mc ∧ rm'.slots = ms) (hcs : k + mc ≤ rm.cells ∧ n + ms ≤ rm.slots)
    (hC : isC.map (fun i => ws[i]?) = w0.map some) (hCf : isC.filterMap (fun i => ws[i]?) = w0) (hCn : va_nd isC = true) (hRr : isR.map (fun i => ws[i]?) = wr.map some) (hRn : va_nd isR = true) (hdis : ∀ i ∈ isR, i ∉ isC) (hnd : va_nd is = true)
    {ws' : S → va_W} {st' : S → List Value} {k' n' : Nat} (h1 : ∀ u, is.filterMap (fun i => (wr ++ w u)[i]?) = ws' u) (h2 : ∀ u, is.map (fun i => (wr ++ w u)[i]?) = (ws' u).map some) (hst' : ∀ u, (res u).toList ++ rest = st' u) (hk' : k + mc = k') (hn' : n + ms = n')
    (hcat : (rest.map fun v => v.category).sum ≤ 8) (hdg : decode cc pc = .ok (.invokespecial index, 3)) (kk : ∀ u, post u → GG D X k' n' (pc + 3) (ws' u) lv (st' u)) : GG D X k n pc ws lv st := by
  obtain ⟨p, l', e, R, s, m, args, below, meth, c, Q, A⟩ := X
  obtain ⟨hx, hb, hml, hown, hts, hK, hA, hR, hl0⟩ := hX
  intro H locs ls hP hD hS hl
  subst hR; subst hl0; subst hst
  have hsig : ∀ sig, parseMethodDescriptor y.desc = some sig → av.length = sig.parameters.length := fun sig h => by
    have h2 := hd.2.2
    rw [h] at h2
    exact (Option.some.inj h2).symm
  have hPc := hP.sub (ws' := w0) isC hCf
  have hDc := hD.sub (ws' := w0) isC hCn hC
  exact xg_core isC isR is hP hD hS hl hA hC hRr hRn hdis hnd h1 h2 hst' hk' hn' (va_runIN (As := av) (rest := rest) ⟨hx, hb, rfl, hown, hts⟩ (hM H.size) ⟨⟨⟨hrc.1, hrc.2, hRm.1, hRm.2, pay_in hts (xg_good hcode), List.mem_cons_self⟩, hts _ hcode, hts _ hini, ⟨hd.1, hd.2.1⟩, hsig, hts _ hlink⟩, hnm, hts _ hinst⟩ ⟨xg_blind, fun U hU hW => ⟨rfl, by rw [hU], by rw [hU]; exact hPc, va_K.moved hW.alike hK, hDc.weaken (fun _ _ _ _ => trivial)⟩⟩ rfl rfl hl.1 rfl (lv_room hcat) hdg hcs) kk
end RU
end
section
section RN
variable {l : Launch} {D : va_G} {cI : ClassId} {X : xg_X} {cc : ByteArray} {nL : Nat} {own : String} {rm : Room} {k n pc : Nat} {ws : va_W} {lv lv' : List (Nat × Value)} {rest : List Value}
theorem xg_iaddN (hX : OK l D cI X cc nL own rm) {a b : Nat}  (hdg : decode cc pc = .ok (.iadd, 1)) (kk : GG D X k n (pc + 1) ws lv (.int (nI (a + b)) :: rest)) : GG D X k n pc ws lv (.int (nI b) :: .int (nI a) :: rest) := by
  have h := nI_add a b
  refine xg_iadd hX hdg ?_
  rw [h]
  exact kk
theorem xg_isubN (hX : OK l D cI X cc nL own rm) {a b : Nat} (h : b ≤ a) (hdg : decode cc pc = .ok (.isub, 1)) (kk : GG D X k n (pc + 1) ws lv (.int (nI (a - b)) :: rest)) : GG D X k n pc ws lv (.int (nI b) :: .int (nI a) :: rest) := by
  have h := pk_sub h
  refine xg_isub hX hdg ?_
  rw [h]
  exact kk
theorem xg_imulN (hX : OK l D cI X cc nL own rm) {a b : Nat}  (hdg : decode cc pc = .ok (.imul, 1)) (kk : GG D X k n (pc + 1) ws lv (.int (nI (a * b)) :: rest)) : GG D X k n pc ws lv (.int (nI b) :: .int (nI a) :: rest) := by
  have h := pk_mul a b
  refine xg_imul hX hdg ?_
  rw [h]
  exact kk
theorem xg_idivN (hX : OK l D cI X cc nL own rm) {a b : Nat} (ha : a < 2147483648) (h0 : 0 < b) (hb : b < 2147483648) (hdg : decode cc pc = .ok (.idiv, 1)) (kk : GG D X k n (pc + 1) ws lv (.int (nI (a / b)) :: rest)) : GG D X k n pc ws lv (.int (nI b) :: .int (nI a) :: rest) := by
  have h := pk_div (show a < 2 ^ 31 by omega) h0 (show b < 2 ^ 31 by omega)
  refine xg_idiv hX hdg (nI_ne0 h0 (show b < 2 ^ 31 by omega)) ?_
  rw [h]
  exact kk
theorem xg_iremN (hX : OK l D cI X cc nL own rm) {a b : Nat} (ha : a < 2147483648) (h0 : 0 < b) (hb : b < 2147483648) (hdg : decode cc pc = .ok (.irem, 1)) (kk : GG D X k n (pc + 1) ws lv (.int (nI (a % b)) :: rest)) : GG D X k n pc ws lv (.int (nI b) :: .int (nI a) :: rest) := by
  have h := pk_rem (show a < 2 ^ 31 by omega) h0 (show b < 2 ^ 31 by omega)
  refine xg_irem hX hdg (nI_ne0 h0 (show b < 2 ^ 31 by omega)) ?_
  rw [h]
  exact kk
theorem xg_iincN (hX : OK l D cI X cc nL own rm) {i a : Nat} {z : Int} (v : Nat) (j : Nat) (hdg : decode cc pc = .ok (.iinc i z, 3)) (hj : lv[j]? = some (i, .int (nI a))) (hv : nI a + Int32.ofInt z = nI v) (hn : i < nL) (hl' : (i, Value.int (nI v)) :: lv.filter (fun q => !(q.1 == i) && !(q.1 + 1 == i && q.2.category == 2)) = lv') (kk : GG D X k n (pc + 3) ws lv' rest) : GG D X k n pc ws lv rest := xg_iinc hX (nI v) j hdg hj hv hn hl' kk
theorem xn_inc (a : Nat) : nI a + Int32.ofInt 1 = nI (a + 1) := nI_1 a
theorem xn_decZ (x : Int32) : x + Int32.ofInt (-1) = x - 1 := by
  rw [Int32.sub_eq_add_neg]
  rfl
theorem xn_dec (a : Nat) (h : 1 ≤ a) : nI a + Int32.ofInt (-1) = nI (a - 1) := by
  obtain ⟨b, rfl⟩ : ∃ b, a = b + 1 := ⟨a - 1, by omega⟩
  exact pk_m1 b
theorem xg_icmp_eqN (hX : OK l D cI X cc nL own rm) {a b : Nat} {off : Int} (tgt : Nat) (ha : a < 2147483648) (hb : b < 2147483648) (hdg : decode cc pc = .ok (.if_icmp .eq off, 3)) (ht : (pc : Int) + off = (tgt : Int)) (kt : a = b → GG D X k n tgt ws lv rest) (kf : a ≠ b → GG D X k n (pc + 3) ws lv rest) : GG D X k n pc ws lv (.int (nI b) :: .int (nI a) :: rest) := by
  have hc := (nI_eq (show a < 2 ^ 31 by omega) (show b < 2 ^ 31 by omega))
  refine xg_icmp_eq hX tgt hdg ht (fun h => kt ?_) (fun h => kf ?_)
  · rw [hc] at h; omega
  · rw [hc] at h; omega
theorem xg_icmp_neN (hX : OK l D cI X cc nL own rm) {a b : Nat} {off : Int} (tgt : Nat) (ha : a < 2147483648) (hb : b < 2147483648) (hdg : decode cc pc = .ok (.if_icmp .ne off, 3)) (ht : (pc : Int) + off = (tgt : Int)) (kt : a ≠ b → GG D X k n tgt ws lv rest) (kf : a = b → GG D X k n (pc + 3) ws lv rest) : GG D X k n pc ws lv (.int (nI b) :: .int (nI a) :: rest) := by
  have hc := (nI_eq (show a < 2 ^ 31 by omega) (show b < 2 ^ 31 by omega))
  refine xg_icmp_ne hX tgt hdg ht (fun h => kt ?_) (fun h => kf ?_)
  · rw [hc] at h; omega
  · rw [hc] at h; omega
theorem xg_icmp_ltN (hX : OK l D cI X cc nL own rm) {a b : Nat} {off : Int} (tgt : Nat) (ha : a < 2147483648) (hb : b < 2147483648) (hdg : decode cc pc = .ok (.if_icmp .lt off, 3)) (ht : (pc : Int) + off = (tgt : Int)) (kt : a < b → GG D X k n tgt ws lv rest) (kf : b ≤ a → GG D X k n (pc + 3) ws lv rest) : GG D X k n pc ws lv (.int (nI b) :: .int (nI a) :: rest) := by
  have hc := (nI_ltI (show a < 2 ^ 31 by omega) (show b < 2 ^ 31 by omega))
  refine xg_icmp_lt hX tgt hdg ht (fun h => kt ?_) (fun h => kf ?_)
  · rw [hc] at h; omega
  · rw [hc] at h; omega
theorem xg_icmp_geN (hX : OK l D cI X cc nL own rm) {a b : Nat} {off : Int} (tgt : Nat) (ha : a < 2147483648) (hb : b < 2147483648) (hdg : decode cc pc = .ok (.if_icmp .ge off, 3)) (ht : (pc : Int) + off = (tgt : Int)) (kt : b ≤ a → GG D X k n tgt ws lv rest) (kf : a < b → GG D X k n (pc + 3) ws lv rest) : GG D X k n pc ws lv (.int (nI b) :: .int (nI a) :: rest) := by
  have hc := (nI_leI (show b < 2 ^ 31 by omega) (show a < 2 ^ 31 by omega))
  refine xg_icmp_ge hX tgt hdg ht (fun h => kt ?_) (fun h => kf ?_)
  · rw [hc] at h; omega
  · rw [hc] at h; omega
theorem xg_icmp_gtN (hX : OK l D cI X cc nL own rm) {a b : Nat} {off : Int} (tgt : Nat) (ha : a < 2147483648) (hb : b < 2147483648) (hdg : decode cc pc = .ok (.if_icmp .gt off, 3)) (ht : (pc : Int) + off = (tgt : Int)) (kt : b < a → GG D X k n tgt ws lv rest) (kf : a ≤ b → GG D X k n (pc + 3) ws lv rest) : GG D X k n pc ws lv (.int (nI b) :: .int (nI a) :: rest) := by
  have hc := (nI_ltI (show b < 2 ^ 31 by omega) (show a < 2 ^ 31 by omega))
  refine xg_icmp_gt hX tgt hdg ht (fun h => kt ?_) (fun h => kf ?_)
  · rw [hc] at h; omega
  · rw [hc] at h; omega
theorem xg_icmp_leN (hX : OK l D cI X cc nL own rm) {a b : Nat} {off : Int} (tgt : Nat) (ha : a < 2147483648) (hb : b < 2147483648) (hdg : decode cc pc = .ok (.if_icmp .le off, 3)) (ht : (pc : Int) + off = (tgt : Int)) (kt : a ≤ b → GG D X k n tgt ws lv rest) (kf : b < a → GG D X k n (pc + 3) ws lv rest) : GG D X k n pc ws lv (.int (nI b) :: .int (nI a) :: rest) := by
  have hc := (nI_leI (show a < 2 ^ 31 by omega) (show b < 2 ^ 31 by omega))
  refine xg_icmp_le hX tgt hdg ht (fun h => kt ?_) (fun h => kf ?_)
  · rw [hc] at h; omega
  · rw [hc] at h; omega
theorem xg_if_eqN (hX : OK l D cI X cc nL own rm) {a : Nat} {off : Int} (tgt : Nat) (ha : a < 2147483648) (hdg : decode cc pc = .ok (.ifCond .eq off, 3)) (ht : (pc : Int) + off = (tgt : Int)) (kt : a = 0 → GG D X k n tgt ws lv rest) (kf : 0 < a → GG D X k n (pc + 3) ws lv rest) : GG D X k n pc ws lv (.int (nI a) :: rest) := by
  have hc := nI_eq (a := a) (b := 0) (show a < 2 ^ 31 by omega) (by decide)
  rw [nI_0] at hc
  refine xg_if_eq hX tgt hdg ht (fun h => kt ?_) (fun h => kf ?_)
  · rw [hc] at h; omega
  · rw [hc] at h; omega
theorem xg_if_neN (hX : OK l D cI X cc nL own rm) {a : Nat} {off : Int} (tgt : Nat) (ha : a < 2147483648) (hdg : decode cc pc = .ok (.ifCond .ne off, 3)) (ht : (pc : Int) + off = (tgt : Int)) (kt : 0 < a → GG D X k n tgt ws lv rest) (kf : a = 0 → GG D X k n (pc + 3) ws lv rest) : GG D X k n pc ws lv (.int (nI a) :: rest) := by
  have hc := nI_eq (a := a) (b := 0) (show a < 2 ^ 31 by omega) (by decide)
  rw [nI_0] at hc
  refine xg_if_ne hX tgt hdg ht (fun h => kt ?_) (fun h => kf ?_)
  · rw [hc] at h; omega
  · rw [hc] at h; omega
theorem xg_if_gtN (hX : OK l D cI X cc nL own rm) {a : Nat} {off : Int} (tgt : Nat) (ha : a < 2147483648) (hdg : decode cc pc = .ok (.ifCond .gt off, 3)) (ht : (pc : Int) + off = (tgt : Int)) (kt : 0 < a → GG D X k n tgt ws lv rest) (kf : a = 0 → GG D X k n (pc + 3) ws lv rest) : GG D X k n pc ws lv (.int (nI a) :: rest) := by
  have hc := nI_ltI (a := 0) (b := a) (by decide) (show a < 2 ^ 31 by omega)
  rw [nI_0] at hc
  refine xg_if_gt hX tgt hdg ht (fun h => kt ?_) (fun h => kf ?_)
  · rw [hc] at h; omega
  · rw [hc] at h; omega
theorem xg_if_leN (hX : OK l D cI X cc nL own rm) {a : Nat} {off : Int} (tgt : Nat) (ha : a < 2147483648) (hdg : decode cc pc = .ok (.ifCond .le off, 3)) (ht : (pc : Int) + off = (tgt : Int)) (kt : a = 0 → GG D X k n tgt ws lv rest) (kf : 0 < a → GG D X k n (pc + 3) ws lv rest) : GG D X k n pc ws lv (.int (nI a) :: rest) := by
  have hc := nI_leI (a := a) (b := 0) (show a < 2 ^ 31 by omega) (by decide)
  rw [nI_0] at hc
  refine xg_if_le hX tgt hdg ht (fun h => kt ?_) (fun h => kf ?_)
  · rw [hc] at h; omega
  · rw [hc] at h; omega
theorem xg_if_ltN (hX : OK l D cI X cc nL own rm) {a : Nat} {off : Int} (tgt : Nat) (ha : a < 2147483648) (hdg : decode cc pc = .ok (.ifCond .lt off, 3)) (ht : (pc : Int) + off = (tgt : Int)) (kf : GG D X k n (pc + 3) ws lv rest) : GG D X k n pc ws lv (.int (nI a) :: rest) := xg_if_lt hX tgt hdg ht (fun h => absurd h (nI_pos (show a < 2 ^ 31 by omega))) (fun _ => kf)
theorem xg_if_geN (hX : OK l D cI X cc nL own rm) {a : Nat} {off : Int} (tgt : Nat) (ha : a < 2147483648) (hdg : decode cc pc = .ok (.ifCond .ge off, 3)) (ht : (pc : Int) + off = (tgt : Int)) (kt : GG D X k n tgt ws lv rest) : GG D X k n pc ws lv (.int (nI a) :: rest) := xg_if_ge hX tgt hdg ht (fun _ => kt) (fun h => absurd (nI_pos' (show a < 2 ^ 31 by omega)) h)
theorem xg_icmp_eqZ (hX : OK l D cI X cc nL own rm) {x y : Int32} (cx cy : Int) (hcx : x.toInt = cx) (hcy : y.toInt = cy) {off : Int} (tgt : Nat) (hdg : decode cc pc = .ok (.if_icmp .eq off, 3)) (ht : (pc : Int) + off = (tgt : Int)) (kt : cx = cy → GG D X k n tgt ws lv rest) (kf : cx ≠ cy → GG D X k n (pc + 3) ws lv rest) : GG D X k n pc ws lv (.int y :: .int x :: rest) := by
  refine xg_icmp_eq hX tgt hdg ht (fun h => kt ?_) (fun h => kf ?_)
  · simp only [Int32.lt_iff_toInt_lt, Int32.le_iff_toInt_le, ← Int32.toInt_inj, hcx, hcy] at h; omega
  · simp only [Int32.lt_iff_toInt_lt, Int32.le_iff_toInt_le, ← Int32.toInt_inj, hcx, hcy] at h; omega
theorem xg_if_eqZ (hX : OK l D cI X cc nL own rm) {x : Int32} (cx : Int) (hcx : x.toInt = cx) {off : Int} (tgt : Nat) (hdg : decode cc pc = .ok (.ifCond .eq off, 3)) (ht : (pc : Int) + off = (tgt : Int)) (kt : cx = 0 → GG D X k n tgt ws lv rest) (kf : cx ≠ 0 → GG D X k n (pc + 3) ws lv rest) : GG D X k n pc ws lv (.int x :: rest) := by
  have h0 : (0 : Int32).toInt = 0 := rfl
  refine xg_if_eq hX tgt hdg ht (fun h => kt ?_) (fun h => kf ?_)
  · simp only [Int32.lt_iff_toInt_lt, Int32.le_iff_toInt_le, ← Int32.toInt_inj, hcx, h0] at h; omega
  · simp only [Int32.lt_iff_toInt_lt, Int32.le_iff_toInt_le, ← Int32.toInt_inj, hcx, h0] at h; omega
theorem xg_icmp_neZ (hX : OK l D cI X cc nL own rm) {x y : Int32} (cx cy : Int) (hcx : x.toInt = cx) (hcy : y.toInt = cy) {off : Int} (tgt : Nat) (hdg : decode cc pc = .ok (.if_icmp .ne off, 3)) (ht : (pc : Int) + off = (tgt : Int)) (kt : cx ≠ cy → GG D X k n tgt ws lv rest) (kf : cx = cy → GG D X k n (pc + 3) ws lv rest) : GG D X k n pc ws lv (.int y :: .int x :: rest) := by
  refine xg_icmp_ne hX tgt hdg ht (fun h => kt ?_) (fun h => kf ?_)
  · simp only [Int32.lt_iff_toInt_lt, Int32.le_iff_toInt_le, ← Int32.toInt_inj, hcx, hcy] at h; omega
  · simp only [Int32.lt_iff_toInt_lt, Int32.le_iff_toInt_le, ← Int32.toInt_inj, hcx, hcy] at h; omega
theorem xg_if_neZ (hX : OK l D cI X cc nL own rm) {x : Int32} (cx : Int) (hcx : x.toInt = cx) {off : Int} (tgt : Nat) (hdg : decode cc pc = .ok (.ifCond .ne off, 3)) (ht : (pc : Int) + off = (tgt : Int)) (kt : cx ≠ 0 → GG D X k n tgt ws lv rest) (kf : cx = 0 → GG D X k n (pc + 3) ws lv rest) : GG D X k n pc ws lv (.int x :: rest) := by
  have h0 : (0 : Int32).toInt = 0 := rfl
  refine xg_if_ne hX tgt hdg ht (fun h => kt ?_) (fun h => kf ?_)
  · simp only [Int32.lt_iff_toInt_lt, Int32.le_iff_toInt_le, ← Int32.toInt_inj, hcx, h0] at h; omega
  · simp only [Int32.lt_iff_toInt_lt, Int32.le_iff_toInt_le, ← Int32.toInt_inj, hcx, h0] at h; omega
theorem xg_icmp_ltZ (hX : OK l D cI X cc nL own rm) {x y : Int32} (cx cy : Int) (hcx : x.toInt = cx) (hcy : y.toInt = cy) {off : Int} (tgt : Nat) (hdg : decode cc pc = .ok (.if_icmp .lt off, 3)) (ht : (pc : Int) + off = (tgt : Int)) (kt : cx < cy → GG D X k n tgt ws lv rest) (kf : cy ≤ cx → GG D X k n (pc + 3) ws lv rest) : GG D X k n pc ws lv (.int y :: .int x :: rest) := by
  refine xg_icmp_lt hX tgt hdg ht (fun h => kt ?_) (fun h => kf ?_)
  · simp only [Int32.lt_iff_toInt_lt, Int32.le_iff_toInt_le, ← Int32.toInt_inj, hcx, hcy] at h; omega
  · simp only [Int32.lt_iff_toInt_lt, Int32.le_iff_toInt_le, ← Int32.toInt_inj, hcx, hcy] at h; omega
theorem xg_if_ltZ (hX : OK l D cI X cc nL own rm) {x : Int32} (cx : Int) (hcx : x.toInt = cx) {off : Int} (tgt : Nat) (hdg : decode cc pc = .ok (.ifCond .lt off, 3)) (ht : (pc : Int) + off = (tgt : Int)) (kt : cx < 0 → GG D X k n tgt ws lv rest) (kf : 0 ≤ cx → GG D X k n (pc + 3) ws lv rest) : GG D X k n pc ws lv (.int x :: rest) := by
  have h0 : (0 : Int32).toInt = 0 := rfl
  refine xg_if_lt hX tgt hdg ht (fun h => kt ?_) (fun h => kf ?_)
  · simp only [Int32.lt_iff_toInt_lt, Int32.le_iff_toInt_le, ← Int32.toInt_inj, hcx, h0] at h; omega
  · simp only [Int32.lt_iff_toInt_lt, Int32.le_iff_toInt_le, ← Int32.toInt_inj, hcx, h0] at h; omega
theorem xg_icmp_geZ (hX : OK l D cI X cc nL own rm) {x y : Int32} (cx cy : Int) (hcx : x.toInt = cx) (hcy : y.toInt = cy) {off : Int} (tgt : Nat) (hdg : decode cc pc = .ok (.if_icmp .ge off, 3)) (ht : (pc : Int) + off = (tgt : Int)) (kt : cy ≤ cx → GG D X k n tgt ws lv rest) (kf : cx < cy → GG D X k n (pc + 3) ws lv rest) : GG D X k n pc ws lv (.int y :: .int x :: rest) := by
  refine xg_icmp_ge hX tgt hdg ht (fun h => kt ?_) (fun h => kf ?_)
  · simp only [Int32.lt_iff_toInt_lt, Int32.le_iff_toInt_le, ← Int32.toInt_inj, hcx, hcy] at h; omega
  · simp only [Int32.lt_iff_toInt_lt, Int32.le_iff_toInt_le, ← Int32.toInt_inj, hcx, hcy] at h; omega
theorem xg_if_geZ (hX : OK l D cI X cc nL own rm) {x : Int32} (cx : Int) (hcx : x.toInt = cx) {off : Int} (tgt : Nat) (hdg : decode cc pc = .ok (.ifCond .ge off, 3)) (ht : (pc : Int) + off = (tgt : Int)) (kt : 0 ≤ cx → GG D X k n tgt ws lv rest) (kf : cx < 0 → GG D X k n (pc + 3) ws lv rest) : GG D X k n pc ws lv (.int x :: rest) := by
  have h0 : (0 : Int32).toInt = 0 := rfl
  refine xg_if_ge hX tgt hdg ht (fun h => kt ?_) (fun h => kf ?_)
  · simp only [Int32.lt_iff_toInt_lt, Int32.le_iff_toInt_le, ← Int32.toInt_inj, hcx, h0] at h; omega
  · simp only [Int32.lt_iff_toInt_lt, Int32.le_iff_toInt_le, ← Int32.toInt_inj, hcx, h0] at h; omega
theorem xg_icmp_gtZ (hX : OK l D cI X cc nL own rm) {x y : Int32} (cx cy : Int) (hcx : x.toInt = cx) (hcy : y.toInt = cy) {off : Int} (tgt : Nat) (hdg : decode cc pc = .ok (.if_icmp .gt off, 3)) (ht : (pc : Int) + off = (tgt : Int)) (kt : cy < cx → GG D X k n tgt ws lv rest) (kf : cx ≤ cy → GG D X k n (pc + 3) ws lv rest) : GG D X k n pc ws lv (.int y :: .int x :: rest) := by
  refine xg_icmp_gt hX tgt hdg ht (fun h => kt ?_) (fun h => kf ?_)
  · simp only [Int32.lt_iff_toInt_lt, Int32.le_iff_toInt_le, ← Int32.toInt_inj, hcx, hcy] at h; omega
  · simp only [Int32.lt_iff_toInt_lt, Int32.le_iff_toInt_le, ← Int32.toInt_inj, hcx, hcy] at h; omega
theorem xg_if_gtZ (hX : OK l D cI X cc nL own rm) {x : Int32} (cx : Int) (hcx : x.toInt = cx) {off : Int} (tgt : Nat) (hdg : decode cc pc = .ok (.ifCond .gt off, 3)) (ht : (pc : Int) + off = (tgt : Int)) (kt : 0 < cx → GG D X k n tgt ws lv rest) (kf : cx ≤ 0 → GG D X k n (pc + 3) ws lv rest) : GG D X k n pc ws lv (.int x :: rest) := by
  have h0 : (0 : Int32).toInt = 0 := rfl
  refine xg_if_gt hX tgt hdg ht (fun h => kt ?_) (fun h => kf ?_)
  · simp only [Int32.lt_iff_toInt_lt, Int32.le_iff_toInt_le, ← Int32.toInt_inj, hcx, h0] at h; omega
  · simp only [Int32.lt_iff_toInt_lt, Int32.le_iff_toInt_le, ← Int32.toInt_inj, hcx, h0] at h; omega
theorem xg_icmp_leZ (hX : OK l D cI X cc nL own rm) {x y : Int32} (cx cy : Int) (hcx : x.toInt = cx) (hcy : y.toInt = cy) {off : Int} (tgt : Nat) (hdg : decode cc pc = .ok (.if_icmp .le off, 3)) (ht : (pc : Int) + off = (tgt : Int)) (kt : cx ≤ cy → GG D X k n tgt ws lv rest) (kf : cy < cx → GG D X k n (pc + 3) ws lv rest) : GG D X k n pc ws lv (.int y :: .int x :: rest) := by
  refine xg_icmp_le hX tgt hdg ht (fun h => kt ?_) (fun h => kf ?_)
  · simp only [Int32.lt_iff_toInt_lt, Int32.le_iff_toInt_le, ← Int32.toInt_inj, hcx, hcy] at h; omega
  · simp only [Int32.lt_iff_toInt_lt, Int32.le_iff_toInt_le, ← Int32.toInt_inj, hcx, hcy] at h; omega
theorem xg_if_leZ (hX : OK l D cI X cc nL own rm) {x : Int32} (cx : Int) (hcx : x.toInt = cx) {off : Int} (tgt : Nat) (hdg : decode cc pc = .ok (.ifCond .le off, 3)) (ht : (pc : Int) + off = (tgt : Int)) (kt : cx ≤ 0 → GG D X k n tgt ws lv rest) (kf : 0 < cx → GG D X k n (pc + 3) ws lv rest) : GG D X k n pc ws lv (.int x :: rest) := by
  have h0 : (0 : Int32).toInt = 0 := rfl
  refine xg_if_le hX tgt hdg ht (fun h => kt ?_) (fun h => kf ?_)
  · simp only [Int32.lt_iff_toInt_lt, Int32.le_iff_toInt_le, ← Int32.toInt_inj, hcx, h0] at h; omega
  · simp only [Int32.lt_iff_toInt_lt, Int32.le_iff_toInt_le, ← Int32.toInt_inj, hcx, h0] at h; omega
theorem xg_if_eqB (hX : OK l D cI X cc nL own rm) {b : Bool} {off : Int} (tgt : Nat) (hdg : decode cc pc = .ok (.ifCond .eq off, 3)) (ht : (pc : Int) + off = (tgt : Int)) (kt : b = false → GG D X k n tgt ws lv rest) (kf : b = true → GG D X k n (pc + 3) ws lv rest) : GG D X k n pc ws lv (.int (bI b) :: rest) :=
  xg_if_eq hX tgt hdg ht (fun h => kt (bI_0.mp h)) (fun h => kf (by cases b with | false => exact absurd rfl h | true => rfl))
theorem xg_if_neB (hX : OK l D cI X cc nL own rm) {b : Bool} {off : Int} (tgt : Nat) (hdg : decode cc pc = .ok (.ifCond .ne off, 3)) (ht : (pc : Int) + off = (tgt : Int)) (kt : b = true → GG D X k n tgt ws lv rest) (kf : b = false → GG D X k n (pc + 3) ws lv rest) : GG D X k n pc ws lv (.int (bI b) :: rest) :=
  xg_if_ne hX tgt hdg ht (fun h => kt (by cases b with | false => exact absurd rfl h | true => rfl)) (fun h => kf (bI_0.mp h))
theorem xg_icmp_eqB (hX : OK l D cI X cc nL own rm) {a b : Bool} {off : Int} (tgt : Nat) (hdg : decode cc pc = .ok (.if_icmp .eq off, 3)) (ht : (pc : Int) + off = (tgt : Int)) (kt : a = b → GG D X k n tgt ws lv rest) (kf : a ≠ b → GG D X k n (pc + 3) ws lv rest) : GG D X k n pc ws lv (.int (bI b) :: .int (bI a) :: rest) :=
  xg_icmp_eq hX tgt hdg ht (fun h => kt (bI_inj.mp h)) (fun h => kf (fun q => h (bI_inj.mpr q)))
theorem xg_icmp_neB (hX : OK l D cI X cc nL own rm) {a b : Bool} {off : Int} (tgt : Nat) (hdg : decode cc pc = .ok (.if_icmp .ne off, 3)) (ht : (pc : Int) + off = (tgt : Int)) (kt : a ≠ b → GG D X k n tgt ws lv rest) (kf : a = b → GG D X k n (pc + 3) ws lv rest) : GG D X k n pc ws lv (.int (bI b) :: .int (bI a) :: rest) :=
  xg_icmp_ne hX tgt hdg ht (fun h => kt (fun q => h (bI_inj.mpr q))) (fun h => kf (bI_inj.mp h))
theorem xg_tab (hX : OK l D cI X cc nL own rm) {a c : Nat} (hk : a = c) {dflt lo hi : Int} {offs : Array Int} {len : Nat} {off : Int} (tgt : Nat) (hdg : decode cc pc = .ok (.tableswitch dflt lo hi offs, len)) (h1 : ¬ (nI c).toInt < lo) (h2 : ¬ hi < (nI c).toInt) (ho : offs[((nI c).toInt - lo).toNat]? = some off) (ht : (pc : Int) + off = (tgt : Int)) (kk : GG D X k n tgt ws lv rest) : GG D X k n pc ws lv (.int (nI a) :: rest) := by
  subst hk
  obtain ⟨p, l', e, R, s, m, args, below, meth, c0, Q, A⟩ := X
  obtain ⟨hx, hb, hml, hown, hts, hK, hA, hR, hl0⟩ := hX
  intro H locs ls hP hD hS hl
  exact lv_tableIn hx hb hdg h1 h2 ho ht (kk H locs ls hP hD hS hl)
theorem xg_tabO (hX : OK l D cI X cc nL own rm) {a c : Nat} (hk : a = c) {dflt lo hi : Int} {offs : Array Int} {len : Nat} (tgt : Nat) (hdg : decode cc pc = .ok (.tableswitch dflt lo hi offs, len)) (h : (nI c).toInt < lo ∨ hi < (nI c).toInt) (ht : (pc : Int) + dflt = (tgt : Int)) (kk : GG D X k n tgt ws lv rest) : GG D X k n pc ws lv (.int (nI a) :: rest) := by
  subst hk
  obtain ⟨p, l', e, R, s, m, args, below, meth, c0, Q, A⟩ := X
  obtain ⟨hx, hb, hml, hown, hts, hK, hA, hR, hl0⟩ := hX
  intro H locs ls hP hD hS hl
  exact lv_tableOut hx hb hdg h ht (kk H locs ls hP hD hS hl)
theorem xn_s2 {a b : Nat} (ha : a < 1000000) (hb : b < 1000000) : (nI a - nI b).toInt = (a : Int) - (b : Int) := pk_sub_toInt (show a < 2 ^ 30 by omega) (show b < 2 ^ 30 by omega)
theorem xn_narB (b : Bool) : narrow .boolean (.int (bI b)) = .int (bI b) := by cases b <;> rfl
theorem xn_fitB (b : Bool) : fits .boolean (.int (bI b)) = true := by cases b <;> rfl
end RN
end
section
/-! the pure words for the rows of digits -/
def zf : Nat → Nat := fun _ => 0
def mix (i : Nat) (A B : Nat → Nat) : Nat → Nat := fun j => if j < i then A j else B j
theorem mix_up {i v : Nat} {A B : Nat → Nat} (h : v = A i) : ∀ j, up (mix i A B) i v j = mix (i + 1) A B j := by
  intro j
  unfold up mix
  by_cases h1 : j = i
  · subst h1; simp [h]
  · by_cases h2 : j < i
    · simp [h1, h2, show j < i + 1 by omega]
    · simp [h1, h2, show ¬ j < i + 1 by omega]
theorem mix_0 {A B : Nat → Nat} : ∀ j, B j = mix 0 A B j := by intro j; simp [mix]
theorem mix_hi {i j : Nat} {A B : Nat → Nat} (h : i ≤ j) : mix i A B j = B j := by simp [mix, show ¬ j < i by omega]
theorem mix_lo {i j : Nat} {A B : Nat → Nat} (h : j < i) : mix i A B j = A j := by simp [mix, h]
def hasD (d : Nat → Nat) (a b : Nat) : Bool := (List.range b).any (fun j => decide (a ≤ j) && decide (d j ≠ 0))
theorem hasD_iff {d : Nat → Nat} {a b : Nat} : hasD d a b = true ↔ ∃ j, a ≤ j ∧ j < b ∧ d j ≠ 0 := by
  unfold hasD
  rw [List.any_eq_true]
  constructor
  · rintro ⟨j, h1, h2⟩
    rw [List.mem_range] at h1
    simp only [Bool.and_eq_true, decide_eq_true_eq] at h2
    exact ⟨j, h2.1, h1, h2.2⟩
  · rintro ⟨j, h1, h2, h3⟩
    exact ⟨j, List.mem_range.mpr h2, by simp [h1, h3]⟩
theorem hasD_t {d : Nat → Nat} {a b : Nat} (j : Nat) (h1 : a ≤ j) (h2 : j < b) (h3 : d j ≠ 0) : hasD d a b = true := hasD_iff.mpr ⟨j, h1, h2, h3⟩
theorem hasD_f {d : Nat → Nat} {a b : Nat} (h : ∀ j, a ≤ j → j < b → d j = 0) : hasD d a b = false := by
  cases hq : hasD d a b with
  | false => rfl
  | true =>
    obtain ⟨j, h1, h2, h3⟩ := hasD_iff.mp hq
    exact absurd (h j h1 h2) h3
theorem hasD_0 {d : Nat → Nat} {a b : Nat} (h : hasD d a b = false) : ∀ j, a ≤ j → j < b → d j = 0 := by
  intro j h1 h2
  by_cases h3 : d j = 0
  · exact h3
  · rw [hasD_t j h1 h2 h3] at h; cases h
theorem hasD_ext {d e : Nat → Nat} {a b : Nat} (h : ∀ j, a ≤ j → j < b → d j = e j) : hasD d a b = hasD e a b := by
  cases hq : hasD e a b with
  | true =>
    obtain ⟨j, h1, h2, h3⟩ := hasD_iff.mp hq
    exact hasD_t j h1 h2 (by rw [h j h1 h2]; exact h3)
  | false => exact hasD_f (fun j h1 h2 => by rw [h j h1 h2]; exact hasD_0 hq j h1 h2)
/-- flags of the lowest k digits, of W in all -/
def flg (d : Nat → Nat) (s : Bool) (k : Nat) : Nat := (if hasD d 0 k = true then (if s = true then 8 else 0) else 4) + (if hasD d k 130 = true then 2 else 0)
def dig (m : Nat) : Nat → Nat := fun j => m / 10 ^ j % 10
theorem dig_s (m i : Nat) : m / 10 ^ i / 10 = m / 10 ^ (i + 1) := by rw [Nat.div_div_eq_div_mul, Nat.pow_succ]
theorem dig_lt (m j : Nat) : dig m j < 10 := Nat.mod_lt _ (by decide)
def lbF (d : Nat → Nat) : Nat → Int64
  | 0 => 0
  | n + 1 => lbF d n * 10 + lN (d (30 - n))
def cmpZ (d e : Nat → Nat) : Nat → Int32
  | 0 => 0
  | n + 1 => if d n = e n then cmpZ d e n else if d n < e n then -1 else 1
theorem cmpZ_tri (d e : Nat → Nat) (n : Nat) : cmpZ d e n = 0 ∨ cmpZ d e n = -1 ∨ cmpZ d e n = 1 := by
  induction n with
  | zero => exact Or.inl rfl
  | succ n ih =>
    unfold cmpZ
    by_cases h1 : d n = e n
    · simp only [h1, if_true]; exact ih
    · by_cases h2 : d n < e n
      · simp [h1, h2]
      · simp [h1, h2]
def ordS (d : Nat → Nat) (s : Bool) (e : Nat → Nat) (t : Bool) : Int32 := if s = t then (if s = true then -(cmpZ d e 32) else cmpZ d e 32) else if s = true then -1 else 1
def adC (x y : Nat → Nat) : Nat → Nat
  | 0 => 0
  | k + 1 => (x k + y k + adC x y k) / 10
def adD (x y : Nat → Nat) : Nat → Nat := fun k => (x k + y k + adC x y k) % 10
theorem adC_le {x y : Nat → Nat} (hx : ∀ j, x j < 10) (hy : ∀ j, y j < 10) (k : Nat) : adC x y k ≤ 1 := by
  induction k with
  | zero => exact Nat.zero_le _
  | succ k ih =>
    unfold adC
    have h1 := hx k
    have h2 := hy k
    omega
theorem adD_lt (x y : Nat → Nat) (k : Nat) : adD x y k < 10 := Nat.mod_lt _ (by decide)
def suB (x y : Nat → Nat) : Nat → Nat
  | 0 => 0
  | k + 1 => if x k < y k + suB x y k then 1 else 0
def suD (x y : Nat → Nat) : Nat → Nat := fun k => x k + 10 * suB x y (k + 1) - (y k + suB x y k)
theorem suB_le (x y : Nat → Nat) (k : Nat) : suB x y k ≤ 1 := by
  cases k with
  | zero => exact Nat.zero_le _
  | succ k =>
    unfold suB
    by_cases h : x k < y k + suB x y k <;> simp [h]
theorem suD_lt {x y : Nat → Nat} (hx : ∀ j, x j < 10) (hy : ∀ j, y j < 10) (k : Nat) : suD x y k < 10 := by
  have h1 := hx k
  have h2 := hy k
  have h3 := suB_le x y k
  unfold suD
  show x k + 10 * (if x k < y k + suB x y k then 1 else 0) - (y k + suB x y k) < 10
  by_cases h : x k < y k + suB x y k
  · rw [if_pos h]; omega
  · rw [if_neg h]; omega
def inC (d : Nat → Nat) : Nat → Nat
  | 0 => 1
  | k + 1 => (d k + inC d k) / 10
def inD (d : Nat → Nat) : Nat → Nat := fun k => (d k + inC d k) % 10
theorem inC_le {d : Nat → Nat} (hd : ∀ j, d j < 10) (k : Nat) : inC d k ≤ 1 := by
  induction k with
  | zero => exact Nat.le_refl _
  | succ k ih =>
    unfold inC
    have h1 := hd k
    omega
theorem inC_0 {d : Nat → Nat} (hd : ∀ j, d j < 10) {k : Nat} (h : inC d k = 0) : ∀ j, k ≤ j → inC d j = 0 := by
  intro j hj
  induction j with
  | zero => obtain rfl : k = 0 := by omega
            exact h
  | succ j ih =>
    by_cases hk : k = j + 1
    · subst hk; exact h
    · have h2 := ih (by omega)
      have h1 := hd j
      unfold inC
      rw [h2]; omega
def amC (d y : Nat → Nat) (f a : Nat) : Nat → Nat
  | 0 => 0
  | k + 1 => (d (a + k) + f * y k + amC d y f a k) / 10
def amD (d y : Nat → Nat) (f a : Nat) : Nat → Nat := fun j => if a ≤ j then (d j + f * y (j - a) + amC d y f a (j - a)) % 10 else d j
/-- the first k of the 32 places from a on are done -/
def amR (d y : Nat → Nat) (f a k : Nat) : Nat → Nat := mix (a + k) (amD d y f a) d
theorem amC_le {d y : Nat → Nat} {f a : Nat} (hd : ∀ j, d j < 10) (hy : ∀ j, y j < 10) (hf : f < 10) (k : Nat) : amC d y f a k ≤ 9 := by
  induction k with
  | zero => exact Nat.zero_le _
  | succ k ih =>
    unfold amC
    have h1 := hd (a + k)
    have h2 := hy k
    have h3 : f * y k ≤ 81 := by
      have : f * y k ≤ 9 * 9 := Nat.mul_le_mul (by omega) (by omega)
      omega
    omega
def muR (x y : Nat → Nat) : Nat → Nat → Nat
  | 0 => zf
  | i + 1 => if x i = 0 then muR x y i else amR (muR x y i) y (x i) i 32
theorem amR_lt {d y : Nat → Nat} {f a k : Nat} (hd : ∀ j, d j < 10) (j : Nat) : amR d y f a k j < 10 := by
  unfold amR mix amD
  by_cases h : j < a + k
  · by_cases h2 : a ≤ j
    · simp only [h, h2, if_true]; exact Nat.mod_lt _ (by decide)
    · simp only [h, h2, if_true, if_false]; exact hd j
  · simp only [h, if_false]; exact hd j
theorem muR_lt (x y : Nat → Nat) (i : Nat) : ∀ j, muR x y i j < 10 := by
  induction i with
  | zero => intro j; show 0 < 10; decide
  | succ i ih =>
    intro j
    unfold muR
    by_cases h : x i = 0
    · simp only [h, if_true]; exact ih j
    · simp only [h, if_false]; exact amR_lt ih j
/-- long division; w: how many places the rest has -/
def bdW (w : Nat) (r : Nat → Nat) (g : Nat) : Nat → Nat := fun j => if j = 0 then g else if j < w then r (j - 1) else r j
def sbW (w : Nat) (r e : Nat → Nat) : Nat → Nat := mix w (suD r e) r
def taF (w : Nat) (e : Nat → Nat) : Nat → (Nat → Nat) → Nat × (Nat → Nat)
  | 0, r => (0, r)
  | f + 1, r => if cmpZ r e w < 0 then (0, r) else ((taF w e f (sbW w r e)).1 + 1, (taF w e f (sbW w r e)).2)
def dvR (w : Nat) (x e : Nat → Nat) : Nat → (Nat → Nat)
  | 0 => zf
  | n + 1 => (taF w e 9 (bdW w (dvR w x e n) (x (30 - n)))).2
/-- the quotient's digit at place i -/
def dvQ (w : Nat) (x e : Nat → Nat) : Nat → Nat := fun i => (taF w e 9 (bdW w (dvR w x e (30 - i)) (x i))).1
def mvD (x : Nat → Nat) (by_ : Int) : Nat → Nat := fun j => if by_ ≤ (j : Int) ∧ (j : Int) < 31 + by_ then x ((j : Int) - by_).toNat else 0
def absN (x : Int32) : Nat := x.toInt.natAbs
theorem absN_lt (x : Int32) : absN x ≤ 2147483648 := by
  have h1 := x.toInt_lt
  have h2 := x.le_toInt
  unfold absN
  omega
theorem xn_labs (x : Int32) : (if 0 < x.toInt64 then x.toInt64 else -x.toInt64) = lN (absN x) := by
  have h1 := x.toInt_lt
  have h2 := x.le_toInt
  have h3 : x.toInt64.toInt = x.toInt := Int32.toInt_toInt64 x
  have hb := absN_lt x
  have h0 : (0 : Int64).toInt = 0 := rfl
  apply Int64.toInt_inj.mp
  rw [pk_lT (show absN x < 2 ^ 63 by omega)]
  by_cases h : 0 < x.toInt64
  · rw [if_pos h, h3]
    rw [Int64.lt_iff_toInt_lt, h3, h0] at h
    unfold absN
    omega
  · rw [if_neg h, Int64.toInt_neg, h3]
    rw [Int64.lt_iff_toInt_lt, h3, h0] at h
    unfold absN
    rw [Int.bmod_eq_of_le (by omega) (by omega)]
    omega
theorem lb_s {d : Nat → Nat} {j : Nat} (h : j + 1 ≤ 31) : lbF d (31 - (j + 1)) * 10 + lN (d j) = lbF d (31 - j) := by
  rw [show 31 - j = (31 - (j + 1)) + 1 by omega]
  show _ = lbF d (31 - (j + 1)) * 10 + lN (d (30 - (31 - (j + 1))))
  rw [show 30 - (31 - (j + 1)) = j by omega]
theorem xn_s3 {a b c : Nat} (ha : a < 1000000) (hb : b < 1000000) (hc : c < 1000000) : (nI a - nI b - nI c).toInt = (a : Int) - (b : Int) - (c : Int) := by
  rw [Int32.toInt_sub, Int32.toInt_sub, xn_ti (by omega), xn_ti (by omega), xn_ti (by omega)]
  rw [Int.bmod_eq_of_le (n := (a : Int) - (b : Int)) (by omega) (by omega), Int.bmod_eq_of_le (by omega) (by omega)]
theorem xn_s4 {a b c e : Nat} (h : b + c ≤ a + e) : nI a - nI b - nI c + nI e = nI (a + e - (b + c)) := by
  have h1 : nI a + nI e = nI (a + e - (b + c)) + (nI b + nI c) := by
    rw [nI_add, nI_add, nI_add]
    congr 1
    omega
  generalize nI (a + e - (b + c)) = r at h1 ⊢
  grind
theorem xn_addZ {i : Nat} {b : Int32} (hi : i < 1000000) (h1 : -1000000 ≤ b.toInt) (h2 : b.toInt ≤ 1000000) : (nI i + b).toInt = (i : Int) + b.toInt := by
  rw [Int32.toInt_add, xn_ti (by omega), Int.bmod_eq_of_le (by omega) (by omega)]
theorem xn_addN {i : Nat} {b : Int32} (hi : i < 1000000) (h2 : b.toInt ≤ 1000000) (h : 0 ≤ (i : Int) + b.toInt) : nI i + b = nI ((i : Int) + b.toInt).toNat := by
  apply Int32.toInt_inj.mp
  rw [xn_addZ hi (by omega) h2, xn_ti (by omega)]
  omega
theorem in_fin {d : Nat → Nat} (hd : ∀ j, d j < 10) {i : Nat} (hi : i ≤ 32) (h : i = 32 ∨ inC d i = 0) : ∀ j, mix i (inD d) d j = mix 32 (inD d) d j := by
  intro j
  rcases h with rfl | h
  · rfl
  · unfold mix
    by_cases h1 : j < i
    · simp [h1, show j < 32 by omega]
    · by_cases h2 : j < 32
      · simp only [h1, h2, if_true, if_false]
        unfold inD
        have h3 := inC_0 hd h j (by omega)
        have h4 := hd j
        omega
      · simp [h1, h2]
theorem amR_0 {d y : Nat → Nat} {f a : Nat} : ∀ j, d j = amR d y f a 0 j := by
  intro j
  unfold amR mix amD
  by_cases h : j < a + 0
  · simp [show j < a by omega, show ¬ a ≤ j by omega]
  · simp only [h, if_false]
theorem amR_s {d y : Nat → Nat} {f a i : Nat} : ∀ j, up (amR d y f a i) (a + i) ((d (a + i) + f * y i + amC d y f a i) % 10) j = amR d y f a (i + 1) j := by
  intro j
  unfold amR
  rw [mix_up (i := a + i) (A := amD d y f a) (B := d) (by
    unfold amD
    rw [if_pos (by omega), Nat.add_sub_cancel_left])]
  rfl
def bdP (d : Nat → Nat) (i : Nat) : Nat → Nat := fun j => if i < j ∧ j < 32 then d (j - 1) else d j
theorem bdP_0 {d : Nat → Nat} : ∀ j, d j = bdP d 31 j := by
  intro j
  unfold bdP
  rw [if_neg (by omega)]
theorem bdP_at {d : Nat → Nat} {i : Nat} (h : 0 < i) : bdP d i (i - 1) = d (i - 1) := by
  unfold bdP
  rw [if_neg (by omega)]
theorem bdP_s {d : Nat → Nat} {i : Nat} (h : 0 < i ∧ i ≤ 31) : ∀ j, up (bdP d i) i (d (i - 1)) j = bdP d (i - 1) j := by
  intro j
  unfold up bdP
  by_cases h1 : j = i
  · subst h1; rw [if_pos rfl, if_pos (by omega)]
  · rw [if_neg h1]
    by_cases h2 : i < j ∧ j < 32
    · rw [if_pos h2, if_pos (by omega)]
    · rw [if_neg h2, if_neg (by omega)]
theorem bdP_e {d : Nat → Nat} {g : Nat} : ∀ j, up (bdP d 0) 0 g j = bdW 32 d g j := by
  intro j
  unfold up bdP bdW
  by_cases h1 : j = 0
  · simp [h1]
  · rw [if_neg h1, if_neg h1]
    by_cases h2 : j < 32
    · rw [if_pos (by omega), if_pos h2]
    · rw [if_neg (by omega), if_neg h2]
theorem sbW_lt {w : Nat} {r e : Nat → Nat} (hr : ∀ j, r j < 10) (he : ∀ j, e j < 10) : ∀ j, sbW w r e j < 10 := by
  intro j
  unfold sbW mix
  by_cases h : j < w
  · rw [if_pos h]; exact suD_lt hr he j
  · rw [if_neg h]; exact hr j
theorem bdW_lt {w : Nat} {r : Nat → Nat} {g : Nat} (hr : ∀ j, r j < 10) (hg : g < 10) : ∀ j, bdW w r g j < 10 := by
  intro j
  unfold bdW
  by_cases h : j = 0
  · rw [if_pos h]; exact hg
  · rw [if_neg h]
    by_cases h2 : j < w
    · rw [if_pos h2]; exact hr _
    · rw [if_neg h2]; exact hr _
theorem taF_lt {w : Nat} {e : Nat → Nat} (he : ∀ j, e j < 10) (f : Nat) : ∀ r : Nat → Nat, (∀ j, r j < 10) → ∀ j, (taF w e f r).2 j < 10 := by
  induction f with
  | zero => intro r hr; exact hr
  | succ f ih =>
    intro r hr j
    unfold taF
    by_cases h : cmpZ r e w < 0
    · rw [if_pos h]; exact hr j
    · rw [if_neg h]; exact ih _ (sbW_lt hr he) j
theorem dvR_lt {w : Nat} {x e : Nat → Nat} (hx : ∀ j, x j < 10) (he : ∀ j, e j < 10) (n : Nat) : ∀ j, dvR w x e n j < 10 := by
  induction n with
  | zero => intro j; show 0 < 10; decide
  | succ n ih => exact taF_lt he 9 _ (bdW_lt ih (hx _))
theorem taF_s {w : Nat} {e r : Nat → Nat} {k : Nat} (h9 : k < 9) (h : ¬ cmpZ r e w < 0) : (k + (taF w e (9 - k) r).1, (taF w e (9 - k) r).2) = (k + 1 + (taF w e (9 - (k + 1)) (sbW w r e)).1, (taF w e (9 - (k + 1)) (sbW w r e)).2) := by
  rw [show 9 - k = (9 - (k + 1)) + 1 by omega]
  have h1 : taF w e ((9 - (k + 1)) + 1) r = ((taF w e (9 - (k + 1)) (sbW w r e)).1 + 1, (taF w e (9 - (k + 1)) (sbW w r e)).2) := by
    show (if cmpZ r e w < 0 then _ else _) = _
    rw [if_neg h]
  rw [h1]
  congr 1
  show k + (_ + 1) = k + 1 + _
  omega
theorem taF_end9 {w : Nat} {e r : Nat → Nat} {k : Nat} (h9 : k = 9) : (k + (taF w e (9 - k) r).1, (taF w e (9 - k) r).2) = (k, r) := by
  subst h9
  rfl
theorem taF_lt0 {w : Nat} {e r : Nat → Nat} {k : Nat} (h9 : k < 9) (h : cmpZ r e w < 0) : (k + (taF w e (9 - k) r).1, (taF w e (9 - k) r).2) = (k, r) := by
  rw [show 9 - k = (9 - (k + 1)) + 1 by omega]
  have h1 : taF w e ((9 - (k + 1)) + 1) r = (0, r) := by
    show (if cmpZ r e w < 0 then _ else _) = _
    rw [if_pos h]
  rw [h1]
  rfl
def qmx (c : Nat) (Q : Nat → Nat) : Nat → Nat := fun j => if c ≤ j ∧ j < 31 then Q j else 0
theorem qmx_31 {Q : Nat → Nat} {n : Nat} : ∀ j, j < n → zf j = qmx 31 Q j := by
  intro j _
  unfold qmx zf
  rw [if_neg (by omega)]
theorem qmx_s {Q : Nat → Nat} {j v : Nat} (hj : j + 1 ≤ 31) (hv : v = Q j) : ∀ i, up (qmx (j + 1) Q) j v i = qmx j Q i := by
  intro i
  unfold up qmx
  by_cases h : i = j
  · subst h; rw [if_pos rfl, if_pos (by omega)]; exact hv
  · rw [if_neg h]
    by_cases h2 : j + 1 ≤ i ∧ i < 31
    · rw [if_pos h2, if_pos (by omega)]
    · rw [if_neg h2, if_neg (by omega)]
theorem dv_q {w : Nat} {x e : Nat → Nat} {j : Nat} (h : j + 1 ≤ 31) : (taF w e 9 (bdW w (dvR w x e (31 - (j + 1))) (x j))).1 = dvQ w x e j := by
  unfold dvQ
  rw [show 31 - (j + 1) = 30 - j by omega]
theorem dv_s {w : Nat} {x e : Nat → Nat} {j : Nat} (h : j + 1 ≤ 31) : (taF w e 9 (bdW w (dvR w x e (31 - (j + 1))) (x j))).2 = dvR w x e (31 - j) := by
  rw [show 31 - j = (31 - (j + 1)) + 1 by omega]
  show _ = (taF w e 9 (bdW w (dvR w x e (31 - (j + 1))) (x (30 - (31 - (j + 1)))))).2
  rw [show 30 - (31 - (j + 1)) = j by omega]
def mvI (x : Nat → Nat) (b : Int) (i : Nat) : Nat → Nat := fun j => if b ≤ (j : Int) ∧ (j : Int) < (i : Int) + b then x ((j : Int) - b).toNat else 0
theorem mvI_0 {x : Nat → Nat} {b : Int} : ∀ j, zf j = mvI x b 0 j := by
  intro j
  unfold mvI zf
  rw [if_neg (by omega)]
theorem mvI_neg {x : Nat → Nat} {b : Int} {i : Nat} (h : (i : Int) + b < 0) : ∀ j, mvI x b i j = mvI x b (i + 1) j := by
  intro j
  unfold mvI
  rw [if_neg (by omega), if_neg (by omega)]
theorem mvI_s {x : Nat → Nat} {b : Int} {i k : Nat} (h : (k : Int) = (i : Int) + b) : ∀ j, up (mvI x b i) k (x i) j = mvI x b (i + 1) j := by
  intro j
  unfold up mvI
  by_cases h1 : j = k
  · subst h1
    rw [if_pos rfl, if_pos (by omega)]
    congr 1
    omega
  · rw [if_neg h1]
    by_cases h2 : b ≤ (j : Int) ∧ (j : Int) < (i : Int) + b
    · rw [if_pos h2, if_pos (by omega)]
    · rw [if_neg h2, if_neg (by omega)]
def asD (x : Nat → Nat) (s : Bool) (y : Nat → Nat) (t : Bool) : Nat → Nat := if s = t then mix 32 (adD x y) zf else if cmpZ x y 32 < 0 then mix 32 (suD y x) zf else mix 32 (suD x y) zf
def asS (x : Nat → Nat) (s : Bool) (y : Nat → Nat) (t : Bool) : Bool := if s = t then s else if cmpZ x y 32 < 0 then t else s
theorem muR_0 {x y : Nat → Nat} {i : Nat} (h : x i = 0) : muR x y (i + 1) = muR x y i := if_pos h
theorem muR_1 {x y : Nat → Nat} {i : Nat} (h : x i ≠ 0) : muR x y (i + 1) = amR (muR x y i) y (x i) i 32 := if_neg h
end
section
/-! the pure words for the memory -/
def byt (M : Nat → Nat) (x : Int32) : Int32 := if 0 ≤ x.toInt ∧ x.toInt < 256 then nI (M x.toInt.toNat) else -1
def lo8 (b : Int32) : Nat := b.toBitVec.toNat % 256
def inM (x : Int32) : Bool := decide (0 ≤ x.toInt ∧ x.toInt < 256)
def putM (M : Nat → Nat) (x b : Int32) : Nat → Nat := if 0 ≤ x.toInt ∧ x.toInt < 256 then up M x.toInt.toNat (lo8 b) else M
def dfits (n a : Int32) : Bool := decide (0 ≤ n.toInt ∧ n.toInt ≤ 31 ∧ 0 ≤ a.toInt ∧ a.toInt < 256 - n.toInt / 2)
def cfits (n a : Int32) : Bool := decide (0 ≤ n.toInt ∧ n.toInt ≤ 31 ∧ 0 ≤ a.toInt ∧ a.toInt < 256 - n.toInt)
theorem xn_self {x : Int32} (h : 0 ≤ x.toInt) : x = nI x.toInt.toNat := by
  have h1 := x.toInt_lt
  apply Int32.toInt_inj.mp
  rw [xn_ti (by omega)]
  omega
theorem xn_lo8 (b : Int32) : b &&& nI 255 = nI (lo8 b) := pk_and b 8 (by decide)
theorem lo8_lt (b : Int32) : lo8 b < 256 := Nat.mod_lt _ (by decide)
theorem xn_and15 {n : Nat} (h : n < 256) : nI n &&& nI 15 = nI (n % 16) := pk_andN (show n < 2 ^ 32 by omega) 4 (by decide)
theorem xn_and255 {n : Nat} (h : n < 256) : nI n &&& nI 255 = nI n := by
  rw [pk_andN (show n < 2 ^ 32 by omega) 8 (by decide), Nat.mod_eq_of_lt h]
theorem xn_shr4 {n : Nat} (h : n < 256) : nI n >>> (nI 4 &&& 31) = nI (n / 16) := pk_shrN (show n < 2 ^ 31 by omega) (nI 4 &&& 31) 4 (by decide)
/-- the half byte that lies h halves ahead of the last one -/
def hfE (M : Nat → Nat) (n a h : Nat) : Nat := if h % 2 = 0 then M (a + n / 2 - h / 2) % 16 else M (a + n / 2 - h / 2) / 16 % 16
theorem hfE_lt (M : Nat → Nat) (n a h : Nat) : hfE M n a h < 16 := by
  unfold hfE
  by_cases q : h % 2 = 0
  · rw [if_pos q]; exact Nat.mod_lt _ (by decide)
  · rw [if_neg q]; exact Nat.mod_lt _ (by decide)
def rdD (M : Nat → Nat) (n a : Nat) : Nat → Nat := fun k => if k < n then hfE M n a (k + 1) else 0
def rdb (M : Nat → Nat) (n a : Nat) : Bool := decide (10 ≤ hfE M n a 0) && (List.range n).all (fun k => decide (hfE M n a (k + 1) ≤ 9))
def rdS (M : Nat → Nat) (n a : Nat) : Bool := decide (hfE M n a 0 = 13 ∨ hfE M n a 0 = 11) && hasD (rdD M n a) 0 130
theorem rdb_iff {M : Nat → Nat} {n a : Nat} : rdb M n a = true ↔ 10 ≤ hfE M n a 0 ∧ ∀ k, k < n → hfE M n a (k + 1) ≤ 9 := by
  unfold rdb
  rw [Bool.and_eq_true, List.all_eq_true, decide_eq_true_eq]
  constructor
  · rintro ⟨h1, h2⟩
    exact ⟨h1, fun k hk => by simpa using h2 k (List.mem_range.mpr hk)⟩
  · rintro ⟨h1, h2⟩
    exact ⟨h1, fun k hk => by simpa using h2 k (List.mem_range.mp hk)⟩
theorem rdb_f {M : Nat → Nat} {n a : Nat} (h : ¬ (10 ≤ hfE M n a 0 ∧ ∀ k, k < n → hfE M n a (k + 1) ≤ 9)) : rdb M n a = false := by
  cases q : rdb M n a with
  | false => rfl
  | true => exact absurd (rdb_iff.mp q) h
theorem rdD_lt {M : Nat → Nat} {n a : Nat} (h : ∀ k, k < n → hfE M n a (k + 1) ≤ 9) : ∀ j, rdD M n a j < 10 := by
  intro j
  unfold rdD
  by_cases q : j < n
  · rw [if_pos q]; have := h j q; omega
  · rw [if_neg q]; decide
theorem rdD_hi {M : Nat → Nat} {n a j : Nat} (h : n ≤ j) : rdD M n a j = 0 := by
  unfold rdD
  rw [if_neg (by omega)]
theorem rdD_at {M : Nat → Nat} {n a j : Nat} (h : j < n) : hfE M n a (j + 1) = rdD M n a j := by
  unfold rdD
  rw [if_pos h]
theorem rdD_fin {M : Nat → Nat} {n a : Nat} : ∀ j, mix n (rdD M n a) zf j = rdD M n a j := by
  intro j
  unfold mix
  by_cases q : j < n
  · rw [if_pos q]
  · rw [if_neg q, rdD_hi (by omega)]; rfl
/-- characters: a sign, then digits -/
def chD (M : Nat → Nat) (n a : Nat) : Nat → Nat := fun k => if k < n then M (a + n - k) - 48 else 0
def chb (M : Nat → Nat) (n a : Nat) : Bool := decide (M a = 43 ∨ M a = 45 ∨ M a = 32) && (List.range n).all (fun k => decide (48 ≤ M (a + n - k) ∧ M (a + n - k) ≤ 57))
def chS (M : Nat → Nat) (n a : Nat) : Bool := decide (M a = 45) && hasD (chD M n a) 0 130
theorem chb_iff {M : Nat → Nat} {n a : Nat} : chb M n a = true ↔ (M a = 43 ∨ M a = 45 ∨ M a = 32) ∧ ∀ k, k < n → 48 ≤ M (a + n - k) ∧ M (a + n - k) ≤ 57 := by
  unfold chb
  rw [Bool.and_eq_true, List.all_eq_true, decide_eq_true_eq]
  constructor
  · rintro ⟨h1, h2⟩
    exact ⟨h1, fun k hk => by simpa using h2 k (List.mem_range.mpr hk)⟩
  · rintro ⟨h1, h2⟩
    exact ⟨h1, fun k hk => by simpa using h2 k (List.mem_range.mp hk)⟩
theorem chb_f {M : Nat → Nat} {n a : Nat} (h : ¬ ((M a = 43 ∨ M a = 45 ∨ M a = 32) ∧ ∀ k, k < n → 48 ≤ M (a + n - k) ∧ M (a + n - k) ≤ 57)) : chb M n a = false := by
  cases q : chb M n a with
  | false => rfl
  | true => exact absurd (chb_iff.mp q) h
theorem chD_lt {M : Nat → Nat} {n a : Nat} (h : ∀ k, k < n → 48 ≤ M (a + n - k) ∧ M (a + n - k) ≤ 57) : ∀ j, chD M n a j < 10 := by
  intro j
  unfold chD
  by_cases q : j < n
  · rw [if_pos q]; have := h j q; omega
  · rw [if_neg q]; decide
theorem chD_hi {M : Nat → Nat} {n a j : Nat} (h : n ≤ j) : chD M n a j = 0 := by
  unfold chD
  rw [if_neg (by omega)]
theorem chD_at {M : Nat → Nat} {n a j : Nat} (h : j < n) : M (a + n - j) - 48 = chD M n a j := by
  unfold chD
  rw [if_pos h]
theorem chD_fin {M : Nat → Nat} {n a : Nat} : ∀ j, mix n (chD M n a) zf j = chD M n a j := by
  intro j
  unfold mix
  by_cases q : j < n
  · rw [if_pos q]
  · rw [if_neg q, chD_hi (by omega)]; rfl
/-- writing: ng, is what is left below 0 -/
def ng (d : Nat → Nat) (s : Bool) (n : Nat) : Bool := hasD d 0 n && s
theorem xn_f8 (d : Nat → Nat) (s : Bool) (n : Nat) : nI (flg d s n) &&& nI 8 = nI (if ng d s n = true then 8 else 0) := by
  unfold flg ng
  cases hasD d 0 n <;> cases hasD d n 130 <;> cases s <;> decide
theorem flg_lt (d : Nat → Nat) (s : Bool) (n : Nat) : flg d s n < 16 := by
  unfold flg
  cases hasD d 0 n <;> cases hasD d n 130 <;> cases s <;> decide
def wrL (d : Nat → Nat) (sg : Nat) : Nat → Nat
  | 0 => sg
  | i + 1 => d (2 * i + 1)
def wrB (d : Nat → Nat) (sg n i : Nat) : Nat := (if 2 * i < n then d (2 * i) else 0) * 16 + wrL d sg i
/-- i bytes from the last on are written -/
def wrP (M d : Nat → Nat) (sg n a i : Nat) : Nat → Nat := fun j => if j ≤ a + n / 2 ∧ a + n / 2 < j + i then wrB d sg n (a + n / 2 - j) else M j
def wrM (M d : Nat → Nat) (s : Bool) (n a : Nat) : Nat → Nat := wrP M d (if ng d s n = true then 13 else 12) n a (n / 2 + 1)
theorem wrL_lt {d : Nat → Nat} {sg : Nat} (hd : ∀ j, d j < 10) (hs : sg < 16) (i : Nat) : wrL d sg i < 16 := by
  cases i with
  | zero => exact hs
  | succ i => have := hd (2 * i + 1); show d (2 * i + 1) < 16; omega
theorem wrP_0 {M d : Nat → Nat} {sg n a : Nat} : ∀ j, M j = wrP M d sg n a 0 j := by
  intro j
  unfold wrP
  rw [if_neg (by omega)]
theorem wrP_s {M d : Nat → Nat} {sg n a i v : Nat} (hi : i ≤ n / 2) (hv : v = wrB d sg n i) : ∀ j, up (wrP M d sg n a i) (a + n / 2 - i) v j = wrP M d sg n a (i + 1) j := by
  intro j
  unfold up wrP
  by_cases h : j = a + n / 2 - i
  · subst h
    rw [if_pos rfl, if_pos (by omega), hv]
    congr 1
    omega
  · rw [if_neg h]
    by_cases h2 : j ≤ a + n / 2 ∧ a + n / 2 < j + i
    · rw [if_pos h2, if_pos (by omega)]
    · rw [if_neg h2, if_neg (by omega)]
/-! the pure words for a pattern: what is written, how much, digits left, significance, fill, sign -/
abbrev PW : Type := (Nat → Nat) × Nat × Nat × Bool × Nat × Nat
def pWr (c : Nat) (u : PW) : Option PW := if u.2.1 < 64 then some (up u.1 u.2.1 c, u.2.1 + 1, u.2.2) else none
def pFl : Nat → PW → Option PW
  | 0, u => some u
  | x + 1, u => (pWr u.2.2.2.2.1 u).bind (pFl x)
def pDg (T : Nat → Nat) (sd : Bool) (u : PW) : Option PW :=
  match u with
  | (W, cn, lf, sg, fi, si) =>
    if T (lf - 1) = 0 ∧ sg = false then pWr fi (W, cn, lf - 1, sg, fi, si)
    else if sd = true ∧ sg = false then (pWr si (W, cn, lf - 1, true, fi, si)).bind (pWr (48 + T (lf - 1)))
    else pWr (48 + T (lf - 1)) (W, cn, lf - 1, true, fi, si)
def pDs (T : Nat → Nat) (sd : Bool) : Nat → PW → Option PW
  | 0, u => some u
  | x + 1, u => if u.2.2.1 = 0 then none else (pDg T sd u).bind (pDs T sd x)
def pL8 (zr : Bool) (x : Nat) (u : PW) : Option PW :=
  match u with
  | (W, cn, lf, sg, fi, si) => if cn < x then none else some (if zr = true then (fun j => if cn - x ≤ j ∧ j < cn then fi else W j) else W, cn, lf, sg, fi, si)
/-- bytes 4 .. 8, with the next one -/
def pNx (bl zr : Bool) (k x : Nat) (u : PW) : Option PW :=
  match u with
  | (W, cn, lf, sg, fi, si) =>
    if k = 4 then some (W, cn, lf, sg, x, si)
    else if k = 5 then some (W, cn, lf, sg, fi, if bl = true then si else x)
    else if k = 6 then some (W, cn, lf, sg, fi, if bl = true then x else si)
    else if k = 7 then pWr (if sg = true then x else fi) (W, cn, lf, sg, fi, si)
    else pL8 zr x (W, cn, lf, sg, fi, si)
/-- a byte that isn't 0; nx: the next one, none beyond memory -/
def pOb (T : Nat → Nat) (bl zr : Bool) (k : Nat) (nx : Option Nat) (u : PW) : Option PW :=
  if 160 < k ∧ k ≤ 175 then pDs T true (k - 160) u
  else if 144 < k ∧ k ≤ 159 then pDs T false (k - 144) u
  else if 128 < k ∧ k ≤ 143 then pFl (k - 128) u
  else if 4 ≤ k ∧ k ≤ 8 then nx.bind (fun x => pNx bl zr k x u)
  else if k = 1 ∨ k = 2 then some (u.1, u.2.1, u.2.2.1, decide (k = 2), u.2.2.2.2)
  else if k = 3 then pWr u.2.2.2.2.2 u
  else none
def takesN (k : Nat) : Bool := decide (4 ≤ k ∧ k ≤ 8)
def pres (ok : Bool) (o : Option PW) (u : PW) : Prop := (ok = true ∧ o = some u) ∨ (ok = false ∧ o = none)
theorem pres_t {o : Option PW} {u : PW} (h : o = some u) : pres true o u := Or.inl ⟨rfl, h⟩
theorem pres_f {o : Option PW} {u : PW} (h : o = none) : pres false o u := Or.inr ⟨rfl, h⟩
theorem pres_some {ok : Bool} {o : Option PW} {u : PW} (h : pres ok o u) (hk : ok = true) : o = some u := by
  rcases h with ⟨_, h⟩ | ⟨q, _⟩
  · exact h
  · rw [hk] at q; cases q
theorem pres_none {ok : Bool} {o : Option PW} {u : PW} (h : pres ok o u) (hk : ok = false) : o = none := by
  rcases h with ⟨q, _⟩ | ⟨_, h⟩
  · rw [hk] at q; cases q
  · exact h
theorem pWr_cn {c : Nat} {u v : PW} (h : pWr c u = some v) : v = (up u.1 u.2.1 c, u.2.1 + 1, u.2.2) ∧ u.2.1 < 64 := by
  unfold pWr at h
  by_cases q : u.2.1 < 64
  · rw [if_pos q] at h; exact ⟨(Option.some.inj h).symm, q⟩
  · rw [if_neg q] at h; cases h
theorem pDg_lf {T : Nat → Nat} {sd : Bool} {u v : PW} (h : pDg T sd u = some v) : v.2.2.1 = u.2.2.1 - 1 ∧ v.2.1 ≤ 64 := by
  obtain ⟨W, cn, lf, sg, fi, si⟩ := u
  simp only [pDg] at h
  by_cases h1 : T (lf - 1) = 0 ∧ sg = false
  · rw [if_pos h1] at h
    obtain ⟨rfl, q⟩ := pWr_cn h
    exact ⟨rfl, q⟩
  · rw [if_neg h1] at h
    by_cases h2 : sd = true ∧ sg = false
    · rw [if_pos h2] at h
      cases h3 : pWr si (W, cn, lf - 1, true, fi, si) with
      | none => rw [h3] at h; cases h
      | some w =>
        rw [h3] at h
        obtain ⟨rfl, q⟩ := pWr_cn h3
        obtain ⟨rfl, q2⟩ := pWr_cn (show pWr _ _ = some v from h)
        exact ⟨rfl, q2⟩
    · rw [if_neg h2] at h
      obtain ⟨rfl, q⟩ := pWr_cn h
      exact ⟨rfl, q⟩
theorem pDs_more {T : Nat → Nat} {sd : Bool} (x : Nat) : ∀ u : PW, u.2.2.1 < x → pDs T sd x u = none := by
  induction x with
  | zero => intro u h; exact absurd h (Nat.not_lt_zero _)
  | succ x ih =>
    intro u h
    unfold pDs
    by_cases h0 : u.2.2.1 = 0
    · rw [if_pos h0]
    · rw [if_neg h0]
      cases h3 : pDg T sd u with
      | none => rfl
      | some v =>
        show pDs T sd x v = none
        exact ih v (by have := (pDg_lf h3).1; omega)
theorem pWr_eq {c cn lf fi si cn2 lf2 fi2 si2 : Nat} {sg sg2 : Bool} {W W2 : Nat → Nat} (h : pWr c (W, cn, lf, sg, fi, si) = some (W2, cn2, lf2, sg2, fi2, si2)) : up W cn c = W2 ∧ cn + 1 = cn2 ∧ lf = lf2 ∧ sg = sg2 ∧ fi = fi2 ∧ si = si2 ∧ cn < 64 := by
  obtain ⟨q, e⟩ := pWr_cn h
  cases q
  exact ⟨rfl, rfl, rfl, rfl, rfl, rfl, e⟩
theorem pWr_lt {c cn lf fi si : Nat} {sg : Bool} {W : Nat → Nat} (h : cn < 64) : pWr c (W, cn, lf, sg, fi, si) = some (up W cn c, cn + 1, lf, sg, fi, si) := if_pos h
theorem pFl_s {x cn lf fi si : Nat} {sg : Bool} {W : Nat → Nat} : pFl (x + 1) (W, cn, lf, sg, fi, si) = (pWr fi (W, cn, lf, sg, fi, si)).bind (pFl x) := rfl
theorem pDs_s {T : Nat → Nat} {sd : Bool} {x cn lf fi si : Nat} {sg : Bool} {W : Nat → Nat} (h : lf ≠ 0) : pDs T sd (x + 1) (W, cn, lf, sg, fi, si) = (pDg T sd (W, cn, lf, sg, fi, si)).bind (pDs T sd x) := if_neg h
theorem pDg_eq {T : Nat → Nat} {sd : Bool} {cn lf fi si : Nat} {sg : Bool} {W : Nat → Nat} : pDg T sd (W, cn, lf + 1, sg, fi, si) = if T lf = 0 ∧ sg = false then pWr fi (W, cn, lf, sg, fi, si) else if sd = true ∧ sg = false then (pWr si (W, cn, lf, true, fi, si)).bind (pWr (48 + T lf)) else pWr (48 + T lf) (W, cn, lf, true, fi, si) := rfl
theorem pDg_keep {T : Nat → Nat} {sd : Bool} {cn lf fi si cn2 lf2 fi2 si2 : Nat} {sg sg2 : Bool} {W W2 : Nat → Nat} (h : pDg T sd (W, cn, lf + 1, sg, fi, si) = some (W2, cn2, lf2, sg2, fi2, si2)) : lf = lf2 ∧ fi = fi2 ∧ si = si2 ∧ cn2 ≤ 64 := by
  rw [pDg_eq] at h
  by_cases h1 : T lf = 0 ∧ sg = false
  · rw [if_pos h1] at h
    obtain ⟨-, rfl, rfl, -, rfl, rfl, e⟩ := pWr_eq h
    exact ⟨rfl, rfl, rfl, e⟩
  · rw [if_neg h1] at h
    by_cases h2 : sd = true ∧ sg = false
    · rw [if_pos h2] at h
      cases h3 : pWr si (W, cn, lf, true, fi, si) with
      | none => rw [h3] at h; cases h
      | some w =>
        obtain ⟨q, e⟩ := pWr_cn h3
        rw [h3] at h
        cases q
        obtain ⟨-, rfl, rfl, -, rfl, rfl, e⟩ := pWr_eq (show pWr (48 + T lf) _ = _ from h)
        exact ⟨rfl, rfl, rfl, e⟩
    · rw [if_neg h2] at h
      obtain ⟨-, rfl, rfl, -, rfl, rfl, e⟩ := pWr_eq h
      exact ⟨rfl, rfl, rfl, e⟩
def f8 (W : Nat → Nat) (fi cn x i : Nat) : Nat → Nat := fun j => if cn - x ≤ j ∧ j < i then fi else W j
theorem f8_0 {W : Nat → Nat} {fi cn x : Nat} : ∀ j, W j = f8 W fi cn x (cn - x) j := by
  intro j
  unfold f8
  rw [if_neg (by omega)]
theorem f8_s {W : Nat → Nat} {fi cn x i : Nat} (h : cn - x ≤ i) : ∀ j, up (f8 W fi cn x i) i fi j = f8 W fi cn x (i + 1) j := by
  intro j
  unfold up f8
  by_cases q : j = i
  · subst q; rw [if_pos rfl, if_pos (by omega)]
  · rw [if_neg q]
    by_cases q2 : cn - x ≤ j ∧ j < i
    · rw [if_pos q2, if_pos (by omega)]
    · rw [if_neg q2, if_neg (by omega)]
theorem pL8_no {zr : Bool} {x cn lf fi si : Nat} {sg : Bool} {W : Nat → Nat} (h : cn < x) : pL8 zr x (W, cn, lf, sg, fi, si) = none := if_pos h
theorem pL8_f {zr : Bool} {x cn lf fi si : Nat} {sg : Bool} {W : Nat → Nat} (h : x ≤ cn) (hz : zr = false) : pL8 zr x (W, cn, lf, sg, fi, si) = some (W, cn, lf, sg, fi, si) := by
  subst hz
  exact if_neg (Nat.not_lt.mpr h)
theorem pL8_t {zr : Bool} {x cn lf fi si : Nat} {sg : Bool} {W : Nat → Nat} (h : x ≤ cn) (hz : zr = true) : pL8 zr x (W, cn, lf, sg, fi, si) = some (f8 W fi cn x cn, cn, lf, sg, fi, si) := by
  subst hz
  exact if_neg (Nat.not_lt.mpr h)
def nxI : Option Nat → Int32
  | none => -1
  | some y => nI y
def nxO (M : Nat → Nat) (x : Int32) : Option Nat := if 0 ≤ x.toInt ∧ x.toInt < 256 then some (M x.toInt.toNat) else none
theorem nxO_I (M : Nat → Nat) (x : Int32) : byt M x = nxI (nxO M x) := by
  unfold byt nxO
  by_cases h : 0 ≤ x.toInt ∧ x.toInt < 256
  · rw [if_pos h, if_pos h]; rfl
  · rw [if_neg h, if_neg h]; rfl
/-- a pattern from at on, n bytes that tell what to do left; M: the memory -/
def fol (M T : Nat → Nat) (bl zr : Bool) : Nat → Int32 → PW → Option PW
  | 0, _, _ => none
  | n + 1, p, u => (nxO M p).bind (fun k => if k = 0 then (if u.2.2.1 = 0 then some u else none) else if n = 0 then none else (pOb T bl zr k (nxO M (p + 1)) u).bind (fol M T bl zr n (p + nI (if takesN k = true then 2 else 1))))
end
section
set_option maxHeartbeats 4000000 in
set_option maxRecDepth 100000 in
theorem xc_digitAt (l : Launch) (D : va_G) (cI : ClassId) (tq : Nat) (tp : Nat) (td : Nat → Nat) (ts : Bool) (k : Nat) (hk : k < 130) : Ctr l D cI yR_digitAt cR_digitAt 2 (some .int) { frames := 0, cells := 0, slots := 0, locals := 0 } [.ref tq, .int (nI k)] [(tq, .inr (0, [.ref tp, .int (bI ts)])), (tp, .inl (cI, 130, .inl (nf td)))] (fun _ : Unit => some (.int (nI (td k)))) (fun _ : Unit => True) (fun _ : Unit => [(tq, .inr (0, [.ref tp, .int (bI ts)])), (tp, .inl (cI, 130, .inl (nf td)))]) 0 0 := by
  refine xc_mkI (by decide +kernel) (Nat.le_of_ble_eq_true rfl) (fun X hX hret => ?_)
  show GG D X 0 0 0 [(tq, .inr (0, [.ref tp, .int (bI ts)])), (tp, .inl (cI, 130, .inl (nf td)))] [(0, .ref tq), (1, .int (nI k))] []
  refine xg_iload_n hX 1 dR_digitAt_0 rfl rfl ?_
  refine xg_if_ltN hX 20 (by omega) dR_digitAt_1 (by decide) ?_
  refine xg_iload_n hX 1 dR_digitAt_4 rfl rfl ?_
  refine xg_sipush hX (nI 130) dR_digitAt_5 (by decide) ?_
  refine xg_icmp_geN hX 20 (by omega) (by omega) dR_digitAt_8 (by decide) (fun h2 => absurd h2 (by omega)) (fun h2 => ?_)
  refine xg_aload_n hX 0 dR_digitAt_11 rfl rfl ?_
  refine xg_get hX (ci := 0) rfl hinR 0 rfl 0 (by decide) mt_21 rfl dR_digitAt_12 ?_
  refine xg_iload_n hX 1 dR_digitAt_15 rfl rfl ?_
  refine xg_iald hX 1 k rfl (by omega) (by decide) dR_digitAt_16 ?_
  refine xg_goto hX 21 dR_digitAt_17 (by decide) ?_
  exact hret () _ _ _ rfl trivial dR_digitAt_21
set_option maxHeartbeats 4000000 in
set_option maxRecDepth 100000 in
theorem xc_setDigit (l : Launch) (D : va_G) (cI : ClassId) (tq : Nat) (tp : Nat) (td : Nat → Nat) (ts : Bool) (k : Nat) (v : Nat) (hk : k < 130) : Ctr l D cI yR_setDigit cR_setDigit 3 none { frames := 0, cells := 0, slots := 0, locals := 0 } [.ref tq, .int (nI k), .int (nI v)] [(tq, .inr (0, [.ref tp, .int (bI ts)])), (tp, .inl (cI, 130, .inl (nf td)))] (fun _ : Unit => none) (fun _ : Unit => True) (fun _ : Unit => [(tq, .inr (0, [.ref tp, .int (bI ts)])), (tp, .inl (cI, 130, .inl (nf (up td k v))))]) 0 0 := by
  refine xc_mkV (by decide +kernel) (Nat.le_of_ble_eq_true rfl) (fun X hX hin hret => ?_)
  show GG D X 0 0 0 [(tq, .inr (0, [.ref tp, .int (bI ts)])), (tp, .inl (cI, 130, .inl (nf td)))] [(0, .ref tq), (1, .int (nI k)), (2, .int (nI v))] []
  refine xg_iload_n hX 1 dR_setDigit_0 rfl rfl ?_
  refine xg_if_ltN hX 18 (by omega) dR_setDigit_1 (by decide) ?_
  refine xg_iload_n hX 1 dR_setDigit_4 rfl rfl ?_
  refine xg_sipush hX (nI 130) dR_setDigit_5 (by decide) ?_
  refine xg_icmp_geN hX 18 (by omega) (by omega) dR_setDigit_8 (by decide) (fun h2 => absurd h2 (by omega)) (fun h2 => ?_)
  refine xg_aload_n hX 0 dR_setDigit_11 rfl rfl ?_
  refine xg_get hX (ci := 0) rfl hinR 0 rfl 0 (by decide) mt_21 rfl dR_setDigit_12 ?_
  refine xg_iload_n hX 1 dR_setDigit_15 rfl rfl ?_
  refine xg_iload_n hX 2 dR_setDigit_16 rfl rfl ?_
  refine xg_iast hX (ws' := [(tq, .inr (0, [.ref tp, .int (bI ts)])), (tp, .inl (cI, 130, .inl (nf (up td k v))))]) 1 k v rfl (by omega) (by decide) rfl dR_setDigit_17 ?_
  exact hret () _ _ rfl trivial dR_setDigit_18
set_option maxHeartbeats 4000000 in
set_option maxRecDepth 100000 in
theorem xc_setDigitNeg (l : Launch) (D : va_G) (cI : ClassId) (tq : Nat) (tp : Nat) (td : Nat → Nat) (ts : Bool) (x : Int32) (v : Nat) (hx : x.toInt < 0) : Ctr l D cI yR_setDigit cR_setDigit 3 none { frames := 0, cells := 0, slots := 0, locals := 0 } [.ref tq, .int x, .int (nI v)] [(tq, .inr (0, [.ref tp, .int (bI ts)])), (tp, .inl (cI, 130, .inl (nf td)))] (fun _ : Unit => none) (fun _ : Unit => True) (fun _ : Unit => [(tq, .inr (0, [.ref tp, .int (bI ts)])), (tp, .inl (cI, 130, .inl (nf td)))]) 0 0 := by
  refine xc_mkV (by decide +kernel) (Nat.le_of_ble_eq_true rfl) (fun X hX hin hret => ?_)
  show GG D X 0 0 0 [(tq, .inr (0, [.ref tp, .int (bI ts)])), (tp, .inl (cI, 130, .inl (nf td)))] [(0, .ref tq), (1, .int x), (2, .int (nI v))] []
  refine xg_iload_n hX 1 dR_setDigit_0 rfl rfl ?_
  refine xg_if_ltZ hX x.toInt rfl 18 dR_setDigit_1 (by decide) (fun h1 => ?_) (fun h1 => absurd h1 (by omega))
  exact hret () _ _ rfl trivial dR_setDigit_18
set_option maxHeartbeats 4000000 in
set_option maxRecDepth 100000 in
theorem xc_fill (l : Launch) (D : va_G) (cI : ClassId) (tp : Nat) (td : Nat → Nat) (v : Nat) : Ctr l D cI yJA_fill cJA_fill 4 none { frames := 0, cells := 0, slots := 0, locals := 0 } [.ref tp, .int (nI v)] [(tp, .inl (cI, 130, .inl (nf td)))] (fun _ : Unit => none) (fun _ : Unit => True) (fun _ : Unit => [(tp, .inl (cI, 130, .inl (nf (fun _ => v))))]) 0 0 := by
  refine xc_mkV (by decide +kernel) (Nat.le_of_ble_eq_true rfl) (fun X hX hin hret => ?_)
  show GG D X 0 0 0 [(tp, .inl (cI, 130, .inl (nf td)))] [(0, .ref tp), (1, .int (nI v))] []
  refine xg_iconst hX (nI 0) dJA_fill_0 (by decide) ?_
  refine xg_istore_n hX (lv' := [(2, .int (nI 0)), (0, .ref tp), (1, .int (nI v))]) dJA_fill_1 rfl (by decide) rfl ?_
  refine xg_aload_n hX 1 dJA_fill_2 rfl rfl ?_
  refine xg_alen hX 0 rfl dJA_fill_3 ?_
  refine xg_istore_n hX (lv' := [(3, .int (nI 130)), (2, .int (nI 0)), (0, .ref tp), (1, .int (nI v))]) dJA_fill_4 rfl (by decide) rfl ?_
  have lp1 : ∀ (fu2 : Nat) (i : Nat), (i ≤ 130) → 130 - i < fu2 → GG D X 0 0 5 [(tp, .inl (cI, 130, .inl (nf (mix i (fun _ => v) td))))] [(0, .ref tp), (1, .int (nI v)), (2, .int (nI i)), (3, .int (nI 130))] [] := by
    intro fu2
    induction fu2 with
    | zero => intro i hi hm4; exact absurd hm4 (Nat.not_lt_zero _)
    | succ fu2 ih3 =>
      intro i hi hm4
      refine xg_iload_n hX 2 dJA_fill_5 rfl rfl ?_
      refine xg_iload_n hX 3 dJA_fill_6 rfl rfl ?_
      refine xg_icmp_geN hX 20 (by omega) (by omega) dJA_fill_7 (by decide) (fun h5 => ?_) (fun h5 => ?_)
      ·
        have hie : i = 130 := by omega
        refine xg_ext hX (g := fun _ => v) (ws' := [(tp, .inl (cI, 130, .inl (nf (fun _ => v))))]) 0 rfl (fun j hj => by rw [hie]; exact mix_lo hj) rfl ?_
        exact hret () _ _ rfl trivial dJA_fill_20
      ·
        refine xg_aload_n hX 0 dJA_fill_10 rfl rfl ?_
        refine xg_iload_n hX 2 dJA_fill_11 rfl rfl ?_
        refine xg_iload_n hX 1 dJA_fill_12 rfl rfl ?_
        refine xg_iast hX (ws' := [(tp, .inl (cI, 130, .inl (nf (up (mix i (fun _ => v) td) i v))))]) 0 i v rfl (by omega) (by decide) rfl dJA_fill_13 ?_
        refine xg_iincN hX (lv' := [(2, .int (nI (i + 1))), (0, .ref tp), (1, .int (nI v)), (3, .int (nI 130))]) (i + 1) 2 dJA_fill_14 rfl (xn_inc _) (by decide) rfl ?_
        refine xg_goto hX 5 dJA_fill_17 (by decide) ?_
        refine xg_ext hX (g := mix (i + 1) (fun _ => v) td) (ws' := [(tp, .inl (cI, 130, .inl (nf (mix (i + 1) (fun _ => v) td))))]) 0 rfl (fun j hj => mix_up rfl j) rfl ?_
        refine xg_lv hX (lv' := [(0, .ref tp), (1, .int (nI v)), (2, .int (nI (i + 1))), (3, .int (nI 130))]) [1, 2, 0, 3] rfl ?_
        exact ih3 (i + 1) (by omega) (by omega)
  refine xg_ext hX (g := mix 0 (fun _ => v) td) (ws' := [(tp, .inl (cI, 130, .inl (nf (mix 0 (fun _ => v) td))))]) 0 rfl (fun j hj => mix_0 j) rfl ?_
  refine xg_lv hX (lv' := [(0, .ref tp), (1, .int (nI v)), (2, .int (nI 0)), (3, .int (nI 130))]) [2, 3, 1, 0] rfl ?_
  exact lp1 (130 - 0 + 1) 0 (by omega) (Nat.lt_succ_self _)
set_option maxHeartbeats 4000000 in
set_option maxRecDepth 100000 in
theorem xc_clear (l : Launch) (D : va_G) (cI : ClassId) (tq : Nat) (tp : Nat) (td : Nat → Nat) (ts : Bool) : Ctr l D cI yR_clear cR_clear 1 none { frames := 1, cells := 0, slots := 0, locals := 23 } [.ref tq] [(tq, .inr (0, [.ref tp, .int (bI ts)])), (tp, .inl (cI, 130, .inl (nf td)))] (fun _ : Unit => none) (fun _ : Unit => True) (fun _ : Unit => [(tq, .inr (0, [.ref tp, .int (bI false)])), (tp, .inl (cI, 130, .inl (nf zf)))]) 0 0 := by
  refine xc_mkV (by decide +kernel) (Nat.le_of_ble_eq_true rfl) (fun X hX hin hret => ?_)
  show GG D X 0 0 0 [(tq, .inr (0, [.ref tp, .int (bI ts)])), (tp, .inl (cI, 130, .inl (nf td)))] [(0, .ref tq)] []
  refine xg_aload_n hX 0 dR_clear_0 rfl rfl ?_
  refine xg_get hX (ci := 0) rfl hinR 0 rfl 0 (by decide) mt_21 rfl dR_clear_1 ?_
  refine xg_iconst hX (nI 0) dR_clear_4 (by decide) ?_
  refine xg_cS hX [.ref tp, .int (nI 0)] (hM := xc_fill l D cI tp td 0) (wr := [(tq, .inr (0, [.ref tp, .int (bI ts)]))]) (ws' := fun _ => [(tq, .inr (0, [.ref tp, .int (bI ts)])), (tp, .inl (cI, 130, .inl (nf (fun _ => 0))))]) (st' := fun _ => []) [1] [0] [0, 1] [] rfl mt_124 mt_122 mt_5 mt_123 hdJA_fill (by decide) ⟨rfl, rfl⟩ (by decide) rfl rfl (by decide) rfl (by decide) (by decide) (by decide) (fun u => rfl) (fun u => rfl) (fun u => rfl) rfl rfl (by simp [Value.category]) dR_clear_5 (fun _ _ => ?_)
  refine xg_aload_n hX 0 dR_clear_8 rfl rfl ?_
  refine xg_iconst hX (nI 0) dR_clear_9 (by decide) ?_
  refine xg_top (bI false) rfl ?_
  refine xg_put hX tyR tyR_ok nmR (ci := 0) rfl hinR (ws' := [(tq, .inr (0, [.ref tp, .int (bI false)])), (tp, .inl (cI, 130, .inl (nf (fun _ => 0))))]) 0 rfl 1 (by decide) mt_22 rfl (xn_narB _) (xn_fitB _) (Nat.le_of_ble_eq_true rfl) rfl dR_clear_10 ?_
  refine xg_ext hX (g := zf) (ws' := [(tq, .inr (0, [.ref tp, .int (bI false)])), (tp, .inl (cI, 130, .inl (nf zf)))]) 1 rfl (fun j hj => rfl) rfl ?_
  exact hret () _ _ rfl trivial dR_clear_13
set_option maxHeartbeats 4000000 in
set_option maxRecDepth 100000 in
theorem xc_hasDigit (l : Launch) (D : va_G) (cI : ClassId) (tq : Nat) (tp : Nat) (td : Nat → Nat) (ts : Bool) (a : Nat) (b : Nat) (hab : a ≤ b) (hb : b ≤ 130) (htd : ∀ j, td j < 10) : Ctr l D cI yR_hasDigit cR_hasDigit 4 (some .boolean) { frames := 1, cells := 0, slots := 0, locals := 21 } [.ref tq, .int (nI a), .int (nI b)] [(tq, .inr (0, [.ref tp, .int (bI ts)])), (tp, .inl (cI, 130, .inl (nf td)))] (fun _ : Unit => some (.int (bI (hasD td a b)))) (fun _ : Unit => True) (fun _ : Unit => [(tq, .inr (0, [.ref tp, .int (bI ts)])), (tp, .inl (cI, 130, .inl (nf td)))]) 0 0 := by
  refine xc_mkZ (by decide +kernel) (Nat.le_of_ble_eq_true rfl) (fun X hX hret => ?_)
  show GG D X 0 0 0 [(tq, .inr (0, [.ref tp, .int (bI ts)])), (tp, .inl (cI, 130, .inl (nf td)))] [(0, .ref tq), (1, .int (nI a)), (2, .int (nI b))] []
  refine xg_iload_n hX 1 dR_hasDigit_0 rfl rfl ?_
  refine xg_istore_n hX (lv' := [(3, .int (nI a)), (0, .ref tq), (1, .int (nI a)), (2, .int (nI b))]) dR_hasDigit_1 rfl (by decide) rfl ?_
  have lp1 : ∀ (fu2 : Nat) (i : Nat), (a ≤ i) → (i ≤ b) → (∀ j, a ≤ j → j < i → td j = 0) → b - i < fu2 → GG D X 0 0 2 [(tq, .inr (0, [.ref tp, .int (bI ts)])), (tp, .inl (cI, 130, .inl (nf td)))] [(0, .ref tq), (1, .int (nI a)), (2, .int (nI b)), (3, .int (nI i))] [] := by
    intro fu2
    induction fu2 with
    | zero => intro i hi1 hi2 hz hm4; exact absurd hm4 (Nat.not_lt_zero _)
    | succ fu2 ih3 =>
      intro i hi1 hi2 hz hm4
      refine xg_iload_n hX 3 dR_hasDigit_2 rfl rfl ?_
      refine xg_iload_n hX 2 dR_hasDigit_3 rfl rfl ?_
      refine xg_icmp_geN hX 23 (by omega) (by omega) dR_hasDigit_4 (by decide) (fun h4 => ?_) (fun h4 => ?_)
      ·
        refine xg_iconst hX (nI 0) dR_hasDigit_23 (by decide) ?_
        refine xg_top (bI (hasD td a b)) (by rw [hasD_f (fun j h1 h2 => hz j h1 (by omega))] <;> rfl) ?_
        exact hret () _ _ _ rfl (xn_narB _) trivial dR_hasDigit_24
      ·
        refine xg_aload_n hX 0 dR_hasDigit_7 rfl rfl ?_
        refine xg_iload_n hX 3 dR_hasDigit_8 rfl rfl ?_
        refine xg_cV hX tq [.int (nI i)] (hM := xc_digitAt l D cI tq tp td ts i (by omega)) (wr := []) (ws' := fun _ => [(tq, .inr (0, [.ref tp, .int (bI ts)])), (tp, .inl (cI, 130, .inl (nf td)))]) (st' := fun _ => [.int (nI (td i))]) [0, 1] [] [0, 1] [] rfl mt_144 mt_141 mt_2 mt_142 mt_143 0 rfl rfl hdR_digitAt (by decide) ⟨rfl, rfl⟩ (by decide) rfl rfl (by decide) rfl (by decide) (by decide) (by decide) (fun u => rfl) (fun u => rfl) (fun u => rfl) rfl rfl (by simp [Value.category]) dR_hasDigit_9 (fun _ _ => ?_)
        have htdi := htd i
        refine xg_if_eqN hX 17 (by omega) dR_hasDigit_12 (by decide) (fun h12 => ?_) (fun h12 => ?_)
        ·
          refine xg_iincN hX (lv' := [(3, .int (nI (i + 1))), (0, .ref tq), (1, .int (nI a)), (2, .int (nI b))]) (i + 1) 3 dR_hasDigit_17 rfl (xn_inc _) (by decide) rfl ?_
          refine xg_goto hX 2 dR_hasDigit_20 (by decide) ?_
          refine xg_lv hX (lv' := [(0, .ref tq), (1, .int (nI a)), (2, .int (nI b)), (3, .int (nI (i + 1)))]) [1, 2, 3, 0] rfl ?_
          exact ih3 (i + 1) (by omega) (by omega) (fun j h1 h2 => by rcases Nat.lt_or_ge j i with q | q; exact hz j h1 q; obtain rfl : j = i := (by omega); exact h12) (by omega)
        ·
          refine xg_iconst hX (nI 1) dR_hasDigit_15 (by decide) ?_
          refine xg_top (bI (hasD td a b)) (by rw [hasD_t i hi1 h4 (by omega)] <;> rfl) ?_
          exact hret () _ _ _ rfl (xn_narB _) trivial dR_hasDigit_16
  refine xg_lv hX (lv' := [(0, .ref tq), (1, .int (nI a)), (2, .int (nI b)), (3, .int (nI a))]) [1, 2, 3, 0] rfl ?_
  exact lp1 (b - a + 1) a (by omega) (by omega) (fun j h1 h2 => by omega) (Nat.lt_succ_self _)
set_option maxHeartbeats 4000000 in
set_option maxRecDepth 100000 in
theorem xc_isZero (l : Launch) (D : va_G) (cI : ClassId) (tq : Nat) (tp : Nat) (td : Nat → Nat) (ts : Bool) (htd : ∀ j, td j < 10) : Ctr l D cI yR_isZero cR_isZero 1 (some .boolean) { frames := 2, cells := 0, slots := 0, locals := 44 } [.ref tq] [(tq, .inr (0, [.ref tp, .int (bI ts)])), (tp, .inl (cI, 130, .inl (nf td)))] (fun _ : Unit => some (.int (bI (!hasD td 0 130)))) (fun _ : Unit => True) (fun _ : Unit => [(tq, .inr (0, [.ref tp, .int (bI ts)])), (tp, .inl (cI, 130, .inl (nf td)))]) 0 0 := by
  refine xc_mkZ (by decide +kernel) (Nat.le_of_ble_eq_true rfl) (fun X hX hret => ?_)
  show GG D X 0 0 0 [(tq, .inr (0, [.ref tp, .int (bI ts)])), (tp, .inl (cI, 130, .inl (nf td)))] [(0, .ref tq)] []
  refine xg_aload_n hX 0 dR_isZero_0 rfl rfl ?_
  refine xg_iconst hX (nI 0) dR_isZero_1 (by decide) ?_
  refine xg_sipush hX (nI 130) dR_isZero_2 (by decide) ?_
  refine xg_cV hX tq [.int (nI 0), .int (nI 130)] (hM := xc_hasDigit l D cI tq tp td ts 0 130 (by omega) (by omega) htd) (wr := []) (ws' := fun _ => [(tq, .inr (0, [.ref tp, .int (bI ts)])), (tp, .inl (cI, 130, .inl (nf td)))]) (st' := fun _ => [.int (bI (hasD td 0 130))]) [0, 1] [] [0, 1] [] rfl mt_140 mt_137 mt_2 mt_138 mt_139 0 rfl rfl hdR_hasDigit (by decide) ⟨rfl, rfl⟩ (by decide) rfl rfl (by decide) rfl (by decide) (by decide) (by decide) (fun u => rfl) (fun u => rfl) (fun u => rfl) rfl rfl (by simp [Value.category]) dR_isZero_5 (fun _ _ => ?_)
  refine xg_if_neB hX 15 dR_isZero_8 (by decide) (fun h8 => ?_) (fun h8 => ?_)
  ·
    refine xg_iconst hX (nI 0) dR_isZero_15 (by decide) ?_
    refine xg_top (bI (!hasD td 0 130)) (by rw [h8] <;> rfl) ?_
    exact hret () _ _ _ rfl (xn_narB _) trivial dR_isZero_16
  ·
    refine xg_iconst hX (nI 1) dR_isZero_11 (by decide) ?_
    refine xg_goto hX 16 dR_isZero_12 (by decide) ?_
    refine xg_top (bI (!hasD td 0 130)) (by rw [h8] <;> rfl) ?_
    exact hret () _ _ _ rfl (xn_narB _) trivial dR_isZero_16
set_option maxHeartbeats 4000000 in
set_option maxRecDepth 100000 in
theorem xc_setSign (l : Launch) (D : va_G) (cI : ClassId) (tq : Nat) (tp : Nat) (td : Nat → Nat) (ts : Bool) (b : Bool) (htd : ∀ j, td j < 10) : Ctr l D cI yR_setSign cR_setSign 2 none { frames := 3, cells := 0, slots := 0, locals := 64 } [.ref tq, .int (bI b)] [(tq, .inr (0, [.ref tp, .int (bI ts)])), (tp, .inl (cI, 130, .inl (nf td)))] (fun _ : Unit => none) (fun _ : Unit => True) (fun _ : Unit => [(tq, .inr (0, [.ref tp, .int (bI (b && hasD td 0 130))])), (tp, .inl (cI, 130, .inl (nf td)))]) 0 0 := by
  refine xc_mkV (by decide +kernel) (Nat.le_of_ble_eq_true rfl) (fun X hX hin hret => ?_)
  show GG D X 0 0 0 [(tq, .inr (0, [.ref tp, .int (bI ts)])), (tp, .inl (cI, 130, .inl (nf td)))] [(0, .ref tq), (1, .int (bI b))] []
  refine xg_aload_n hX 0 dR_setSign_0 rfl rfl ?_
  refine xg_iload_n hX 1 dR_setSign_1 rfl rfl ?_
  refine xg_if_eqB hX 16 dR_setSign_2 (by decide) (fun h2 => ?_) (fun h2 => ?_)
  ·
    refine xg_iconst hX (nI 0) dR_setSign_16 (by decide) ?_
    refine xg_top (bI false) rfl ?_
    refine xg_put hX tyR tyR_ok nmR (ci := 0) rfl hinR (ws' := [(tq, .inr (0, [.ref tp, .int (bI false)])), (tp, .inl (cI, 130, .inl (nf td)))]) 0 rfl 1 (by decide) mt_22 rfl (xn_narB _) (xn_fitB _) (Nat.le_of_ble_eq_true rfl) rfl dR_setSign_17 ?_
    refine xg_wsE (ws' := [(tq, .inr (0, [.ref tp, .int (bI (b && hasD td 0 130))])), (tp, .inl (cI, 130, .inl (nf td)))]) (by rw [← (show (bI false : Int32) = bI (b && hasD td 0 130) from (by first | (rw [h2] <;> rfl) | (have h8 : hasD td 0 130 = true := (by simpa using h9); rw [h2, h8] <;> rfl) | (have h8 : hasD td 0 130 = false := (by simpa using h9); rw [h2, h8] <;> rfl)))]) ?_
    exact hret () _ _ rfl trivial dR_setSign_20
  ·
    refine xg_aload_n hX 0 dR_setSign_5 rfl rfl ?_
    refine xg_cV hX tq [] (hM := xc_isZero l D cI tq tp td ts htd) (wr := []) (ws' := fun _ => [(tq, .inr (0, [.ref tp, .int (bI ts)])), (tp, .inl (cI, 130, .inl (nf td)))]) (st' := fun _ => [.int (bI (!hasD td 0 130)), .ref tq]) [0, 1] [] [0, 1] [.ref tq] rfl mt_136 mt_133 mt_2 mt_134 mt_135 0 rfl rfl hdR_isZero (by decide) ⟨rfl, rfl⟩ (by decide) rfl rfl (by decide) rfl (by decide) (by decide) (by decide) (fun u => rfl) (fun u => rfl) (fun u => rfl) rfl rfl (by simp [Value.category]) dR_setSign_6 (fun _ _ => ?_)
    refine xg_if_neB hX 16 dR_setSign_9 (by decide) (fun h9 => ?_) (fun h9 => ?_)
    ·
      refine xg_iconst hX (nI 0) dR_setSign_16 (by decide) ?_
      refine xg_top (bI false) rfl ?_
      refine xg_put hX tyR tyR_ok nmR (ci := 0) rfl hinR (ws' := [(tq, .inr (0, [.ref tp, .int (bI false)])), (tp, .inl (cI, 130, .inl (nf td)))]) 0 rfl 1 (by decide) mt_22 rfl (xn_narB _) (xn_fitB _) (Nat.le_of_ble_eq_true rfl) rfl dR_setSign_17 ?_
      refine xg_wsE (ws' := [(tq, .inr (0, [.ref tp, .int (bI (b && hasD td 0 130))])), (tp, .inl (cI, 130, .inl (nf td)))]) (by rw [← (show (bI false : Int32) = bI (b && hasD td 0 130) from (by first | (rw [h2] <;> rfl) | (have h8 : hasD td 0 130 = true := (by simpa using h9); rw [h2, h8] <;> rfl) | (have h8 : hasD td 0 130 = false := (by simpa using h9); rw [h2, h8] <;> rfl)))]) ?_
      exact hret () _ _ rfl trivial dR_setSign_20
    ·
      refine xg_iconst hX (nI 1) dR_setSign_12 (by decide) ?_
      refine xg_goto hX 17 dR_setSign_13 (by decide) ?_
      refine xg_top (bI true) rfl ?_
      refine xg_put hX tyR tyR_ok nmR (ci := 0) rfl hinR (ws' := [(tq, .inr (0, [.ref tp, .int (bI true)])), (tp, .inl (cI, 130, .inl (nf td)))]) 0 rfl 1 (by decide) mt_22 rfl (xn_narB _) (xn_fitB _) (Nat.le_of_ble_eq_true rfl) rfl dR_setSign_17 ?_
      refine xg_wsE (ws' := [(tq, .inr (0, [.ref tp, .int (bI (b && hasD td 0 130))])), (tp, .inl (cI, 130, .inl (nf td)))]) (by rw [← (show (bI true : Int32) = bI (b && hasD td 0 130) from (by first | (rw [h2] <;> rfl) | (have h8 : hasD td 0 130 = true := (by simpa using h9); rw [h2, h8] <;> rfl) | (have h8 : hasD td 0 130 = false := (by simpa using h9); rw [h2, h8] <;> rfl)))]) ?_
      exact hret () _ _ rfl trivial dR_setSign_20
set_option maxHeartbeats 4000000 in
set_option maxRecDepth 100000 in
theorem xc_flags (l : Launch) (D : va_G) (cI : ClassId) (tq : Nat) (tp : Nat) (td : Nat → Nat) (ts : Bool) (k : Nat) (hk : k ≤ 130) (htd : ∀ j, td j < 10) : Ctr l D cI yR_flagsOfLowest cR_flagsOfLowest 3 (some .int) { frames := 2, cells := 0, slots := 0, locals := 44 } [.ref tq, .int (nI k)] [(tq, .inr (0, [.ref tp, .int (bI ts)])), (tp, .inl (cI, 130, .inl (nf td)))] (fun _ : Unit => some (.int (nI (flg td ts k)))) (fun _ : Unit => True) (fun _ : Unit => [(tq, .inr (0, [.ref tp, .int (bI ts)])), (tp, .inl (cI, 130, .inl (nf td)))]) 0 0 := by
  refine xc_mkI (by decide +kernel) (Nat.le_of_ble_eq_true rfl) (fun X hX hret => ?_)
  show GG D X 0 0 0 [(tq, .inr (0, [.ref tp, .int (bI ts)])), (tp, .inl (cI, 130, .inl (nf td)))] [(0, .ref tq), (1, .int (nI k))] []
  refine xg_iconst hX (nI 0) dR_flagsOfLowest_0 (by decide) ?_
  refine xg_istore_n hX (lv' := [(2, .int (nI 0)), (0, .ref tq), (1, .int (nI k))]) dR_flagsOfLowest_1 rfl (by decide) rfl ?_
  refine xg_aload_n hX 1 dR_flagsOfLowest_2 rfl rfl ?_
  refine xg_iconst hX (nI 0) dR_flagsOfLowest_3 (by decide) ?_
  refine xg_iload_n hX 2 dR_flagsOfLowest_4 rfl rfl ?_
  refine xg_cV hX tq [.int (nI 0), .int (nI k)] (hM := xc_hasDigit l D cI tq tp td ts 0 k (by omega) (by omega) htd) (wr := []) (ws' := fun _ => [(tq, .inr (0, [.ref tp, .int (bI ts)])), (tp, .inl (cI, 130, .inl (nf td)))]) (st' := fun _ => [.int (bI (hasD td 0 k))]) [0, 1] [] [0, 1] [] rfl mt_140 mt_137 mt_2 mt_138 mt_139 0 rfl rfl hdR_hasDigit (by decide) ⟨rfl, rfl⟩ (by decide) rfl rfl (by decide) rfl (by decide) (by decide) (by decide) (fun u => rfl) (fun u => rfl) (fun u => rfl) rfl rfl (by simp [Value.category]) dR_flagsOfLowest_5 (fun _ _ => ?_)
  refine xg_if_neB hX 16 dR_flagsOfLowest_8 (by decide) (fun h8 => ?_) (fun h8 => ?_)
  ·
    refine xg_aload_n hX 1 dR_flagsOfLowest_16 rfl rfl ?_
    refine xg_get hX (ci := 0) rfl hinR 0 rfl 1 (by decide) mt_22 rfl dR_flagsOfLowest_17 ?_
    refine xg_if_eqB hX 26 dR_flagsOfLowest_20 (by decide) (fun h20 => ?_) (fun h20 => ?_)
    ·
      refine xg_aload_n hX 1 dR_flagsOfLowest_26 rfl rfl ?_
      refine xg_iload_n hX 2 dR_flagsOfLowest_27 rfl rfl ?_
      refine xg_sipush hX (nI 130) dR_flagsOfLowest_28 (by decide) ?_
      refine xg_cV hX tq [.int (nI k), .int (nI 130)] (hM := xc_hasDigit l D cI tq tp td ts k 130 (by omega) (by omega) htd) (wr := []) (ws' := fun _ => [(tq, .inr (0, [.ref tp, .int (bI ts)])), (tp, .inl (cI, 130, .inl (nf td)))]) (st' := fun _ => [.int (bI (hasD td k 130))]) [0, 1] [] [0, 1] [] rfl mt_140 mt_137 mt_2 mt_138 mt_139 0 rfl rfl hdR_hasDigit (by decide) ⟨rfl, rfl⟩ (by decide) rfl rfl (by decide) rfl (by decide) (by decide) (by decide) (fun u => rfl) (fun u => rfl) (fun u => rfl) rfl rfl (by simp [Value.category]) dR_flagsOfLowest_31 (fun _ _ => ?_)
      refine xg_if_eqB hX 43 dR_flagsOfLowest_34 (by decide) (fun h34 => ?_) (fun h34 => ?_)
      ·
        refine xg_iload_n hX 0 dR_flagsOfLowest_43 rfl rfl ?_
        refine xg_top (nI (flg td ts k)) (by simp only [flg, h34]; first | (simp [h8]; done) | (simp [h8, h20]; done)) ?_
        exact hret () _ _ _ rfl trivial dR_flagsOfLowest_44
      ·
        refine xg_iload_n hX 0 dR_flagsOfLowest_37 rfl rfl ?_
        refine xg_iconst hX (nI 2) dR_flagsOfLowest_38 (by decide) ?_
        refine xg_ior hX dR_flagsOfLowest_39 ?_
        refine xg_top (nI 2) (by decide) ?_
        refine xg_goto hX 44 dR_flagsOfLowest_40 (by decide) ?_
        refine xg_top (nI (flg td ts k)) (by simp only [flg, h34]; first | (simp [h8]; done) | (simp [h8, h20]; done)) ?_
        exact hret () _ _ _ rfl trivial dR_flagsOfLowest_44
    ·
      refine xg_bipush hX (nI 8) dR_flagsOfLowest_23 (by decide) ?_
      refine xg_istore_n hX (lv' := [(2, .int (nI 8)), (0, .ref tq), (1, .int (nI k))]) dR_flagsOfLowest_25 rfl (by decide) rfl ?_
      refine xg_aload_n hX 1 dR_flagsOfLowest_26 rfl rfl ?_
      refine xg_iload_n hX 2 dR_flagsOfLowest_27 rfl rfl ?_
      refine xg_sipush hX (nI 130) dR_flagsOfLowest_28 (by decide) ?_
      refine xg_cV hX tq [.int (nI k), .int (nI 130)] (hM := xc_hasDigit l D cI tq tp td ts k 130 (by omega) (by omega) htd) (wr := []) (ws' := fun _ => [(tq, .inr (0, [.ref tp, .int (bI ts)])), (tp, .inl (cI, 130, .inl (nf td)))]) (st' := fun _ => [.int (bI (hasD td k 130))]) [0, 1] [] [0, 1] [] rfl mt_140 mt_137 mt_2 mt_138 mt_139 0 rfl rfl hdR_hasDigit (by decide) ⟨rfl, rfl⟩ (by decide) rfl rfl (by decide) rfl (by decide) (by decide) (by decide) (fun u => rfl) (fun u => rfl) (fun u => rfl) rfl rfl (by simp [Value.category]) dR_flagsOfLowest_31 (fun _ _ => ?_)
      refine xg_if_eqB hX 43 dR_flagsOfLowest_34 (by decide) (fun h34 => ?_) (fun h34 => ?_)
      ·
        refine xg_iload_n hX 0 dR_flagsOfLowest_43 rfl rfl ?_
        refine xg_top (nI (flg td ts k)) (by simp only [flg, h34]; first | (simp [h8]; done) | (simp [h8, h20]; done)) ?_
        exact hret () _ _ _ rfl trivial dR_flagsOfLowest_44
      ·
        refine xg_iload_n hX 0 dR_flagsOfLowest_37 rfl rfl ?_
        refine xg_iconst hX (nI 2) dR_flagsOfLowest_38 (by decide) ?_
        refine xg_ior hX dR_flagsOfLowest_39 ?_
        refine xg_top (nI 10) (by decide) ?_
        refine xg_goto hX 44 dR_flagsOfLowest_40 (by decide) ?_
        refine xg_top (nI (flg td ts k)) (by simp only [flg, h34]; first | (simp [h8]; done) | (simp [h8, h20]; done)) ?_
        exact hret () _ _ _ rfl trivial dR_flagsOfLowest_44
  ·
    refine xg_iconst hX (nI 4) dR_flagsOfLowest_11 (by decide) ?_
    refine xg_istore_n hX (lv' := [(2, .int (nI 4)), (0, .ref tq), (1, .int (nI k))]) dR_flagsOfLowest_12 rfl (by decide) rfl ?_
    refine xg_goto hX 26 dR_flagsOfLowest_13 (by decide) ?_
    refine xg_aload_n hX 1 dR_flagsOfLowest_26 rfl rfl ?_
    refine xg_iload_n hX 2 dR_flagsOfLowest_27 rfl rfl ?_
    refine xg_sipush hX (nI 130) dR_flagsOfLowest_28 (by decide) ?_
    refine xg_cV hX tq [.int (nI k), .int (nI 130)] (hM := xc_hasDigit l D cI tq tp td ts k 130 (by omega) (by omega) htd) (wr := []) (ws' := fun _ => [(tq, .inr (0, [.ref tp, .int (bI ts)])), (tp, .inl (cI, 130, .inl (nf td)))]) (st' := fun _ => [.int (bI (hasD td k 130))]) [0, 1] [] [0, 1] [] rfl mt_140 mt_137 mt_2 mt_138 mt_139 0 rfl rfl hdR_hasDigit (by decide) ⟨rfl, rfl⟩ (by decide) rfl rfl (by decide) rfl (by decide) (by decide) (by decide) (fun u => rfl) (fun u => rfl) (fun u => rfl) rfl rfl (by simp [Value.category]) dR_flagsOfLowest_31 (fun _ _ => ?_)
    refine xg_if_eqB hX 43 dR_flagsOfLowest_34 (by decide) (fun h34 => ?_) (fun h34 => ?_)
    ·
      refine xg_iload_n hX 0 dR_flagsOfLowest_43 rfl rfl ?_
      refine xg_top (nI (flg td ts k)) (by simp only [flg, h34]; first | (simp [h8]; done) | (simp [h8, h20]; done)) ?_
      exact hret () _ _ _ rfl trivial dR_flagsOfLowest_44
    ·
      refine xg_iload_n hX 0 dR_flagsOfLowest_37 rfl rfl ?_
      refine xg_iconst hX (nI 2) dR_flagsOfLowest_38 (by decide) ?_
      refine xg_ior hX dR_flagsOfLowest_39 ?_
      refine xg_top (nI 6) (by decide) ?_
      refine xg_goto hX 44 dR_flagsOfLowest_40 (by decide) ?_
      refine xg_top (nI (flg td ts k)) (by simp only [flg, h34]; first | (simp [h8]; done) | (simp [h8, h20]; done)) ?_
      exact hret () _ _ _ rfl trivial dR_flagsOfLowest_44
set_option maxHeartbeats 4000000 in
set_option maxRecDepth 100000 in
theorem xc_take (l : Launch) (D : va_G) (cI : ClassId) (tq : Nat) (tp : Nat) (td : Nat → Nat) (ts : Bool) (x : Int32) : Ctr l D cI yR_take cR_take 5 none { frames := 2, cells := 0, slots := 0, locals := 43 } [.ref tq, .int x] [(tq, .inr (0, [.ref tp, .int (bI ts)])), (tp, .inl (cI, 130, .inl (nf td)))] (fun _ : Unit => none) (fun _ : Unit => True) (fun _ : Unit => [(tq, .inr (0, [.ref tp, .int (bI (decide (x.toInt < 0)))])), (tp, .inl (cI, 130, .inl (nf (mix 31 (dig (absN x)) zf))))]) 0 0 := by
  refine xc_mkV (by decide +kernel) (Nat.le_of_ble_eq_true rfl) (fun X hX hin hret => ?_)
  show GG D X 0 0 0 [(tq, .inr (0, [.ref tp, .int (bI ts)])), (tp, .inl (cI, 130, .inl (nf td)))] [(0, .ref tq), (1, .int x)] []
  refine xg_aload_n hX 0 dR_take_0 rfl rfl ?_
  refine xg_cV hX tq [] (hM := xc_clear l D cI tq tp td ts) (wr := []) (ws' := fun _ => [(tq, .inr (0, [.ref tp, .int (bI false)])), (tp, .inl (cI, 130, .inl (nf zf)))]) (st' := fun _ => []) [0, 1] [] [0, 1] [] rfl mt_121 mt_149 mt_2 mt_119 mt_120 0 rfl rfl hdR_clear (by decide) ⟨rfl, rfl⟩ (by decide) rfl rfl (by decide) rfl (by decide) (by decide) (by decide) (fun u => rfl) (fun u => rfl) (fun u => rfl) rfl rfl (by simp [Value.category]) dR_take_1 (fun _ _ => ?_)
  refine xg_iload_n hX 1 dR_take_4 rfl rfl ?_
  refine xg_i2l hX ((x).toInt64) dR_take_5 rfl ?_
  refine xg_labs hX mt_234 mt_235 mt_6 mt_236 (by decide) (by simp [Value.category]) (by decide) (by decide) dR_take_6 ?_
  refine xg_topl (lN (absN x)) (xn_labs x) ?_
  refine xg_lstore_n hX (lv' := [(2, .long (lN (absN x))), (0, .ref tq), (1, .int x)]) dR_take_9 rfl (by decide) rfl ?_
  refine xg_iconst hX (nI 0) dR_take_10 (by decide) ?_
  refine xg_istore hX (lv' := [(4, .int (nI 0)), (2, .long (lN (absN x))), (0, .ref tq), (1, .int x)]) dR_take_11 (by decide) rfl ?_
  have lp1 : ∀ (fu2 : Nat) (i : Nat), (i ≤ 31) → 31 - i < fu2 → GG D X 0 0 13 [(tq, .inr (0, [.ref tp, .int (bI false)])), (tp, .inl (cI, 130, .inl (nf (mix i (dig (absN x)) zf))))] [(0, .ref tq), (1, .int x), (2, .long (lN (absN x / 10 ^ i))), (4, .int (nI i))] [] := by
    intro fu2
    induction fu2 with
    | zero => intro i hi hm4; exact absurd hm4 (Nat.not_lt_zero _)
    | succ fu2 ih3 =>
      intro i hi hm4
      have hb := absN_lt x
      have hb2 : absN x / 10 ^ i < 2 ^ 63 := Nat.lt_of_le_of_lt (Nat.div_le_self _ _) (by omega)
      refine xg_iload hX 3 dR_take_13 rfl ?_
      refine xg_bipush hX (nI 31) dR_take_15 (by decide) ?_
      refine xg_icmp_geN hX 44 (by omega) (by omega) dR_take_17 (by decide) (fun h17 => ?_) (fun h17 => ?_)
      ·
        refine xg_aload_n hX 0 dR_take_44 rfl rfl ?_
        refine xg_iload_n hX 1 dR_take_45 rfl rfl ?_
        refine xg_if_geZ hX x.toInt rfl 53 dR_take_46 (by decide) (fun h46 => ?_) (fun h46 => ?_)
        ·
          refine xg_iconst hX (nI 0) dR_take_53 (by decide) ?_
          refine xg_top (bI false) rfl ?_
          refine xg_put hX tyR tyR_ok nmR (ci := 0) rfl hinR (ws' := [(tq, .inr (0, [.ref tp, .int (bI false)])), (tp, .inl (cI, 130, .inl (nf (mix i (dig (absN x)) zf))))]) 0 rfl 1 (by decide) mt_22 rfl (xn_narB _) (xn_fitB _) (Nat.le_of_ble_eq_true rfl) rfl dR_take_54 ?_
          have hie : i = 31 := by omega
          refine xg_wsE (ws' := [(tq, .inr (0, [.ref tp, .int (bI (decide (x.toInt < 0)))])), (tp, .inl (cI, 130, .inl (nf (mix i (dig (absN x)) zf))))]) (by rw [← (show (bI false : Int32) = bI (decide (x.toInt < 0)) from (by first | (rw [decide_eq_true (show x.toInt < 0 by omega)]; done) | (rw [decide_eq_false (show ¬ x.toInt < 0 by omega)]; done)))]) ?_
          refine xg_ext hX (g := mix 31 (dig (absN x)) zf) (ws' := [(tq, .inr (0, [.ref tp, .int (bI (decide (x.toInt < 0)))])), (tp, .inl (cI, 130, .inl (nf (mix 31 (dig (absN x)) zf))))]) 1 rfl (fun j hj => by first | rfl | (rw [hie]; done) | (rw [hie]; rfl)) rfl ?_
          exact hret () _ _ rfl trivial dR_take_57
        ·
          refine xg_iconst hX (nI 1) dR_take_49 (by decide) ?_
          refine xg_goto hX 54 dR_take_50 (by decide) ?_
          refine xg_top (bI true) rfl ?_
          refine xg_put hX tyR tyR_ok nmR (ci := 0) rfl hinR (ws' := [(tq, .inr (0, [.ref tp, .int (bI true)])), (tp, .inl (cI, 130, .inl (nf (mix i (dig (absN x)) zf))))]) 0 rfl 1 (by decide) mt_22 rfl (xn_narB _) (xn_fitB _) (Nat.le_of_ble_eq_true rfl) rfl dR_take_54 ?_
          have hie : i = 31 := by omega
          refine xg_wsE (ws' := [(tq, .inr (0, [.ref tp, .int (bI (decide (x.toInt < 0)))])), (tp, .inl (cI, 130, .inl (nf (mix i (dig (absN x)) zf))))]) (by rw [← (show (bI true : Int32) = bI (decide (x.toInt < 0)) from (by first | (rw [decide_eq_true (show x.toInt < 0 by omega)]; done) | (rw [decide_eq_false (show ¬ x.toInt < 0 by omega)]; done)))]) ?_
          refine xg_ext hX (g := mix 31 (dig (absN x)) zf) (ws' := [(tq, .inr (0, [.ref tp, .int (bI (decide (x.toInt < 0)))])), (tp, .inl (cI, 130, .inl (nf (mix 31 (dig (absN x)) zf))))]) 1 rfl (fun j hj => by first | rfl | (rw [hie]; done) | (rw [hie]; rfl)) rfl ?_
          exact hret () _ _ rfl trivial dR_take_57
      ·
        refine xg_aload_n hX 0 dR_take_20 rfl rfl ?_
        refine xg_iload hX 3 dR_take_21 rfl ?_
        refine xg_lload_n hX 2 dR_take_23 rfl rfl ?_
        refine xg_ldc2 hX 10 mt_237 dR_take_24 ?_
        refine xg_lrem hX dR_take_27 (by decide) ?_
        refine xg_topl (lN (absN x / 10 ^ i % 10)) (pk_lRem hb2 (by decide) (by decide)) ?_
        refine xg_l2i hX ((lN (absN x / 10 ^ i % 10)).toInt32) dR_take_28 rfl ?_
        refine xg_top (nI (absN x / 10 ^ i % 10)) (lN_i _) ?_
        refine xg_cV hX tq [.int (nI i), .int (nI (absN x / 10 ^ i % 10))] (hM := xc_setDigit l D cI tq tp (mix i (dig (absN x)) zf) false i (absN x / 10 ^ i % 10) (by omega)) (wr := []) (ws' := fun _ => [(tq, .inr (0, [.ref tp, .int (bI false)])), (tp, .inl (cI, 130, .inl (nf (up (mix i (dig (absN x)) zf) i (absN x / 10 ^ i % 10)))))]) (st' := fun _ => []) [0, 1] [] [0, 1] [] rfl mt_128 mt_154 mt_2 mt_126 mt_127 0 rfl rfl hdR_setDigit (by decide) ⟨rfl, rfl⟩ (by decide) rfl rfl (by decide) rfl (by decide) (by decide) (by decide) (fun u => rfl) (fun u => rfl) (fun u => rfl) rfl rfl (by simp [Value.category]) dR_take_29 (fun _ _ => ?_)
        refine xg_lload_n hX 2 dR_take_32 rfl rfl ?_
        refine xg_ldc2 hX 10 mt_237 dR_take_33 ?_
        refine xg_ldiv hX dR_take_36 (by decide) ?_
        refine xg_topl (lN (absN x / 10 ^ i / 10)) (pk_lDiv hb2 (by decide) (by decide)) ?_
        refine xg_lstore_n hX (lv' := [(2, .long (lN (absN x / 10 ^ i / 10))), (0, .ref tq), (1, .int x), (4, .int (nI i))]) dR_take_37 rfl (by decide) rfl ?_
        refine xg_iincN hX (lv' := [(4, .int (nI (i + 1))), (2, .long (lN (absN x / 10 ^ i / 10))), (0, .ref tq), (1, .int x)]) (i + 1) 3 dR_take_38 rfl (xn_inc _) (by decide) rfl ?_
        refine xg_goto hX 13 dR_take_41 (by decide) ?_
        refine xg_ext hX (g := mix (i + 1) (dig (absN x)) zf) (ws' := [(tq, .inr (0, [.ref tp, .int (bI false)])), (tp, .inl (cI, 130, .inl (nf (mix (i + 1) (dig (absN x)) zf))))]) 1 rfl (fun j hj => mix_up rfl j) rfl ?_
        refine xg_lv hX (lv' := [(0, .ref tq), (1, .int x), (2, .long (lN (absN x / 10 ^ i / 10))), (4, .int (nI (i + 1)))]) [2, 3, 1, 0] rfl ?_
        refine xg_lvE (lv' := [(0, .ref tq), (1, .int x), (2, .long (lN (absN x / 10 ^ (i + 1)))), (4, .int (nI (i + 1)))]) (by rw [← (show (lN (absN x / 10 ^ i / 10) : Int64) = lN (absN x / 10 ^ (i + 1)) from (by rw [dig_s]))]) ?_
        exact ih3 (i + 1) (by omega) (by omega)
  refine xg_ext hX (g := mix 0 (dig (absN x)) zf) (ws' := [(tq, .inr (0, [.ref tp, .int (bI false)])), (tp, .inl (cI, 130, .inl (nf (mix 0 (dig (absN x)) zf))))]) 1 rfl (fun j hj => mix_0 j) rfl ?_
  refine xg_lv hX (lv' := [(0, .ref tq), (1, .int x), (2, .long (lN (absN x))), (4, .int (nI 0))]) [2, 3, 1, 0] rfl ?_
  refine xg_lvE (lv' := [(0, .ref tq), (1, .int x), (2, .long (lN (absN x / 10 ^ 0))), (4, .int (nI 0))]) (by rw [← (show (lN (absN x) : Int64) = lN (absN x / 10 ^ 0) from (by rw [Nat.pow_zero, Nat.div_one]))]) ?_
  exact lp1 (31 - 0 + 1) 0 (by omega) (Nat.lt_succ_self _)
end
section
set_option maxHeartbeats 4000000 in
set_option maxRecDepth 100000 in
theorem xc_lowestBits (l : Launch) (D : va_G) (cI : ClassId) (tq : Nat) (tp : Nat) (td : Nat → Nat) (ts : Bool) (htd : ∀ j, td j < 10) : Ctr l D cI yR_lowestBits cR_lowestBits 4 (some .long) { frames := 1, cells := 0, slots := 0, locals := 21 } [.ref tq] [(tq, .inr (0, [.ref tp, .int (bI ts)])), (tp, .inl (cI, 130, .inl (nf td)))] (fun _ : Unit => some (.long (if ts = true then -(lbF td 31) else lbF td 31))) (fun _ : Unit => True) (fun _ : Unit => [(tq, .inr (0, [.ref tp, .int (bI ts)])), (tp, .inl (cI, 130, .inl (nf td)))]) 0 0 := by
  refine xc_mkL (by decide +kernel) (Nat.le_of_ble_eq_true rfl) (fun X hX hret => ?_)
  show GG D X 0 0 0 [(tq, .inr (0, [.ref tp, .int (bI ts)])), (tp, .inl (cI, 130, .inl (nf td)))] [(0, .ref tq)] []
  refine xg_lconst hX 0 dR_lowestBits_0 (by decide) ?_
  refine xg_lstore_n hX (lv' := [(1, .long 0), (0, .ref tq)]) dR_lowestBits_1 rfl (by decide) rfl ?_
  refine xg_bipush hX (nI 30) dR_lowestBits_2 (by decide) ?_
  refine xg_istore_n hX (lv' := [(3, .int (nI 30)), (1, .long 0), (0, .ref tq)]) dR_lowestBits_4 rfl (by decide) rfl ?_
  have lp1 : ∀ (fu2 : Nat) (c : Nat), (c ≤ 31) → c < fu2 → GG D X 0 0 5 [(tq, .inr (0, [.ref tp, .int (bI ts)])), (tp, .inl (cI, 130, .inl (nf td)))] [(0, .ref tq), (1, .long (lbF td (31 - c))), (3, .int (nI c - 1))] [] := by
    intro fu2
    induction fu2 with
    | zero => intro c hc hm4; exact absurd hm4 (Nat.not_lt_zero _)
    | succ fu2 ih3 =>
      intro c hc hm4
      cases c with
      | zero =>
        rw [show nI 0 - 1 = (-1 : Int32) from by decide]
        refine xg_iload_n hX 2 dR_lowestBits_5 rfl rfl ?_
        refine xg_if_lt hX 28 dR_lowestBits_6 (by decide) (fun _ => ?_) (fun h => absurd (by decide) h)
        refine xg_aload_n hX 0 dR_lowestBits_28 rfl rfl ?_
        refine xg_get hX (ci := 0) rfl hinR 0 rfl 1 (by decide) mt_22 rfl dR_lowestBits_29 ?_
        refine xg_if_eqB hX 40 dR_lowestBits_32 (by decide) (fun h32 => ?_) (fun h32 => ?_)
        ·
          refine xg_lload_n hX 1 dR_lowestBits_40 rfl rfl ?_
          refine xg_topl (if ts = true then -(lbF td 31) else lbF td 31) (by rw [h32] <;> rfl) ?_
          exact hret () _ _ _ rfl trivial dR_lowestBits_41
        ·
          refine xg_lload_n hX 1 dR_lowestBits_35 rfl rfl ?_
          refine xg_lneg hX dR_lowestBits_36 ?_
          refine xg_goto hX 41 dR_lowestBits_37 (by decide) ?_
          refine xg_topl (if ts = true then -(lbF td 31) else lbF td 31) (by rw [h32] <;> rfl) ?_
          exact hret () _ _ _ rfl trivial dR_lowestBits_41
      | succ j =>
        rw [nI_pred]
        have e1 := htd j
        refine xg_iload_n hX 2 dR_lowestBits_5 rfl rfl ?_
        refine xg_if_ltN hX 28 (by omega) dR_lowestBits_6 (by decide) ?_
        refine xg_lload_n hX 1 dR_lowestBits_9 rfl rfl ?_
        refine xg_ldc2 hX 10 mt_237 dR_lowestBits_10 ?_
        refine xg_lmul hX dR_lowestBits_13 ?_
        refine xg_aload_n hX 0 dR_lowestBits_14 rfl rfl ?_
        refine xg_iload_n hX 2 dR_lowestBits_15 rfl rfl ?_
        refine xg_cV hX tq [.int (nI j)] (hM := xc_digitAt l D cI tq tp td ts j (by omega)) (wr := []) (ws' := fun _ => [(tq, .inr (0, [.ref tp, .int (bI ts)])), (tp, .inl (cI, 130, .inl (nf td)))]) (st' := fun _ => [.int (nI (td j)), .long ((lbF td (31 - (j + 1))) * 10)]) [0, 1] [] [0, 1] [.long ((lbF td (31 - (j + 1))) * 10)] rfl mt_144 mt_141 mt_2 mt_142 mt_143 0 rfl rfl hdR_digitAt (by decide) ⟨rfl, rfl⟩ (by decide) rfl rfl (by decide) rfl (by decide) (by decide) (by decide) (fun u => rfl) (fun u => rfl) (fun u => rfl) rfl rfl (by simp [Value.category]) dR_lowestBits_16 (fun _ _ => ?_)
        refine xg_i2l hX ((nI (td j)).toInt64) dR_lowestBits_19 rfl ?_
        refine xg_topl (lN (td j)) (nI_l (by omega)) ?_
        refine xg_ladd hX dR_lowestBits_20 ?_
        refine xg_lstore_n hX (lv' := [(1, .long (((lbF td (31 - (j + 1))) * 10) + (lN (td j)))), (0, .ref tq), (3, .int (nI j))]) dR_lowestBits_21 rfl (by decide) rfl ?_
        refine xg_iinc hX (lv' := [(3, .int (nI j - 1)), (1, .long (((lbF td (31 - (j + 1))) * 10) + (lN (td j)))), (0, .ref tq)]) (nI j - 1) 2 dR_lowestBits_22 rfl (xn_decZ _) (by decide) rfl ?_
        refine xg_goto hX 5 dR_lowestBits_25 (by decide) ?_
        refine xg_lv hX (lv' := [(0, .ref tq), (1, .long (((lbF td (31 - (j + 1))) * 10) + (lN (td j)))), (3, .int (nI j - 1))]) [2, 1, 0] rfl ?_
        refine xg_lvE (lv' := [(0, .ref tq), (1, .long (lbF td (31 - j))), (3, .int (nI j - 1))]) (by rw [← (show (((lbF td (31 - (j + 1))) * 10) + (lN (td j)) : Int64) = lbF td (31 - j) from (lb_s (by omega)))]) ?_
        exact ih3 j (by omega) (by omega)
  refine xg_lv hX (lv' := [(0, .ref tq), (1, .long 0), (3, .int (nI 30))]) [2, 1, 0] rfl ?_
  refine xg_lvE (lv' := [(0, .ref tq), (1, .long (lbF td (31 - 31))), (3, .int (nI 30))]) (by rw [← (show (0 : Int64) = lbF td (31 - 31) from (by first | rfl | decide))]) ?_
  refine xg_lvE (lv' := [(0, .ref tq), (1, .long (lbF td (31 - 31))), (3, .int (nI 31 - 1))]) (by rw [← (show (nI 30 : Int32) = nI 31 - 1 from (by first | rfl | decide))]) ?_
  exact lp1 (31 + 1) 31 (by omega) (Nat.lt_succ_self _)
set_option maxHeartbeats 4000000 in
set_option maxRecDepth 100000 in
theorem xc_order (l : Launch) (D : va_G) (cI : ClassId) (tq : Nat) (tp : Nat) (td : Nat → Nat) (ts : Bool) (xq : Nat) (xp : Nat) (xd : Nat → Nat) (xs : Bool) (htd : ∀ j, td j < 10) (hxd : ∀ j, xd j < 10) : Ctr l D cI yR_orderOfSizes cR_orderOfSizes 3 (some .int) { frames := 1, cells := 0, slots := 0, locals := 21 } [.ref tq, .ref xq] [(tq, .inr (0, [.ref tp, .int (bI ts)])), (tp, .inl (cI, 130, .inl (nf td))), (xq, .inr (0, [.ref xp, .int (bI xs)])), (xp, .inl (cI, 130, .inl (nf xd)))] (fun _ : Unit => some (.int (cmpZ td xd 32))) (fun _ : Unit => True) (fun _ : Unit => [(tq, .inr (0, [.ref tp, .int (bI ts)])), (tp, .inl (cI, 130, .inl (nf td))), (xq, .inr (0, [.ref xp, .int (bI xs)])), (xp, .inl (cI, 130, .inl (nf xd)))]) 0 0 := by
  refine xc_mkI (by decide +kernel) (Nat.le_of_ble_eq_true rfl) (fun X hX hret => ?_)
  show GG D X 0 0 0 [(tq, .inr (0, [.ref tp, .int (bI ts)])), (tp, .inl (cI, 130, .inl (nf td))), (xq, .inr (0, [.ref xp, .int (bI xs)])), (xp, .inl (cI, 130, .inl (nf xd)))] [(0, .ref tq), (1, .ref xq)] []
  refine xg_bipush hX (nI 31) dR_orderOfSizes_0 (by decide) ?_
  refine xg_istore_n hX (lv' := [(2, .int (nI 31)), (0, .ref tq), (1, .ref xq)]) dR_orderOfSizes_2 rfl (by decide) rfl ?_
  have lp1 : ∀ (fu2 : Nat) (c : Nat), (c ≤ 32) → (cmpZ td xd 32 = cmpZ td xd c) → c < fu2 → GG D X 0 0 3 [(tq, .inr (0, [.ref tp, .int (bI ts)])), (tp, .inl (cI, 130, .inl (nf td))), (xq, .inr (0, [.ref xp, .int (bI xs)])), (xp, .inl (cI, 130, .inl (nf xd)))] [(0, .ref tq), (1, .ref xq), (2, .int (nI c - 1))] [] := by
    intro fu2
    induction fu2 with
    | zero => intro c hc hq hm4; exact absurd hm4 (Nat.not_lt_zero _)
    | succ fu2 ih3 =>
      intro c hc hq hm4
      cases c with
      | zero =>
        rw [show nI 0 - 1 = (-1 : Int32) from by decide]
        refine xg_iload_n hX 2 dR_orderOfSizes_3 rfl rfl ?_
        refine xg_if_lt hX 45 dR_orderOfSizes_4 (by decide) (fun _ => ?_) (fun h => absurd (by decide) h)
        refine xg_iconst hX (nI 0) dR_orderOfSizes_45 (by decide) ?_
        refine xg_top (cmpZ td xd 32) (by rw [hq] <;> rfl) ?_
        exact hret () _ _ _ rfl trivial dR_orderOfSizes_46
      | succ j =>
        rw [nI_pred]
        have e1 := htd j
        have e2 := hxd j
        refine xg_iload_n hX 2 dR_orderOfSizes_3 rfl rfl ?_
        refine xg_if_ltN hX 45 (by omega) dR_orderOfSizes_4 (by decide) ?_
        refine xg_aload_n hX 0 dR_orderOfSizes_7 rfl rfl ?_
        refine xg_iload_n hX 2 dR_orderOfSizes_8 rfl rfl ?_
        refine xg_cV hX tq [.int (nI j)] (hM := xc_digitAt l D cI tq tp td ts j (by omega)) (wr := [(xq, .inr (0, [.ref xp, .int (bI xs)])), (xp, .inl (cI, 130, .inl (nf xd)))]) (ws' := fun _ => [(tq, .inr (0, [.ref tp, .int (bI ts)])), (tp, .inl (cI, 130, .inl (nf td))), (xq, .inr (0, [.ref xp, .int (bI xs)])), (xp, .inl (cI, 130, .inl (nf xd)))]) (st' := fun _ => [.int (nI (td j))]) [0, 1] [2, 3] [2, 3, 0, 1] [] rfl mt_144 mt_141 mt_2 mt_142 mt_143 0 rfl rfl hdR_digitAt (by decide) ⟨rfl, rfl⟩ (by decide) rfl rfl (by decide) rfl (by decide) (by decide) (by decide) (fun u => rfl) (fun u => rfl) (fun u => rfl) rfl rfl (by simp [Value.category]) dR_orderOfSizes_9 (fun _ _ => ?_)
        refine xg_aload_n hX 1 dR_orderOfSizes_12 rfl rfl ?_
        refine xg_iload_n hX 2 dR_orderOfSizes_13 rfl rfl ?_
        refine xg_cV hX xq [.int (nI j)] (hM := xc_digitAt l D cI xq xp xd xs j (by omega)) (wr := [(tq, .inr (0, [.ref tp, .int (bI ts)])), (tp, .inl (cI, 130, .inl (nf td)))]) (ws' := fun _ => [(tq, .inr (0, [.ref tp, .int (bI ts)])), (tp, .inl (cI, 130, .inl (nf td))), (xq, .inr (0, [.ref xp, .int (bI xs)])), (xp, .inl (cI, 130, .inl (nf xd)))]) (st' := fun _ => [.int (nI (xd j)), .int (nI (td j))]) [2, 3] [0, 1] [0, 1, 2, 3] [.int (nI (td j))] rfl mt_144 mt_141 mt_2 mt_142 mt_143 0 rfl rfl hdR_digitAt (by decide) ⟨rfl, rfl⟩ (by decide) rfl rfl (by decide) rfl (by decide) (by decide) (by decide) (fun u => rfl) (fun u => rfl) (fun u => rfl) rfl rfl (by simp [Value.category]) dR_orderOfSizes_14 (fun _ _ => ?_)
        refine xg_icmp_eqN hX 39 (by omega) (by omega) dR_orderOfSizes_17 (by decide) (fun h17 => ?_) (fun h17 => ?_)
        ·
          refine xg_iinc hX (lv' := [(2, .int (nI j - 1)), (0, .ref tq), (1, .ref xq)]) (nI j - 1) 2 dR_orderOfSizes_39 rfl (xn_decZ _) (by decide) rfl ?_
          refine xg_goto hX 3 dR_orderOfSizes_42 (by decide) ?_
          refine xg_lv hX (lv' := [(0, .ref tq), (1, .ref xq), (2, .int (nI j - 1))]) [1, 2, 0] rfl ?_
          exact ih3 j (by omega) (hq.trans (show cmpZ td xd (j + 1) = cmpZ td xd j from if_pos h17)) (by omega)
        ·
          refine xg_aload_n hX 0 dR_orderOfSizes_20 rfl rfl ?_
          refine xg_iload_n hX 2 dR_orderOfSizes_21 rfl rfl ?_
          refine xg_cV hX tq [.int (nI j)] (hM := xc_digitAt l D cI tq tp td ts j (by omega)) (wr := [(xq, .inr (0, [.ref xp, .int (bI xs)])), (xp, .inl (cI, 130, .inl (nf xd)))]) (ws' := fun _ => [(tq, .inr (0, [.ref tp, .int (bI ts)])), (tp, .inl (cI, 130, .inl (nf td))), (xq, .inr (0, [.ref xp, .int (bI xs)])), (xp, .inl (cI, 130, .inl (nf xd)))]) (st' := fun _ => [.int (nI (td j))]) [0, 1] [2, 3] [2, 3, 0, 1] [] rfl mt_144 mt_141 mt_2 mt_142 mt_143 0 rfl rfl hdR_digitAt (by decide) ⟨rfl, rfl⟩ (by decide) rfl rfl (by decide) rfl (by decide) (by decide) (by decide) (fun u => rfl) (fun u => rfl) (fun u => rfl) rfl rfl (by simp [Value.category]) dR_orderOfSizes_22 (fun _ _ => ?_)
          refine xg_aload_n hX 1 dR_orderOfSizes_25 rfl rfl ?_
          refine xg_iload_n hX 2 dR_orderOfSizes_26 rfl rfl ?_
          refine xg_cV hX xq [.int (nI j)] (hM := xc_digitAt l D cI xq xp xd xs j (by omega)) (wr := [(tq, .inr (0, [.ref tp, .int (bI ts)])), (tp, .inl (cI, 130, .inl (nf td)))]) (ws' := fun _ => [(tq, .inr (0, [.ref tp, .int (bI ts)])), (tp, .inl (cI, 130, .inl (nf td))), (xq, .inr (0, [.ref xp, .int (bI xs)])), (xp, .inl (cI, 130, .inl (nf xd)))]) (st' := fun _ => [.int (nI (xd j)), .int (nI (td j))]) [2, 3] [0, 1] [0, 1, 2, 3] [.int (nI (td j))] rfl mt_144 mt_141 mt_2 mt_142 mt_143 0 rfl rfl hdR_digitAt (by decide) ⟨rfl, rfl⟩ (by decide) rfl rfl (by decide) rfl (by decide) (by decide) (by decide) (fun u => rfl) (fun u => rfl) (fun u => rfl) rfl rfl (by simp [Value.category]) dR_orderOfSizes_27 (fun _ _ => ?_)
          refine xg_icmp_geN hX 37 (by omega) (by omega) dR_orderOfSizes_30 (by decide) (fun h30 => ?_) (fun h30 => ?_)
          ·
            refine xg_iconst hX (nI 1) dR_orderOfSizes_37 (by decide) ?_
            refine xg_top (cmpZ td xd 32) ((hq.trans (by show (if td j = xd j then _ else _) = _; rw [if_neg h17]; first | (rw [if_pos h30]; done) | (rw [if_neg (by omega)]; done) | (rw [if_neg (by omega)] <;> rfl))).symm) ?_
            exact hret () _ _ _ rfl trivial dR_orderOfSizes_38
          ·
            refine xg_iconst hX ((-1)) dR_orderOfSizes_33 (by decide) ?_
            refine xg_goto hX 38 dR_orderOfSizes_34 (by decide) ?_
            refine xg_top (cmpZ td xd 32) ((hq.trans (by show (if td j = xd j then _ else _) = _; rw [if_neg h17]; first | (rw [if_pos h30]; done) | (rw [if_neg (by omega)]; done) | (rw [if_neg (by omega)] <;> rfl))).symm) ?_
            exact hret () _ _ _ rfl trivial dR_orderOfSizes_38
  refine xg_lv hX (lv' := [(0, .ref tq), (1, .ref xq), (2, .int (nI 31))]) [1, 2, 0] rfl ?_
  refine xg_lvE (lv' := [(0, .ref tq), (1, .ref xq), (2, .int (nI 32 - 1))]) (by rw [← (show (nI 31 : Int32) = nI 32 - 1 from (by first | rfl | decide))]) ?_
  exact lp1 (32 + 1) 32 (by omega) rfl (Nat.lt_succ_self _)
set_option maxHeartbeats 4000000 in
set_option maxRecDepth 100000 in
theorem xc_orderS (l : Launch) (D : va_G) (cI : ClassId) (tq : Nat) (tp : Nat) (td : Nat → Nat) (ts : Bool) (xq : Nat) (xp : Nat) (xd : Nat → Nat) (xs : Bool) (htd : ∀ j, td j < 10) (hxd : ∀ j, xd j < 10) : Ctr l D cI yR_orderSigned cR_orderSigned 3 (some .int) { frames := 2, cells := 0, slots := 0, locals := 43 } [.ref tq, .ref xq] [(tq, .inr (0, [.ref tp, .int (bI ts)])), (tp, .inl (cI, 130, .inl (nf td))), (xq, .inr (0, [.ref xp, .int (bI xs)])), (xp, .inl (cI, 130, .inl (nf xd)))] (fun _ : Unit => some (.int (ordS td ts xd xs))) (fun _ : Unit => True) (fun _ : Unit => [(tq, .inr (0, [.ref tp, .int (bI ts)])), (tp, .inl (cI, 130, .inl (nf td))), (xq, .inr (0, [.ref xp, .int (bI xs)])), (xp, .inl (cI, 130, .inl (nf xd)))]) 0 0 := by
  refine xc_mkI (by decide +kernel) (Nat.le_of_ble_eq_true rfl) (fun X hX hret => ?_)
  show GG D X 0 0 0 [(tq, .inr (0, [.ref tp, .int (bI ts)])), (tp, .inl (cI, 130, .inl (nf td))), (xq, .inr (0, [.ref xp, .int (bI xs)])), (xp, .inl (cI, 130, .inl (nf xd)))] [(0, .ref tq), (1, .ref xq)] []
  refine xg_aload_n hX 0 dR_orderSigned_0 rfl rfl ?_
  refine xg_get hX (ci := 0) rfl hinR 0 rfl 1 (by decide) mt_22 rfl dR_orderSigned_1 ?_
  refine xg_aload_n hX 1 dR_orderSigned_4 rfl rfl ?_
  refine xg_get hX (ci := 0) rfl hinR 2 rfl 1 (by decide) mt_22 rfl dR_orderSigned_5 ?_
  refine xg_icmp_eqB hX 24 dR_orderSigned_8 (by decide) (fun h8 => ?_) (fun h8 => ?_)
  ·
    refine xg_aload_n hX 0 dR_orderSigned_24 rfl rfl ?_
    refine xg_aload_n hX 1 dR_orderSigned_25 rfl rfl ?_
    refine xg_cV hX tq [.ref xq] (hM := xc_order l D cI tq tp td ts xq xp xd xs htd hxd) (wr := []) (ws' := fun _ => [(tq, .inr (0, [.ref tp, .int (bI ts)])), (tp, .inl (cI, 130, .inl (nf td))), (xq, .inr (0, [.ref xp, .int (bI xs)])), (xp, .inl (cI, 130, .inl (nf xd)))]) (st' := fun _ => [.int (cmpZ td xd 32)]) [0, 1, 2, 3] [] [0, 1, 2, 3] [] rfl mt_158 mt_155 mt_2 mt_156 mt_157 0 rfl rfl hdR_orderOfSizes (by decide) ⟨rfl, rfl⟩ (by decide) rfl rfl (by decide) rfl (by decide) (by decide) (by decide) (fun u => rfl) (fun u => rfl) (fun u => rfl) rfl rfl (by simp [Value.category]) dR_orderSigned_26 (fun _ _ => ?_)
    refine xg_istore_n hX (lv' := [(2, .int (cmpZ td xd 32)), (0, .ref tq), (1, .ref xq)]) dR_orderSigned_29 rfl (by decide) rfl ?_
    refine xg_aload_n hX 1 dR_orderSigned_30 rfl rfl ?_
    refine xg_get hX (ci := 0) rfl hinR 0 rfl 1 (by decide) mt_22 rfl dR_orderSigned_31 ?_
    refine xg_if_eqB hX 42 dR_orderSigned_34 (by decide) (fun h34 => ?_) (fun h34 => ?_)
    ·
      refine xg_iload_n hX 0 dR_orderSigned_42 rfl rfl ?_
      refine xg_top (ordS td ts xd xs) (by unfold ordS; rw [if_pos h8, h34] <;> rfl) ?_
      exact hret () _ _ _ rfl trivial dR_orderSigned_43
    ·
      refine xg_iload_n hX 0 dR_orderSigned_37 rfl rfl ?_
      refine xg_ineg hX dR_orderSigned_38 ?_
      refine xg_goto hX 43 dR_orderSigned_39 (by decide) ?_
      refine xg_top (ordS td ts xd xs) (by unfold ordS; rw [if_pos h8, h34] <;> rfl) ?_
      exact hret () _ _ _ rfl trivial dR_orderSigned_43
  ·
    refine xg_aload_n hX 0 dR_orderSigned_11 rfl rfl ?_
    refine xg_get hX (ci := 0) rfl hinR 0 rfl 1 (by decide) mt_22 rfl dR_orderSigned_12 ?_
    refine xg_if_eqB hX 22 dR_orderSigned_15 (by decide) (fun h15 => ?_) (fun h15 => ?_)
    ·
      refine xg_iconst hX (nI 1) dR_orderSigned_22 (by decide) ?_
      refine xg_top (ordS td ts xd xs) (by unfold ordS; rw [if_neg h8, h15] <;> rfl) ?_
      exact hret () _ _ _ rfl trivial dR_orderSigned_23
    ·
      refine xg_iconst hX ((-1)) dR_orderSigned_18 (by decide) ?_
      refine xg_goto hX 23 dR_orderSigned_19 (by decide) ?_
      refine xg_top (ordS td ts xd xs) (by unfold ordS; rw [if_neg h8, h15] <;> rfl) ?_
      exact hret () _ _ _ rfl trivial dR_orderSigned_23
set_option maxHeartbeats 4000000 in
set_option maxRecDepth 100000 in
theorem xc_addSizes (l : Launch) (D : va_G) (cI : ClassId) (tq : Nat) (tp : Nat) (td : Nat → Nat) (ts : Bool) (xq : Nat) (xp : Nat) (xd : Nat → Nat) (xs : Bool) (yq : Nat) (yp : Nat) (yd : Nat → Nat) (ys : Bool) (hxd : ∀ j, xd j < 10) (hyd : ∀ j, yd j < 10) : Ctr l D cI yR_addSizes cR_addSizes 6 none { frames := 1, cells := 0, slots := 0, locals := 22 } [.ref tq, .ref xq, .ref yq] [(tq, .inr (0, [.ref tp, .int (bI ts)])), (tp, .inl (cI, 130, .inl (nf td))), (xq, .inr (0, [.ref xp, .int (bI xs)])), (xp, .inl (cI, 130, .inl (nf xd))), (yq, .inr (0, [.ref yp, .int (bI ys)])), (yp, .inl (cI, 130, .inl (nf yd)))] (fun _ : Unit => none) (fun _ : Unit => True) (fun _ : Unit => [(tq, .inr (0, [.ref tp, .int (bI ts)])), (tp, .inl (cI, 130, .inl (nf (mix 32 (adD xd yd) td)))), (xq, .inr (0, [.ref xp, .int (bI xs)])), (xp, .inl (cI, 130, .inl (nf xd))), (yq, .inr (0, [.ref yp, .int (bI ys)])), (yp, .inl (cI, 130, .inl (nf yd)))]) 0 0 := by
  refine xc_mkV (by decide +kernel) (Nat.le_of_ble_eq_true rfl) (fun X hX hin hret => ?_)
  show GG D X 0 0 0 [(tq, .inr (0, [.ref tp, .int (bI ts)])), (tp, .inl (cI, 130, .inl (nf td))), (xq, .inr (0, [.ref xp, .int (bI xs)])), (xp, .inl (cI, 130, .inl (nf xd))), (yq, .inr (0, [.ref yp, .int (bI ys)])), (yp, .inl (cI, 130, .inl (nf yd)))] [(0, .ref tq), (1, .ref xq), (2, .ref yq)] []
  refine xg_iconst hX (nI 0) dR_addSizes_0 (by decide) ?_
  refine xg_istore_n hX (lv' := [(3, .int (nI 0)), (0, .ref tq), (1, .ref xq), (2, .ref yq)]) dR_addSizes_1 rfl (by decide) rfl ?_
  refine xg_iconst hX (nI 0) dR_addSizes_2 (by decide) ?_
  refine xg_istore hX (lv' := [(4, .int (nI 0)), (3, .int (nI 0)), (0, .ref tq), (1, .ref xq), (2, .ref yq)]) dR_addSizes_3 (by decide) rfl ?_
  have lp1 : ∀ (fu2 : Nat) (i : Nat), (i ≤ 32) → 32 - i < fu2 → GG D X 0 0 5 [(tq, .inr (0, [.ref tp, .int (bI ts)])), (tp, .inl (cI, 130, .inl (nf (mix i (adD xd yd) td)))), (xq, .inr (0, [.ref xp, .int (bI xs)])), (xp, .inl (cI, 130, .inl (nf xd))), (yq, .inr (0, [.ref yp, .int (bI ys)])), (yp, .inl (cI, 130, .inl (nf yd)))] [(0, .ref tq), (1, .ref xq), (2, .ref yq), (3, .int (nI (adC xd yd i))), (4, .int (nI i))] [] := by
    intro fu2
    induction fu2 with
    | zero => intro i hi hm4; exact absurd hm4 (Nat.not_lt_zero _)
    | succ fu2 ih3 =>
      intro i hi hm4
      have e1 := hxd i
      have e2 := hyd i
      have e3 := adC_le hxd hyd i
      refine xg_iload hX 4 dR_addSizes_5 rfl ?_
      refine xg_bipush hX (nI 32) dR_addSizes_7 (by decide) ?_
      refine xg_icmp_geN hX 52 (by omega) (by omega) dR_addSizes_9 (by decide) (fun h5 => ?_) (fun h5 => ?_)
      ·
        have hie : i = 32 := by omega
        refine xg_ext hX (g := mix 32 (adD xd yd) td) (ws' := [(tq, .inr (0, [.ref tp, .int (bI ts)])), (tp, .inl (cI, 130, .inl (nf (mix 32 (adD xd yd) td)))), (xq, .inr (0, [.ref xp, .int (bI xs)])), (xp, .inl (cI, 130, .inl (nf xd))), (yq, .inr (0, [.ref yp, .int (bI ys)])), (yp, .inl (cI, 130, .inl (nf yd)))]) 1 rfl (fun j hj => by first | rfl | (rw [hie]; done) | (rw [hie]; rfl)) rfl ?_
        exact hret () _ _ rfl trivial dR_addSizes_52
      ·
        refine xg_aload_n hX 1 dR_addSizes_12 rfl rfl ?_
        refine xg_iload hX 4 dR_addSizes_13 rfl ?_
        refine xg_cV hX xq [.int (nI i)] (hM := xc_digitAt l D cI xq xp xd xs i (by omega)) (wr := [(tq, .inr (0, [.ref tp, .int (bI ts)])), (tp, .inl (cI, 130, .inl (nf (mix i (adD xd yd) td)))), (yq, .inr (0, [.ref yp, .int (bI ys)])), (yp, .inl (cI, 130, .inl (nf yd)))]) (ws' := fun _ => [(tq, .inr (0, [.ref tp, .int (bI ts)])), (tp, .inl (cI, 130, .inl (nf (mix i (adD xd yd) td)))), (xq, .inr (0, [.ref xp, .int (bI xs)])), (xp, .inl (cI, 130, .inl (nf xd))), (yq, .inr (0, [.ref yp, .int (bI ys)])), (yp, .inl (cI, 130, .inl (nf yd)))]) (st' := fun _ => [.int (nI (xd i))]) [2, 3] [0, 1, 4, 5] [0, 1, 4, 5, 2, 3] [] rfl mt_144 mt_141 mt_2 mt_142 mt_143 0 rfl rfl hdR_digitAt (by decide) ⟨rfl, rfl⟩ (by decide) rfl rfl (by decide) rfl (by decide) (by decide) (by decide) (fun u => rfl) (fun u => rfl) (fun u => rfl) rfl rfl (by simp [Value.category]) dR_addSizes_15 (fun _ _ => ?_)
        refine xg_aload_n hX 2 dR_addSizes_18 rfl rfl ?_
        refine xg_iload hX 4 dR_addSizes_19 rfl ?_
        refine xg_cV hX yq [.int (nI i)] (hM := xc_digitAt l D cI yq yp yd ys i (by omega)) (wr := [(tq, .inr (0, [.ref tp, .int (bI ts)])), (tp, .inl (cI, 130, .inl (nf (mix i (adD xd yd) td)))), (xq, .inr (0, [.ref xp, .int (bI xs)])), (xp, .inl (cI, 130, .inl (nf xd)))]) (ws' := fun _ => [(tq, .inr (0, [.ref tp, .int (bI ts)])), (tp, .inl (cI, 130, .inl (nf (mix i (adD xd yd) td)))), (xq, .inr (0, [.ref xp, .int (bI xs)])), (xp, .inl (cI, 130, .inl (nf xd))), (yq, .inr (0, [.ref yp, .int (bI ys)])), (yp, .inl (cI, 130, .inl (nf yd)))]) (st' := fun _ => [.int (nI (yd i)), .int (nI (xd i))]) [4, 5] [0, 1, 2, 3] [0, 1, 2, 3, 4, 5] [.int (nI (xd i))] rfl mt_144 mt_141 mt_2 mt_142 mt_143 0 rfl rfl hdR_digitAt (by decide) ⟨rfl, rfl⟩ (by decide) rfl rfl (by decide) rfl (by decide) (by decide) (by decide) (fun u => rfl) (fun u => rfl) (fun u => rfl) rfl rfl (by simp [Value.category]) dR_addSizes_21 (fun _ _ => ?_)
        refine xg_iaddN hX dR_addSizes_24 ?_
        refine xg_iload_n hX 3 dR_addSizes_25 rfl rfl ?_
        refine xg_iaddN hX dR_addSizes_26 ?_
        refine xg_istore hX (lv' := [(5, .int (nI (((xd i) + (yd i)) + (adC xd yd i)))), (0, .ref tq), (1, .ref xq), (2, .ref yq), (3, .int (nI (adC xd yd i))), (4, .int (nI i))]) dR_addSizes_27 (by decide) rfl ?_
        refine xg_iload hX 0 dR_addSizes_29 rfl ?_
        refine xg_bipush hX (nI 10) dR_addSizes_31 (by decide) ?_
        refine xg_idivN hX (by omega) (by omega) (by omega) dR_addSizes_33 ?_
        refine xg_istore_n hX (lv' := [(3, .int (nI ((((xd i) + (yd i)) + (adC xd yd i)) / 10))), (5, .int (nI (((xd i) + (yd i)) + (adC xd yd i)))), (0, .ref tq), (1, .ref xq), (2, .ref yq), (4, .int (nI i))]) dR_addSizes_34 rfl (by decide) rfl ?_
        refine xg_aload_n hX 2 dR_addSizes_35 rfl rfl ?_
        refine xg_iload hX 5 dR_addSizes_36 rfl ?_
        refine xg_iload hX 1 dR_addSizes_38 rfl ?_
        refine xg_bipush hX (nI 10) dR_addSizes_40 (by decide) ?_
        refine xg_iremN hX (by omega) (by omega) (by omega) dR_addSizes_42 ?_
        refine xg_cV hX tq [.int (nI i), .int (nI ((((xd i) + (yd i)) + (adC xd yd i)) % 10))] (hM := xc_setDigit l D cI tq tp (mix i (adD xd yd) td) ts i ((((xd i) + (yd i)) + (adC xd yd i)) % 10) (by omega)) (wr := [(xq, .inr (0, [.ref xp, .int (bI xs)])), (xp, .inl (cI, 130, .inl (nf xd))), (yq, .inr (0, [.ref yp, .int (bI ys)])), (yp, .inl (cI, 130, .inl (nf yd)))]) (ws' := fun _ => [(tq, .inr (0, [.ref tp, .int (bI ts)])), (tp, .inl (cI, 130, .inl (nf (up (mix i (adD xd yd) td) i ((((xd i) + (yd i)) + (adC xd yd i)) % 10))))), (xq, .inr (0, [.ref xp, .int (bI xs)])), (xp, .inl (cI, 130, .inl (nf xd))), (yq, .inr (0, [.ref yp, .int (bI ys)])), (yp, .inl (cI, 130, .inl (nf yd)))]) (st' := fun _ => []) [0, 1] [2, 3, 4, 5] [4, 5, 0, 1, 2, 3] [] rfl mt_128 mt_154 mt_2 mt_126 mt_127 0 rfl rfl hdR_setDigit (by decide) ⟨rfl, rfl⟩ (by decide) rfl rfl (by decide) rfl (by decide) (by decide) (by decide) (fun u => rfl) (fun u => rfl) (fun u => rfl) rfl rfl (by simp [Value.category]) dR_addSizes_43 (fun _ _ => ?_)
        refine xg_iincN hX (lv' := [(4, .int (nI (i + 1))), (3, .int (nI ((((xd i) + (yd i)) + (adC xd yd i)) / 10))), (5, .int (nI (((xd i) + (yd i)) + (adC xd yd i)))), (0, .ref tq), (1, .ref xq), (2, .ref yq)]) (i + 1) 5 dR_addSizes_46 rfl (xn_inc _) (by decide) rfl ?_
        refine xg_goto hX 5 dR_addSizes_49 (by decide) ?_
        refine xg_ext hX (g := mix (i + 1) (adD xd yd) td) (ws' := [(tq, .inr (0, [.ref tp, .int (bI ts)])), (tp, .inl (cI, 130, .inl (nf (mix (i + 1) (adD xd yd) td)))), (xq, .inr (0, [.ref xp, .int (bI xs)])), (xp, .inl (cI, 130, .inl (nf xd))), (yq, .inr (0, [.ref yp, .int (bI ys)])), (yp, .inl (cI, 130, .inl (nf yd)))]) 1 rfl (fun j hj => mix_up rfl j) rfl ?_
        refine xg_lv hX (lv' := [(0, .ref tq), (1, .ref xq), (2, .ref yq), (3, .int (nI ((((xd i) + (yd i)) + (adC xd yd i)) / 10))), (4, .int (nI (i + 1)))]) [3, 4, 5, 1, 0] rfl ?_
        refine xg_lvE (lv' := [(0, .ref tq), (1, .ref xq), (2, .ref yq), (3, .int (nI (adC xd yd (i + 1)))), (4, .int (nI (i + 1)))]) (by rw [← (show (nI ((((xd i) + (yd i)) + (adC xd yd i)) / 10) : Int32) = nI (adC xd yd (i + 1)) from (by first | rfl | decide))]) ?_
        exact ih3 (i + 1) (by omega) (by omega)
  refine xg_ext hX (g := mix 0 (adD xd yd) td) (ws' := [(tq, .inr (0, [.ref tp, .int (bI ts)])), (tp, .inl (cI, 130, .inl (nf (mix 0 (adD xd yd) td)))), (xq, .inr (0, [.ref xp, .int (bI xs)])), (xp, .inl (cI, 130, .inl (nf xd))), (yq, .inr (0, [.ref yp, .int (bI ys)])), (yp, .inl (cI, 130, .inl (nf yd)))]) 1 rfl (fun j hj => mix_0 j) rfl ?_
  refine xg_lv hX (lv' := [(0, .ref tq), (1, .ref xq), (2, .ref yq), (3, .int (nI 0)), (4, .int (nI 0))]) [2, 3, 4, 1, 0] rfl ?_
  refine xg_lvE (lv' := [(0, .ref tq), (1, .ref xq), (2, .ref yq), (3, .int (nI (adC xd yd 0))), (4, .int (nI 0))]) (by rw [← (show (nI 0 : Int32) = nI (adC xd yd 0) from (by first | rfl | decide))]) ?_
  exact lp1 (32 - 0 + 1) 0 (by omega) (Nat.lt_succ_self _)
set_option maxHeartbeats 4000000 in
set_option maxRecDepth 100000 in
theorem xc_sub (l : Launch) (D : va_G) (cI : ClassId) (tq : Nat) (tp : Nat) (td : Nat → Nat) (ts : Bool) (xq : Nat) (xp : Nat) (xd : Nat → Nat) (xs : Bool) (yq : Nat) (yp : Nat) (yd : Nat → Nat) (ys : Bool) (hxd : ∀ j, xd j < 10) (hyd : ∀ j, yd j < 10) : Ctr l D cI yR_subtractSizes cR_subtractSizes 6 none { frames := 1, cells := 0, slots := 0, locals := 22 } [.ref tq, .ref xq, .ref yq] [(tq, .inr (0, [.ref tp, .int (bI ts)])), (tp, .inl (cI, 130, .inl (nf td))), (xq, .inr (0, [.ref xp, .int (bI xs)])), (xp, .inl (cI, 130, .inl (nf xd))), (yq, .inr (0, [.ref yp, .int (bI ys)])), (yp, .inl (cI, 130, .inl (nf yd)))] (fun _ : Unit => none) (fun _ : Unit => True) (fun _ : Unit => [(tq, .inr (0, [.ref tp, .int (bI ts)])), (tp, .inl (cI, 130, .inl (nf (mix 32 (suD xd yd) td)))), (xq, .inr (0, [.ref xp, .int (bI xs)])), (xp, .inl (cI, 130, .inl (nf xd))), (yq, .inr (0, [.ref yp, .int (bI ys)])), (yp, .inl (cI, 130, .inl (nf yd)))]) 0 0 := by
  refine xc_mkV (by decide +kernel) (Nat.le_of_ble_eq_true rfl) (fun X hX hin hret => ?_)
  show GG D X 0 0 0 [(tq, .inr (0, [.ref tp, .int (bI ts)])), (tp, .inl (cI, 130, .inl (nf td))), (xq, .inr (0, [.ref xp, .int (bI xs)])), (xp, .inl (cI, 130, .inl (nf xd))), (yq, .inr (0, [.ref yp, .int (bI ys)])), (yp, .inl (cI, 130, .inl (nf yd)))] [(0, .ref tq), (1, .ref xq), (2, .ref yq)] []
  refine xg_iconst hX (nI 0) dR_subtractSizes_0 (by decide) ?_
  refine xg_istore_n hX (lv' := [(3, .int (nI 0)), (0, .ref tq), (1, .ref xq), (2, .ref yq)]) dR_subtractSizes_1 rfl (by decide) rfl ?_
  refine xg_iconst hX (nI 0) dR_subtractSizes_2 (by decide) ?_
  refine xg_istore hX (lv' := [(4, .int (nI 0)), (3, .int (nI 0)), (0, .ref tq), (1, .ref xq), (2, .ref yq)]) dR_subtractSizes_3 (by decide) rfl ?_
  have lp1 : ∀ (fu2 : Nat) (i : Nat), (i ≤ 32) → 32 - i < fu2 → GG D X 0 0 5 [(tq, .inr (0, [.ref tp, .int (bI ts)])), (tp, .inl (cI, 130, .inl (nf (mix i (suD xd yd) td)))), (xq, .inr (0, [.ref xp, .int (bI xs)])), (xp, .inl (cI, 130, .inl (nf xd))), (yq, .inr (0, [.ref yp, .int (bI ys)])), (yp, .inl (cI, 130, .inl (nf yd)))] [(0, .ref tq), (1, .ref xq), (2, .ref yq), (3, .int (nI (suB xd yd i))), (4, .int (nI i))] [] := by
    intro fu2
    induction fu2 with
    | zero => intro i hi hm4; exact absurd hm4 (Nat.not_lt_zero _)
    | succ fu2 ih3 =>
      intro i hi hm4
      have e1 := hxd i
      have e2 := hyd i
      have e3 := suB_le xd yd i
      have e4 : (nI (xd i) - nI (yd i) - nI (suB xd yd i)).toInt = (xd i : Int) - (yd i : Int) - (suB xd yd i : Int) := xn_s3 (by omega) (by omega) (by omega)
      refine xg_iload hX 4 dR_subtractSizes_5 rfl ?_
      refine xg_bipush hX (nI 32) dR_subtractSizes_7 (by decide) ?_
      refine xg_icmp_geN hX 59 (by omega) (by omega) dR_subtractSizes_9 (by decide) (fun h5 => ?_) (fun h5 => ?_)
      ·
        have hie : i = 32 := by omega
        refine xg_ext hX (g := mix 32 (suD xd yd) td) (ws' := [(tq, .inr (0, [.ref tp, .int (bI ts)])), (tp, .inl (cI, 130, .inl (nf (mix 32 (suD xd yd) td)))), (xq, .inr (0, [.ref xp, .int (bI xs)])), (xp, .inl (cI, 130, .inl (nf xd))), (yq, .inr (0, [.ref yp, .int (bI ys)])), (yp, .inl (cI, 130, .inl (nf yd)))]) 1 rfl (fun j hj => by first | rfl | (rw [hie]; done) | (rw [hie]; rfl)) rfl ?_
        exact hret () _ _ rfl trivial dR_subtractSizes_59
      ·
        refine xg_aload_n hX 1 dR_subtractSizes_12 rfl rfl ?_
        refine xg_iload hX 4 dR_subtractSizes_13 rfl ?_
        refine xg_cV hX xq [.int (nI i)] (hM := xc_digitAt l D cI xq xp xd xs i (by omega)) (wr := [(tq, .inr (0, [.ref tp, .int (bI ts)])), (tp, .inl (cI, 130, .inl (nf (mix i (suD xd yd) td)))), (yq, .inr (0, [.ref yp, .int (bI ys)])), (yp, .inl (cI, 130, .inl (nf yd)))]) (ws' := fun _ => [(tq, .inr (0, [.ref tp, .int (bI ts)])), (tp, .inl (cI, 130, .inl (nf (mix i (suD xd yd) td)))), (xq, .inr (0, [.ref xp, .int (bI xs)])), (xp, .inl (cI, 130, .inl (nf xd))), (yq, .inr (0, [.ref yp, .int (bI ys)])), (yp, .inl (cI, 130, .inl (nf yd)))]) (st' := fun _ => [.int (nI (xd i))]) [2, 3] [0, 1, 4, 5] [0, 1, 4, 5, 2, 3] [] rfl mt_144 mt_141 mt_2 mt_142 mt_143 0 rfl rfl hdR_digitAt (by decide) ⟨rfl, rfl⟩ (by decide) rfl rfl (by decide) rfl (by decide) (by decide) (by decide) (fun u => rfl) (fun u => rfl) (fun u => rfl) rfl rfl (by simp [Value.category]) dR_subtractSizes_15 (fun _ _ => ?_)
        refine xg_aload_n hX 2 dR_subtractSizes_18 rfl rfl ?_
        refine xg_iload hX 4 dR_subtractSizes_19 rfl ?_
        refine xg_cV hX yq [.int (nI i)] (hM := xc_digitAt l D cI yq yp yd ys i (by omega)) (wr := [(tq, .inr (0, [.ref tp, .int (bI ts)])), (tp, .inl (cI, 130, .inl (nf (mix i (suD xd yd) td)))), (xq, .inr (0, [.ref xp, .int (bI xs)])), (xp, .inl (cI, 130, .inl (nf xd)))]) (ws' := fun _ => [(tq, .inr (0, [.ref tp, .int (bI ts)])), (tp, .inl (cI, 130, .inl (nf (mix i (suD xd yd) td)))), (xq, .inr (0, [.ref xp, .int (bI xs)])), (xp, .inl (cI, 130, .inl (nf xd))), (yq, .inr (0, [.ref yp, .int (bI ys)])), (yp, .inl (cI, 130, .inl (nf yd)))]) (st' := fun _ => [.int (nI (yd i)), .int (nI (xd i))]) [4, 5] [0, 1, 2, 3] [0, 1, 2, 3, 4, 5] [.int (nI (xd i))] rfl mt_144 mt_141 mt_2 mt_142 mt_143 0 rfl rfl hdR_digitAt (by decide) ⟨rfl, rfl⟩ (by decide) rfl rfl (by decide) rfl (by decide) (by decide) (by decide) (fun u => rfl) (fun u => rfl) (fun u => rfl) rfl rfl (by simp [Value.category]) dR_subtractSizes_21 (fun _ _ => ?_)
        refine xg_isub hX dR_subtractSizes_24 ?_
        refine xg_iload_n hX 3 dR_subtractSizes_25 rfl rfl ?_
        refine xg_isub hX dR_subtractSizes_26 ?_
        refine xg_istore hX (lv' := [(5, .int (((nI (xd i)) - (nI (yd i))) - (nI (suB xd yd i)))), (0, .ref tq), (1, .ref xq), (2, .ref yq), (3, .int (nI (suB xd yd i))), (4, .int (nI i))]) dR_subtractSizes_27 (by decide) rfl ?_
        refine xg_iload hX 0 dR_subtractSizes_29 rfl ?_
        refine xg_if_geZ hX ((((nI (xd i)) - (nI (yd i))) - (nI (suB xd yd i))).toInt) rfl 38 dR_subtractSizes_31 (by decide) (fun h31 => ?_) (fun h31 => ?_)
        ·
          rw [e4] at h31
          have e5 : suB xd yd (i + 1) = 0 := if_neg (by omega)
          refine xg_iconst hX (nI 0) dR_subtractSizes_38 (by decide) ?_
          refine xg_istore_n hX (lv' := [(3, .int (nI 0)), (5, .int (((nI (xd i)) - (nI (yd i))) - (nI (suB xd yd i)))), (0, .ref tq), (1, .ref xq), (2, .ref yq), (4, .int (nI i))]) dR_subtractSizes_39 rfl (by decide) rfl ?_
          refine xg_aload_n hX 2 dR_subtractSizes_40 rfl rfl ?_
          refine xg_iload hX 5 dR_subtractSizes_41 rfl ?_
          refine xg_iload hX 1 dR_subtractSizes_43 rfl ?_
          refine xg_bipush hX (nI 10) dR_subtractSizes_45 (by decide) ?_
          refine xg_iload_n hX 0 dR_subtractSizes_47 rfl rfl ?_
          refine xg_imulN hX dR_subtractSizes_48 ?_
          refine xg_iadd hX dR_subtractSizes_49 ?_
          refine xg_top (nI (suD xd yd i)) (by unfold suD; rw [e5]; exact xn_s4 (by omega)) ?_
          refine xg_cV hX tq [.int (nI i), .int (nI (suD xd yd i))] (hM := xc_setDigit l D cI tq tp (mix i (suD xd yd) td) ts i (suD xd yd i) (by omega)) (wr := [(xq, .inr (0, [.ref xp, .int (bI xs)])), (xp, .inl (cI, 130, .inl (nf xd))), (yq, .inr (0, [.ref yp, .int (bI ys)])), (yp, .inl (cI, 130, .inl (nf yd)))]) (ws' := fun _ => [(tq, .inr (0, [.ref tp, .int (bI ts)])), (tp, .inl (cI, 130, .inl (nf (up (mix i (suD xd yd) td) i (suD xd yd i))))), (xq, .inr (0, [.ref xp, .int (bI xs)])), (xp, .inl (cI, 130, .inl (nf xd))), (yq, .inr (0, [.ref yp, .int (bI ys)])), (yp, .inl (cI, 130, .inl (nf yd)))]) (st' := fun _ => []) [0, 1] [2, 3, 4, 5] [4, 5, 0, 1, 2, 3] [] rfl mt_128 mt_154 mt_2 mt_126 mt_127 0 rfl rfl hdR_setDigit (by decide) ⟨rfl, rfl⟩ (by decide) rfl rfl (by decide) rfl (by decide) (by decide) (by decide) (fun u => rfl) (fun u => rfl) (fun u => rfl) rfl rfl (by simp [Value.category]) dR_subtractSizes_50 (fun _ _ => ?_)
          refine xg_iincN hX (lv' := [(4, .int (nI (i + 1))), (3, .int (nI 0)), (5, .int (((nI (xd i)) - (nI (yd i))) - (nI (suB xd yd i)))), (0, .ref tq), (1, .ref xq), (2, .ref yq)]) (i + 1) 5 dR_subtractSizes_53 rfl (xn_inc _) (by decide) rfl ?_
          refine xg_goto hX 5 dR_subtractSizes_56 (by decide) ?_
          refine xg_ext hX (g := mix (i + 1) (suD xd yd) td) (ws' := [(tq, .inr (0, [.ref tp, .int (bI ts)])), (tp, .inl (cI, 130, .inl (nf (mix (i + 1) (suD xd yd) td)))), (xq, .inr (0, [.ref xp, .int (bI xs)])), (xp, .inl (cI, 130, .inl (nf xd))), (yq, .inr (0, [.ref yp, .int (bI ys)])), (yp, .inl (cI, 130, .inl (nf yd)))]) 1 rfl (fun j hj => mix_up rfl j) rfl ?_
          refine xg_lv hX (lv' := [(0, .ref tq), (1, .ref xq), (2, .ref yq), (3, .int (nI 0)), (4, .int (nI (i + 1)))]) [3, 4, 5, 1, 0] rfl ?_
          refine xg_lvE (lv' := [(0, .ref tq), (1, .ref xq), (2, .ref yq), (3, .int (nI (suB xd yd (i + 1)))), (4, .int (nI (i + 1)))]) (by rw [← (show (nI 0 : Int32) = nI (suB xd yd (i + 1)) from (by rw [e5]))]) ?_
          exact ih3 (i + 1) (by omega) (by omega)
        ·
          rw [e4] at h31
          have e5 : suB xd yd (i + 1) = 1 := if_pos (by omega)
          refine xg_iconst hX (nI 1) dR_subtractSizes_34 (by decide) ?_
          refine xg_goto hX 39 dR_subtractSizes_35 (by decide) ?_
          refine xg_istore_n hX (lv' := [(3, .int (nI 1)), (5, .int (((nI (xd i)) - (nI (yd i))) - (nI (suB xd yd i)))), (0, .ref tq), (1, .ref xq), (2, .ref yq), (4, .int (nI i))]) dR_subtractSizes_39 rfl (by decide) rfl ?_
          refine xg_aload_n hX 2 dR_subtractSizes_40 rfl rfl ?_
          refine xg_iload hX 5 dR_subtractSizes_41 rfl ?_
          refine xg_iload hX 1 dR_subtractSizes_43 rfl ?_
          refine xg_bipush hX (nI 10) dR_subtractSizes_45 (by decide) ?_
          refine xg_iload_n hX 0 dR_subtractSizes_47 rfl rfl ?_
          refine xg_imulN hX dR_subtractSizes_48 ?_
          refine xg_iadd hX dR_subtractSizes_49 ?_
          refine xg_top (nI (suD xd yd i)) (by unfold suD; rw [e5]; exact xn_s4 (by omega)) ?_
          refine xg_cV hX tq [.int (nI i), .int (nI (suD xd yd i))] (hM := xc_setDigit l D cI tq tp (mix i (suD xd yd) td) ts i (suD xd yd i) (by omega)) (wr := [(xq, .inr (0, [.ref xp, .int (bI xs)])), (xp, .inl (cI, 130, .inl (nf xd))), (yq, .inr (0, [.ref yp, .int (bI ys)])), (yp, .inl (cI, 130, .inl (nf yd)))]) (ws' := fun _ => [(tq, .inr (0, [.ref tp, .int (bI ts)])), (tp, .inl (cI, 130, .inl (nf (up (mix i (suD xd yd) td) i (suD xd yd i))))), (xq, .inr (0, [.ref xp, .int (bI xs)])), (xp, .inl (cI, 130, .inl (nf xd))), (yq, .inr (0, [.ref yp, .int (bI ys)])), (yp, .inl (cI, 130, .inl (nf yd)))]) (st' := fun _ => []) [0, 1] [2, 3, 4, 5] [4, 5, 0, 1, 2, 3] [] rfl mt_128 mt_154 mt_2 mt_126 mt_127 0 rfl rfl hdR_setDigit (by decide) ⟨rfl, rfl⟩ (by decide) rfl rfl (by decide) rfl (by decide) (by decide) (by decide) (fun u => rfl) (fun u => rfl) (fun u => rfl) rfl rfl (by simp [Value.category]) dR_subtractSizes_50 (fun _ _ => ?_)
          refine xg_iincN hX (lv' := [(4, .int (nI (i + 1))), (3, .int (nI 1)), (5, .int (((nI (xd i)) - (nI (yd i))) - (nI (suB xd yd i)))), (0, .ref tq), (1, .ref xq), (2, .ref yq)]) (i + 1) 5 dR_subtractSizes_53 rfl (xn_inc _) (by decide) rfl ?_
          refine xg_goto hX 5 dR_subtractSizes_56 (by decide) ?_
          refine xg_ext hX (g := mix (i + 1) (suD xd yd) td) (ws' := [(tq, .inr (0, [.ref tp, .int (bI ts)])), (tp, .inl (cI, 130, .inl (nf (mix (i + 1) (suD xd yd) td)))), (xq, .inr (0, [.ref xp, .int (bI xs)])), (xp, .inl (cI, 130, .inl (nf xd))), (yq, .inr (0, [.ref yp, .int (bI ys)])), (yp, .inl (cI, 130, .inl (nf yd)))]) 1 rfl (fun j hj => mix_up rfl j) rfl ?_
          refine xg_lv hX (lv' := [(0, .ref tq), (1, .ref xq), (2, .ref yq), (3, .int (nI 1)), (4, .int (nI (i + 1)))]) [3, 4, 5, 1, 0] rfl ?_
          refine xg_lvE (lv' := [(0, .ref tq), (1, .ref xq), (2, .ref yq), (3, .int (nI (suB xd yd (i + 1)))), (4, .int (nI (i + 1)))]) (by rw [← (show (nI 1 : Int32) = nI (suB xd yd (i + 1)) from (by rw [e5]))]) ?_
          exact ih3 (i + 1) (by omega) (by omega)
  refine xg_ext hX (g := mix 0 (suD xd yd) td) (ws' := [(tq, .inr (0, [.ref tp, .int (bI ts)])), (tp, .inl (cI, 130, .inl (nf (mix 0 (suD xd yd) td)))), (xq, .inr (0, [.ref xp, .int (bI xs)])), (xp, .inl (cI, 130, .inl (nf xd))), (yq, .inr (0, [.ref yp, .int (bI ys)])), (yp, .inl (cI, 130, .inl (nf yd)))]) 1 rfl (fun j hj => mix_0 j) rfl ?_
  refine xg_lv hX (lv' := [(0, .ref tq), (1, .ref xq), (2, .ref yq), (3, .int (nI 0)), (4, .int (nI 0))]) [2, 3, 4, 1, 0] rfl ?_
  refine xg_lvE (lv' := [(0, .ref tq), (1, .ref xq), (2, .ref yq), (3, .int (nI (suB xd yd 0))), (4, .int (nI 0))]) (by rw [← (show (nI 0 : Int32) = nI (suB xd yd 0) from (by first | rfl | decide))]) ?_
  exact lp1 (32 - 0 + 1) 0 (by omega) (Nat.lt_succ_self _)
set_option maxHeartbeats 4000000 in
set_option maxRecDepth 100000 in
theorem xc_subSelf (l : Launch) (D : va_G) (cI : ClassId) (tq : Nat) (tp : Nat) (td : Nat → Nat) (ts : Bool) (yq : Nat) (yp : Nat) (yd : Nat → Nat) (ys : Bool) (htd : ∀ j, td j < 10) (hyd : ∀ j, yd j < 10) : Ctr l D cI yR_subtractSizes cR_subtractSizes 6 none { frames := 1, cells := 0, slots := 0, locals := 22 } [.ref tq, .ref tq, .ref yq] [(tq, .inr (0, [.ref tp, .int (bI ts)])), (tp, .inl (cI, 130, .inl (nf td))), (yq, .inr (0, [.ref yp, .int (bI ys)])), (yp, .inl (cI, 130, .inl (nf yd)))] (fun _ : Unit => none) (fun _ : Unit => True) (fun _ : Unit => [(tq, .inr (0, [.ref tp, .int (bI ts)])), (tp, .inl (cI, 130, .inl (nf (sbW 32 td yd)))), (yq, .inr (0, [.ref yp, .int (bI ys)])), (yp, .inl (cI, 130, .inl (nf yd)))]) 0 0 := by
  refine xc_mkV (by decide +kernel) (Nat.le_of_ble_eq_true rfl) (fun X hX hin hret => ?_)
  show GG D X 0 0 0 [(tq, .inr (0, [.ref tp, .int (bI ts)])), (tp, .inl (cI, 130, .inl (nf td))), (yq, .inr (0, [.ref yp, .int (bI ys)])), (yp, .inl (cI, 130, .inl (nf yd)))] [(0, .ref tq), (1, .ref tq), (2, .ref yq)] []
  refine xg_iconst hX (nI 0) dR_subtractSizes_0 (by decide) ?_
  refine xg_istore_n hX (lv' := [(3, .int (nI 0)), (0, .ref tq), (1, .ref tq), (2, .ref yq)]) dR_subtractSizes_1 rfl (by decide) rfl ?_
  refine xg_iconst hX (nI 0) dR_subtractSizes_2 (by decide) ?_
  refine xg_istore hX (lv' := [(4, .int (nI 0)), (3, .int (nI 0)), (0, .ref tq), (1, .ref tq), (2, .ref yq)]) dR_subtractSizes_3 (by decide) rfl ?_
  have lp1 : ∀ (fu2 : Nat) (i : Nat), (i ≤ 32) → 32 - i < fu2 → GG D X 0 0 5 [(tq, .inr (0, [.ref tp, .int (bI ts)])), (tp, .inl (cI, 130, .inl (nf (mix i (suD td yd) td)))), (yq, .inr (0, [.ref yp, .int (bI ys)])), (yp, .inl (cI, 130, .inl (nf yd)))] [(0, .ref tq), (1, .ref tq), (2, .ref yq), (3, .int (nI (suB td yd i))), (4, .int (nI i))] [] := by
    intro fu2
    induction fu2 with
    | zero => intro i hi hm4; exact absurd hm4 (Nat.not_lt_zero _)
    | succ fu2 ih3 =>
      intro i hi hm4
      have e1 := htd i
      have e2 := hyd i
      have e3 := suB_le td yd i
      have e4 : (nI (td i) - nI (yd i) - nI (suB td yd i)).toInt = (td i : Int) - (yd i : Int) - (suB td yd i : Int) := xn_s3 (by omega) (by omega) (by omega)
      refine xg_iload hX 4 dR_subtractSizes_5 rfl ?_
      refine xg_bipush hX (nI 32) dR_subtractSizes_7 (by decide) ?_
      refine xg_icmp_geN hX 59 (by omega) (by omega) dR_subtractSizes_9 (by decide) (fun h5 => ?_) (fun h5 => ?_)
      ·
        have hie : i = 32 := by omega
        refine xg_ext hX (g := sbW 32 td yd) (ws' := [(tq, .inr (0, [.ref tp, .int (bI ts)])), (tp, .inl (cI, 130, .inl (nf (sbW 32 td yd)))), (yq, .inr (0, [.ref yp, .int (bI ys)])), (yp, .inl (cI, 130, .inl (nf yd)))]) 1 rfl (fun j hj => by first | rfl | (rw [hie]; done) | (rw [hie]; rfl)) rfl ?_
        exact hret () _ _ rfl trivial dR_subtractSizes_59
      ·
        refine xg_aload_n hX 1 dR_subtractSizes_12 rfl rfl ?_
        refine xg_iload hX 4 dR_subtractSizes_13 rfl ?_
        refine xg_cV hX tq [.int (nI i)] (hM := xc_digitAt l D cI tq tp (mix i (suD td yd) td) ts i (by omega)) (wr := [(yq, .inr (0, [.ref yp, .int (bI ys)])), (yp, .inl (cI, 130, .inl (nf yd)))]) (ws' := fun _ => [(tq, .inr (0, [.ref tp, .int (bI ts)])), (tp, .inl (cI, 130, .inl (nf (mix i (suD td yd) td)))), (yq, .inr (0, [.ref yp, .int (bI ys)])), (yp, .inl (cI, 130, .inl (nf yd)))]) (st' := fun _ => [.int (nI ((mix i (suD td yd) td) i))]) [0, 1] [2, 3] [2, 3, 0, 1] [] rfl mt_144 mt_141 mt_2 mt_142 mt_143 0 rfl rfl hdR_digitAt (by decide) ⟨rfl, rfl⟩ (by decide) rfl rfl (by decide) rfl (by decide) (by decide) (by decide) (fun u => rfl) (fun u => rfl) (fun u => rfl) rfl rfl (by simp [Value.category]) dR_subtractSizes_15 (fun _ _ => ?_)
        refine xg_top (nI (td i)) (by rw [mix_hi (Nat.le_refl i)]) ?_
        refine xg_aload_n hX 2 dR_subtractSizes_18 rfl rfl ?_
        refine xg_iload hX 4 dR_subtractSizes_19 rfl ?_
        refine xg_cV hX yq [.int (nI i)] (hM := xc_digitAt l D cI yq yp yd ys i (by omega)) (wr := [(tq, .inr (0, [.ref tp, .int (bI ts)])), (tp, .inl (cI, 130, .inl (nf (mix i (suD td yd) td))))]) (ws' := fun _ => [(tq, .inr (0, [.ref tp, .int (bI ts)])), (tp, .inl (cI, 130, .inl (nf (mix i (suD td yd) td)))), (yq, .inr (0, [.ref yp, .int (bI ys)])), (yp, .inl (cI, 130, .inl (nf yd)))]) (st' := fun _ => [.int (nI (yd i)), .int (nI (td i))]) [2, 3] [0, 1] [0, 1, 2, 3] [.int (nI (td i))] rfl mt_144 mt_141 mt_2 mt_142 mt_143 0 rfl rfl hdR_digitAt (by decide) ⟨rfl, rfl⟩ (by decide) rfl rfl (by decide) rfl (by decide) (by decide) (by decide) (fun u => rfl) (fun u => rfl) (fun u => rfl) rfl rfl (by simp [Value.category]) dR_subtractSizes_21 (fun _ _ => ?_)
        refine xg_isub hX dR_subtractSizes_24 ?_
        refine xg_iload_n hX 3 dR_subtractSizes_25 rfl rfl ?_
        refine xg_isub hX dR_subtractSizes_26 ?_
        refine xg_istore hX (lv' := [(5, .int (((nI (td i)) - (nI (yd i))) - (nI (suB td yd i)))), (0, .ref tq), (1, .ref tq), (2, .ref yq), (3, .int (nI (suB td yd i))), (4, .int (nI i))]) dR_subtractSizes_27 (by decide) rfl ?_
        refine xg_iload hX 0 dR_subtractSizes_29 rfl ?_
        refine xg_if_geZ hX ((((nI (td i)) - (nI (yd i))) - (nI (suB td yd i))).toInt) rfl 38 dR_subtractSizes_31 (by decide) (fun h31 => ?_) (fun h31 => ?_)
        ·
          rw [e4] at h31
          have e5 : suB td yd (i + 1) = 0 := if_neg (by omega)
          refine xg_iconst hX (nI 0) dR_subtractSizes_38 (by decide) ?_
          refine xg_istore_n hX (lv' := [(3, .int (nI 0)), (5, .int (((nI (td i)) - (nI (yd i))) - (nI (suB td yd i)))), (0, .ref tq), (1, .ref tq), (2, .ref yq), (4, .int (nI i))]) dR_subtractSizes_39 rfl (by decide) rfl ?_
          refine xg_aload_n hX 2 dR_subtractSizes_40 rfl rfl ?_
          refine xg_iload hX 5 dR_subtractSizes_41 rfl ?_
          refine xg_iload hX 1 dR_subtractSizes_43 rfl ?_
          refine xg_bipush hX (nI 10) dR_subtractSizes_45 (by decide) ?_
          refine xg_iload_n hX 0 dR_subtractSizes_47 rfl rfl ?_
          refine xg_imulN hX dR_subtractSizes_48 ?_
          refine xg_iadd hX dR_subtractSizes_49 ?_
          refine xg_top (nI (suD td yd i)) (by unfold suD; rw [e5]; exact xn_s4 (by omega)) ?_
          refine xg_cV hX tq [.int (nI i), .int (nI (suD td yd i))] (hM := xc_setDigit l D cI tq tp (mix i (suD td yd) td) ts i (suD td yd i) (by omega)) (wr := [(yq, .inr (0, [.ref yp, .int (bI ys)])), (yp, .inl (cI, 130, .inl (nf yd)))]) (ws' := fun _ => [(tq, .inr (0, [.ref tp, .int (bI ts)])), (tp, .inl (cI, 130, .inl (nf (up (mix i (suD td yd) td) i (suD td yd i))))), (yq, .inr (0, [.ref yp, .int (bI ys)])), (yp, .inl (cI, 130, .inl (nf yd)))]) (st' := fun _ => []) [0, 1] [2, 3] [2, 3, 0, 1] [] rfl mt_128 mt_154 mt_2 mt_126 mt_127 0 rfl rfl hdR_setDigit (by decide) ⟨rfl, rfl⟩ (by decide) rfl rfl (by decide) rfl (by decide) (by decide) (by decide) (fun u => rfl) (fun u => rfl) (fun u => rfl) rfl rfl (by simp [Value.category]) dR_subtractSizes_50 (fun _ _ => ?_)
          refine xg_iincN hX (lv' := [(4, .int (nI (i + 1))), (3, .int (nI 0)), (5, .int (((nI (td i)) - (nI (yd i))) - (nI (suB td yd i)))), (0, .ref tq), (1, .ref tq), (2, .ref yq)]) (i + 1) 5 dR_subtractSizes_53 rfl (xn_inc _) (by decide) rfl ?_
          refine xg_goto hX 5 dR_subtractSizes_56 (by decide) ?_
          refine xg_ext hX (g := mix (i + 1) (suD td yd) td) (ws' := [(tq, .inr (0, [.ref tp, .int (bI ts)])), (tp, .inl (cI, 130, .inl (nf (mix (i + 1) (suD td yd) td)))), (yq, .inr (0, [.ref yp, .int (bI ys)])), (yp, .inl (cI, 130, .inl (nf yd)))]) 1 rfl (fun j hj => mix_up rfl j) rfl ?_
          refine xg_lv hX (lv' := [(0, .ref tq), (1, .ref tq), (2, .ref yq), (3, .int (nI 0)), (4, .int (nI (i + 1)))]) [3, 4, 5, 1, 0] rfl ?_
          refine xg_lvE (lv' := [(0, .ref tq), (1, .ref tq), (2, .ref yq), (3, .int (nI (suB td yd (i + 1)))), (4, .int (nI (i + 1)))]) (by rw [← (show (nI 0 : Int32) = nI (suB td yd (i + 1)) from (by rw [e5]))]) ?_
          exact ih3 (i + 1) (by omega) (by omega)
        ·
          rw [e4] at h31
          have e5 : suB td yd (i + 1) = 1 := if_pos (by omega)
          refine xg_iconst hX (nI 1) dR_subtractSizes_34 (by decide) ?_
          refine xg_goto hX 39 dR_subtractSizes_35 (by decide) ?_
          refine xg_istore_n hX (lv' := [(3, .int (nI 1)), (5, .int (((nI (td i)) - (nI (yd i))) - (nI (suB td yd i)))), (0, .ref tq), (1, .ref tq), (2, .ref yq), (4, .int (nI i))]) dR_subtractSizes_39 rfl (by decide) rfl ?_
          refine xg_aload_n hX 2 dR_subtractSizes_40 rfl rfl ?_
          refine xg_iload hX 5 dR_subtractSizes_41 rfl ?_
          refine xg_iload hX 1 dR_subtractSizes_43 rfl ?_
          refine xg_bipush hX (nI 10) dR_subtractSizes_45 (by decide) ?_
          refine xg_iload_n hX 0 dR_subtractSizes_47 rfl rfl ?_
          refine xg_imulN hX dR_subtractSizes_48 ?_
          refine xg_iadd hX dR_subtractSizes_49 ?_
          refine xg_top (nI (suD td yd i)) (by unfold suD; rw [e5]; exact xn_s4 (by omega)) ?_
          refine xg_cV hX tq [.int (nI i), .int (nI (suD td yd i))] (hM := xc_setDigit l D cI tq tp (mix i (suD td yd) td) ts i (suD td yd i) (by omega)) (wr := [(yq, .inr (0, [.ref yp, .int (bI ys)])), (yp, .inl (cI, 130, .inl (nf yd)))]) (ws' := fun _ => [(tq, .inr (0, [.ref tp, .int (bI ts)])), (tp, .inl (cI, 130, .inl (nf (up (mix i (suD td yd) td) i (suD td yd i))))), (yq, .inr (0, [.ref yp, .int (bI ys)])), (yp, .inl (cI, 130, .inl (nf yd)))]) (st' := fun _ => []) [0, 1] [2, 3] [2, 3, 0, 1] [] rfl mt_128 mt_154 mt_2 mt_126 mt_127 0 rfl rfl hdR_setDigit (by decide) ⟨rfl, rfl⟩ (by decide) rfl rfl (by decide) rfl (by decide) (by decide) (by decide) (fun u => rfl) (fun u => rfl) (fun u => rfl) rfl rfl (by simp [Value.category]) dR_subtractSizes_50 (fun _ _ => ?_)
          refine xg_iincN hX (lv' := [(4, .int (nI (i + 1))), (3, .int (nI 1)), (5, .int (((nI (td i)) - (nI (yd i))) - (nI (suB td yd i)))), (0, .ref tq), (1, .ref tq), (2, .ref yq)]) (i + 1) 5 dR_subtractSizes_53 rfl (xn_inc _) (by decide) rfl ?_
          refine xg_goto hX 5 dR_subtractSizes_56 (by decide) ?_
          refine xg_ext hX (g := mix (i + 1) (suD td yd) td) (ws' := [(tq, .inr (0, [.ref tp, .int (bI ts)])), (tp, .inl (cI, 130, .inl (nf (mix (i + 1) (suD td yd) td)))), (yq, .inr (0, [.ref yp, .int (bI ys)])), (yp, .inl (cI, 130, .inl (nf yd)))]) 1 rfl (fun j hj => mix_up rfl j) rfl ?_
          refine xg_lv hX (lv' := [(0, .ref tq), (1, .ref tq), (2, .ref yq), (3, .int (nI 1)), (4, .int (nI (i + 1)))]) [3, 4, 5, 1, 0] rfl ?_
          refine xg_lvE (lv' := [(0, .ref tq), (1, .ref tq), (2, .ref yq), (3, .int (nI (suB td yd (i + 1)))), (4, .int (nI (i + 1)))]) (by rw [← (show (nI 1 : Int32) = nI (suB td yd (i + 1)) from (by rw [e5]))]) ?_
          exact ih3 (i + 1) (by omega) (by omega)
  refine xg_ext hX (g := mix 0 (suD td yd) td) (ws' := [(tq, .inr (0, [.ref tp, .int (bI ts)])), (tp, .inl (cI, 130, .inl (nf (mix 0 (suD td yd) td)))), (yq, .inr (0, [.ref yp, .int (bI ys)])), (yp, .inl (cI, 130, .inl (nf yd)))]) 1 rfl (fun j hj => mix_0 j) rfl ?_
  refine xg_lv hX (lv' := [(0, .ref tq), (1, .ref tq), (2, .ref yq), (3, .int (nI 0)), (4, .int (nI 0))]) [2, 3, 4, 1, 0] rfl ?_
  refine xg_lvE (lv' := [(0, .ref tq), (1, .ref tq), (2, .ref yq), (3, .int (nI (suB td yd 0))), (4, .int (nI 0))]) (by rw [← (show (nI 0 : Int32) = nI (suB td yd 0) from (by first | rfl | decide))]) ?_
  exact lp1 (32 - 0 + 1) 0 (by omega) (Nat.lt_succ_self _)
set_option maxHeartbeats 4000000 in
set_option maxRecDepth 100000 in
theorem xc_addSigned (l : Launch) (D : va_G) (cI : ClassId) (tq : Nat) (tp : Nat) (td : Nat → Nat) (ts : Bool) (xq : Nat) (xp : Nat) (xd : Nat → Nat) (xs : Bool) (yq : Nat) (yp : Nat) (yd : Nat → Nat) (ys : Bool) (hxd : ∀ j, xd j < 10) (hyd : ∀ j, yd j < 10) : Ctr l D cI yR_addSigned cR_addSigned 3 none { frames := 2, cells := 0, slots := 0, locals := 47 } [.ref tq, .ref xq, .ref yq] [(tq, .inr (0, [.ref tp, .int (bI ts)])), (tp, .inl (cI, 130, .inl (nf td))), (xq, .inr (0, [.ref xp, .int (bI xs)])), (xp, .inl (cI, 130, .inl (nf xd))), (yq, .inr (0, [.ref yp, .int (bI ys)])), (yp, .inl (cI, 130, .inl (nf yd)))] (fun _ : Unit => none) (fun _ : Unit => True) (fun _ : Unit => [(tq, .inr (0, [.ref tp, .int (bI (asS xd xs yd ys))])), (tp, .inl (cI, 130, .inl (nf (asD xd xs yd ys)))), (xq, .inr (0, [.ref xp, .int (bI xs)])), (xp, .inl (cI, 130, .inl (nf xd))), (yq, .inr (0, [.ref yp, .int (bI ys)])), (yp, .inl (cI, 130, .inl (nf yd)))]) 0 0 := by
  refine xc_mkV (by decide +kernel) (Nat.le_of_ble_eq_true rfl) (fun X hX hin hret => ?_)
  show GG D X 0 0 0 [(tq, .inr (0, [.ref tp, .int (bI ts)])), (tp, .inl (cI, 130, .inl (nf td))), (xq, .inr (0, [.ref xp, .int (bI xs)])), (xp, .inl (cI, 130, .inl (nf xd))), (yq, .inr (0, [.ref yp, .int (bI ys)])), (yp, .inl (cI, 130, .inl (nf yd)))] [(0, .ref tq), (1, .ref xq), (2, .ref yq)] []
  refine xg_aload_n hX 0 dR_addSigned_0 rfl rfl ?_
  refine xg_cV hX tq [] (hM := xc_clear l D cI tq tp td ts) (wr := [(xq, .inr (0, [.ref xp, .int (bI xs)])), (xp, .inl (cI, 130, .inl (nf xd))), (yq, .inr (0, [.ref yp, .int (bI ys)])), (yp, .inl (cI, 130, .inl (nf yd)))]) (ws' := fun _ => [(tq, .inr (0, [.ref tp, .int (bI false)])), (tp, .inl (cI, 130, .inl (nf zf))), (xq, .inr (0, [.ref xp, .int (bI xs)])), (xp, .inl (cI, 130, .inl (nf xd))), (yq, .inr (0, [.ref yp, .int (bI ys)])), (yp, .inl (cI, 130, .inl (nf yd)))]) (st' := fun _ => []) [0, 1] [2, 3, 4, 5] [4, 5, 0, 1, 2, 3] [] rfl mt_121 mt_149 mt_2 mt_119 mt_120 0 rfl rfl hdR_clear (by decide) ⟨rfl, rfl⟩ (by decide) rfl rfl (by decide) rfl (by decide) (by decide) (by decide) (fun u => rfl) (fun u => rfl) (fun u => rfl) rfl rfl (by simp [Value.category]) dR_addSigned_1 (fun _ _ => ?_)
  refine xg_aload_n hX 1 dR_addSigned_4 rfl rfl ?_
  refine xg_get hX (ci := 0) rfl hinR 2 rfl 1 (by decide) mt_22 rfl dR_addSigned_5 ?_
  refine xg_aload_n hX 2 dR_addSigned_8 rfl rfl ?_
  refine xg_get hX (ci := 0) rfl hinR 4 rfl 1 (by decide) mt_22 rfl dR_addSigned_9 ?_
  refine xg_icmp_neB hX 32 dR_addSigned_12 (by decide) (fun h12 => ?_) (fun h12 => ?_)
  ·
    refine xg_aload_n hX 1 dR_addSigned_32 rfl rfl ?_
    refine xg_aload_n hX 2 dR_addSigned_33 rfl rfl ?_
    refine xg_cV hX xq [.ref yq] (hM := xc_order l D cI xq xp xd xs yq yp yd ys hxd hyd) (wr := [(tq, .inr (0, [.ref tp, .int (bI false)])), (tp, .inl (cI, 130, .inl (nf zf)))]) (ws' := fun _ => [(tq, .inr (0, [.ref tp, .int (bI false)])), (tp, .inl (cI, 130, .inl (nf zf))), (xq, .inr (0, [.ref xp, .int (bI xs)])), (xp, .inl (cI, 130, .inl (nf xd))), (yq, .inr (0, [.ref yp, .int (bI ys)])), (yp, .inl (cI, 130, .inl (nf yd)))]) (st' := fun _ => [.int (cmpZ xd yd 32)]) [2, 3, 4, 5] [0, 1] [0, 1, 2, 3, 4, 5] [] rfl mt_158 mt_155 mt_2 mt_156 mt_157 0 rfl rfl hdR_orderOfSizes (by decide) ⟨rfl, rfl⟩ (by decide) rfl rfl (by decide) rfl (by decide) (by decide) (by decide) (fun u => rfl) (fun u => rfl) (fun u => rfl) rfl rfl (by simp [Value.category]) dR_addSigned_34 (fun _ _ => ?_)
    refine xg_if_lt hX 57 dR_addSigned_37 (by decide) (fun h37 => ?_) (fun h37 => ?_)
    ·
      refine xg_aload_n hX 0 dR_addSigned_57 rfl rfl ?_
      refine xg_aload_n hX 2 dR_addSigned_58 rfl rfl ?_
      refine xg_aload_n hX 1 dR_addSigned_59 rfl rfl ?_
      refine xg_cV hX tq [.ref yq, .ref xq] (hM := xc_sub l D cI tq tp zf false yq yp yd ys xq xp xd xs hyd hxd) (wr := []) (ws' := fun _ => [(tq, .inr (0, [.ref tp, .int (bI false)])), (tp, .inl (cI, 130, .inl (nf (mix 32 (suD yd xd) zf)))), (xq, .inr (0, [.ref xp, .int (bI xs)])), (xp, .inl (cI, 130, .inl (nf xd))), (yq, .inr (0, [.ref yp, .int (bI ys)])), (yp, .inl (cI, 130, .inl (nf yd)))]) (st' := fun _ => []) [0, 1, 4, 5, 2, 3] [] [0, 1, 4, 5, 2, 3] [] rfl mt_162 mt_159 mt_2 mt_161 mp_4 0 rfl rfl hdR_subtractSizes (by decide) ⟨rfl, rfl⟩ (by decide) rfl rfl (by decide) rfl (by decide) (by decide) (by decide) (fun u => rfl) (fun u => rfl) (fun u => rfl) rfl rfl (by simp [Value.category]) dR_addSigned_60 (fun _ _ => ?_)
      refine xg_aload_n hX 0 dR_addSigned_63 rfl rfl ?_
      refine xg_aload_n hX 2 dR_addSigned_64 rfl rfl ?_
      refine xg_get hX (ci := 0) rfl hinR 4 rfl 1 (by decide) mt_22 rfl dR_addSigned_65 ?_
      refine xg_put hX tyR tyR_ok nmR (ci := 0) rfl hinR (ws' := [(tq, .inr (0, [.ref tp, .int (bI ys)])), (tp, .inl (cI, 130, .inl (nf (mix 32 (suD yd xd) zf)))), (xq, .inr (0, [.ref xp, .int (bI xs)])), (xp, .inl (cI, 130, .inl (nf xd))), (yq, .inr (0, [.ref yp, .int (bI ys)])), (yp, .inl (cI, 130, .inl (nf yd)))]) 0 rfl 1 (by decide) mt_22 rfl (xn_narB _) (xn_fitB _) (Nat.le_of_ble_eq_true rfl) rfl dR_addSigned_68 ?_
      refine xg_wsE (ws' := [(tq, .inr (0, [.ref tp, .int (bI (asS xd xs yd ys))])), (tp, .inl (cI, 130, .inl (nf (mix 32 (suD yd xd) zf)))), (xq, .inr (0, [.ref xp, .int (bI xs)])), (xp, .inl (cI, 130, .inl (nf xd))), (yq, .inr (0, [.ref yp, .int (bI ys)])), (yp, .inl (cI, 130, .inl (nf yd)))]) (by rw [← (show (bI ys : Int32) = bI (asS xd xs yd ys) from (by unfold asS; first | (rw [if_pos h12]; done) | (rw [if_neg h12, if_pos h37]; done) | (rw [if_neg h12, if_neg h37]; done)))]) ?_
      refine xg_ext hX (g := asD xd xs yd ys) (ws' := [(tq, .inr (0, [.ref tp, .int (bI (asS xd xs yd ys))])), (tp, .inl (cI, 130, .inl (nf (asD xd xs yd ys)))), (xq, .inr (0, [.ref xp, .int (bI xs)])), (xp, .inl (cI, 130, .inl (nf xd))), (yq, .inr (0, [.ref yp, .int (bI ys)])), (yp, .inl (cI, 130, .inl (nf yd)))]) 1 rfl (fun j hj => by unfold asD; first | (rw [if_pos h12]; done) | (rw [if_neg h12, if_pos h37]; done) | (rw [if_neg h12, if_neg h37]; done)) rfl ?_
      exact hret () _ _ rfl trivial dR_addSigned_71
    ·
      refine xg_aload_n hX 0 dR_addSigned_40 rfl rfl ?_
      refine xg_aload_n hX 1 dR_addSigned_41 rfl rfl ?_
      refine xg_aload_n hX 2 dR_addSigned_42 rfl rfl ?_
      refine xg_cV hX tq [.ref xq, .ref yq] (hM := xc_sub l D cI tq tp zf false xq xp xd xs yq yp yd ys hxd hyd) (wr := []) (ws' := fun _ => [(tq, .inr (0, [.ref tp, .int (bI false)])), (tp, .inl (cI, 130, .inl (nf (mix 32 (suD xd yd) zf)))), (xq, .inr (0, [.ref xp, .int (bI xs)])), (xp, .inl (cI, 130, .inl (nf xd))), (yq, .inr (0, [.ref yp, .int (bI ys)])), (yp, .inl (cI, 130, .inl (nf yd)))]) (st' := fun _ => []) [0, 1, 2, 3, 4, 5] [] [0, 1, 2, 3, 4, 5] [] rfl mt_162 mt_159 mt_2 mt_161 mp_4 0 rfl rfl hdR_subtractSizes (by decide) ⟨rfl, rfl⟩ (by decide) rfl rfl (by decide) rfl (by decide) (by decide) (by decide) (fun u => rfl) (fun u => rfl) (fun u => rfl) rfl rfl (by simp [Value.category]) dR_addSigned_43 (fun _ _ => ?_)
      refine xg_aload_n hX 0 dR_addSigned_46 rfl rfl ?_
      refine xg_aload_n hX 1 dR_addSigned_47 rfl rfl ?_
      refine xg_get hX (ci := 0) rfl hinR 2 rfl 1 (by decide) mt_22 rfl dR_addSigned_48 ?_
      refine xg_put hX tyR tyR_ok nmR (ci := 0) rfl hinR (ws' := [(tq, .inr (0, [.ref tp, .int (bI xs)])), (tp, .inl (cI, 130, .inl (nf (mix 32 (suD xd yd) zf)))), (xq, .inr (0, [.ref xp, .int (bI xs)])), (xp, .inl (cI, 130, .inl (nf xd))), (yq, .inr (0, [.ref yp, .int (bI ys)])), (yp, .inl (cI, 130, .inl (nf yd)))]) 0 rfl 1 (by decide) mt_22 rfl (xn_narB _) (xn_fitB _) (Nat.le_of_ble_eq_true rfl) rfl dR_addSigned_51 ?_
      refine xg_goto hX 71 dR_addSigned_54 (by decide) ?_
      refine xg_wsE (ws' := [(tq, .inr (0, [.ref tp, .int (bI (asS xd xs yd ys))])), (tp, .inl (cI, 130, .inl (nf (mix 32 (suD xd yd) zf)))), (xq, .inr (0, [.ref xp, .int (bI xs)])), (xp, .inl (cI, 130, .inl (nf xd))), (yq, .inr (0, [.ref yp, .int (bI ys)])), (yp, .inl (cI, 130, .inl (nf yd)))]) (by rw [← (show (bI xs : Int32) = bI (asS xd xs yd ys) from (by unfold asS; first | (rw [if_pos h12]; done) | (rw [if_neg h12, if_pos h37]; done) | (rw [if_neg h12, if_neg h37]; done)))]) ?_
      refine xg_ext hX (g := asD xd xs yd ys) (ws' := [(tq, .inr (0, [.ref tp, .int (bI (asS xd xs yd ys))])), (tp, .inl (cI, 130, .inl (nf (asD xd xs yd ys)))), (xq, .inr (0, [.ref xp, .int (bI xs)])), (xp, .inl (cI, 130, .inl (nf xd))), (yq, .inr (0, [.ref yp, .int (bI ys)])), (yp, .inl (cI, 130, .inl (nf yd)))]) 1 rfl (fun j hj => by unfold asD; first | (rw [if_pos h12]; done) | (rw [if_neg h12, if_pos h37]; done) | (rw [if_neg h12, if_neg h37]; done)) rfl ?_
      exact hret () _ _ rfl trivial dR_addSigned_71
  ·
    refine xg_aload_n hX 0 dR_addSigned_15 rfl rfl ?_
    refine xg_aload_n hX 1 dR_addSigned_16 rfl rfl ?_
    refine xg_aload_n hX 2 dR_addSigned_17 rfl rfl ?_
    refine xg_cV hX tq [.ref xq, .ref yq] (hM := xc_addSizes l D cI tq tp zf false xq xp xd xs yq yp yd ys hxd hyd) (wr := []) (ws' := fun _ => [(tq, .inr (0, [.ref tp, .int (bI false)])), (tp, .inl (cI, 130, .inl (nf (mix 32 (adD xd yd) zf)))), (xq, .inr (0, [.ref xp, .int (bI xs)])), (xp, .inl (cI, 130, .inl (nf xd))), (yq, .inr (0, [.ref yp, .int (bI ys)])), (yp, .inl (cI, 130, .inl (nf yd)))]) (st' := fun _ => []) [0, 1, 2, 3, 4, 5] [] [0, 1, 2, 3, 4, 5] [] rfl mt_153 mt_150 mt_2 mt_152 mp_3 0 rfl rfl hdR_addSizes (by decide) ⟨rfl, rfl⟩ (by decide) rfl rfl (by decide) rfl (by decide) (by decide) (by decide) (fun u => rfl) (fun u => rfl) (fun u => rfl) rfl rfl (by simp [Value.category]) dR_addSigned_18 (fun _ _ => ?_)
    refine xg_aload_n hX 0 dR_addSigned_21 rfl rfl ?_
    refine xg_aload_n hX 1 dR_addSigned_22 rfl rfl ?_
    refine xg_get hX (ci := 0) rfl hinR 2 rfl 1 (by decide) mt_22 rfl dR_addSigned_23 ?_
    refine xg_put hX tyR tyR_ok nmR (ci := 0) rfl hinR (ws' := [(tq, .inr (0, [.ref tp, .int (bI xs)])), (tp, .inl (cI, 130, .inl (nf (mix 32 (adD xd yd) zf)))), (xq, .inr (0, [.ref xp, .int (bI xs)])), (xp, .inl (cI, 130, .inl (nf xd))), (yq, .inr (0, [.ref yp, .int (bI ys)])), (yp, .inl (cI, 130, .inl (nf yd)))]) 0 rfl 1 (by decide) mt_22 rfl (xn_narB _) (xn_fitB _) (Nat.le_of_ble_eq_true rfl) rfl dR_addSigned_26 ?_
    refine xg_goto hX 71 dR_addSigned_29 (by decide) ?_
    refine xg_wsE (ws' := [(tq, .inr (0, [.ref tp, .int (bI (asS xd xs yd ys))])), (tp, .inl (cI, 130, .inl (nf (mix 32 (adD xd yd) zf)))), (xq, .inr (0, [.ref xp, .int (bI xs)])), (xp, .inl (cI, 130, .inl (nf xd))), (yq, .inr (0, [.ref yp, .int (bI ys)])), (yp, .inl (cI, 130, .inl (nf yd)))]) (by rw [← (show (bI xs : Int32) = bI (asS xd xs yd ys) from (by unfold asS; first | (rw [if_pos h12]; done) | (rw [if_neg h12, if_pos h37]; done) | (rw [if_neg h12, if_neg h37]; done)))]) ?_
    refine xg_ext hX (g := asD xd xs yd ys) (ws' := [(tq, .inr (0, [.ref tp, .int (bI (asS xd xs yd ys))])), (tp, .inl (cI, 130, .inl (nf (asD xd xs yd ys)))), (xq, .inr (0, [.ref xp, .int (bI xs)])), (xp, .inl (cI, 130, .inl (nf xd))), (yq, .inr (0, [.ref yp, .int (bI ys)])), (yp, .inl (cI, 130, .inl (nf yd)))]) 1 rfl (fun j hj => by unfold asD; first | (rw [if_pos h12]; done) | (rw [if_neg h12, if_pos h37]; done) | (rw [if_neg h12, if_neg h37]; done)) rfl ?_
    exact hret () _ _ rfl trivial dR_addSigned_71
set_option maxHeartbeats 4000000 in
set_option maxRecDepth 100000 in
theorem xc_addOne (l : Launch) (D : va_G) (cI : ClassId) (tq : Nat) (tp : Nat) (td : Nat → Nat) (ts : Bool) (htd : ∀ j, td j < 10) : Ctr l D cI yR_addOne cR_addOne 4 none { frames := 1, cells := 0, slots := 0, locals := 22 } [.ref tq] [(tq, .inr (0, [.ref tp, .int (bI ts)])), (tp, .inl (cI, 130, .inl (nf td)))] (fun _ : Unit => none) (fun _ : Unit => True) (fun _ : Unit => [(tq, .inr (0, [.ref tp, .int (bI ts)])), (tp, .inl (cI, 130, .inl (nf (mix 32 (inD td) td))))]) 0 0 := by
  refine xc_mkV (by decide +kernel) (Nat.le_of_ble_eq_true rfl) (fun X hX hin hret => ?_)
  show GG D X 0 0 0 [(tq, .inr (0, [.ref tp, .int (bI ts)])), (tp, .inl (cI, 130, .inl (nf td)))] [(0, .ref tq)] []
  refine xg_iconst hX (nI 1) dR_addOne_0 (by decide) ?_
  refine xg_istore_n hX (lv' := [(1, .int (nI 1)), (0, .ref tq)]) dR_addOne_1 rfl (by decide) rfl ?_
  refine xg_iconst hX (nI 0) dR_addOne_2 (by decide) ?_
  refine xg_istore_n hX (lv' := [(2, .int (nI 0)), (1, .int (nI 1)), (0, .ref tq)]) dR_addOne_3 rfl (by decide) rfl ?_
  have lp1 : ∀ (fu2 : Nat) (i : Nat), (i ≤ 32) → 32 - i < fu2 → GG D X 0 0 4 [(tq, .inr (0, [.ref tp, .int (bI ts)])), (tp, .inl (cI, 130, .inl (nf (mix i (inD td) td))))] [(0, .ref tq), (1, .int (nI (inC td i))), (2, .int (nI i))] [] := by
    intro fu2
    induction fu2 with
    | zero => intro i hi hm4; exact absurd hm4 (Nat.not_lt_zero _)
    | succ fu2 ih3 =>
      intro i hi hm4
      have e1 := htd i
      have e3 := inC_le htd i
      refine xg_iload_n hX 2 dR_addOne_4 rfl rfl ?_
      refine xg_bipush hX (nI 32) dR_addOne_5 (by decide) ?_
      refine xg_icmp_geN hX 42 (by omega) (by omega) dR_addOne_7 (by decide) (fun h7 => ?_) (fun h7 => ?_)
      ·
        refine xg_ext hX (g := mix 32 (inD td) td) (ws' := [(tq, .inr (0, [.ref tp, .int (bI ts)])), (tp, .inl (cI, 130, .inl (nf (mix 32 (inD td) td))))]) 1 rfl (fun j hj => in_fin htd hi (by first | exact Or.inl (by omega) | exact Or.inr h11) j) rfl ?_
        exact hret () _ _ rfl trivial dR_addOne_42
      ·
        refine xg_iload_n hX 1 dR_addOne_10 rfl rfl ?_
        refine xg_if_leN hX 42 (by omega) dR_addOne_11 (by decide) (fun h11 => ?_) (fun h11 => ?_)
        ·
          refine xg_ext hX (g := mix 32 (inD td) td) (ws' := [(tq, .inr (0, [.ref tp, .int (bI ts)])), (tp, .inl (cI, 130, .inl (nf (mix 32 (inD td) td))))]) 1 rfl (fun j hj => in_fin htd hi (by first | exact Or.inl (by omega) | exact Or.inr h11) j) rfl ?_
          exact hret () _ _ rfl trivial dR_addOne_42
        ·
          refine xg_aload_n hX 0 dR_addOne_14 rfl rfl ?_
          refine xg_iload_n hX 2 dR_addOne_15 rfl rfl ?_
          refine xg_cV hX tq [.int (nI i)] (hM := xc_digitAt l D cI tq tp (mix i (inD td) td) ts i (by omega)) (wr := []) (ws' := fun _ => [(tq, .inr (0, [.ref tp, .int (bI ts)])), (tp, .inl (cI, 130, .inl (nf (mix i (inD td) td))))]) (st' := fun _ => [.int (nI ((mix i (inD td) td) i))]) [0, 1] [] [0, 1] [] rfl mt_144 mt_141 mt_2 mt_142 mt_143 0 rfl rfl hdR_digitAt (by decide) ⟨rfl, rfl⟩ (by decide) rfl rfl (by decide) rfl (by decide) (by decide) (by decide) (fun u => rfl) (fun u => rfl) (fun u => rfl) rfl rfl (by simp [Value.category]) dR_addOne_16 (fun _ _ => ?_)
          refine xg_top (nI (td i)) (by rw [mix_hi (Nat.le_refl i)]) ?_
          refine xg_iload_n hX 1 dR_addOne_19 rfl rfl ?_
          refine xg_iaddN hX dR_addOne_20 ?_
          refine xg_istore_n hX (lv' := [(3, .int (nI ((td i) + (inC td i)))), (0, .ref tq), (1, .int (nI (inC td i))), (2, .int (nI i))]) dR_addOne_21 rfl (by decide) rfl ?_
          refine xg_iload_n hX 0 dR_addOne_22 rfl rfl ?_
          refine xg_bipush hX (nI 10) dR_addOne_23 (by decide) ?_
          refine xg_idivN hX (by omega) (by omega) (by omega) dR_addOne_25 ?_
          refine xg_istore_n hX (lv' := [(1, .int (nI (((td i) + (inC td i)) / 10))), (3, .int (nI ((td i) + (inC td i)))), (0, .ref tq), (2, .int (nI i))]) dR_addOne_26 rfl (by decide) rfl ?_
          refine xg_aload_n hX 2 dR_addOne_27 rfl rfl ?_
          refine xg_iload_n hX 3 dR_addOne_28 rfl rfl ?_
          refine xg_iload_n hX 1 dR_addOne_29 rfl rfl ?_
          refine xg_bipush hX (nI 10) dR_addOne_30 (by decide) ?_
          refine xg_iremN hX (by omega) (by omega) (by omega) dR_addOne_32 ?_
          refine xg_cV hX tq [.int (nI i), .int (nI (((td i) + (inC td i)) % 10))] (hM := xc_setDigit l D cI tq tp (mix i (inD td) td) ts i (((td i) + (inC td i)) % 10) (by omega)) (wr := []) (ws' := fun _ => [(tq, .inr (0, [.ref tp, .int (bI ts)])), (tp, .inl (cI, 130, .inl (nf (up (mix i (inD td) td) i (((td i) + (inC td i)) % 10)))))]) (st' := fun _ => []) [0, 1] [] [0, 1] [] rfl mt_128 mt_154 mt_2 mt_126 mt_127 0 rfl rfl hdR_setDigit (by decide) ⟨rfl, rfl⟩ (by decide) rfl rfl (by decide) rfl (by decide) (by decide) (by decide) (fun u => rfl) (fun u => rfl) (fun u => rfl) rfl rfl (by simp [Value.category]) dR_addOne_33 (fun _ _ => ?_)
          refine xg_iincN hX (lv' := [(2, .int (nI (i + 1))), (1, .int (nI (((td i) + (inC td i)) / 10))), (3, .int (nI ((td i) + (inC td i)))), (0, .ref tq)]) (i + 1) 3 dR_addOne_36 rfl (xn_inc _) (by decide) rfl ?_
          refine xg_goto hX 4 dR_addOne_39 (by decide) ?_
          refine xg_ext hX (g := mix (i + 1) (inD td) td) (ws' := [(tq, .inr (0, [.ref tp, .int (bI ts)])), (tp, .inl (cI, 130, .inl (nf (mix (i + 1) (inD td) td))))]) 1 rfl (fun j hj => mix_up rfl j) rfl ?_
          refine xg_lv hX (lv' := [(0, .ref tq), (1, .int (nI (((td i) + (inC td i)) / 10))), (2, .int (nI (i + 1)))]) [3, 1, 0] rfl ?_
          refine xg_lvE (lv' := [(0, .ref tq), (1, .int (nI (inC td (i + 1)))), (2, .int (nI (i + 1)))]) (by rw [← (show (nI (((td i) + (inC td i)) / 10) : Int32) = nI (inC td (i + 1)) from (by first | rfl | decide))]) ?_
          exact ih3 (i + 1) (by omega) (by omega)
  refine xg_ext hX (g := mix 0 (inD td) td) (ws' := [(tq, .inr (0, [.ref tp, .int (bI ts)])), (tp, .inl (cI, 130, .inl (nf (mix 0 (inD td) td))))]) 1 rfl (fun j hj => mix_0 j) rfl ?_
  refine xg_lv hX (lv' := [(0, .ref tq), (1, .int (nI 1)), (2, .int (nI 0))]) [2, 1, 0] rfl ?_
  refine xg_lvE (lv' := [(0, .ref tq), (1, .int (nI (inC td 0))), (2, .int (nI 0))]) (by rw [← (show (nI 1 : Int32) = nI (inC td 0) from (by first | rfl | decide))]) ?_
  exact lp1 (32 - 0 + 1) 0 (by omega) (Nat.lt_succ_self _)
set_option maxHeartbeats 4000000 in
set_option maxRecDepth 100000 in
theorem xc_addMult (l : Launch) (D : va_G) (cI : ClassId) (tq : Nat) (tp : Nat) (td : Nat → Nat) (ts : Bool) (xq : Nat) (xp : Nat) (xd : Nat → Nat) (xs : Bool) (f : Nat) (a : Nat) (hf : f < 10) (ha : a ≤ 30) (htd : ∀ j, td j < 10) (hxd : ∀ j, xd j < 10) : Ctr l D cI yR_addMultiple cR_addMultiple 7 none { frames := 1, cells := 0, slots := 0, locals := 22 } [.ref tq, .ref xq, .int (nI f), .int (nI a)] [(tq, .inr (0, [.ref tp, .int (bI ts)])), (tp, .inl (cI, 130, .inl (nf td))), (xq, .inr (0, [.ref xp, .int (bI xs)])), (xp, .inl (cI, 130, .inl (nf xd)))] (fun _ : Unit => none) (fun _ : Unit => True) (fun _ : Unit => [(tq, .inr (0, [.ref tp, .int (bI ts)])), (tp, .inl (cI, 130, .inl (nf (amR td xd f a 32)))), (xq, .inr (0, [.ref xp, .int (bI xs)])), (xp, .inl (cI, 130, .inl (nf xd)))]) 0 0 := by
  refine xc_mkV (by decide +kernel) (Nat.le_of_ble_eq_true rfl) (fun X hX hin hret => ?_)
  show GG D X 0 0 0 [(tq, .inr (0, [.ref tp, .int (bI ts)])), (tp, .inl (cI, 130, .inl (nf td))), (xq, .inr (0, [.ref xp, .int (bI xs)])), (xp, .inl (cI, 130, .inl (nf xd)))] [(0, .ref tq), (1, .ref xq), (2, .int (nI f)), (3, .int (nI a))] []
  refine xg_iconst hX (nI 0) dR_addMultiple_0 (by decide) ?_
  refine xg_istore hX (lv' := [(4, .int (nI 0)), (0, .ref tq), (1, .ref xq), (2, .int (nI f)), (3, .int (nI a))]) dR_addMultiple_1 (by decide) rfl ?_
  refine xg_iconst hX (nI 0) dR_addMultiple_3 (by decide) ?_
  refine xg_istore hX (lv' := [(5, .int (nI 0)), (4, .int (nI 0)), (0, .ref tq), (1, .ref xq), (2, .int (nI f)), (3, .int (nI a))]) dR_addMultiple_4 (by decide) rfl ?_
  have lp1 : ∀ (fu2 : Nat) (i : Nat), (i ≤ 32) → 32 - i < fu2 → GG D X 0 0 6 [(tq, .inr (0, [.ref tp, .int (bI ts)])), (tp, .inl (cI, 130, .inl (nf (amR td xd f a i)))), (xq, .inr (0, [.ref xp, .int (bI xs)])), (xp, .inl (cI, 130, .inl (nf xd)))] [(0, .ref tq), (1, .ref xq), (2, .int (nI f)), (3, .int (nI a)), (4, .int (nI (amC td xd f a i))), (5, .int (nI i))] [] := by
    intro fu2
    induction fu2 with
    | zero => intro i hi hm4; exact absurd hm4 (Nat.not_lt_zero _)
    | succ fu2 ih3 =>
      intro i hi hm4
      have e1 := htd (a + i)
      have e2 := hxd i
      have e3 := amC_le (a := a) htd hxd hf i
      have e4 : f * xd i ≤ 9 * 9 := Nat.mul_le_mul (by omega) (by omega)
      refine xg_iload hX 5 dR_addMultiple_6 rfl ?_
      refine xg_bipush hX (nI 32) dR_addMultiple_8 (by decide) ?_
      refine xg_icmp_geN hX 61 (by omega) (by omega) dR_addMultiple_10 (by decide) (fun h5 => ?_) (fun h5 => ?_)
      ·
        have hie : i = 32 := by omega
        refine xg_ext hX (g := amR td xd f a 32) (ws' := [(tq, .inr (0, [.ref tp, .int (bI ts)])), (tp, .inl (cI, 130, .inl (nf (amR td xd f a 32)))), (xq, .inr (0, [.ref xp, .int (bI xs)])), (xp, .inl (cI, 130, .inl (nf xd)))]) 1 rfl (fun j hj => by first | rfl | (rw [hie]; done) | (rw [hie]; rfl)) rfl ?_
        exact hret () _ _ rfl trivial dR_addMultiple_61
      ·
        refine xg_aload_n hX 0 dR_addMultiple_13 rfl rfl ?_
        refine xg_iload_n hX 3 dR_addMultiple_14 rfl rfl ?_
        refine xg_iload hX 5 dR_addMultiple_15 rfl ?_
        refine xg_iaddN hX dR_addMultiple_17 ?_
        refine xg_cV hX tq [.int (nI (a + i))] (hM := xc_digitAt l D cI tq tp (amR td xd f a i) ts (a + i) (by omega)) (wr := [(xq, .inr (0, [.ref xp, .int (bI xs)])), (xp, .inl (cI, 130, .inl (nf xd)))]) (ws' := fun _ => [(tq, .inr (0, [.ref tp, .int (bI ts)])), (tp, .inl (cI, 130, .inl (nf (amR td xd f a i)))), (xq, .inr (0, [.ref xp, .int (bI xs)])), (xp, .inl (cI, 130, .inl (nf xd)))]) (st' := fun _ => [.int (nI ((amR td xd f a i) (a + i)))]) [0, 1] [2, 3] [2, 3, 0, 1] [] rfl mt_144 mt_141 mt_2 mt_142 mt_143 0 rfl rfl hdR_digitAt (by decide) ⟨rfl, rfl⟩ (by decide) rfl rfl (by decide) rfl (by decide) (by decide) (by decide) (fun u => rfl) (fun u => rfl) (fun u => rfl) rfl rfl (by simp [Value.category]) dR_addMultiple_18 (fun _ _ => ?_)
        refine xg_top (nI (td (a + i))) (by unfold amR; rw [mix_hi (Nat.le_refl _)]) ?_
        refine xg_iload_n hX 2 dR_addMultiple_21 rfl rfl ?_
        refine xg_aload_n hX 1 dR_addMultiple_22 rfl rfl ?_
        refine xg_iload hX 5 dR_addMultiple_23 rfl ?_
        refine xg_cV hX xq [.int (nI i)] (hM := xc_digitAt l D cI xq xp xd xs i (by omega)) (wr := [(tq, .inr (0, [.ref tp, .int (bI ts)])), (tp, .inl (cI, 130, .inl (nf (amR td xd f a i))))]) (ws' := fun _ => [(tq, .inr (0, [.ref tp, .int (bI ts)])), (tp, .inl (cI, 130, .inl (nf (amR td xd f a i)))), (xq, .inr (0, [.ref xp, .int (bI xs)])), (xp, .inl (cI, 130, .inl (nf xd)))]) (st' := fun _ => [.int (nI (xd i)), .int (nI f), .int (nI (td (a + i)))]) [2, 3] [0, 1] [0, 1, 2, 3] [.int (nI f), .int (nI (td (a + i)))] rfl mt_144 mt_141 mt_2 mt_142 mt_143 0 rfl rfl hdR_digitAt (by decide) ⟨rfl, rfl⟩ (by decide) rfl rfl (by decide) rfl (by decide) (by decide) (by decide) (fun u => rfl) (fun u => rfl) (fun u => rfl) rfl rfl (by simp [Value.category]) dR_addMultiple_25 (fun _ _ => ?_)
        refine xg_imulN hX dR_addMultiple_28 ?_
        refine xg_iaddN hX dR_addMultiple_29 ?_
        refine xg_iload hX 4 dR_addMultiple_30 rfl ?_
        refine xg_iaddN hX dR_addMultiple_32 ?_
        refine xg_istore hX (lv' := [(6, .int (nI (((td (a + i)) + (f * (xd i))) + (amC td xd f a i)))), (0, .ref tq), (1, .ref xq), (2, .int (nI f)), (3, .int (nI a)), (4, .int (nI (amC td xd f a i))), (5, .int (nI i))]) dR_addMultiple_33 (by decide) rfl ?_
        refine xg_iload hX 0 dR_addMultiple_35 rfl ?_
        refine xg_bipush hX (nI 10) dR_addMultiple_37 (by decide) ?_
        refine xg_idivN hX (by omega) (by omega) (by omega) dR_addMultiple_39 ?_
        refine xg_istore hX (lv' := [(4, .int (nI ((((td (a + i)) + (f * (xd i))) + (amC td xd f a i)) / 10))), (6, .int (nI (((td (a + i)) + (f * (xd i))) + (amC td xd f a i)))), (0, .ref tq), (1, .ref xq), (2, .int (nI f)), (3, .int (nI a)), (5, .int (nI i))]) dR_addMultiple_40 (by decide) rfl ?_
        refine xg_aload_n hX 2 dR_addMultiple_42 rfl rfl ?_
        refine xg_iload_n hX 5 dR_addMultiple_43 rfl rfl ?_
        refine xg_iload hX 6 dR_addMultiple_44 rfl ?_
        refine xg_iaddN hX dR_addMultiple_46 ?_
        refine xg_iload hX 1 dR_addMultiple_47 rfl ?_
        refine xg_bipush hX (nI 10) dR_addMultiple_49 (by decide) ?_
        refine xg_iremN hX (by omega) (by omega) (by omega) dR_addMultiple_51 ?_
        refine xg_cV hX tq [.int (nI (a + i)), .int (nI ((((td (a + i)) + (f * (xd i))) + (amC td xd f a i)) % 10))] (hM := xc_setDigit l D cI tq tp (amR td xd f a i) ts (a + i) ((((td (a + i)) + (f * (xd i))) + (amC td xd f a i)) % 10) (by omega)) (wr := [(xq, .inr (0, [.ref xp, .int (bI xs)])), (xp, .inl (cI, 130, .inl (nf xd)))]) (ws' := fun _ => [(tq, .inr (0, [.ref tp, .int (bI ts)])), (tp, .inl (cI, 130, .inl (nf (up (amR td xd f a i) (a + i) ((((td (a + i)) + (f * (xd i))) + (amC td xd f a i)) % 10))))), (xq, .inr (0, [.ref xp, .int (bI xs)])), (xp, .inl (cI, 130, .inl (nf xd)))]) (st' := fun _ => []) [0, 1] [2, 3] [2, 3, 0, 1] [] rfl mt_128 mt_154 mt_2 mt_126 mt_127 0 rfl rfl hdR_setDigit (by decide) ⟨rfl, rfl⟩ (by decide) rfl rfl (by decide) rfl (by decide) (by decide) (by decide) (fun u => rfl) (fun u => rfl) (fun u => rfl) rfl rfl (by simp [Value.category]) dR_addMultiple_52 (fun _ _ => ?_)
        refine xg_iincN hX (lv' := [(5, .int (nI (i + 1))), (4, .int (nI ((((td (a + i)) + (f * (xd i))) + (amC td xd f a i)) / 10))), (6, .int (nI (((td (a + i)) + (f * (xd i))) + (amC td xd f a i)))), (0, .ref tq), (1, .ref xq), (2, .int (nI f)), (3, .int (nI a))]) (i + 1) 6 dR_addMultiple_55 rfl (xn_inc _) (by decide) rfl ?_
        refine xg_goto hX 6 dR_addMultiple_58 (by decide) ?_
        refine xg_ext hX (g := amR td xd f a (i + 1)) (ws' := [(tq, .inr (0, [.ref tp, .int (bI ts)])), (tp, .inl (cI, 130, .inl (nf (amR td xd f a (i + 1))))), (xq, .inr (0, [.ref xp, .int (bI xs)])), (xp, .inl (cI, 130, .inl (nf xd)))]) 1 rfl (fun j hj => amR_s j) rfl ?_
        refine xg_lv hX (lv' := [(0, .ref tq), (1, .ref xq), (2, .int (nI f)), (3, .int (nI a)), (4, .int (nI ((((td (a + i)) + (f * (xd i))) + (amC td xd f a i)) / 10))), (5, .int (nI (i + 1)))]) [3, 4, 5, 6, 1, 0] rfl ?_
        refine xg_lvE (lv' := [(0, .ref tq), (1, .ref xq), (2, .int (nI f)), (3, .int (nI a)), (4, .int (nI (amC td xd f a (i + 1)))), (5, .int (nI (i + 1)))]) (by rw [← (show (nI ((((td (a + i)) + (f * (xd i))) + (amC td xd f a i)) / 10) : Int32) = nI (amC td xd f a (i + 1)) from (by first | rfl | decide))]) ?_
        exact ih3 (i + 1) (by omega) (by omega)
  refine xg_ext hX (g := amR td xd f a 0) (ws' := [(tq, .inr (0, [.ref tp, .int (bI ts)])), (tp, .inl (cI, 130, .inl (nf (amR td xd f a 0)))), (xq, .inr (0, [.ref xp, .int (bI xs)])), (xp, .inl (cI, 130, .inl (nf xd)))]) 1 rfl (fun j hj => amR_0 j) rfl ?_
  refine xg_lv hX (lv' := [(0, .ref tq), (1, .ref xq), (2, .int (nI f)), (3, .int (nI a)), (4, .int (nI 0)), (5, .int (nI 0))]) [2, 3, 4, 5, 1, 0] rfl ?_
  refine xg_lvE (lv' := [(0, .ref tq), (1, .ref xq), (2, .int (nI f)), (3, .int (nI a)), (4, .int (nI (amC td xd f a 0))), (5, .int (nI 0))]) (by rw [← (show (nI 0 : Int32) = nI (amC td xd f a 0) from (by first | rfl | decide))]) ?_
  exact lp1 (32 - 0 + 1) 0 (by omega) (Nat.lt_succ_self _)
set_option maxHeartbeats 4000000 in
set_option maxRecDepth 100000 in
theorem xc_multiply (l : Launch) (D : va_G) (cI : ClassId) (tq : Nat) (tp : Nat) (td : Nat → Nat) (ts : Bool) (xq : Nat) (xp : Nat) (xd : Nat → Nat) (xs : Bool) (yq : Nat) (yp : Nat) (yd : Nat → Nat) (ys : Bool) (hxd : ∀ j, xd j < 10) (hyd : ∀ j, yd j < 10) : Ctr l D cI yR_multiply cR_multiply 4 none { frames := 2, cells := 0, slots := 0, locals := 48 } [.ref tq, .ref xq, .ref yq] [(tq, .inr (0, [.ref tp, .int (bI ts)])), (tp, .inl (cI, 130, .inl (nf td))), (xq, .inr (0, [.ref xp, .int (bI xs)])), (xp, .inl (cI, 130, .inl (nf xd))), (yq, .inr (0, [.ref yp, .int (bI ys)])), (yp, .inl (cI, 130, .inl (nf yd)))] (fun _ : Unit => none) (fun _ : Unit => True) (fun _ : Unit => [(tq, .inr (0, [.ref tp, .int (bI (xs != ys))])), (tp, .inl (cI, 130, .inl (nf (muR xd yd 31)))), (xq, .inr (0, [.ref xp, .int (bI xs)])), (xp, .inl (cI, 130, .inl (nf xd))), (yq, .inr (0, [.ref yp, .int (bI ys)])), (yp, .inl (cI, 130, .inl (nf yd)))]) 0 0 := by
  refine xc_mkV (by decide +kernel) (Nat.le_of_ble_eq_true rfl) (fun X hX hin hret => ?_)
  show GG D X 0 0 0 [(tq, .inr (0, [.ref tp, .int (bI ts)])), (tp, .inl (cI, 130, .inl (nf td))), (xq, .inr (0, [.ref xp, .int (bI xs)])), (xp, .inl (cI, 130, .inl (nf xd))), (yq, .inr (0, [.ref yp, .int (bI ys)])), (yp, .inl (cI, 130, .inl (nf yd)))] [(0, .ref tq), (1, .ref xq), (2, .ref yq)] []
  refine xg_aload_n hX 0 dR_multiply_0 rfl rfl ?_
  refine xg_cV hX tq [] (hM := xc_clear l D cI tq tp td ts) (wr := [(xq, .inr (0, [.ref xp, .int (bI xs)])), (xp, .inl (cI, 130, .inl (nf xd))), (yq, .inr (0, [.ref yp, .int (bI ys)])), (yp, .inl (cI, 130, .inl (nf yd)))]) (ws' := fun _ => [(tq, .inr (0, [.ref tp, .int (bI false)])), (tp, .inl (cI, 130, .inl (nf zf))), (xq, .inr (0, [.ref xp, .int (bI xs)])), (xp, .inl (cI, 130, .inl (nf xd))), (yq, .inr (0, [.ref yp, .int (bI ys)])), (yp, .inl (cI, 130, .inl (nf yd)))]) (st' := fun _ => []) [0, 1] [2, 3, 4, 5] [4, 5, 0, 1, 2, 3] [] rfl mt_121 mt_149 mt_2 mt_119 mt_120 0 rfl rfl hdR_clear (by decide) ⟨rfl, rfl⟩ (by decide) rfl rfl (by decide) rfl (by decide) (by decide) (by decide) (fun u => rfl) (fun u => rfl) (fun u => rfl) rfl rfl (by simp [Value.category]) dR_multiply_1 (fun _ _ => ?_)
  refine xg_iconst hX (nI 0) dR_multiply_4 (by decide) ?_
  refine xg_istore_n hX (lv' := [(3, .int (nI 0)), (0, .ref tq), (1, .ref xq), (2, .ref yq)]) dR_multiply_5 rfl (by decide) rfl ?_
  have lp1 : ∀ (fu2 : Nat) (i : Nat), (i ≤ 31) → 31 - i < fu2 → GG D X 0 0 6 [(tq, .inr (0, [.ref tp, .int (bI false)])), (tp, .inl (cI, 130, .inl (nf (muR xd yd i)))), (xq, .inr (0, [.ref xp, .int (bI xs)])), (xp, .inl (cI, 130, .inl (nf xd))), (yq, .inr (0, [.ref yp, .int (bI ys)])), (yp, .inl (cI, 130, .inl (nf yd)))] [(0, .ref tq), (1, .ref xq), (2, .ref yq), (3, .int (nI i))] [] := by
    intro fu2
    induction fu2 with
    | zero => intro i hi hm4; exact absurd hm4 (Nat.not_lt_zero _)
    | succ fu2 ih3 =>
      intro i hi hm4
      have e1 := hxd i
      refine xg_iload_n hX 3 dR_multiply_6 rfl rfl ?_
      refine xg_bipush hX (nI 31) dR_multiply_7 (by decide) ?_
      refine xg_icmp_geN hX 37 (by omega) (by omega) dR_multiply_9 (by decide) (fun h5 => ?_) (fun h5 => ?_)
      ·
        refine xg_aload_n hX 0 dR_multiply_37 rfl rfl ?_
        refine xg_aload_n hX 1 dR_multiply_38 rfl rfl ?_
        refine xg_get hX (ci := 0) rfl hinR 2 rfl 1 (by decide) mt_22 rfl dR_multiply_39 ?_
        refine xg_aload_n hX 2 dR_multiply_42 rfl rfl ?_
        refine xg_get hX (ci := 0) rfl hinR 4 rfl 1 (by decide) mt_22 rfl dR_multiply_43 ?_
        refine xg_icmp_eqB hX 53 dR_multiply_46 (by decide) (fun h46 => ?_) (fun h46 => ?_)
        ·
          refine xg_iconst hX (nI 0) dR_multiply_53 (by decide) ?_
          refine xg_top (bI false) rfl ?_
          refine xg_put hX tyR tyR_ok nmR (ci := 0) rfl hinR (ws' := [(tq, .inr (0, [.ref tp, .int (bI false)])), (tp, .inl (cI, 130, .inl (nf (muR xd yd i)))), (xq, .inr (0, [.ref xp, .int (bI xs)])), (xp, .inl (cI, 130, .inl (nf xd))), (yq, .inr (0, [.ref yp, .int (bI ys)])), (yp, .inl (cI, 130, .inl (nf yd)))]) 0 rfl 1 (by decide) mt_22 rfl (xn_narB _) (xn_fitB _) (Nat.le_of_ble_eq_true rfl) rfl dR_multiply_54 ?_
          have hie : i = 31 := by omega
          refine xg_wsE (ws' := [(tq, .inr (0, [.ref tp, .int (bI (xs != ys))])), (tp, .inl (cI, 130, .inl (nf (muR xd yd i)))), (xq, .inr (0, [.ref xp, .int (bI xs)])), (xp, .inl (cI, 130, .inl (nf xd))), (yq, .inr (0, [.ref yp, .int (bI ys)])), (yp, .inl (cI, 130, .inl (nf yd)))]) (by rw [← (show (bI false : Int32) = bI (xs != ys) from (by first | (rw [show (xs != ys) = false by simp [h46]]; done) | (rw [show (xs != ys) = true by simp [h46]]; done)))]) ?_
          refine xg_ext hX (g := muR xd yd 31) (ws' := [(tq, .inr (0, [.ref tp, .int (bI (xs != ys))])), (tp, .inl (cI, 130, .inl (nf (muR xd yd 31)))), (xq, .inr (0, [.ref xp, .int (bI xs)])), (xp, .inl (cI, 130, .inl (nf xd))), (yq, .inr (0, [.ref yp, .int (bI ys)])), (yp, .inl (cI, 130, .inl (nf yd)))]) 1 rfl (fun j hj => by first | rfl | (rw [hie]; done) | (rw [hie]; rfl)) rfl ?_
          exact hret () _ _ rfl trivial dR_multiply_57
        ·
          refine xg_iconst hX (nI 1) dR_multiply_49 (by decide) ?_
          refine xg_goto hX 54 dR_multiply_50 (by decide) ?_
          refine xg_top (bI true) rfl ?_
          refine xg_put hX tyR tyR_ok nmR (ci := 0) rfl hinR (ws' := [(tq, .inr (0, [.ref tp, .int (bI true)])), (tp, .inl (cI, 130, .inl (nf (muR xd yd i)))), (xq, .inr (0, [.ref xp, .int (bI xs)])), (xp, .inl (cI, 130, .inl (nf xd))), (yq, .inr (0, [.ref yp, .int (bI ys)])), (yp, .inl (cI, 130, .inl (nf yd)))]) 0 rfl 1 (by decide) mt_22 rfl (xn_narB _) (xn_fitB _) (Nat.le_of_ble_eq_true rfl) rfl dR_multiply_54 ?_
          have hie : i = 31 := by omega
          refine xg_wsE (ws' := [(tq, .inr (0, [.ref tp, .int (bI (xs != ys))])), (tp, .inl (cI, 130, .inl (nf (muR xd yd i)))), (xq, .inr (0, [.ref xp, .int (bI xs)])), (xp, .inl (cI, 130, .inl (nf xd))), (yq, .inr (0, [.ref yp, .int (bI ys)])), (yp, .inl (cI, 130, .inl (nf yd)))]) (by rw [← (show (bI true : Int32) = bI (xs != ys) from (by first | (rw [show (xs != ys) = false by simp [h46]]; done) | (rw [show (xs != ys) = true by simp [h46]]; done)))]) ?_
          refine xg_ext hX (g := muR xd yd 31) (ws' := [(tq, .inr (0, [.ref tp, .int (bI (xs != ys))])), (tp, .inl (cI, 130, .inl (nf (muR xd yd 31)))), (xq, .inr (0, [.ref xp, .int (bI xs)])), (xp, .inl (cI, 130, .inl (nf xd))), (yq, .inr (0, [.ref yp, .int (bI ys)])), (yp, .inl (cI, 130, .inl (nf yd)))]) 1 rfl (fun j hj => by first | rfl | (rw [hie]; done) | (rw [hie]; rfl)) rfl ?_
          exact hret () _ _ rfl trivial dR_multiply_57
      ·
        refine xg_aload_n hX 1 dR_multiply_12 rfl rfl ?_
        refine xg_iload_n hX 3 dR_multiply_13 rfl rfl ?_
        refine xg_cV hX xq [.int (nI i)] (hM := xc_digitAt l D cI xq xp xd xs i (by omega)) (wr := [(tq, .inr (0, [.ref tp, .int (bI false)])), (tp, .inl (cI, 130, .inl (nf (muR xd yd i)))), (yq, .inr (0, [.ref yp, .int (bI ys)])), (yp, .inl (cI, 130, .inl (nf yd)))]) (ws' := fun _ => [(tq, .inr (0, [.ref tp, .int (bI false)])), (tp, .inl (cI, 130, .inl (nf (muR xd yd i)))), (xq, .inr (0, [.ref xp, .int (bI xs)])), (xp, .inl (cI, 130, .inl (nf xd))), (yq, .inr (0, [.ref yp, .int (bI ys)])), (yp, .inl (cI, 130, .inl (nf yd)))]) (st' := fun _ => [.int (nI (xd i))]) [2, 3] [0, 1, 4, 5] [0, 1, 4, 5, 2, 3] [] rfl mt_144 mt_141 mt_2 mt_142 mt_143 0 rfl rfl hdR_digitAt (by decide) ⟨rfl, rfl⟩ (by decide) rfl rfl (by decide) rfl (by decide) (by decide) (by decide) (fun u => rfl) (fun u => rfl) (fun u => rfl) rfl rfl (by simp [Value.category]) dR_multiply_14 (fun _ _ => ?_)
        refine xg_if_eqN hX 31 (by omega) dR_multiply_17 (by decide) (fun h17 => ?_) (fun h17 => ?_)
        ·
          refine xg_iincN hX (lv' := [(3, .int (nI (i + 1))), (0, .ref tq), (1, .ref xq), (2, .ref yq)]) (i + 1) 3 dR_multiply_31 rfl (xn_inc _) (by decide) rfl ?_
          refine xg_goto hX 6 dR_multiply_34 (by decide) ?_
          refine xg_ext hX (g := muR xd yd (i + 1)) (ws' := [(tq, .inr (0, [.ref tp, .int (bI false)])), (tp, .inl (cI, 130, .inl (nf (muR xd yd (i + 1))))), (xq, .inr (0, [.ref xp, .int (bI xs)])), (xp, .inl (cI, 130, .inl (nf xd))), (yq, .inr (0, [.ref yp, .int (bI ys)])), (yp, .inl (cI, 130, .inl (nf yd)))]) 1 rfl (fun j hj => by first | rw [muR_0 h17] | rw [muR_1 (by omega)]) rfl ?_
          refine xg_lv hX (lv' := [(0, .ref tq), (1, .ref xq), (2, .ref yq), (3, .int (nI (i + 1)))]) [1, 2, 3, 0] rfl ?_
          exact ih3 (i + 1) (by omega) (by omega)
        ·
          refine xg_aload_n hX 0 dR_multiply_20 rfl rfl ?_
          refine xg_aload_n hX 2 dR_multiply_21 rfl rfl ?_
          refine xg_aload_n hX 1 dR_multiply_22 rfl rfl ?_
          refine xg_iload_n hX 3 dR_multiply_23 rfl rfl ?_
          refine xg_cV hX xq [.int (nI i)] (hM := xc_digitAt l D cI xq xp xd xs i (by omega)) (wr := [(tq, .inr (0, [.ref tp, .int (bI false)])), (tp, .inl (cI, 130, .inl (nf (muR xd yd i)))), (yq, .inr (0, [.ref yp, .int (bI ys)])), (yp, .inl (cI, 130, .inl (nf yd)))]) (ws' := fun _ => [(tq, .inr (0, [.ref tp, .int (bI false)])), (tp, .inl (cI, 130, .inl (nf (muR xd yd i)))), (xq, .inr (0, [.ref xp, .int (bI xs)])), (xp, .inl (cI, 130, .inl (nf xd))), (yq, .inr (0, [.ref yp, .int (bI ys)])), (yp, .inl (cI, 130, .inl (nf yd)))]) (st' := fun _ => [.int (nI (xd i)), .ref yq, .ref tq]) [2, 3] [0, 1, 4, 5] [0, 1, 4, 5, 2, 3] [.ref yq, .ref tq] rfl mt_144 mt_141 mt_2 mt_142 mt_143 0 rfl rfl hdR_digitAt (by decide) ⟨rfl, rfl⟩ (by decide) rfl rfl (by decide) rfl (by decide) (by decide) (by decide) (fun u => rfl) (fun u => rfl) (fun u => rfl) rfl rfl (by simp [Value.category]) dR_multiply_24 (fun _ _ => ?_)
          refine xg_iload_n hX 3 dR_multiply_27 rfl rfl ?_
          refine xg_cV hX tq [.ref yq, .int (nI (xd i)), .int (nI i)] (hM := xc_addMult l D cI tq tp (muR xd yd i) false yq yp yd ys (xd i) i (by omega) (by omega) (muR_lt xd yd i) hyd) (wr := [(xq, .inr (0, [.ref xp, .int (bI xs)])), (xp, .inl (cI, 130, .inl (nf xd)))]) (ws' := fun _ => [(tq, .inr (0, [.ref tp, .int (bI false)])), (tp, .inl (cI, 130, .inl (nf (amR (muR xd yd i) yd (xd i) i 32)))), (xq, .inr (0, [.ref xp, .int (bI xs)])), (xp, .inl (cI, 130, .inl (nf xd))), (yq, .inr (0, [.ref yp, .int (bI ys)])), (yp, .inl (cI, 130, .inl (nf yd)))]) (st' := fun _ => []) [0, 1, 4, 5] [2, 3] [2, 3, 0, 1, 4, 5] [] rfl mt_188 mt_185 mt_2 mt_187 mp_6 0 rfl rfl hdR_addMultiple (by decide) ⟨rfl, rfl⟩ (by decide) rfl rfl (by decide) rfl (by decide) (by decide) (by decide) (fun u => rfl) (fun u => rfl) (fun u => rfl) rfl rfl (by simp [Value.category]) dR_multiply_28 (fun _ _ => ?_)
          refine xg_iincN hX (lv' := [(3, .int (nI (i + 1))), (0, .ref tq), (1, .ref xq), (2, .ref yq)]) (i + 1) 3 dR_multiply_31 rfl (xn_inc _) (by decide) rfl ?_
          refine xg_goto hX 6 dR_multiply_34 (by decide) ?_
          refine xg_ext hX (g := muR xd yd (i + 1)) (ws' := [(tq, .inr (0, [.ref tp, .int (bI false)])), (tp, .inl (cI, 130, .inl (nf (muR xd yd (i + 1))))), (xq, .inr (0, [.ref xp, .int (bI xs)])), (xp, .inl (cI, 130, .inl (nf xd))), (yq, .inr (0, [.ref yp, .int (bI ys)])), (yp, .inl (cI, 130, .inl (nf yd)))]) 1 rfl (fun j hj => by first | rw [muR_0 h17] | rw [muR_1 (by omega)]) rfl ?_
          refine xg_lv hX (lv' := [(0, .ref tq), (1, .ref xq), (2, .ref yq), (3, .int (nI (i + 1)))]) [1, 2, 3, 0] rfl ?_
          exact ih3 (i + 1) (by omega) (by omega)
  refine xg_ext hX (g := muR xd yd 0) (ws' := [(tq, .inr (0, [.ref tp, .int (bI false)])), (tp, .inl (cI, 130, .inl (nf (muR xd yd 0)))), (xq, .inr (0, [.ref xp, .int (bI xs)])), (xp, .inl (cI, 130, .inl (nf xd))), (yq, .inr (0, [.ref yp, .int (bI ys)])), (yp, .inl (cI, 130, .inl (nf yd)))]) 1 rfl (fun j hj => rfl) rfl ?_
  refine xg_lv hX (lv' := [(0, .ref tq), (1, .ref xq), (2, .ref yq), (3, .int (nI 0))]) [1, 2, 3, 0] rfl ?_
  exact lp1 (31 - 0 + 1) 0 (by omega) (Nat.lt_succ_self _)
set_option maxHeartbeats 4000000 in
set_option maxRecDepth 100000 in
theorem xc_bringDown (l : Launch) (D : va_G) (cI : ClassId) (tq : Nat) (tp : Nat) (td : Nat → Nat) (ts : Bool) (g : Nat) : Ctr l D cI yR_bringDown cR_bringDown 3 none { frames := 1, cells := 0, slots := 0, locals := 22 } [.ref tq, .int (nI g)] [(tq, .inr (0, [.ref tp, .int (bI ts)])), (tp, .inl (cI, 130, .inl (nf td)))] (fun _ : Unit => none) (fun _ : Unit => True) (fun _ : Unit => [(tq, .inr (0, [.ref tp, .int (bI ts)])), (tp, .inl (cI, 130, .inl (nf (bdW 32 td g))))]) 0 0 := by
  refine xc_mkV (by decide +kernel) (Nat.le_of_ble_eq_true rfl) (fun X hX hin hret => ?_)
  show GG D X 0 0 0 [(tq, .inr (0, [.ref tp, .int (bI ts)])), (tp, .inl (cI, 130, .inl (nf td)))] [(0, .ref tq), (1, .int (nI g))] []
  refine xg_bipush hX (nI 31) dR_bringDown_0 (by decide) ?_
  refine xg_istore_n hX (lv' := [(2, .int (nI 31)), (0, .ref tq), (1, .int (nI g))]) dR_bringDown_2 rfl (by decide) rfl ?_
  have lp1 : ∀ (fu2 : Nat) (i : Nat), (i ≤ 31) → i < fu2 → GG D X 0 0 3 [(tq, .inr (0, [.ref tp, .int (bI ts)])), (tp, .inl (cI, 130, .inl (nf (bdP td i))))] [(0, .ref tq), (1, .int (nI g)), (2, .int (nI i))] [] := by
    intro fu2
    induction fu2 with
    | zero => intro i hi hm4; exact absurd hm4 (Nat.not_lt_zero _)
    | succ fu2 ih3 =>
      intro i hi hm4
      refine xg_iload_n hX 2 dR_bringDown_3 rfl rfl ?_
      refine xg_if_leN hX 25 (by omega) dR_bringDown_4 (by decide) (fun h4 => ?_) (fun h4 => ?_)
      ·
        refine xg_aload_n hX 0 dR_bringDown_25 rfl rfl ?_
        refine xg_iconst hX (nI 0) dR_bringDown_26 (by decide) ?_
        refine xg_iload_n hX 1 dR_bringDown_27 rfl rfl ?_
        refine xg_cV hX tq [.int (nI 0), .int (nI g)] (hM := xc_setDigit l D cI tq tp (bdP td i) ts 0 g (by omega)) (wr := []) (ws' := fun _ => [(tq, .inr (0, [.ref tp, .int (bI ts)])), (tp, .inl (cI, 130, .inl (nf (up (bdP td i) 0 g))))]) (st' := fun _ => []) [0, 1] [] [0, 1] [] rfl mt_128 mt_154 mt_2 mt_126 mt_127 0 rfl rfl hdR_setDigit (by decide) ⟨rfl, rfl⟩ (by decide) rfl rfl (by decide) rfl (by decide) (by decide) (by decide) (fun u => rfl) (fun u => rfl) (fun u => rfl) rfl rfl (by simp [Value.category]) dR_bringDown_28 (fun _ _ => ?_)
        subst h4
        refine xg_ext hX (g := bdW 32 td g) (ws' := [(tq, .inr (0, [.ref tp, .int (bI ts)])), (tp, .inl (cI, 130, .inl (nf (bdW 32 td g))))]) 1 rfl (fun j hj => bdP_e j) rfl ?_
        exact hret () _ _ rfl trivial dR_bringDown_31
      ·
        refine xg_aload_n hX 0 dR_bringDown_7 rfl rfl ?_
        refine xg_iload_n hX 2 dR_bringDown_8 rfl rfl ?_
        refine xg_aload_n hX 0 dR_bringDown_9 rfl rfl ?_
        refine xg_iload_n hX 2 dR_bringDown_10 rfl rfl ?_
        refine xg_iconst hX (nI 1) dR_bringDown_11 (by decide) ?_
        refine xg_isubN hX (by omega) dR_bringDown_12 ?_
        refine xg_cV hX tq [.int (nI (i - 1))] (hM := xc_digitAt l D cI tq tp (bdP td i) ts (i - 1) (by omega)) (wr := []) (ws' := fun _ => [(tq, .inr (0, [.ref tp, .int (bI ts)])), (tp, .inl (cI, 130, .inl (nf (bdP td i))))]) (st' := fun _ => [.int (nI ((bdP td i) (i - 1))), .int (nI i), .ref tq]) [0, 1] [] [0, 1] [.int (nI i), .ref tq] rfl mt_144 mt_141 mt_2 mt_142 mt_143 0 rfl rfl hdR_digitAt (by decide) ⟨rfl, rfl⟩ (by decide) rfl rfl (by decide) rfl (by decide) (by decide) (by decide) (fun u => rfl) (fun u => rfl) (fun u => rfl) rfl rfl (by simp [Value.category]) dR_bringDown_13 (fun _ _ => ?_)
        refine xg_top (nI (td (i - 1))) (by rw [bdP_at (by omega)]) ?_
        refine xg_cV hX tq [.int (nI i), .int (nI (td (i - 1)))] (hM := xc_setDigit l D cI tq tp (bdP td i) ts i (td (i - 1)) (by omega)) (wr := []) (ws' := fun _ => [(tq, .inr (0, [.ref tp, .int (bI ts)])), (tp, .inl (cI, 130, .inl (nf (up (bdP td i) i (td (i - 1))))))]) (st' := fun _ => []) [0, 1] [] [0, 1] [] rfl mt_128 mt_154 mt_2 mt_126 mt_127 0 rfl rfl hdR_setDigit (by decide) ⟨rfl, rfl⟩ (by decide) rfl rfl (by decide) rfl (by decide) (by decide) (by decide) (fun u => rfl) (fun u => rfl) (fun u => rfl) rfl rfl (by simp [Value.category]) dR_bringDown_16 (fun _ _ => ?_)
        refine xg_iincN hX (lv' := [(2, .int (nI (i - 1))), (0, .ref tq), (1, .int (nI g))]) (i - 1) 2 dR_bringDown_19 rfl (xn_dec _ (by omega)) (by decide) rfl ?_
        refine xg_goto hX 3 dR_bringDown_22 (by decide) ?_
        refine xg_ext hX (g := bdP td (i - 1)) (ws' := [(tq, .inr (0, [.ref tp, .int (bI ts)])), (tp, .inl (cI, 130, .inl (nf (bdP td (i - 1)))))]) 1 rfl (fun j hj => bdP_s (by omega) j) rfl ?_
        refine xg_lv hX (lv' := [(0, .ref tq), (1, .int (nI g)), (2, .int (nI (i - 1)))]) [1, 2, 0] rfl ?_
        exact ih3 (i - 1) (by omega) (by omega)
  refine xg_ext hX (g := bdP td 31) (ws' := [(tq, .inr (0, [.ref tp, .int (bI ts)])), (tp, .inl (cI, 130, .inl (nf (bdP td 31))))]) 1 rfl (fun j hj => bdP_0 j) rfl ?_
  refine xg_lv hX (lv' := [(0, .ref tq), (1, .int (nI g)), (2, .int (nI 31))]) [1, 2, 0] rfl ?_
  exact lp1 (31 + 1) 31 (by omega) (Nat.lt_succ_self _)
set_option maxHeartbeats 4000000 in
set_option maxRecDepth 100000 in
theorem xc_takeAway (l : Launch) (D : va_G) (cI : ClassId) (tq : Nat) (tp : Nat) (td : Nat → Nat) (ts : Bool) (xq : Nat) (xp : Nat) (xd : Nat → Nat) (xs : Bool) (htd : ∀ j, td j < 10) (hxd : ∀ j, xd j < 10) : Ctr l D cI yR_takeAway cR_takeAway 3 (some .int) { frames := 2, cells := 0, slots := 0, locals := 47 } [.ref tq, .ref xq] [(tq, .inr (0, [.ref tp, .int (bI ts)])), (tp, .inl (cI, 130, .inl (nf td))), (xq, .inr (0, [.ref xp, .int (bI xs)])), (xp, .inl (cI, 130, .inl (nf xd)))] (fun _ : Unit => some (.int (nI ((taF 32 xd 9 td).1)))) (fun _ : Unit => True) (fun _ : Unit => [(tq, .inr (0, [.ref tp, .int (bI ts)])), (tp, .inl (cI, 130, .inl (nf ((taF 32 xd 9 td).2)))), (xq, .inr (0, [.ref xp, .int (bI xs)])), (xp, .inl (cI, 130, .inl (nf xd)))]) 0 0 := by
  refine xc_mkI (by decide +kernel) (Nat.le_of_ble_eq_true rfl) (fun X hX hret => ?_)
  show GG D X 0 0 0 [(tq, .inr (0, [.ref tp, .int (bI ts)])), (tp, .inl (cI, 130, .inl (nf td))), (xq, .inr (0, [.ref xp, .int (bI xs)])), (xp, .inl (cI, 130, .inl (nf xd)))] [(0, .ref tq), (1, .ref xq)] []
  refine xg_iconst hX (nI 0) dR_takeAway_0 (by decide) ?_
  refine xg_istore_n hX (lv' := [(2, .int (nI 0)), (0, .ref tq), (1, .ref xq)]) dR_takeAway_1 rfl (by decide) rfl ?_
  have lp1 : ∀ (fu2 : Nat) (k : Nat) (r : Nat → Nat), (k ≤ 9) → (∀ j, r j < 10) → (taF 32 xd 9 td = (k + (taF 32 xd (9 - k) r).1, (taF 32 xd (9 - k) r).2)) → 9 - k < fu2 → GG D X 0 0 2 [(tq, .inr (0, [.ref tp, .int (bI ts)])), (tp, .inl (cI, 130, .inl (nf r))), (xq, .inr (0, [.ref xp, .int (bI xs)])), (xp, .inl (cI, 130, .inl (nf xd)))] [(0, .ref tq), (1, .ref xq), (2, .int (nI k))] [] := by
    intro fu2
    induction fu2 with
    | zero => intro k r hk hr hq hm4; exact absurd hm4 (Nat.not_lt_zero _)
    | succ fu2 ih3 =>
      intro k r hk hr hq hm4
      refine xg_iload_n hX 2 dR_takeAway_2 rfl rfl ?_
      refine xg_bipush hX (nI 9) dR_takeAway_3 (by decide) ?_
      refine xg_icmp_geN hX 28 (by omega) (by omega) dR_takeAway_5 (by decide) (fun h5 => ?_) (fun h5 => ?_)
      ·
        refine xg_iload_n hX 2 dR_takeAway_28 rfl rfl ?_
        have hz : taF 32 xd 9 td = (k, r) := hq.trans (by first | exact taF_end9 (by omega) | exact taF_lt0 (by omega) h13)
        refine xg_ext hX (g := (taF 32 xd 9 td).2) (ws' := [(tq, .inr (0, [.ref tp, .int (bI ts)])), (tp, .inl (cI, 130, .inl (nf ((taF 32 xd 9 td).2)))), (xq, .inr (0, [.ref xp, .int (bI xs)])), (xp, .inl (cI, 130, .inl (nf xd)))]) 1 rfl (fun j hj => by rw [hz]) rfl ?_
        refine xg_top (nI ((taF 32 xd 9 td).1)) (by rw [hz]) ?_
        exact hret () _ _ _ rfl trivial dR_takeAway_29
      ·
        refine xg_aload_n hX 0 dR_takeAway_8 rfl rfl ?_
        refine xg_aload_n hX 1 dR_takeAway_9 rfl rfl ?_
        refine xg_cV hX tq [.ref xq] (hM := xc_order l D cI tq tp r ts xq xp xd xs hr hxd) (wr := []) (ws' := fun _ => [(tq, .inr (0, [.ref tp, .int (bI ts)])), (tp, .inl (cI, 130, .inl (nf r))), (xq, .inr (0, [.ref xp, .int (bI xs)])), (xp, .inl (cI, 130, .inl (nf xd)))]) (st' := fun _ => [.int (cmpZ r xd 32)]) [0, 1, 2, 3] [] [0, 1, 2, 3] [] rfl mt_158 mt_155 mt_2 mt_156 mt_157 0 rfl rfl hdR_orderOfSizes (by decide) ⟨rfl, rfl⟩ (by decide) rfl rfl (by decide) rfl (by decide) (by decide) (by decide) (fun u => rfl) (fun u => rfl) (fun u => rfl) rfl rfl (by simp [Value.category]) dR_takeAway_10 (fun _ _ => ?_)
        refine xg_if_lt hX 28 dR_takeAway_13 (by decide) (fun h13 => ?_) (fun h13 => ?_)
        ·
          refine xg_iload_n hX 2 dR_takeAway_28 rfl rfl ?_
          have hz : taF 32 xd 9 td = (k, r) := hq.trans (by first | exact taF_end9 (by omega) | exact taF_lt0 (by omega) h13)
          refine xg_ext hX (g := (taF 32 xd 9 td).2) (ws' := [(tq, .inr (0, [.ref tp, .int (bI ts)])), (tp, .inl (cI, 130, .inl (nf ((taF 32 xd 9 td).2)))), (xq, .inr (0, [.ref xp, .int (bI xs)])), (xp, .inl (cI, 130, .inl (nf xd)))]) 1 rfl (fun j hj => by rw [hz]) rfl ?_
          refine xg_top (nI ((taF 32 xd 9 td).1)) (by rw [hz]) ?_
          exact hret () _ _ _ rfl trivial dR_takeAway_29
        ·
          refine xg_aload_n hX 0 dR_takeAway_16 rfl rfl ?_
          refine xg_aload_n hX 0 dR_takeAway_17 rfl rfl ?_
          refine xg_aload_n hX 1 dR_takeAway_18 rfl rfl ?_
          refine xg_cV hX tq [.ref tq, .ref xq] (hM := xc_subSelf l D cI tq tp r ts xq xp xd xs hr hxd) (wr := []) (ws' := fun _ => [(tq, .inr (0, [.ref tp, .int (bI ts)])), (tp, .inl (cI, 130, .inl (nf (sbW 32 r xd)))), (xq, .inr (0, [.ref xp, .int (bI xs)])), (xp, .inl (cI, 130, .inl (nf xd)))]) (st' := fun _ => []) [0, 1, 2, 3] [] [0, 1, 2, 3] [] rfl mt_162 mt_159 mt_2 mt_161 mp_4 0 rfl rfl hdR_subtractSizes (by decide) ⟨rfl, rfl⟩ (by decide) rfl rfl (by decide) rfl (by decide) (by decide) (by decide) (fun u => rfl) (fun u => rfl) (fun u => rfl) rfl rfl (by simp [Value.category]) dR_takeAway_19 (fun _ _ => ?_)
          refine xg_iincN hX (lv' := [(2, .int (nI (k + 1))), (0, .ref tq), (1, .ref xq)]) (k + 1) 2 dR_takeAway_22 rfl (xn_inc _) (by decide) rfl ?_
          refine xg_goto hX 2 dR_takeAway_25 (by decide) ?_
          refine xg_lv hX (lv' := [(0, .ref tq), (1, .ref xq), (2, .int (nI (k + 1)))]) [1, 2, 0] rfl ?_
          exact ih3 (k + 1) (sbW 32 r xd) (by omega) (sbW_lt hr hxd) (hq.trans (taF_s (by omega) h13)) (by omega)
  refine xg_lv hX (lv' := [(0, .ref tq), (1, .ref xq), (2, .int (nI 0))]) [1, 2, 0] rfl ?_
  exact lp1 (9 - 0 + 1) 0 td (by omega) htd (by simp) (Nat.lt_succ_self _)
set_option maxHeartbeats 4000000 in
set_option maxRecDepth 100000 in
theorem xc_divide (l : Launch) (D : va_G) (cI : ClassId) (tq : Nat) (tp : Nat) (td : Nat → Nat) (ts : Bool) (xq : Nat) (xp : Nat) (xd : Nat → Nat) (xs : Bool) (yq : Nat) (yp : Nat) (yd : Nat → Nat) (ys : Bool) (zq : Nat) (zp : Nat) (zd : Nat → Nat) (zs : Bool) (hxd : ∀ j, xd j < 10) (hyd : ∀ j, yd j < 10) : Ctr l D cI yR_divide cR_divide 5 none { frames := 3, cells := 0, slots := 0, locals := 69 } [.ref tq, .ref xq, .ref yq, .ref zq] [(tq, .inr (0, [.ref tp, .int (bI ts)])), (tp, .inl (cI, 130, .inl (nf td))), (xq, .inr (0, [.ref xp, .int (bI xs)])), (xp, .inl (cI, 130, .inl (nf xd))), (yq, .inr (0, [.ref yp, .int (bI ys)])), (yp, .inl (cI, 130, .inl (nf yd))), (zq, .inr (0, [.ref zp, .int (bI zs)])), (zp, .inl (cI, 130, .inl (nf zd)))] (fun _ : Unit => none) (fun _ : Unit => True) (fun _ : Unit => [(tq, .inr (0, [.ref tp, .int (bI (xs != ys))])), (tp, .inl (cI, 130, .inl (nf (qmx 0 (dvQ 32 xd yd))))), (xq, .inr (0, [.ref xp, .int (bI xs)])), (xp, .inl (cI, 130, .inl (nf xd))), (yq, .inr (0, [.ref yp, .int (bI ys)])), (yp, .inl (cI, 130, .inl (nf yd))), (zq, .inr (0, [.ref zp, .int (bI false)])), (zp, .inl (cI, 130, .inl (nf (dvR 32 xd yd 31))))]) 0 0 := by
  refine xc_mkV (by decide +kernel) (Nat.le_of_ble_eq_true rfl) (fun X hX hin hret => ?_)
  show GG D X 0 0 0 [(tq, .inr (0, [.ref tp, .int (bI ts)])), (tp, .inl (cI, 130, .inl (nf td))), (xq, .inr (0, [.ref xp, .int (bI xs)])), (xp, .inl (cI, 130, .inl (nf xd))), (yq, .inr (0, [.ref yp, .int (bI ys)])), (yp, .inl (cI, 130, .inl (nf yd))), (zq, .inr (0, [.ref zp, .int (bI zs)])), (zp, .inl (cI, 130, .inl (nf zd)))] [(0, .ref tq), (1, .ref xq), (2, .ref yq), (3, .ref zq)] []
  refine xg_aload_n hX 0 dR_divide_0 rfl rfl ?_
  refine xg_cV hX tq [] (hM := xc_clear l D cI tq tp td ts) (wr := [(xq, .inr (0, [.ref xp, .int (bI xs)])), (xp, .inl (cI, 130, .inl (nf xd))), (yq, .inr (0, [.ref yp, .int (bI ys)])), (yp, .inl (cI, 130, .inl (nf yd))), (zq, .inr (0, [.ref zp, .int (bI zs)])), (zp, .inl (cI, 130, .inl (nf zd)))]) (ws' := fun _ => [(tq, .inr (0, [.ref tp, .int (bI false)])), (tp, .inl (cI, 130, .inl (nf zf))), (xq, .inr (0, [.ref xp, .int (bI xs)])), (xp, .inl (cI, 130, .inl (nf xd))), (yq, .inr (0, [.ref yp, .int (bI ys)])), (yp, .inl (cI, 130, .inl (nf yd))), (zq, .inr (0, [.ref zp, .int (bI zs)])), (zp, .inl (cI, 130, .inl (nf zd)))]) (st' := fun _ => []) [0, 1] [2, 3, 4, 5, 6, 7] [6, 7, 0, 1, 2, 3, 4, 5] [] rfl mt_121 mt_149 mt_2 mt_119 mt_120 0 rfl rfl hdR_clear (by decide) ⟨rfl, rfl⟩ (by decide) rfl rfl (by decide) rfl (by decide) (by decide) (by decide) (fun u => rfl) (fun u => rfl) (fun u => rfl) rfl rfl (by simp [Value.category]) dR_divide_1 (fun _ _ => ?_)
  refine xg_aload_n hX 3 dR_divide_4 rfl rfl ?_
  refine xg_cV hX zq [] (hM := xc_clear l D cI zq zp zd zs) (wr := [(tq, .inr (0, [.ref tp, .int (bI false)])), (tp, .inl (cI, 130, .inl (nf zf))), (xq, .inr (0, [.ref xp, .int (bI xs)])), (xp, .inl (cI, 130, .inl (nf xd))), (yq, .inr (0, [.ref yp, .int (bI ys)])), (yp, .inl (cI, 130, .inl (nf yd)))]) (ws' := fun _ => [(tq, .inr (0, [.ref tp, .int (bI false)])), (tp, .inl (cI, 130, .inl (nf zf))), (xq, .inr (0, [.ref xp, .int (bI xs)])), (xp, .inl (cI, 130, .inl (nf xd))), (yq, .inr (0, [.ref yp, .int (bI ys)])), (yp, .inl (cI, 130, .inl (nf yd))), (zq, .inr (0, [.ref zp, .int (bI false)])), (zp, .inl (cI, 130, .inl (nf zf)))]) (st' := fun _ => []) [6, 7] [0, 1, 2, 3, 4, 5] [0, 1, 2, 3, 4, 5, 6, 7] [] rfl mt_121 mt_149 mt_2 mt_119 mt_120 0 rfl rfl hdR_clear (by decide) ⟨rfl, rfl⟩ (by decide) rfl rfl (by decide) rfl (by decide) (by decide) (by decide) (fun u => rfl) (fun u => rfl) (fun u => rfl) rfl rfl (by simp [Value.category]) dR_divide_5 (fun _ _ => ?_)
  refine xg_bipush hX (nI 30) dR_divide_8 (by decide) ?_
  refine xg_istore hX (lv' := [(4, .int (nI 30)), (0, .ref tq), (1, .ref xq), (2, .ref yq), (3, .ref zq)]) dR_divide_10 (by decide) rfl ?_
  have lp1 : ∀ (fu2 : Nat) (c : Nat), (c ≤ 31) → c < fu2 → GG D X 0 0 12 [(tq, .inr (0, [.ref tp, .int (bI false)])), (tp, .inl (cI, 130, .inl (nf (qmx c (dvQ 32 xd yd))))), (xq, .inr (0, [.ref xp, .int (bI xs)])), (xp, .inl (cI, 130, .inl (nf xd))), (yq, .inr (0, [.ref yp, .int (bI ys)])), (yp, .inl (cI, 130, .inl (nf yd))), (zq, .inr (0, [.ref zp, .int (bI false)])), (zp, .inl (cI, 130, .inl (nf (dvR 32 xd yd (31 - c)))))] [(0, .ref tq), (1, .ref xq), (2, .ref yq), (3, .ref zq), (4, .int (nI c - 1))] [] := by
    intro fu2
    induction fu2 with
    | zero => intro c hc hm4; exact absurd hm4 (Nat.not_lt_zero _)
    | succ fu2 ih3 =>
      intro c hc hm4
      cases c with
      | zero =>
        rw [show nI 0 - 1 = (-1 : Int32) from by decide]
        refine xg_iload hX 4 dR_divide_12 rfl ?_
        refine xg_if_lt hX 44 dR_divide_14 (by decide) (fun _ => ?_) (fun h => absurd (by decide) h)
        refine xg_aload_n hX 0 dR_divide_44 rfl rfl ?_
        refine xg_aload_n hX 1 dR_divide_45 rfl rfl ?_
        refine xg_get hX (ci := 0) rfl hinR 2 rfl 1 (by decide) mt_22 rfl dR_divide_46 ?_
        refine xg_aload_n hX 2 dR_divide_49 rfl rfl ?_
        refine xg_get hX (ci := 0) rfl hinR 4 rfl 1 (by decide) mt_22 rfl dR_divide_50 ?_
        refine xg_icmp_eqB hX 60 dR_divide_53 (by decide) (fun h53 => ?_) (fun h53 => ?_)
        ·
          refine xg_iconst hX (nI 0) dR_divide_60 (by decide) ?_
          refine xg_top (bI false) rfl ?_
          refine xg_put hX tyR tyR_ok nmR (ci := 0) rfl hinR (ws' := [(tq, .inr (0, [.ref tp, .int (bI false)])), (tp, .inl (cI, 130, .inl (nf (qmx 0 (dvQ 32 xd yd))))), (xq, .inr (0, [.ref xp, .int (bI xs)])), (xp, .inl (cI, 130, .inl (nf xd))), (yq, .inr (0, [.ref yp, .int (bI ys)])), (yp, .inl (cI, 130, .inl (nf yd))), (zq, .inr (0, [.ref zp, .int (bI false)])), (zp, .inl (cI, 130, .inl (nf (dvR 32 xd yd (31 - 0)))))]) 0 rfl 1 (by decide) mt_22 rfl (xn_narB _) (xn_fitB _) (Nat.le_of_ble_eq_true rfl) rfl dR_divide_61 ?_
          refine xg_wsE (ws' := [(tq, .inr (0, [.ref tp, .int (bI (xs != ys))])), (tp, .inl (cI, 130, .inl (nf (qmx 0 (dvQ 32 xd yd))))), (xq, .inr (0, [.ref xp, .int (bI xs)])), (xp, .inl (cI, 130, .inl (nf xd))), (yq, .inr (0, [.ref yp, .int (bI ys)])), (yp, .inl (cI, 130, .inl (nf yd))), (zq, .inr (0, [.ref zp, .int (bI false)])), (zp, .inl (cI, 130, .inl (nf (dvR 32 xd yd (31 - 0)))))]) (by rw [← (show (bI false : Int32) = bI (xs != ys) from (by first | (rw [show (xs != ys) = false by simp [h53]]; done) | (rw [show (xs != ys) = true by simp [h53]]; done)))]) ?_
          refine xg_ext hX (g := dvR 32 xd yd 31) (ws' := [(tq, .inr (0, [.ref tp, .int (bI (xs != ys))])), (tp, .inl (cI, 130, .inl (nf (qmx 0 (dvQ 32 xd yd))))), (xq, .inr (0, [.ref xp, .int (bI xs)])), (xp, .inl (cI, 130, .inl (nf xd))), (yq, .inr (0, [.ref yp, .int (bI ys)])), (yp, .inl (cI, 130, .inl (nf yd))), (zq, .inr (0, [.ref zp, .int (bI false)])), (zp, .inl (cI, 130, .inl (nf (dvR 32 xd yd 31))))]) 7 rfl (fun j hj => rfl) rfl ?_
          exact hret () _ _ rfl trivial dR_divide_64
        ·
          refine xg_iconst hX (nI 1) dR_divide_56 (by decide) ?_
          refine xg_goto hX 61 dR_divide_57 (by decide) ?_
          refine xg_top (bI true) rfl ?_
          refine xg_put hX tyR tyR_ok nmR (ci := 0) rfl hinR (ws' := [(tq, .inr (0, [.ref tp, .int (bI true)])), (tp, .inl (cI, 130, .inl (nf (qmx 0 (dvQ 32 xd yd))))), (xq, .inr (0, [.ref xp, .int (bI xs)])), (xp, .inl (cI, 130, .inl (nf xd))), (yq, .inr (0, [.ref yp, .int (bI ys)])), (yp, .inl (cI, 130, .inl (nf yd))), (zq, .inr (0, [.ref zp, .int (bI false)])), (zp, .inl (cI, 130, .inl (nf (dvR 32 xd yd (31 - 0)))))]) 0 rfl 1 (by decide) mt_22 rfl (xn_narB _) (xn_fitB _) (Nat.le_of_ble_eq_true rfl) rfl dR_divide_61 ?_
          refine xg_wsE (ws' := [(tq, .inr (0, [.ref tp, .int (bI (xs != ys))])), (tp, .inl (cI, 130, .inl (nf (qmx 0 (dvQ 32 xd yd))))), (xq, .inr (0, [.ref xp, .int (bI xs)])), (xp, .inl (cI, 130, .inl (nf xd))), (yq, .inr (0, [.ref yp, .int (bI ys)])), (yp, .inl (cI, 130, .inl (nf yd))), (zq, .inr (0, [.ref zp, .int (bI false)])), (zp, .inl (cI, 130, .inl (nf (dvR 32 xd yd (31 - 0)))))]) (by rw [← (show (bI true : Int32) = bI (xs != ys) from (by first | (rw [show (xs != ys) = false by simp [h53]]; done) | (rw [show (xs != ys) = true by simp [h53]]; done)))]) ?_
          refine xg_ext hX (g := dvR 32 xd yd 31) (ws' := [(tq, .inr (0, [.ref tp, .int (bI (xs != ys))])), (tp, .inl (cI, 130, .inl (nf (qmx 0 (dvQ 32 xd yd))))), (xq, .inr (0, [.ref xp, .int (bI xs)])), (xp, .inl (cI, 130, .inl (nf xd))), (yq, .inr (0, [.ref yp, .int (bI ys)])), (yp, .inl (cI, 130, .inl (nf yd))), (zq, .inr (0, [.ref zp, .int (bI false)])), (zp, .inl (cI, 130, .inl (nf (dvR 32 xd yd 31))))]) 7 rfl (fun j hj => rfl) rfl ?_
          exact hret () _ _ rfl trivial dR_divide_64
      | succ j =>
        rw [nI_pred]
        have e1 := hxd j
        have e2 : ∀ i, bdW 32 (dvR 32 xd yd (31 - (j + 1))) (xd j) i < 10 := bdW_lt (dvR_lt hxd hyd _) (by omega)
        refine xg_iload hX 4 dR_divide_12 rfl ?_
        refine xg_if_ltN hX 44 (by omega) dR_divide_14 (by decide) ?_
        refine xg_aload_n hX 3 dR_divide_17 rfl rfl ?_
        refine xg_aload_n hX 1 dR_divide_18 rfl rfl ?_
        refine xg_iload hX 4 dR_divide_19 rfl ?_
        refine xg_cV hX xq [.int (nI j)] (hM := xc_digitAt l D cI xq xp xd xs j (by omega)) (wr := [(tq, .inr (0, [.ref tp, .int (bI false)])), (tp, .inl (cI, 130, .inl (nf (qmx (j + 1) (dvQ 32 xd yd))))), (yq, .inr (0, [.ref yp, .int (bI ys)])), (yp, .inl (cI, 130, .inl (nf yd))), (zq, .inr (0, [.ref zp, .int (bI false)])), (zp, .inl (cI, 130, .inl (nf (dvR 32 xd yd (31 - (j + 1))))))]) (ws' := fun _ => [(tq, .inr (0, [.ref tp, .int (bI false)])), (tp, .inl (cI, 130, .inl (nf (qmx (j + 1) (dvQ 32 xd yd))))), (xq, .inr (0, [.ref xp, .int (bI xs)])), (xp, .inl (cI, 130, .inl (nf xd))), (yq, .inr (0, [.ref yp, .int (bI ys)])), (yp, .inl (cI, 130, .inl (nf yd))), (zq, .inr (0, [.ref zp, .int (bI false)])), (zp, .inl (cI, 130, .inl (nf (dvR 32 xd yd (31 - (j + 1))))))]) (st' := fun _ => [.int (nI (xd j)), .ref zq]) [2, 3] [0, 1, 4, 5, 6, 7] [0, 1, 6, 7, 2, 3, 4, 5] [.ref zq] rfl mt_144 mt_141 mt_2 mt_142 mt_143 0 rfl rfl hdR_digitAt (by decide) ⟨rfl, rfl⟩ (by decide) rfl rfl (by decide) rfl (by decide) (by decide) (by decide) (fun u => rfl) (fun u => rfl) (fun u => rfl) rfl rfl (by simp [Value.category]) dR_divide_21 (fun _ _ => ?_)
        refine xg_cV hX zq [.int (nI (xd j))] (hM := xc_bringDown l D cI zq zp (dvR 32 xd yd (31 - (j + 1))) false (xd j)) (wr := [(tq, .inr (0, [.ref tp, .int (bI false)])), (tp, .inl (cI, 130, .inl (nf (qmx (j + 1) (dvQ 32 xd yd))))), (xq, .inr (0, [.ref xp, .int (bI xs)])), (xp, .inl (cI, 130, .inl (nf xd))), (yq, .inr (0, [.ref yp, .int (bI ys)])), (yp, .inl (cI, 130, .inl (nf yd)))]) (ws' := fun _ => [(tq, .inr (0, [.ref tp, .int (bI false)])), (tp, .inl (cI, 130, .inl (nf (qmx (j + 1) (dvQ 32 xd yd))))), (xq, .inr (0, [.ref xp, .int (bI xs)])), (xp, .inl (cI, 130, .inl (nf xd))), (yq, .inr (0, [.ref yp, .int (bI ys)])), (yp, .inl (cI, 130, .inl (nf yd))), (zq, .inr (0, [.ref zp, .int (bI false)])), (zp, .inl (cI, 130, .inl (nf (bdW 32 (dvR 32 xd yd (31 - (j + 1))) (xd j)))))]) (st' := fun _ => []) [6, 7] [0, 1, 2, 3, 4, 5] [0, 1, 2, 3, 4, 5, 6, 7] [] rfl mt_201 mt_198 mt_2 mt_200 mp_7 0 rfl rfl hdR_bringDown (by decide) ⟨rfl, rfl⟩ (by decide) rfl rfl (by decide) rfl (by decide) (by decide) (by decide) (fun u => rfl) (fun u => rfl) (fun u => rfl) rfl rfl (by simp [Value.category]) dR_divide_24 (fun _ _ => ?_)
        refine xg_aload_n hX 0 dR_divide_27 rfl rfl ?_
        refine xg_iload hX 4 dR_divide_28 rfl ?_
        refine xg_aload_n hX 3 dR_divide_30 rfl rfl ?_
        refine xg_aload_n hX 2 dR_divide_31 rfl rfl ?_
        refine xg_cV hX zq [.ref yq] (hM := xc_takeAway l D cI zq zp (bdW 32 (dvR 32 xd yd (31 - (j + 1))) (xd j)) false yq yp yd ys e2 hyd) (wr := [(tq, .inr (0, [.ref tp, .int (bI false)])), (tp, .inl (cI, 130, .inl (nf (qmx (j + 1) (dvQ 32 xd yd))))), (xq, .inr (0, [.ref xp, .int (bI xs)])), (xp, .inl (cI, 130, .inl (nf xd)))]) (ws' := fun _ => [(tq, .inr (0, [.ref tp, .int (bI false)])), (tp, .inl (cI, 130, .inl (nf (qmx (j + 1) (dvQ 32 xd yd))))), (xq, .inr (0, [.ref xp, .int (bI xs)])), (xp, .inl (cI, 130, .inl (nf xd))), (yq, .inr (0, [.ref yp, .int (bI ys)])), (yp, .inl (cI, 130, .inl (nf yd))), (zq, .inr (0, [.ref zp, .int (bI false)])), (zp, .inl (cI, 130, .inl (nf ((taF 32 yd 9 (bdW 32 (dvR 32 xd yd (31 - (j + 1))) (xd j))).2))))]) (st' := fun _ => [.int (nI ((taF 32 yd 9 (bdW 32 (dvR 32 xd yd (31 - (j + 1))) (xd j))).1)), .int (nI j), .ref tq]) [6, 7, 4, 5] [0, 1, 2, 3] [0, 1, 2, 3, 6, 7, 4, 5] [.int (nI j), .ref tq] rfl mt_205 mt_202 mt_2 mt_204 mp_8 0 rfl rfl hdR_takeAway (by decide) ⟨rfl, rfl⟩ (by decide) rfl rfl (by decide) rfl (by decide) (by decide) (by decide) (fun u => rfl) (fun u => rfl) (fun u => rfl) rfl rfl (by simp [Value.category]) dR_divide_32 (fun _ _ => ?_)
        refine xg_cV hX tq [.int (nI j), .int (nI ((taF 32 yd 9 (bdW 32 (dvR 32 xd yd (31 - (j + 1))) (xd j))).1))] (hM := xc_setDigit l D cI tq tp (qmx (j + 1) (dvQ 32 xd yd)) false j ((taF 32 yd 9 (bdW 32 (dvR 32 xd yd (31 - (j + 1))) (xd j))).1) (by omega)) (wr := [(xq, .inr (0, [.ref xp, .int (bI xs)])), (xp, .inl (cI, 130, .inl (nf xd))), (yq, .inr (0, [.ref yp, .int (bI ys)])), (yp, .inl (cI, 130, .inl (nf yd))), (zq, .inr (0, [.ref zp, .int (bI false)])), (zp, .inl (cI, 130, .inl (nf ((taF 32 yd 9 (bdW 32 (dvR 32 xd yd (31 - (j + 1))) (xd j))).2))))]) (ws' := fun _ => [(tq, .inr (0, [.ref tp, .int (bI false)])), (tp, .inl (cI, 130, .inl (nf (up (qmx (j + 1) (dvQ 32 xd yd)) j ((taF 32 yd 9 (bdW 32 (dvR 32 xd yd (31 - (j + 1))) (xd j))).1))))), (xq, .inr (0, [.ref xp, .int (bI xs)])), (xp, .inl (cI, 130, .inl (nf xd))), (yq, .inr (0, [.ref yp, .int (bI ys)])), (yp, .inl (cI, 130, .inl (nf yd))), (zq, .inr (0, [.ref zp, .int (bI false)])), (zp, .inl (cI, 130, .inl (nf ((taF 32 yd 9 (bdW 32 (dvR 32 xd yd (31 - (j + 1))) (xd j))).2))))]) (st' := fun _ => []) [0, 1] [2, 3, 4, 5, 6, 7] [6, 7, 0, 1, 2, 3, 4, 5] [] rfl mt_128 mt_154 mt_2 mt_126 mt_127 0 rfl rfl hdR_setDigit (by decide) ⟨rfl, rfl⟩ (by decide) rfl rfl (by decide) rfl (by decide) (by decide) (by decide) (fun u => rfl) (fun u => rfl) (fun u => rfl) rfl rfl (by simp [Value.category]) dR_divide_35 (fun _ _ => ?_)
        refine xg_iinc hX (lv' := [(4, .int (nI j - 1)), (0, .ref tq), (1, .ref xq), (2, .ref yq), (3, .ref zq)]) (nI j - 1) 4 dR_divide_38 rfl (xn_decZ _) (by decide) rfl ?_
        refine xg_goto hX 12 dR_divide_41 (by decide) ?_
        refine xg_ext hX (g := qmx j (dvQ 32 xd yd)) (ws' := [(tq, .inr (0, [.ref tp, .int (bI false)])), (tp, .inl (cI, 130, .inl (nf (qmx j (dvQ 32 xd yd))))), (xq, .inr (0, [.ref xp, .int (bI xs)])), (xp, .inl (cI, 130, .inl (nf xd))), (yq, .inr (0, [.ref yp, .int (bI ys)])), (yp, .inl (cI, 130, .inl (nf yd))), (zq, .inr (0, [.ref zp, .int (bI false)])), (zp, .inl (cI, 130, .inl (nf ((taF 32 yd 9 (bdW 32 (dvR 32 xd yd (31 - (j + 1))) (xd j))).2))))]) 1 rfl (fun i hi => qmx_s (by omega) (dv_q (by omega)) i) rfl ?_
        refine xg_ext hX (g := dvR 32 xd yd (31 - j)) (ws' := [(tq, .inr (0, [.ref tp, .int (bI false)])), (tp, .inl (cI, 130, .inl (nf (qmx j (dvQ 32 xd yd))))), (xq, .inr (0, [.ref xp, .int (bI xs)])), (xp, .inl (cI, 130, .inl (nf xd))), (yq, .inr (0, [.ref yp, .int (bI ys)])), (yp, .inl (cI, 130, .inl (nf yd))), (zq, .inr (0, [.ref zp, .int (bI false)])), (zp, .inl (cI, 130, .inl (nf (dvR 32 xd yd (31 - j)))))]) 7 rfl (fun i hi => by rw [dv_s (by omega)]) rfl ?_
        refine xg_lv hX (lv' := [(0, .ref tq), (1, .ref xq), (2, .ref yq), (3, .ref zq), (4, .int (nI j - 1))]) [1, 2, 3, 4, 0] rfl ?_
        exact ih3 j (by omega) (by omega)
  refine xg_ext hX (g := qmx 31 (dvQ 32 xd yd)) (ws' := [(tq, .inr (0, [.ref tp, .int (bI false)])), (tp, .inl (cI, 130, .inl (nf (qmx 31 (dvQ 32 xd yd))))), (xq, .inr (0, [.ref xp, .int (bI xs)])), (xp, .inl (cI, 130, .inl (nf xd))), (yq, .inr (0, [.ref yp, .int (bI ys)])), (yp, .inl (cI, 130, .inl (nf yd))), (zq, .inr (0, [.ref zp, .int (bI false)])), (zp, .inl (cI, 130, .inl (nf zf)))]) 1 rfl (fun j hj => qmx_31 j hj) rfl ?_
  refine xg_ext hX (g := dvR 32 xd yd (31 - 31)) (ws' := [(tq, .inr (0, [.ref tp, .int (bI false)])), (tp, .inl (cI, 130, .inl (nf (qmx 31 (dvQ 32 xd yd))))), (xq, .inr (0, [.ref xp, .int (bI xs)])), (xp, .inl (cI, 130, .inl (nf xd))), (yq, .inr (0, [.ref yp, .int (bI ys)])), (yp, .inl (cI, 130, .inl (nf yd))), (zq, .inr (0, [.ref zp, .int (bI false)])), (zp, .inl (cI, 130, .inl (nf (dvR 32 xd yd (31 - 31)))))]) 7 rfl (fun j hj => rfl) rfl ?_
  refine xg_lv hX (lv' := [(0, .ref tq), (1, .ref xq), (2, .ref yq), (3, .ref zq), (4, .int (nI 30))]) [1, 2, 3, 4, 0] rfl ?_
  refine xg_lvE (lv' := [(0, .ref tq), (1, .ref xq), (2, .ref yq), (3, .ref zq), (4, .int (nI 31 - 1))]) (by rw [← (show (nI 30 : Int32) = nI 31 - 1 from (by first | rfl | decide))]) ?_
  exact lp1 (31 + 1) 31 (by omega) (Nat.lt_succ_self _)
set_option maxHeartbeats 4000000 in
set_option maxRecDepth 100000 in
theorem xc_moveLeft (l : Launch) (D : va_G) (cI : ClassId) (tq : Nat) (tp : Nat) (td : Nat → Nat) (ts : Bool) (xq : Nat) (xp : Nat) (xd : Nat → Nat) (xs : Bool) (b : Int32) (hb1 : -99 ≤ b.toInt) (hb2 : b.toInt ≤ 99) (hxd : ∀ j, xd j < 10) : Ctr l D cI yR_moveLeft cR_moveLeft 4 none { frames := 2, cells := 0, slots := 0, locals := 43 } [.ref tq, .ref xq, .int b] [(tq, .inr (0, [.ref tp, .int (bI ts)])), (tp, .inl (cI, 130, .inl (nf td))), (xq, .inr (0, [.ref xp, .int (bI xs)])), (xp, .inl (cI, 130, .inl (nf xd)))] (fun _ : Unit => none) (fun _ : Unit => True) (fun _ : Unit => [(tq, .inr (0, [.ref tp, .int (bI xs)])), (tp, .inl (cI, 130, .inl (nf (mvI xd b.toInt 31)))), (xq, .inr (0, [.ref xp, .int (bI xs)])), (xp, .inl (cI, 130, .inl (nf xd)))]) 0 0 := by
  refine xc_mkV (by decide +kernel) (Nat.le_of_ble_eq_true rfl) (fun X hX hin hret => ?_)
  show GG D X 0 0 0 [(tq, .inr (0, [.ref tp, .int (bI ts)])), (tp, .inl (cI, 130, .inl (nf td))), (xq, .inr (0, [.ref xp, .int (bI xs)])), (xp, .inl (cI, 130, .inl (nf xd)))] [(0, .ref tq), (1, .ref xq), (2, .int b)] []
  refine xg_aload_n hX 0 dR_moveLeft_0 rfl rfl ?_
  refine xg_cV hX tq [] (hM := xc_clear l D cI tq tp td ts) (wr := [(xq, .inr (0, [.ref xp, .int (bI xs)])), (xp, .inl (cI, 130, .inl (nf xd)))]) (ws' := fun _ => [(tq, .inr (0, [.ref tp, .int (bI false)])), (tp, .inl (cI, 130, .inl (nf zf))), (xq, .inr (0, [.ref xp, .int (bI xs)])), (xp, .inl (cI, 130, .inl (nf xd)))]) (st' := fun _ => []) [0, 1] [2, 3] [2, 3, 0, 1] [] rfl mt_121 mt_149 mt_2 mt_119 mt_120 0 rfl rfl hdR_clear (by decide) ⟨rfl, rfl⟩ (by decide) rfl rfl (by decide) rfl (by decide) (by decide) (by decide) (fun u => rfl) (fun u => rfl) (fun u => rfl) rfl rfl (by simp [Value.category]) dR_moveLeft_1 (fun _ _ => ?_)
  refine xg_iconst hX (nI 0) dR_moveLeft_4 (by decide) ?_
  refine xg_istore_n hX (lv' := [(3, .int (nI 0)), (0, .ref tq), (1, .ref xq), (2, .int b)]) dR_moveLeft_5 rfl (by decide) rfl ?_
  have lp1 : ∀ (fu2 : Nat) (i : Nat), (i ≤ 31) → 31 - i < fu2 → GG D X 0 0 6 [(tq, .inr (0, [.ref tp, .int (bI false)])), (tp, .inl (cI, 130, .inl (nf (mvI xd b.toInt i)))), (xq, .inr (0, [.ref xp, .int (bI xs)])), (xp, .inl (cI, 130, .inl (nf xd)))] [(0, .ref tq), (1, .ref xq), (2, .int b), (3, .int (nI i))] [] := by
    intro fu2
    induction fu2 with
    | zero => intro i hi hm4; exact absurd hm4 (Nat.not_lt_zero _)
    | succ fu2 ih3 =>
      intro i hi hm4
      refine xg_iload_n hX 3 dR_moveLeft_6 rfl rfl ?_
      refine xg_bipush hX (nI 31) dR_moveLeft_7 (by decide) ?_
      refine xg_icmp_geN hX 30 (by omega) (by omega) dR_moveLeft_9 (by decide) (fun h5 => ?_) (fun h5 => ?_)
      ·
        refine xg_aload_n hX 0 dR_moveLeft_30 rfl rfl ?_
        refine xg_aload_n hX 1 dR_moveLeft_31 rfl rfl ?_
        refine xg_get hX (ci := 0) rfl hinR 2 rfl 1 (by decide) mt_22 rfl dR_moveLeft_32 ?_
        refine xg_put hX tyR tyR_ok nmR (ci := 0) rfl hinR (ws' := [(tq, .inr (0, [.ref tp, .int (bI xs)])), (tp, .inl (cI, 130, .inl (nf (mvI xd b.toInt i)))), (xq, .inr (0, [.ref xp, .int (bI xs)])), (xp, .inl (cI, 130, .inl (nf xd)))]) 0 rfl 1 (by decide) mt_22 rfl (xn_narB _) (xn_fitB _) (Nat.le_of_ble_eq_true rfl) rfl dR_moveLeft_35 ?_
        have hie : i = 31 := by omega
        refine xg_ext hX (g := mvI xd b.toInt 31) (ws' := [(tq, .inr (0, [.ref tp, .int (bI xs)])), (tp, .inl (cI, 130, .inl (nf (mvI xd b.toInt 31)))), (xq, .inr (0, [.ref xp, .int (bI xs)])), (xp, .inl (cI, 130, .inl (nf xd)))]) 1 rfl (fun j hj => by first | rfl | (rw [hie]; done) | (rw [hie]; rfl)) rfl ?_
        exact hret () _ _ rfl trivial dR_moveLeft_38
      ·
        refine xg_aload_n hX 0 dR_moveLeft_12 rfl rfl ?_
        refine xg_iload_n hX 3 dR_moveLeft_13 rfl rfl ?_
        refine xg_iload_n hX 2 dR_moveLeft_14 rfl rfl ?_
        refine xg_iadd hX dR_moveLeft_15 ?_
        rcases Int.lt_or_le ((i : Int) + b.toInt) 0 with hs | hs
        ·
          have hs2 : (nI i + b).toInt < 0 := by rw [xn_addZ (by omega) (by omega) (by omega)]; exact hs
          refine xg_aload_n hX 1 dR_moveLeft_16 rfl rfl ?_
          refine xg_iload_n hX 3 dR_moveLeft_17 rfl rfl ?_
          refine xg_cV hX xq [.int (nI i)] (hM := xc_digitAt l D cI xq xp xd xs i (by omega)) (wr := [(tq, .inr (0, [.ref tp, .int (bI false)])), (tp, .inl (cI, 130, .inl (nf (mvI xd b.toInt i))))]) (ws' := fun _ => [(tq, .inr (0, [.ref tp, .int (bI false)])), (tp, .inl (cI, 130, .inl (nf (mvI xd b.toInt i)))), (xq, .inr (0, [.ref xp, .int (bI xs)])), (xp, .inl (cI, 130, .inl (nf xd)))]) (st' := fun _ => [.int (nI (xd i)), .int ((nI i) + b), .ref tq]) [2, 3] [0, 1] [0, 1, 2, 3] [.int ((nI i) + b), .ref tq] rfl mt_144 mt_141 mt_2 mt_142 mt_143 0 rfl rfl hdR_digitAt (by decide) ⟨rfl, rfl⟩ (by decide) rfl rfl (by decide) rfl (by decide) (by decide) (by decide) (fun u => rfl) (fun u => rfl) (fun u => rfl) rfl rfl (by simp [Value.category]) dR_moveLeft_18 (fun _ _ => ?_)
          refine xg_cV hX tq [.int ((nI i) + b), .int (nI (xd i))] (hM := xc_setDigitNeg l D cI tq tp (mvI xd b.toInt i) false ((nI i) + b) (xd i) hs2) (wr := [(xq, .inr (0, [.ref xp, .int (bI xs)])), (xp, .inl (cI, 130, .inl (nf xd)))]) (ws' := fun _ => [(tq, .inr (0, [.ref tp, .int (bI false)])), (tp, .inl (cI, 130, .inl (nf (mvI xd b.toInt i)))), (xq, .inr (0, [.ref xp, .int (bI xs)])), (xp, .inl (cI, 130, .inl (nf xd)))]) (st' := fun _ => []) [0, 1] [2, 3] [2, 3, 0, 1] [] rfl mt_128 mt_154 mt_2 mt_126 mt_127 0 rfl rfl hdR_setDigit (by decide) ⟨rfl, rfl⟩ (by decide) rfl rfl (by decide) rfl (by decide) (by decide) (by decide) (fun u => rfl) (fun u => rfl) (fun u => rfl) rfl rfl (by simp [Value.category]) dR_moveLeft_21 (fun _ _ => ?_)
          refine xg_iincN hX (lv' := [(3, .int (nI (i + 1))), (0, .ref tq), (1, .ref xq), (2, .int b)]) (i + 1) 3 dR_moveLeft_24 rfl (xn_inc _) (by decide) rfl ?_
          refine xg_goto hX 6 dR_moveLeft_27 (by decide) ?_
          refine xg_ext hX (g := mvI xd b.toInt (i + 1)) (ws' := [(tq, .inr (0, [.ref tp, .int (bI false)])), (tp, .inl (cI, 130, .inl (nf (mvI xd b.toInt (i + 1))))), (xq, .inr (0, [.ref xp, .int (bI xs)])), (xp, .inl (cI, 130, .inl (nf xd)))]) 1 rfl (fun j hj => by first | exact mvI_neg hs j | exact mvI_s hkk j) rfl ?_
          refine xg_lv hX (lv' := [(0, .ref tq), (1, .ref xq), (2, .int b), (3, .int (nI (i + 1)))]) [1, 2, 3, 0] rfl ?_
          exact ih3 (i + 1) (by omega) (by omega)
        ·
          obtain ⟨kk, hkk, hke⟩ : ∃ kk : Nat, (kk : Int) = (i : Int) + b.toInt ∧ nI i + b = nI kk := ⟨((i : Int) + b.toInt).toNat, Int.toNat_of_nonneg hs, xn_addN (by omega) (by omega) hs⟩
          refine xg_top (nI kk) hke ?_
          refine xg_aload_n hX 1 dR_moveLeft_16 rfl rfl ?_
          refine xg_iload_n hX 3 dR_moveLeft_17 rfl rfl ?_
          refine xg_cV hX xq [.int (nI i)] (hM := xc_digitAt l D cI xq xp xd xs i (by omega)) (wr := [(tq, .inr (0, [.ref tp, .int (bI false)])), (tp, .inl (cI, 130, .inl (nf (mvI xd b.toInt i))))]) (ws' := fun _ => [(tq, .inr (0, [.ref tp, .int (bI false)])), (tp, .inl (cI, 130, .inl (nf (mvI xd b.toInt i)))), (xq, .inr (0, [.ref xp, .int (bI xs)])), (xp, .inl (cI, 130, .inl (nf xd)))]) (st' := fun _ => [.int (nI (xd i)), .int (nI kk), .ref tq]) [2, 3] [0, 1] [0, 1, 2, 3] [.int (nI kk), .ref tq] rfl mt_144 mt_141 mt_2 mt_142 mt_143 0 rfl rfl hdR_digitAt (by decide) ⟨rfl, rfl⟩ (by decide) rfl rfl (by decide) rfl (by decide) (by decide) (by decide) (fun u => rfl) (fun u => rfl) (fun u => rfl) rfl rfl (by simp [Value.category]) dR_moveLeft_18 (fun _ _ => ?_)
          refine xg_cV hX tq [.int (nI kk), .int (nI (xd i))] (hM := xc_setDigit l D cI tq tp (mvI xd b.toInt i) false kk (xd i) (by omega)) (wr := [(xq, .inr (0, [.ref xp, .int (bI xs)])), (xp, .inl (cI, 130, .inl (nf xd)))]) (ws' := fun _ => [(tq, .inr (0, [.ref tp, .int (bI false)])), (tp, .inl (cI, 130, .inl (nf (up (mvI xd b.toInt i) kk (xd i))))), (xq, .inr (0, [.ref xp, .int (bI xs)])), (xp, .inl (cI, 130, .inl (nf xd)))]) (st' := fun _ => []) [0, 1] [2, 3] [2, 3, 0, 1] [] rfl mt_128 mt_154 mt_2 mt_126 mt_127 0 rfl rfl hdR_setDigit (by decide) ⟨rfl, rfl⟩ (by decide) rfl rfl (by decide) rfl (by decide) (by decide) (by decide) (fun u => rfl) (fun u => rfl) (fun u => rfl) rfl rfl (by simp [Value.category]) dR_moveLeft_21 (fun _ _ => ?_)
          refine xg_iincN hX (lv' := [(3, .int (nI (i + 1))), (0, .ref tq), (1, .ref xq), (2, .int b)]) (i + 1) 3 dR_moveLeft_24 rfl (xn_inc _) (by decide) rfl ?_
          refine xg_goto hX 6 dR_moveLeft_27 (by decide) ?_
          refine xg_ext hX (g := mvI xd b.toInt (i + 1)) (ws' := [(tq, .inr (0, [.ref tp, .int (bI false)])), (tp, .inl (cI, 130, .inl (nf (mvI xd b.toInt (i + 1))))), (xq, .inr (0, [.ref xp, .int (bI xs)])), (xp, .inl (cI, 130, .inl (nf xd)))]) 1 rfl (fun j hj => by first | exact mvI_neg hs j | exact mvI_s hkk j) rfl ?_
          refine xg_lv hX (lv' := [(0, .ref tq), (1, .ref xq), (2, .int b), (3, .int (nI (i + 1)))]) [1, 2, 3, 0] rfl ?_
          exact ih3 (i + 1) (by omega) (by omega)
  refine xg_ext hX (g := mvI xd b.toInt 0) (ws' := [(tq, .inr (0, [.ref tp, .int (bI false)])), (tp, .inl (cI, 130, .inl (nf (mvI xd b.toInt 0)))), (xq, .inr (0, [.ref xp, .int (bI xs)])), (xp, .inl (cI, 130, .inl (nf xd)))]) 1 rfl (fun j hj => mvI_0 j) rfl ?_
  refine xg_lv hX (lv' := [(0, .ref tq), (1, .ref xq), (2, .int b), (3, .int (nI 0))]) [1, 2, 3, 0] rfl ?_
  exact lp1 (31 - 0 + 1) 0 (by omega) (Nat.lt_succ_self _)
end
section
set_option maxHeartbeats 4000000 in
set_option maxRecDepth 100000 in
theorem xc_byteOf (l : Launch) (D : va_G) (cI : ClassId) (dq : Nat) (dm : Nat) (d1 : Nat) (d2 : Nat) (d3 : Nat) (d4 : Nat) (dw : Nat) (den : Bool) (M : Nat → Nat) (x : Int32) : Ctr l D cI yD_byteOf cD_byteOf 2 (some .int) { frames := 0, cells := 0, slots := 0, locals := 0 } [.ref dq, .int x] [(dq, .inr (2, [.ref dm, .ref d1, .ref d2, .ref d3, .ref d4, .ref dw, .int (bI den)])), (dm, .inl (cI, 256, .inl (nf M)))] (fun _ : Unit => some (.int (byt M x))) (fun _ : Unit => True) (fun _ : Unit => [(dq, .inr (2, [.ref dm, .ref d1, .ref d2, .ref d3, .ref d4, .ref dw, .int (bI den)])), (dm, .inl (cI, 256, .inl (nf M)))]) 0 0 := by
  refine xc_mkI (by decide +kernel) (Nat.le_of_ble_eq_true rfl) (fun X hX hret => ?_)
  show GG D X 0 0 0 [(dq, .inr (2, [.ref dm, .ref d1, .ref d2, .ref d3, .ref d4, .ref dw, .int (bI den)])), (dm, .inl (cI, 256, .inl (nf M)))] [(0, .ref dq), (1, .int x)] []
  refine xg_iload_n hX 1 dD_byteOf_0 rfl rfl ?_
  refine xg_if_ltZ hX x.toInt rfl 11 dD_byteOf_1 (by decide) (fun h1 => ?_) (fun h1 => ?_)
  ·
    refine xg_iconst hX ((-1)) dD_byteOf_11 (by decide) ?_
    refine xg_top (byt M x) (by unfold byt; rw [if_neg (by omega)]) ?_
    exact hret () _ _ _ rfl trivial dD_byteOf_12
  ·
    refine xg_iload_n hX 1 dD_byteOf_4 rfl rfl ?_
    refine xg_sipush hX (nI 256) dD_byteOf_5 (by decide) ?_
    refine xg_icmp_ltZ hX x.toInt (256 : Nat) rfl (xn_ti (by omega)) 13 dD_byteOf_8 (by decide) (fun h8 => ?_) (fun h8 => ?_)
    ·
      refine xg_aload_n hX 0 dD_byteOf_13 rfl rfl ?_
      refine xg_get hX (ci := 2) rfl hinD 0 rfl 0 (by decide) mt_68 rfl dD_byteOf_14 ?_
      refine xg_iload_n hX 1 dD_byteOf_17 rfl rfl ?_
      refine xg_top (nI x.toInt.toNat) (xn_self h1) ?_
      refine xg_iald hX 1 x.toInt.toNat rfl (by omega) (by decide) dD_byteOf_18 ?_
      refine xg_top (byt M x) (by unfold byt; rw [if_pos ⟨h1, h8⟩]) ?_
      exact hret () _ _ _ rfl trivial dD_byteOf_19
    ·
      refine xg_iconst hX ((-1)) dD_byteOf_11 (by decide) ?_
      refine xg_top (byt M x) (by unfold byt; rw [if_neg (by omega)]) ?_
      exact hret () _ _ _ rfl trivial dD_byteOf_12
set_option maxHeartbeats 4000000 in
set_option maxRecDepth 100000 in
theorem xc_byteOfN (l : Launch) (D : va_G) (cI : ClassId) (dq : Nat) (dm : Nat) (d1 : Nat) (d2 : Nat) (d3 : Nat) (d4 : Nat) (dw : Nat) (den : Bool) (M : Nat → Nat) (k : Nat) (hk : k < 256) : Ctr l D cI yD_byteOf cD_byteOf 2 (some .int) { frames := 0, cells := 0, slots := 0, locals := 0 } [.ref dq, .int (nI k)] [(dq, .inr (2, [.ref dm, .ref d1, .ref d2, .ref d3, .ref d4, .ref dw, .int (bI den)])), (dm, .inl (cI, 256, .inl (nf M)))] (fun _ : Unit => some (.int (nI (M k)))) (fun _ : Unit => True) (fun _ : Unit => [(dq, .inr (2, [.ref dm, .ref d1, .ref d2, .ref d3, .ref d4, .ref dw, .int (bI den)])), (dm, .inl (cI, 256, .inl (nf M)))]) 0 0 := by
  refine xc_mkI (by decide +kernel) (Nat.le_of_ble_eq_true rfl) (fun X hX hret => ?_)
  show GG D X 0 0 0 [(dq, .inr (2, [.ref dm, .ref d1, .ref d2, .ref d3, .ref d4, .ref dw, .int (bI den)])), (dm, .inl (cI, 256, .inl (nf M)))] [(0, .ref dq), (1, .int (nI k))] []
  refine xg_iload_n hX 1 dD_byteOf_0 rfl rfl ?_
  refine xg_if_ltN hX 11 (by omega) dD_byteOf_1 (by decide) ?_
  refine xg_iload_n hX 1 dD_byteOf_4 rfl rfl ?_
  refine xg_sipush hX (nI 256) dD_byteOf_5 (by decide) ?_
  refine xg_icmp_ltN hX 13 (by omega) (by omega) dD_byteOf_8 (by decide) (fun h2 => ?_) (fun h2 => absurd h2 (by omega))
  refine xg_aload_n hX 0 dD_byteOf_13 rfl rfl ?_
  refine xg_get hX (ci := 2) rfl hinD 0 rfl 0 (by decide) mt_68 rfl dD_byteOf_14 ?_
  refine xg_iload_n hX 1 dD_byteOf_17 rfl rfl ?_
  refine xg_iald hX 1 k rfl (by omega) (by decide) dD_byteOf_18 ?_
  exact hret () _ _ _ rfl trivial dD_byteOf_19
set_option maxHeartbeats 4000000 in
set_option maxRecDepth 100000 in
theorem xc_put (l : Launch) (D : va_G) (cI : ClassId) (dq : Nat) (dm : Nat) (d1 : Nat) (d2 : Nat) (d3 : Nat) (d4 : Nat) (dw : Nat) (den : Bool) (M : Nat → Nat) (x : Int32) (b : Int32) : Ctr l D cI yD_put cD_put 3 (some .boolean) { frames := 0, cells := 0, slots := 0, locals := 0 } [.ref dq, .int x, .int b] [(dq, .inr (2, [.ref dm, .ref d1, .ref d2, .ref d3, .ref d4, .ref dw, .int (bI den)])), (dm, .inl (cI, 256, .inl (nf M)))] (fun _ : Unit => some (.int (bI (inM x)))) (fun _ : Unit => True) (fun _ : Unit => [(dq, .inr (2, [.ref dm, .ref d1, .ref d2, .ref d3, .ref d4, .ref dw, .int (bI den)])), (dm, .inl (cI, 256, .inl (nf (putM M x b))))]) 0 0 := by
  refine xc_mkZ (by decide +kernel) (Nat.le_of_ble_eq_true rfl) (fun X hX hret => ?_)
  show GG D X 0 0 0 [(dq, .inr (2, [.ref dm, .ref d1, .ref d2, .ref d3, .ref d4, .ref dw, .int (bI den)])), (dm, .inl (cI, 256, .inl (nf M)))] [(0, .ref dq), (1, .int x), (2, .int b)] []
  refine xg_iload_n hX 1 dD_put_0 rfl rfl ?_
  refine xg_if_ltZ hX x.toInt rfl 11 dD_put_1 (by decide) (fun h1 => ?_) (fun h1 => ?_)
  ·
    refine xg_iconst hX (nI 0) dD_put_11 (by decide) ?_
    refine xg_ext hX (g := putM M x b) (ws' := [(dq, .inr (2, [.ref dm, .ref d1, .ref d2, .ref d3, .ref d4, .ref dw, .int (bI den)])), (dm, .inl (cI, 256, .inl (nf (putM M x b))))]) 1 rfl (fun j hj => by unfold putM; rw [if_neg (by omega)]) rfl ?_
    refine xg_top (bI (inM x)) (by unfold inM; rw [decide_eq_false (by omega)] <;> rfl) ?_
    exact hret () _ _ _ rfl (xn_narB _) trivial dD_put_12
  ·
    refine xg_iload_n hX 1 dD_put_4 rfl rfl ?_
    refine xg_sipush hX (nI 256) dD_put_5 (by decide) ?_
    refine xg_icmp_ltZ hX x.toInt (256 : Nat) rfl (xn_ti (by omega)) 13 dD_put_8 (by decide) (fun h8 => ?_) (fun h8 => ?_)
    ·
      refine xg_aload_n hX 0 dD_put_13 rfl rfl ?_
      refine xg_get hX (ci := 2) rfl hinD 0 rfl 0 (by decide) mt_68 rfl dD_put_14 ?_
      refine xg_iload_n hX 1 dD_put_17 rfl rfl ?_
      refine xg_top (nI x.toInt.toNat) (xn_self h1) ?_
      refine xg_iload_n hX 2 dD_put_18 rfl rfl ?_
      refine xg_sipush hX (nI 255) dD_put_19 (by decide) ?_
      refine xg_iand hX dD_put_22 ?_
      refine xg_top (nI (lo8 b)) (xn_lo8 b) ?_
      refine xg_iast hX (ws' := [(dq, .inr (2, [.ref dm, .ref d1, .ref d2, .ref d3, .ref d4, .ref dw, .int (bI den)])), (dm, .inl (cI, 256, .inl (nf (up M x.toInt.toNat (lo8 b)))))]) 1 x.toInt.toNat (lo8 b) rfl (by omega) (by decide) rfl dD_put_23 ?_
      refine xg_iconst hX (nI 1) dD_put_24 (by decide) ?_
      refine xg_ext hX (g := putM M x b) (ws' := [(dq, .inr (2, [.ref dm, .ref d1, .ref d2, .ref d3, .ref d4, .ref dw, .int (bI den)])), (dm, .inl (cI, 256, .inl (nf (putM M x b))))]) 1 rfl (fun j hj => by unfold putM; rw [if_pos ⟨h1, h8⟩]) rfl ?_
      refine xg_top (bI (inM x)) (by unfold inM; rw [decide_eq_true (by omega)] <;> rfl) ?_
      exact hret () _ _ _ rfl (xn_narB _) trivial dD_put_25
    ·
      refine xg_iconst hX (nI 0) dD_put_11 (by decide) ?_
      refine xg_ext hX (g := putM M x b) (ws' := [(dq, .inr (2, [.ref dm, .ref d1, .ref d2, .ref d3, .ref d4, .ref dw, .int (bI den)])), (dm, .inl (cI, 256, .inl (nf (putM M x b))))]) 1 rfl (fun j hj => by unfold putM; rw [if_neg (by omega)]) rfl ?_
      refine xg_top (bI (inM x)) (by unfold inM; rw [decide_eq_false (by omega)] <;> rfl) ?_
      exact hret () _ _ _ rfl (xn_narB _) trivial dD_put_12
set_option maxHeartbeats 4000000 in
set_option maxRecDepth 100000 in
theorem xc_putN (l : Launch) (D : va_G) (cI : ClassId) (dq : Nat) (dm : Nat) (d1 : Nat) (d2 : Nat) (d3 : Nat) (d4 : Nat) (dw : Nat) (den : Bool) (M : Nat → Nat) (k : Nat) (v : Nat) (hk : k < 256) (hv : v < 256) : Ctr l D cI yD_put cD_put 3 (some .boolean) { frames := 0, cells := 0, slots := 0, locals := 0 } [.ref dq, .int (nI k), .int (nI v)] [(dq, .inr (2, [.ref dm, .ref d1, .ref d2, .ref d3, .ref d4, .ref dw, .int (bI den)])), (dm, .inl (cI, 256, .inl (nf M)))] (fun _ : Unit => some (.int (bI true))) (fun _ : Unit => True) (fun _ : Unit => [(dq, .inr (2, [.ref dm, .ref d1, .ref d2, .ref d3, .ref d4, .ref dw, .int (bI den)])), (dm, .inl (cI, 256, .inl (nf (up M k v))))]) 0 0 := by
  refine xc_mkZ (by decide +kernel) (Nat.le_of_ble_eq_true rfl) (fun X hX hret => ?_)
  show GG D X 0 0 0 [(dq, .inr (2, [.ref dm, .ref d1, .ref d2, .ref d3, .ref d4, .ref dw, .int (bI den)])), (dm, .inl (cI, 256, .inl (nf M)))] [(0, .ref dq), (1, .int (nI k)), (2, .int (nI v))] []
  refine xg_iload_n hX 1 dD_put_0 rfl rfl ?_
  refine xg_if_ltN hX 11 (by omega) dD_put_1 (by decide) ?_
  refine xg_iload_n hX 1 dD_put_4 rfl rfl ?_
  refine xg_sipush hX (nI 256) dD_put_5 (by decide) ?_
  refine xg_icmp_ltN hX 13 (by omega) (by omega) dD_put_8 (by decide) (fun h2 => ?_) (fun h2 => absurd h2 (by omega))
  refine xg_aload_n hX 0 dD_put_13 rfl rfl ?_
  refine xg_get hX (ci := 2) rfl hinD 0 rfl 0 (by decide) mt_68 rfl dD_put_14 ?_
  refine xg_iload_n hX 1 dD_put_17 rfl rfl ?_
  refine xg_iload_n hX 2 dD_put_18 rfl rfl ?_
  refine xg_sipush hX (nI 255) dD_put_19 (by decide) ?_
  refine xg_iand hX dD_put_22 ?_
  refine xg_top (nI v) (xn_and255 hv) ?_
  refine xg_iast hX (ws' := [(dq, .inr (2, [.ref dm, .ref d1, .ref d2, .ref d3, .ref d4, .ref dw, .int (bI den)])), (dm, .inl (cI, 256, .inl (nf (up M k v))))]) 1 k v rfl (by omega) (by decide) rfl dD_put_23 ?_
  refine xg_iconst hX (nI 1) dD_put_24 (by decide) ?_
  refine xg_top (bI true) rfl ?_
  exact hret () _ _ _ rfl (xn_narB _) trivial dD_put_25
set_option maxHeartbeats 4000000 in
set_option maxRecDepth 100000 in
theorem xc_dfits (l : Launch) (D : va_G) (cI : ClassId) (n : Int32) (a : Int32) : Ctr l D cI yD_decimalFits cD_decimalFits 2 (some .boolean) { frames := 0, cells := 0, slots := 0, locals := 0 } [.int n, .int a] [] (fun _ : Unit => some (.int (bI (dfits n a)))) (fun _ : Unit => True) (fun _ : Unit => []) 0 0 := by
  refine xc_mkZ (by decide +kernel) (Nat.le_of_ble_eq_true rfl) (fun X hX hret => ?_)
  show GG D X 0 0 0 [] [(0, .int n), (1, .int a)] []
  refine xg_iload_n hX 0 dD_decimalFits_0 rfl rfl ?_
  refine xg_if_ltZ hX n.toInt rfl 29 dD_decimalFits_1 (by decide) (fun h1 => ?_) (fun h1 => ?_)
  ·
    refine xg_iconst hX (nI 0) dD_decimalFits_29 (by decide) ?_
    refine xg_top (bI (dfits n a)) (by unfold dfits; first | (rw [decide_eq_true (by omega)] <;> rfl) | (rw [decide_eq_false (by omega)] <;> rfl)) ?_
    exact hret () _ _ _ rfl (xn_narB _) trivial dD_decimalFits_30
  ·
    refine xg_iload_n hX 0 dD_decimalFits_4 rfl rfl ?_
    refine xg_bipush hX (nI 31) dD_decimalFits_5 (by decide) ?_
    refine xg_icmp_gtZ hX n.toInt (31 : Nat) rfl (xn_ti (by omega)) 29 dD_decimalFits_7 (by decide) (fun h7 => ?_) (fun h7 => ?_)
    ·
      refine xg_iconst hX (nI 0) dD_decimalFits_29 (by decide) ?_
      refine xg_top (bI (dfits n a)) (by unfold dfits; first | (rw [decide_eq_true (by omega)] <;> rfl) | (rw [decide_eq_false (by omega)] <;> rfl)) ?_
      exact hret () _ _ _ rfl (xn_narB _) trivial dD_decimalFits_30
    ·
      refine xg_iload_n hX 1 dD_decimalFits_10 rfl rfl ?_
      refine xg_if_ltZ hX a.toInt rfl 29 dD_decimalFits_11 (by decide) (fun h11 => ?_) (fun h11 => ?_)
      ·
        refine xg_iconst hX (nI 0) dD_decimalFits_29 (by decide) ?_
        refine xg_top (bI (dfits n a)) (by unfold dfits; first | (rw [decide_eq_true (by omega)] <;> rfl) | (rw [decide_eq_false (by omega)] <;> rfl)) ?_
        exact hret () _ _ _ rfl (xn_narB _) trivial dD_decimalFits_30
      ·
        refine xg_iload_n hX 1 dD_decimalFits_14 rfl rfl ?_
        refine xg_sipush hX (nI 256) dD_decimalFits_15 (by decide) ?_
        refine xg_iload_n hX 0 dD_decimalFits_18 rfl rfl ?_
        refine xg_top (nI n.toInt.toNat) (xn_self h1) ?_
        refine xg_iconst hX (nI 2) dD_decimalFits_19 (by decide) ?_
        refine xg_idivN hX (by omega) (by omega) (by omega) dD_decimalFits_20 ?_
        refine xg_isubN hX (by omega) dD_decimalFits_21 ?_
        refine xg_icmp_geZ hX a.toInt (256 - (n.toInt.toNat / 2) : Nat) rfl (xn_ti (by omega)) 29 dD_decimalFits_22 (by decide) (fun h22 => ?_) (fun h22 => ?_)
        ·
          refine xg_iconst hX (nI 0) dD_decimalFits_29 (by decide) ?_
          refine xg_top (bI (dfits n a)) (by unfold dfits; first | (rw [decide_eq_true (by omega)] <;> rfl) | (rw [decide_eq_false (by omega)] <;> rfl)) ?_
          exact hret () _ _ _ rfl (xn_narB _) trivial dD_decimalFits_30
        ·
          refine xg_iconst hX (nI 1) dD_decimalFits_25 (by decide) ?_
          refine xg_goto hX 30 dD_decimalFits_26 (by decide) ?_
          refine xg_top (bI (dfits n a)) (by unfold dfits; first | (rw [decide_eq_true (by omega)] <;> rfl) | (rw [decide_eq_false (by omega)] <;> rfl)) ?_
          exact hret () _ _ _ rfl (xn_narB _) trivial dD_decimalFits_30
set_option maxHeartbeats 4000000 in
set_option maxRecDepth 100000 in
theorem xc_cfits (l : Launch) (D : va_G) (cI : ClassId) (n : Int32) (a : Int32) : Ctr l D cI yD_charactersFit cD_charactersFit 2 (some .boolean) { frames := 0, cells := 0, slots := 0, locals := 0 } [.int n, .int a] [] (fun _ : Unit => some (.int (bI (cfits n a)))) (fun _ : Unit => True) (fun _ : Unit => []) 0 0 := by
  refine xc_mkZ (by decide +kernel) (Nat.le_of_ble_eq_true rfl) (fun X hX hret => ?_)
  show GG D X 0 0 0 [] [(0, .int n), (1, .int a)] []
  refine xg_iload_n hX 0 dD_charactersFit_0 rfl rfl ?_
  refine xg_if_ltZ hX n.toInt rfl 27 dD_charactersFit_1 (by decide) (fun h1 => ?_) (fun h1 => ?_)
  ·
    refine xg_iconst hX (nI 0) dD_charactersFit_27 (by decide) ?_
    refine xg_top (bI (cfits n a)) (by unfold cfits; first | (rw [decide_eq_true (by omega)] <;> rfl) | (rw [decide_eq_false (by omega)] <;> rfl)) ?_
    exact hret () _ _ _ rfl (xn_narB _) trivial dD_charactersFit_28
  ·
    refine xg_iload_n hX 0 dD_charactersFit_4 rfl rfl ?_
    refine xg_bipush hX (nI 31) dD_charactersFit_5 (by decide) ?_
    refine xg_icmp_gtZ hX n.toInt (31 : Nat) rfl (xn_ti (by omega)) 27 dD_charactersFit_7 (by decide) (fun h7 => ?_) (fun h7 => ?_)
    ·
      refine xg_iconst hX (nI 0) dD_charactersFit_27 (by decide) ?_
      refine xg_top (bI (cfits n a)) (by unfold cfits; first | (rw [decide_eq_true (by omega)] <;> rfl) | (rw [decide_eq_false (by omega)] <;> rfl)) ?_
      exact hret () _ _ _ rfl (xn_narB _) trivial dD_charactersFit_28
    ·
      refine xg_iload_n hX 1 dD_charactersFit_10 rfl rfl ?_
      refine xg_if_ltZ hX a.toInt rfl 27 dD_charactersFit_11 (by decide) (fun h11 => ?_) (fun h11 => ?_)
      ·
        refine xg_iconst hX (nI 0) dD_charactersFit_27 (by decide) ?_
        refine xg_top (bI (cfits n a)) (by unfold cfits; first | (rw [decide_eq_true (by omega)] <;> rfl) | (rw [decide_eq_false (by omega)] <;> rfl)) ?_
        exact hret () _ _ _ rfl (xn_narB _) trivial dD_charactersFit_28
      ·
        refine xg_iload_n hX 1 dD_charactersFit_14 rfl rfl ?_
        refine xg_sipush hX (nI 256) dD_charactersFit_15 (by decide) ?_
        refine xg_iload_n hX 0 dD_charactersFit_18 rfl rfl ?_
        refine xg_top (nI n.toInt.toNat) (xn_self h1) ?_
        refine xg_isubN hX (by omega) dD_charactersFit_19 ?_
        refine xg_icmp_geZ hX a.toInt (256 - n.toInt.toNat : Nat) rfl (xn_ti (by omega)) 27 dD_charactersFit_20 (by decide) (fun h20 => ?_) (fun h20 => ?_)
        ·
          refine xg_iconst hX (nI 0) dD_charactersFit_27 (by decide) ?_
          refine xg_top (bI (cfits n a)) (by unfold cfits; first | (rw [decide_eq_true (by omega)] <;> rfl) | (rw [decide_eq_false (by omega)] <;> rfl)) ?_
          exact hret () _ _ _ rfl (xn_narB _) trivial dD_charactersFit_28
        ·
          refine xg_iconst hX (nI 1) dD_charactersFit_23 (by decide) ?_
          refine xg_goto hX 28 dD_charactersFit_24 (by decide) ?_
          refine xg_top (bI (cfits n a)) (by unfold cfits; first | (rw [decide_eq_true (by omega)] <;> rfl) | (rw [decide_eq_false (by omega)] <;> rfl)) ?_
          exact hret () _ _ _ rfl (xn_narB _) trivial dD_charactersFit_28
set_option maxHeartbeats 4000000 in
set_option maxRecDepth 100000 in
theorem xc_half (l : Launch) (D : va_G) (cI : ClassId) (dq : Nat) (dm : Nat) (d1 : Nat) (d2 : Nat) (d3 : Nat) (d4 : Nat) (dw : Nat) (den : Bool) (M : Nat → Nat) (n : Nat) (a : Nat) (h : Nat) (hn : n ≤ 31) (ha : a + n / 2 < 256) (hh : h ≤ n) (hM : ∀ j, M j < 256) : Ctr l D cI yD_halfFromEnd cD_halfFromEnd 5 (some .int) { frames := 1, cells := 0, slots := 0, locals := 21 } [.ref dq, .int (nI n), .int (nI a), .int (nI h)] [(dq, .inr (2, [.ref dm, .ref d1, .ref d2, .ref d3, .ref d4, .ref dw, .int (bI den)])), (dm, .inl (cI, 256, .inl (nf M)))] (fun _ : Unit => some (.int (nI (hfE M n a h)))) (fun _ : Unit => True) (fun _ : Unit => [(dq, .inr (2, [.ref dm, .ref d1, .ref d2, .ref d3, .ref d4, .ref dw, .int (bI den)])), (dm, .inl (cI, 256, .inl (nf M)))]) 0 0 := by
  refine xc_mkI (by decide +kernel) (Nat.le_of_ble_eq_true rfl) (fun X hX hret => ?_)
  show GG D X 0 0 0 [(dq, .inr (2, [.ref dm, .ref d1, .ref d2, .ref d3, .ref d4, .ref dw, .int (bI den)])), (dm, .inl (cI, 256, .inl (nf M)))] [(0, .ref dq), (1, .int (nI n)), (2, .int (nI a)), (3, .int (nI h))] []
  refine xg_aload_n hX 0 dD_halfFromEnd_0 rfl rfl ?_
  refine xg_iload_n hX 2 dD_halfFromEnd_1 rfl rfl ?_
  refine xg_iload_n hX 1 dD_halfFromEnd_2 rfl rfl ?_
  refine xg_iconst hX (nI 2) dD_halfFromEnd_3 (by decide) ?_
  refine xg_idivN hX (by omega) (by omega) (by omega) dD_halfFromEnd_4 ?_
  refine xg_iaddN hX dD_halfFromEnd_5 ?_
  refine xg_iload_n hX 3 dD_halfFromEnd_6 rfl rfl ?_
  refine xg_iconst hX (nI 2) dD_halfFromEnd_7 (by decide) ?_
  refine xg_idivN hX (by omega) (by omega) (by omega) dD_halfFromEnd_8 ?_
  refine xg_isubN hX (by omega) dD_halfFromEnd_9 ?_
  refine xg_cV hX dq [.int (nI ((a + (n / 2)) - (h / 2)))] (hM := xc_byteOfN l D cI dq dm d1 d2 d3 d4 dw den M ((a + (n / 2)) - (h / 2)) (by omega)) (wr := []) (ws' := fun _ => [(dq, .inr (2, [.ref dm, .ref d1, .ref d2, .ref d3, .ref d4, .ref dw, .int (bI den)])), (dm, .inl (cI, 256, .inl (nf M)))]) (st' := fun _ => [.int (nI (M ((a + (n / 2)) - (h / 2))))]) [0, 1] [] [0, 1] [] rfl mt_97 mt_117 mt_1 mt_95 mt_96 0 rfl rfl hdD_byteOf (by decide) ⟨rfl, rfl⟩ (by decide) rfl rfl (by decide) rfl (by decide) (by decide) (by decide) (fun u => rfl) (fun u => rfl) (fun u => rfl) rfl rfl (by simp [Value.category]) dD_halfFromEnd_10 (fun _ _ => ?_)
  have e1 := hM ((a + (n / 2)) - (h / 2))
  refine xg_istore hX (lv' := [(4, .int (nI (M ((a + (n / 2)) - (h / 2))))), (0, .ref dq), (1, .int (nI n)), (2, .int (nI a)), (3, .int (nI h))]) dD_halfFromEnd_13 (by decide) rfl ?_
  refine xg_iload_n hX 4 dD_halfFromEnd_15 rfl rfl ?_
  refine xg_iconst hX (nI 2) dD_halfFromEnd_16 (by decide) ?_
  refine xg_iremN hX (by omega) (by omega) (by omega) dD_halfFromEnd_17 ?_
  refine xg_if_neN hX 29 (by omega) dD_halfFromEnd_18 (by decide) (fun h18 => ?_) (fun h18 => ?_)
  ·
    refine xg_iload hX 0 dD_halfFromEnd_29 rfl ?_
    refine xg_iconst hX (nI 4) dD_halfFromEnd_31 (by decide) ?_
    refine xg_ishr hX dD_halfFromEnd_32 ?_
    refine xg_top (nI (M ((a + (n / 2)) - (h / 2)) / 16)) (xn_shr4 e1) ?_
    refine xg_bipush hX (nI 15) dD_halfFromEnd_33 (by decide) ?_
    refine xg_iand hX dD_halfFromEnd_35 ?_
    refine xg_top (nI (M ((a + (n / 2)) - (h / 2)) / 16 % 16)) (xn_and15 (by omega)) ?_
    refine xg_top (nI (hfE M n a h)) (by unfold hfE; first | (rw [if_pos h18]; done) | (rw [if_neg (by omega)]; done)) ?_
    exact hret () _ _ _ rfl trivial dD_halfFromEnd_36
  ·
    refine xg_iload hX 0 dD_halfFromEnd_21 rfl ?_
    refine xg_bipush hX (nI 15) dD_halfFromEnd_23 (by decide) ?_
    refine xg_iand hX dD_halfFromEnd_25 ?_
    refine xg_top (nI (M ((a + (n / 2)) - (h / 2)) % 16)) (xn_and15 e1) ?_
    refine xg_goto hX 36 dD_halfFromEnd_26 (by decide) ?_
    refine xg_top (nI (hfE M n a h)) (by unfold hfE; first | (rw [if_pos h18]; done) | (rw [if_neg (by omega)]; done)) ?_
    exact hret () _ _ _ rfl trivial dD_halfFromEnd_36
set_option maxHeartbeats 4000000 in
set_option maxRecDepth 100000 in
theorem xc_readDecimal (l : Launch) (D : va_G) (cI : ClassId) (dq : Nat) (dm : Nat) (d1 : Nat) (d2 : Nat) (d3 : Nat) (d4 : Nat) (dw : Nat) (den : Bool) (M : Nat → Nat) (tq : Nat) (tp : Nat) (td : Nat → Nat) (ts : Bool) (n : Nat) (a : Nat) (hn : n ≤ 31) (ha : a + n / 2 < 256) (hM : ∀ j, M j < 256) : Ctr l D cI yD_readDecimal cD_readDecimal 7 (some .boolean) { frames := 4, cells := 0, slots := 0, locals := 85 } [.ref dq, .ref tq, .int (nI n), .int (nI a)] [(dq, .inr (2, [.ref dm, .ref d1, .ref d2, .ref d3, .ref d4, .ref dw, .int (bI den)])), (dm, .inl (cI, 256, .inl (nf M))), (tq, .inr (0, [.ref tp, .int (bI ts)])), (tp, .inl (cI, 130, .inl (nf td)))] (fun u : Bool × (Nat → Nat) × Bool => match u with | (ok, td2, ts2) => some (.int (bI ok))) (fun u : Bool × (Nat → Nat) × Bool => match u with | (ok, td2, ts2) => ok = rdb M n a ∧ (ok = true → td2 = rdD M n a ∧ ts2 = rdS M n a)) (fun u : Bool × (Nat → Nat) × Bool => match u with | (ok, td2, ts2) => [(dq, .inr (2, [.ref dm, .ref d1, .ref d2, .ref d3, .ref d4, .ref dw, .int (bI den)])), (dm, .inl (cI, 256, .inl (nf M))), (tq, .inr (0, [.ref tp, .int (bI ts2)])), (tp, .inl (cI, 130, .inl (nf td2)))]) 0 0 := by
  refine xc_mkZ (by decide +kernel) (Nat.le_of_ble_eq_true rfl) (fun X hX hret => ?_)
  show GG D X 0 0 0 [(dq, .inr (2, [.ref dm, .ref d1, .ref d2, .ref d3, .ref d4, .ref dw, .int (bI den)])), (dm, .inl (cI, 256, .inl (nf M))), (tq, .inr (0, [.ref tp, .int (bI ts)])), (tp, .inl (cI, 130, .inl (nf td)))] [(0, .ref dq), (1, .ref tq), (2, .int (nI n)), (3, .int (nI a))] []
  refine xg_aload_n hX 0 dD_readDecimal_0 rfl rfl ?_
  refine xg_iload_n hX 2 dD_readDecimal_1 rfl rfl ?_
  refine xg_iload_n hX 3 dD_readDecimal_2 rfl rfl ?_
  refine xg_iconst hX (nI 0) dD_readDecimal_3 (by decide) ?_
  refine xg_cV hX dq [.int (nI n), .int (nI a), .int (nI 0)] (hM := xc_half l D cI dq dm d1 d2 d3 d4 dw den M n a 0 (by omega) (by omega) (by omega) hM) (wr := [(tq, .inr (0, [.ref tp, .int (bI ts)])), (tp, .inl (cI, 130, .inl (nf td)))]) (ws' := fun _ => [(dq, .inr (2, [.ref dm, .ref d1, .ref d2, .ref d3, .ref d4, .ref dw, .int (bI den)])), (dm, .inl (cI, 256, .inl (nf M))), (tq, .inr (0, [.ref tp, .int (bI ts)])), (tp, .inl (cI, 130, .inl (nf td)))]) (st' := fun _ => [.int (nI (hfE M n a 0))]) [0, 1] [2, 3] [2, 3, 0, 1] [] rfl mt_116 mt_113 mt_1 mt_115 mp_2 0 rfl rfl hdD_halfFromEnd (by decide) ⟨rfl, rfl⟩ (by decide) rfl rfl (by decide) rfl (by decide) (by decide) (by decide) (fun u => rfl) (fun u => rfl) (fun u => rfl) rfl rfl (by simp [Value.category]) dD_readDecimal_4 (fun _ _ => ?_)
  have e0 := hfE_lt M n a 0
  refine xg_istore hX (lv' := [(4, .int (nI (hfE M n a 0))), (0, .ref dq), (1, .ref tq), (2, .int (nI n)), (3, .int (nI a))]) dD_readDecimal_7 (by decide) rfl ?_
  refine xg_iload hX 0 dD_readDecimal_9 rfl ?_
  refine xg_bipush hX (nI 10) dD_readDecimal_11 (by decide) ?_
  refine xg_icmp_geN hX 18 (by omega) (by omega) dD_readDecimal_13 (by decide) (fun h13 => ?_) (fun h13 => ?_)
  ·
    refine xg_aload_n hX 2 dD_readDecimal_18 rfl rfl ?_
    refine xg_cV hX tq [] (hM := xc_clear l D cI tq tp td ts) (wr := [(dq, .inr (2, [.ref dm, .ref d1, .ref d2, .ref d3, .ref d4, .ref dw, .int (bI den)])), (dm, .inl (cI, 256, .inl (nf M)))]) (ws' := fun _ => [(dq, .inr (2, [.ref dm, .ref d1, .ref d2, .ref d3, .ref d4, .ref dw, .int (bI den)])), (dm, .inl (cI, 256, .inl (nf M))), (tq, .inr (0, [.ref tp, .int (bI false)])), (tp, .inl (cI, 130, .inl (nf zf)))]) (st' := fun _ => []) [2, 3] [0, 1] [0, 1, 2, 3] [] rfl mt_121 mt_118 mt_2 mt_119 mt_120 0 rfl rfl hdR_clear (by decide) ⟨rfl, rfl⟩ (by decide) rfl rfl (by decide) rfl (by decide) (by decide) (by decide) (fun u => rfl) (fun u => rfl) (fun u => rfl) rfl rfl (by simp [Value.category]) dD_readDecimal_19 (fun _ _ => ?_)
    refine xg_iconst hX (nI 0) dD_readDecimal_22 (by decide) ?_
    refine xg_istore hX (lv' := [(5, .int (nI 0)), (4, .int (nI (hfE M n a 0))), (0, .ref dq), (1, .ref tq), (2, .int (nI n)), (3, .int (nI a))]) dD_readDecimal_23 (by decide) rfl ?_
    have lp1 : ∀ (fu2 : Nat) (i : Nat), (i ≤ n) → (∀ k, k < i → hfE M n a (k + 1) ≤ 9) → n - i < fu2 → GG D X 0 0 25 [(dq, .inr (2, [.ref dm, .ref d1, .ref d2, .ref d3, .ref d4, .ref dw, .int (bI den)])), (dm, .inl (cI, 256, .inl (nf M))), (tq, .inr (0, [.ref tp, .int (bI false)])), (tp, .inl (cI, 130, .inl (nf (mix i (rdD M n a) zf))))] [(0, .ref dq), (1, .ref tq), (2, .int (nI n)), (3, .int (nI a)), (4, .int (nI (hfE M n a 0))), (5, .int (nI i))] [] := by
      intro fu2
      induction fu2 with
      | zero => intro i hi hz hm4; exact absurd hm4 (Nat.not_lt_zero _)
      | succ fu2 ih3 =>
        intro i hi hz hm4
        refine xg_iload hX 5 dD_readDecimal_25 rfl ?_
        refine xg_iload_n hX 2 dD_readDecimal_27 rfl rfl ?_
        refine xg_icmp_geN hX 66 (by omega) (by omega) dD_readDecimal_28 (by decide) (fun h28 => ?_) (fun h28 => ?_)
        ·
          have hie : i = n := by omega
          rw [hie] at hz
          refine xg_ext hX (g := rdD M n a) (ws' := [(dq, .inr (2, [.ref dm, .ref d1, .ref d2, .ref d3, .ref d4, .ref dw, .int (bI den)])), (dm, .inl (cI, 256, .inl (nf M))), (tq, .inr (0, [.ref tp, .int (bI false)])), (tp, .inl (cI, 130, .inl (nf (rdD M n a))))]) 3 rfl (fun j hj => by rw [hie]; exact rdD_fin j) rfl ?_
          refine xg_aload_n hX 1 dD_readDecimal_66 rfl rfl ?_
          refine xg_iload hX 4 dD_readDecimal_67 rfl ?_
          refine xg_bipush hX (nI 13) dD_readDecimal_69 (by decide) ?_
          refine xg_icmp_eqN hX 81 (by omega) (by omega) dD_readDecimal_71 (by decide) (fun h71 => ?_) (fun h71 => ?_)
          ·
            refine xg_iconst hX (nI 1) dD_readDecimal_81 (by decide) ?_
            refine xg_goto hX 86 dD_readDecimal_82 (by decide) ?_
            refine xg_cV hX tq [.int (bI true)] (hM := xc_setSign l D cI tq tp (rdD M n a) false true (rdD_lt hz)) (wr := [(dq, .inr (2, [.ref dm, .ref d1, .ref d2, .ref d3, .ref d4, .ref dw, .int (bI den)])), (dm, .inl (cI, 256, .inl (nf M)))]) (ws' := fun _ => [(dq, .inr (2, [.ref dm, .ref d1, .ref d2, .ref d3, .ref d4, .ref dw, .int (bI den)])), (dm, .inl (cI, 256, .inl (nf M))), (tq, .inr (0, [.ref tp, .int (bI (true && hasD (rdD M n a) 0 130))])), (tp, .inl (cI, 130, .inl (nf (rdD M n a))))]) (st' := fun _ => []) [2, 3] [0, 1] [0, 1, 2, 3] [] (by simp [bI_nI]) mt_132 mt_129 mt_2 mt_130 mt_131 0 rfl rfl hdR_setSign (by decide) ⟨rfl, rfl⟩ (by decide) rfl rfl (by decide) rfl (by decide) (by decide) (by decide) (fun u => rfl) (fun u => rfl) (fun u => rfl) rfl rfl (by simp [Value.category]) dD_readDecimal_86 (fun _ _ => ?_)
            refine xg_iconst hX (nI 1) dD_readDecimal_89 (by decide) ?_
            refine xg_top (bI true) rfl ?_
            exact hret (true, rdD M n a, true && hasD (rdD M n a) 0 130) _ _ _ rfl (xn_narB _) (show true = rdb M n a ∧ (true = true → (rdD M n a) = rdD M n a ∧ (true && hasD (rdD M n a) 0 130) = rdS M n a) from ⟨(rdb_iff.mpr ⟨h13, hz⟩).symm, fun _ => ⟨rfl, by unfold rdS; first | (rw [decide_eq_true (by omega)]; done) | (rw [decide_eq_false (by omega)]; done)⟩⟩) dD_readDecimal_90
          ·
            refine xg_iload hX 4 dD_readDecimal_74 rfl ?_
            refine xg_bipush hX (nI 11) dD_readDecimal_76 (by decide) ?_
            refine xg_icmp_neN hX 85 (by omega) (by omega) dD_readDecimal_78 (by decide) (fun h78 => ?_) (fun h78 => ?_)
            ·
              refine xg_iconst hX (nI 0) dD_readDecimal_85 (by decide) ?_
              refine xg_cV hX tq [.int (bI false)] (hM := xc_setSign l D cI tq tp (rdD M n a) false false (rdD_lt hz)) (wr := [(dq, .inr (2, [.ref dm, .ref d1, .ref d2, .ref d3, .ref d4, .ref dw, .int (bI den)])), (dm, .inl (cI, 256, .inl (nf M)))]) (ws' := fun _ => [(dq, .inr (2, [.ref dm, .ref d1, .ref d2, .ref d3, .ref d4, .ref dw, .int (bI den)])), (dm, .inl (cI, 256, .inl (nf M))), (tq, .inr (0, [.ref tp, .int (bI (false && hasD (rdD M n a) 0 130))])), (tp, .inl (cI, 130, .inl (nf (rdD M n a))))]) (st' := fun _ => []) [2, 3] [0, 1] [0, 1, 2, 3] [] (by simp [bI_nI]) mt_132 mt_129 mt_2 mt_130 mt_131 0 rfl rfl hdR_setSign (by decide) ⟨rfl, rfl⟩ (by decide) rfl rfl (by decide) rfl (by decide) (by decide) (by decide) (fun u => rfl) (fun u => rfl) (fun u => rfl) rfl rfl (by simp [Value.category]) dD_readDecimal_86 (fun _ _ => ?_)
              refine xg_iconst hX (nI 1) dD_readDecimal_89 (by decide) ?_
              refine xg_top (bI true) rfl ?_
              exact hret (true, rdD M n a, false && hasD (rdD M n a) 0 130) _ _ _ rfl (xn_narB _) (show true = rdb M n a ∧ (true = true → (rdD M n a) = rdD M n a ∧ (false && hasD (rdD M n a) 0 130) = rdS M n a) from ⟨(rdb_iff.mpr ⟨h13, hz⟩).symm, fun _ => ⟨rfl, by unfold rdS; first | (rw [decide_eq_true (by omega)]; done) | (rw [decide_eq_false (by omega)]; done)⟩⟩) dD_readDecimal_90
            ·
              refine xg_iconst hX (nI 1) dD_readDecimal_81 (by decide) ?_
              refine xg_goto hX 86 dD_readDecimal_82 (by decide) ?_
              refine xg_cV hX tq [.int (bI true)] (hM := xc_setSign l D cI tq tp (rdD M n a) false true (rdD_lt hz)) (wr := [(dq, .inr (2, [.ref dm, .ref d1, .ref d2, .ref d3, .ref d4, .ref dw, .int (bI den)])), (dm, .inl (cI, 256, .inl (nf M)))]) (ws' := fun _ => [(dq, .inr (2, [.ref dm, .ref d1, .ref d2, .ref d3, .ref d4, .ref dw, .int (bI den)])), (dm, .inl (cI, 256, .inl (nf M))), (tq, .inr (0, [.ref tp, .int (bI (true && hasD (rdD M n a) 0 130))])), (tp, .inl (cI, 130, .inl (nf (rdD M n a))))]) (st' := fun _ => []) [2, 3] [0, 1] [0, 1, 2, 3] [] (by simp [bI_nI]) mt_132 mt_129 mt_2 mt_130 mt_131 0 rfl rfl hdR_setSign (by decide) ⟨rfl, rfl⟩ (by decide) rfl rfl (by decide) rfl (by decide) (by decide) (by decide) (fun u => rfl) (fun u => rfl) (fun u => rfl) rfl rfl (by simp [Value.category]) dD_readDecimal_86 (fun _ _ => ?_)
              refine xg_iconst hX (nI 1) dD_readDecimal_89 (by decide) ?_
              refine xg_top (bI true) rfl ?_
              exact hret (true, rdD M n a, true && hasD (rdD M n a) 0 130) _ _ _ rfl (xn_narB _) (show true = rdb M n a ∧ (true = true → (rdD M n a) = rdD M n a ∧ (true && hasD (rdD M n a) 0 130) = rdS M n a) from ⟨(rdb_iff.mpr ⟨h13, hz⟩).symm, fun _ => ⟨rfl, by unfold rdS; first | (rw [decide_eq_true (by omega)]; done) | (rw [decide_eq_false (by omega)]; done)⟩⟩) dD_readDecimal_90
        ·
          refine xg_aload_n hX 0 dD_readDecimal_31 rfl rfl ?_
          refine xg_iload_n hX 2 dD_readDecimal_32 rfl rfl ?_
          refine xg_iload_n hX 3 dD_readDecimal_33 rfl rfl ?_
          refine xg_iload hX 5 dD_readDecimal_34 rfl ?_
          refine xg_iconst hX (nI 1) dD_readDecimal_36 (by decide) ?_
          refine xg_iaddN hX dD_readDecimal_37 ?_
          refine xg_cV hX dq [.int (nI n), .int (nI a), .int (nI (i + 1))] (hM := xc_half l D cI dq dm d1 d2 d3 d4 dw den M n a (i + 1) (by omega) (by omega) (by omega) hM) (wr := [(tq, .inr (0, [.ref tp, .int (bI false)])), (tp, .inl (cI, 130, .inl (nf (mix i (rdD M n a) zf))))]) (ws' := fun _ => [(dq, .inr (2, [.ref dm, .ref d1, .ref d2, .ref d3, .ref d4, .ref dw, .int (bI den)])), (dm, .inl (cI, 256, .inl (nf M))), (tq, .inr (0, [.ref tp, .int (bI false)])), (tp, .inl (cI, 130, .inl (nf (mix i (rdD M n a) zf))))]) (st' := fun _ => [.int (nI (hfE M n a (i + 1)))]) [0, 1] [2, 3] [2, 3, 0, 1] [] rfl mt_116 mt_113 mt_1 mt_115 mp_2 0 rfl rfl hdD_halfFromEnd (by decide) ⟨rfl, rfl⟩ (by decide) rfl rfl (by decide) rfl (by decide) (by decide) (by decide) (fun u => rfl) (fun u => rfl) (fun u => rfl) rfl rfl (by simp [Value.category]) dD_readDecimal_38 (fun _ _ => ?_)
          have e1 := hfE_lt M n a (i + 1)
          refine xg_istore hX (lv' := [(6, .int (nI (hfE M n a (i + 1)))), (0, .ref dq), (1, .ref tq), (2, .int (nI n)), (3, .int (nI a)), (4, .int (nI (hfE M n a 0))), (5, .int (nI i))]) dD_readDecimal_41 (by decide) rfl ?_
          refine xg_iload hX 0 dD_readDecimal_43 rfl ?_
          refine xg_bipush hX (nI 9) dD_readDecimal_45 (by decide) ?_
          refine xg_icmp_leN hX 52 (by omega) (by omega) dD_readDecimal_47 (by decide) (fun h47 => ?_) (fun h47 => ?_)
          ·
            refine xg_aload_n hX 2 dD_readDecimal_52 rfl rfl ?_
            refine xg_iload hX 6 dD_readDecimal_53 rfl ?_
            refine xg_iload hX 0 dD_readDecimal_55 rfl ?_
            refine xg_cV hX tq [.int (nI i), .int (nI (hfE M n a (i + 1)))] (hM := xc_setDigit l D cI tq tp (mix i (rdD M n a) zf) false i (hfE M n a (i + 1)) (by omega)) (wr := [(dq, .inr (2, [.ref dm, .ref d1, .ref d2, .ref d3, .ref d4, .ref dw, .int (bI den)])), (dm, .inl (cI, 256, .inl (nf M)))]) (ws' := fun _ => [(dq, .inr (2, [.ref dm, .ref d1, .ref d2, .ref d3, .ref d4, .ref dw, .int (bI den)])), (dm, .inl (cI, 256, .inl (nf M))), (tq, .inr (0, [.ref tp, .int (bI false)])), (tp, .inl (cI, 130, .inl (nf (up (mix i (rdD M n a) zf) i (hfE M n a (i + 1))))))]) (st' := fun _ => []) [2, 3] [0, 1] [0, 1, 2, 3] [] rfl mt_128 mt_125 mt_2 mt_126 mt_127 0 rfl rfl hdR_setDigit (by decide) ⟨rfl, rfl⟩ (by decide) rfl rfl (by decide) rfl (by decide) (by decide) (by decide) (fun u => rfl) (fun u => rfl) (fun u => rfl) rfl rfl (by simp [Value.category]) dD_readDecimal_57 (fun _ _ => ?_)
            refine xg_iincN hX (lv' := [(5, .int (nI (i + 1))), (6, .int (nI (hfE M n a (i + 1)))), (0, .ref dq), (1, .ref tq), (2, .int (nI n)), (3, .int (nI a)), (4, .int (nI (hfE M n a 0)))]) (i + 1) 6 dD_readDecimal_60 rfl (xn_inc _) (by decide) rfl ?_
            refine xg_goto hX 25 dD_readDecimal_63 (by decide) ?_
            refine xg_ext hX (g := mix (i + 1) (rdD M n a) zf) (ws' := [(dq, .inr (2, [.ref dm, .ref d1, .ref d2, .ref d3, .ref d4, .ref dw, .int (bI den)])), (dm, .inl (cI, 256, .inl (nf M))), (tq, .inr (0, [.ref tp, .int (bI false)])), (tp, .inl (cI, 130, .inl (nf (mix (i + 1) (rdD M n a) zf))))]) 3 rfl (fun j hj => mix_up (rdD_at h28) j) rfl ?_
            refine xg_lv hX (lv' := [(0, .ref dq), (1, .ref tq), (2, .int (nI n)), (3, .int (nI a)), (4, .int (nI (hfE M n a 0))), (5, .int (nI (i + 1)))]) [2, 3, 4, 5, 6, 0] rfl ?_
            exact ih3 (i + 1) (by omega) (fun k hk => by rcases Nat.lt_or_ge k i with q | q; exact hz k q; obtain rfl : k = i := (by omega); exact h47) (by omega)
          ·
            refine xg_iconst hX (nI 0) dD_readDecimal_50 (by decide) ?_
            refine xg_top (bI false) rfl ?_
            exact hret (false, mix i (rdD M n a) zf, false) _ _ _ rfl (xn_narB _) (show false = rdb M n a ∧ (false = true → (mix i (rdD M n a) zf) = rdD M n a ∧ false = rdS M n a) from ⟨(rdb_f (fun q => by have := q.2 i h28; omega)).symm, fun q => by cases q⟩) dD_readDecimal_51
    refine xg_ext hX (g := mix 0 (rdD M n a) zf) (ws' := [(dq, .inr (2, [.ref dm, .ref d1, .ref d2, .ref d3, .ref d4, .ref dw, .int (bI den)])), (dm, .inl (cI, 256, .inl (nf M))), (tq, .inr (0, [.ref tp, .int (bI false)])), (tp, .inl (cI, 130, .inl (nf (mix 0 (rdD M n a) zf))))]) 3 rfl (fun j hj => mix_0 j) rfl ?_
    refine xg_lv hX (lv' := [(0, .ref dq), (1, .ref tq), (2, .int (nI n)), (3, .int (nI a)), (4, .int (nI (hfE M n a 0))), (5, .int (nI 0))]) [2, 3, 4, 5, 1, 0] rfl ?_
    exact lp1 (n - 0 + 1) 0 (by omega) (fun k hk => absurd hk (Nat.not_lt_zero _)) (Nat.lt_succ_self _)
  ·
    refine xg_iconst hX (nI 0) dD_readDecimal_16 (by decide) ?_
    refine xg_top (bI false) rfl ?_
    exact hret (false, td, ts) _ _ _ rfl (xn_narB _) (show false = rdb M n a ∧ (false = true → td = rdD M n a ∧ ts = rdS M n a) from ⟨(rdb_f (fun q => by omega)).symm, fun q => by cases q⟩) dD_readDecimal_17
set_option maxHeartbeats 4000000 in
set_option maxRecDepth 100000 in
theorem xc_readChars (l : Launch) (D : va_G) (cI : ClassId) (dq : Nat) (dm : Nat) (d1 : Nat) (d2 : Nat) (d3 : Nat) (d4 : Nat) (dw : Nat) (den : Bool) (M : Nat → Nat) (tq : Nat) (tp : Nat) (td : Nat → Nat) (ts : Bool) (n : Nat) (a : Nat) (hn : n ≤ 31) (ha : a + n < 256) (hM : ∀ j, M j < 256) : Ctr l D cI yD_readCharacters cD_readCharacters 7 (some .boolean) { frames := 4, cells := 0, slots := 0, locals := 85 } [.ref dq, .ref tq, .int (nI n), .int (nI a)] [(dq, .inr (2, [.ref dm, .ref d1, .ref d2, .ref d3, .ref d4, .ref dw, .int (bI den)])), (dm, .inl (cI, 256, .inl (nf M))), (tq, .inr (0, [.ref tp, .int (bI ts)])), (tp, .inl (cI, 130, .inl (nf td)))] (fun u : Bool × (Nat → Nat) × Bool => match u with | (ok, td2, ts2) => some (.int (bI ok))) (fun u : Bool × (Nat → Nat) × Bool => match u with | (ok, td2, ts2) => ok = chb M n a ∧ (ok = true → td2 = chD M n a ∧ ts2 = chS M n a)) (fun u : Bool × (Nat → Nat) × Bool => match u with | (ok, td2, ts2) => [(dq, .inr (2, [.ref dm, .ref d1, .ref d2, .ref d3, .ref d4, .ref dw, .int (bI den)])), (dm, .inl (cI, 256, .inl (nf M))), (tq, .inr (0, [.ref tp, .int (bI ts2)])), (tp, .inl (cI, 130, .inl (nf td2)))]) 0 0 := by
  refine xc_mkZ (by decide +kernel) (Nat.le_of_ble_eq_true rfl) (fun X hX hret => ?_)
  show GG D X 0 0 0 [(dq, .inr (2, [.ref dm, .ref d1, .ref d2, .ref d3, .ref d4, .ref dw, .int (bI den)])), (dm, .inl (cI, 256, .inl (nf M))), (tq, .inr (0, [.ref tp, .int (bI ts)])), (tp, .inl (cI, 130, .inl (nf td)))] [(0, .ref dq), (1, .ref tq), (2, .int (nI n)), (3, .int (nI a))] []
  refine xg_aload_n hX 0 dD_readCharacters_0 rfl rfl ?_
  refine xg_iload_n hX 3 dD_readCharacters_1 rfl rfl ?_
  refine xg_cV hX dq [.int (nI a)] (hM := xc_byteOfN l D cI dq dm d1 d2 d3 d4 dw den M a (by omega)) (wr := [(tq, .inr (0, [.ref tp, .int (bI ts)])), (tp, .inl (cI, 130, .inl (nf td)))]) (ws' := fun _ => [(dq, .inr (2, [.ref dm, .ref d1, .ref d2, .ref d3, .ref d4, .ref dw, .int (bI den)])), (dm, .inl (cI, 256, .inl (nf M))), (tq, .inr (0, [.ref tp, .int (bI ts)])), (tp, .inl (cI, 130, .inl (nf td)))]) (st' := fun _ => [.int (nI (M a))]) [0, 1] [2, 3] [2, 3, 0, 1] [] rfl mt_97 mt_117 mt_1 mt_95 mt_96 0 rfl rfl hdD_byteOf (by decide) ⟨rfl, rfl⟩ (by decide) rfl rfl (by decide) rfl (by decide) (by decide) (by decide) (fun u => rfl) (fun u => rfl) (fun u => rfl) rfl rfl (by simp [Value.category]) dD_readCharacters_2 (fun _ _ => ?_)
  have e0 := hM a
  refine xg_istore hX (lv' := [(4, .int (nI (M a))), (0, .ref dq), (1, .ref tq), (2, .int (nI n)), (3, .int (nI a))]) dD_readCharacters_5 (by decide) rfl ?_
  have jn1 : (M a = 43 ∨ M a = 45 ∨ M a = 32) → GG D X 0 0 30 [(dq, .inr (2, [.ref dm, .ref d1, .ref d2, .ref d3, .ref d4, .ref dw, .int (bI den)])), (dm, .inl (cI, 256, .inl (nf M))), (tq, .inr (0, [.ref tp, .int (bI ts)])), (tp, .inl (cI, 130, .inl (nf td)))] [(0, .ref dq), (1, .ref tq), (2, .int (nI n)), (3, .int (nI a)), (4, .int (nI (M a)))] [] := by
    intro h4
    refine xg_aload_n hX 1 dD_readCharacters_30 rfl rfl ?_
    refine xg_cV hX tq [] (hM := xc_clear l D cI tq tp td ts) (wr := [(dq, .inr (2, [.ref dm, .ref d1, .ref d2, .ref d3, .ref d4, .ref dw, .int (bI den)])), (dm, .inl (cI, 256, .inl (nf M)))]) (ws' := fun _ => [(dq, .inr (2, [.ref dm, .ref d1, .ref d2, .ref d3, .ref d4, .ref dw, .int (bI den)])), (dm, .inl (cI, 256, .inl (nf M))), (tq, .inr (0, [.ref tp, .int (bI false)])), (tp, .inl (cI, 130, .inl (nf zf)))]) (st' := fun _ => []) [2, 3] [0, 1] [0, 1, 2, 3] [] rfl mt_121 mt_118 mt_2 mt_119 mt_120 0 rfl rfl hdR_clear (by decide) ⟨rfl, rfl⟩ (by decide) rfl rfl (by decide) rfl (by decide) (by decide) (by decide) (fun u => rfl) (fun u => rfl) (fun u => rfl) rfl rfl (by simp [Value.category]) dD_readCharacters_31 (fun _ _ => ?_)
    refine xg_iconst hX (nI 0) dD_readCharacters_34 (by decide) ?_
    refine xg_istore hX (lv' := [(5, .int (nI 0)), (0, .ref dq), (1, .ref tq), (2, .int (nI n)), (3, .int (nI a)), (4, .int (nI (M a)))]) dD_readCharacters_35 (by decide) rfl ?_
    have lp2 : ∀ (fu3 : Nat) (i : Nat), (i ≤ n) → (∀ k, k < i → 48 ≤ M (a + n - k) ∧ M (a + n - k) ≤ 57) → n - i < fu3 → GG D X 0 0 37 [(dq, .inr (2, [.ref dm, .ref d1, .ref d2, .ref d3, .ref d4, .ref dw, .int (bI den)])), (dm, .inl (cI, 256, .inl (nf M))), (tq, .inr (0, [.ref tp, .int (bI false)])), (tp, .inl (cI, 130, .inl (nf (mix i (chD M n a) zf))))] [(0, .ref dq), (1, .ref tq), (2, .int (nI n)), (3, .int (nI a)), (4, .int (nI (M a))), (5, .int (nI i))] [] := by
      intro fu3
      induction fu3 with
      | zero => intro i hi hz hm5; exact absurd hm5 (Nat.not_lt_zero _)
      | succ fu3 ih4 =>
        intro i hi hz hm5
        refine xg_iload hX 5 dD_readCharacters_37 rfl ?_
        refine xg_iload_n hX 2 dD_readCharacters_39 rfl rfl ?_
        refine xg_icmp_geN hX 86 (by omega) (by omega) dD_readCharacters_40 (by decide) (fun h40 => ?_) (fun h40 => ?_)
        ·
          have hie : i = n := by omega
          rw [hie] at hz
          refine xg_ext hX (g := chD M n a) (ws' := [(dq, .inr (2, [.ref dm, .ref d1, .ref d2, .ref d3, .ref d4, .ref dw, .int (bI den)])), (dm, .inl (cI, 256, .inl (nf M))), (tq, .inr (0, [.ref tp, .int (bI false)])), (tp, .inl (cI, 130, .inl (nf (chD M n a))))]) 3 rfl (fun j hj => by rw [hie]; exact chD_fin j) rfl ?_
          refine xg_aload_n hX 1 dD_readCharacters_86 rfl rfl ?_
          refine xg_iload hX 4 dD_readCharacters_87 rfl ?_
          refine xg_bipush hX (nI 45) dD_readCharacters_89 (by decide) ?_
          refine xg_icmp_neN hX 98 (by omega) (by omega) dD_readCharacters_91 (by decide) (fun h91 => ?_) (fun h91 => ?_)
          ·
            refine xg_iconst hX (nI 0) dD_readCharacters_98 (by decide) ?_
            refine xg_cV hX tq [.int (bI false)] (hM := xc_setSign l D cI tq tp (chD M n a) false false (chD_lt hz)) (wr := [(dq, .inr (2, [.ref dm, .ref d1, .ref d2, .ref d3, .ref d4, .ref dw, .int (bI den)])), (dm, .inl (cI, 256, .inl (nf M)))]) (ws' := fun _ => [(dq, .inr (2, [.ref dm, .ref d1, .ref d2, .ref d3, .ref d4, .ref dw, .int (bI den)])), (dm, .inl (cI, 256, .inl (nf M))), (tq, .inr (0, [.ref tp, .int (bI (false && hasD (chD M n a) 0 130))])), (tp, .inl (cI, 130, .inl (nf (chD M n a))))]) (st' := fun _ => []) [2, 3] [0, 1] [0, 1, 2, 3] [] (by simp [bI_nI]) mt_132 mt_129 mt_2 mt_130 mt_131 0 rfl rfl hdR_setSign (by decide) ⟨rfl, rfl⟩ (by decide) rfl rfl (by decide) rfl (by decide) (by decide) (by decide) (fun u => rfl) (fun u => rfl) (fun u => rfl) rfl rfl (by simp [Value.category]) dD_readCharacters_99 (fun _ _ => ?_)
            refine xg_iconst hX (nI 1) dD_readCharacters_102 (by decide) ?_
            refine xg_top (bI true) rfl ?_
            exact hret (true, chD M n a, false && hasD (chD M n a) 0 130) _ _ _ rfl (xn_narB _) (show true = chb M n a ∧ (true = true → (chD M n a) = chD M n a ∧ (false && hasD (chD M n a) 0 130) = chS M n a) from ⟨(chb_iff.mpr ⟨h4, hz⟩).symm, fun _ => ⟨rfl, by unfold chS; first | (rw [decide_eq_true (by omega)]; done) | (rw [decide_eq_false (by omega)]; done)⟩⟩) dD_readCharacters_103
          ·
            refine xg_iconst hX (nI 1) dD_readCharacters_94 (by decide) ?_
            refine xg_goto hX 99 dD_readCharacters_95 (by decide) ?_
            refine xg_cV hX tq [.int (bI true)] (hM := xc_setSign l D cI tq tp (chD M n a) false true (chD_lt hz)) (wr := [(dq, .inr (2, [.ref dm, .ref d1, .ref d2, .ref d3, .ref d4, .ref dw, .int (bI den)])), (dm, .inl (cI, 256, .inl (nf M)))]) (ws' := fun _ => [(dq, .inr (2, [.ref dm, .ref d1, .ref d2, .ref d3, .ref d4, .ref dw, .int (bI den)])), (dm, .inl (cI, 256, .inl (nf M))), (tq, .inr (0, [.ref tp, .int (bI (true && hasD (chD M n a) 0 130))])), (tp, .inl (cI, 130, .inl (nf (chD M n a))))]) (st' := fun _ => []) [2, 3] [0, 1] [0, 1, 2, 3] [] (by simp [bI_nI]) mt_132 mt_129 mt_2 mt_130 mt_131 0 rfl rfl hdR_setSign (by decide) ⟨rfl, rfl⟩ (by decide) rfl rfl (by decide) rfl (by decide) (by decide) (by decide) (fun u => rfl) (fun u => rfl) (fun u => rfl) rfl rfl (by simp [Value.category]) dD_readCharacters_99 (fun _ _ => ?_)
            refine xg_iconst hX (nI 1) dD_readCharacters_102 (by decide) ?_
            refine xg_top (bI true) rfl ?_
            exact hret (true, chD M n a, true && hasD (chD M n a) 0 130) _ _ _ rfl (xn_narB _) (show true = chb M n a ∧ (true = true → (chD M n a) = chD M n a ∧ (true && hasD (chD M n a) 0 130) = chS M n a) from ⟨(chb_iff.mpr ⟨h4, hz⟩).symm, fun _ => ⟨rfl, by unfold chS; first | (rw [decide_eq_true (by omega)]; done) | (rw [decide_eq_false (by omega)]; done)⟩⟩) dD_readCharacters_103
        ·
          refine xg_aload_n hX 0 dD_readCharacters_43 rfl rfl ?_
          refine xg_iload_n hX 3 dD_readCharacters_44 rfl rfl ?_
          refine xg_iload_n hX 2 dD_readCharacters_45 rfl rfl ?_
          refine xg_iaddN hX dD_readCharacters_46 ?_
          refine xg_iload hX 5 dD_readCharacters_47 rfl ?_
          refine xg_isubN hX (by omega) dD_readCharacters_49 ?_
          refine xg_cV hX dq [.int (nI ((a + n) - i))] (hM := xc_byteOfN l D cI dq dm d1 d2 d3 d4 dw den M ((a + n) - i) (by omega)) (wr := [(tq, .inr (0, [.ref tp, .int (bI false)])), (tp, .inl (cI, 130, .inl (nf (mix i (chD M n a) zf))))]) (ws' := fun _ => [(dq, .inr (2, [.ref dm, .ref d1, .ref d2, .ref d3, .ref d4, .ref dw, .int (bI den)])), (dm, .inl (cI, 256, .inl (nf M))), (tq, .inr (0, [.ref tp, .int (bI false)])), (tp, .inl (cI, 130, .inl (nf (mix i (chD M n a) zf))))]) (st' := fun _ => [.int (nI (M ((a + n) - i)))]) [0, 1] [2, 3] [2, 3, 0, 1] [] rfl mt_97 mt_117 mt_1 mt_95 mt_96 0 rfl rfl hdD_byteOf (by decide) ⟨rfl, rfl⟩ (by decide) rfl rfl (by decide) rfl (by decide) (by decide) (by decide) (fun u => rfl) (fun u => rfl) (fun u => rfl) rfl rfl (by simp [Value.category]) dD_readCharacters_50 (fun _ _ => ?_)
          have e1 := hM ((a + n) - i)
          refine xg_bipush hX (nI 48) dD_readCharacters_53 (by decide) ?_
          refine xg_isub hX dD_readCharacters_55 ?_
          rcases Nat.lt_or_ge (M ((a + n) - i)) 48 with hs | hs
          ·
            have hs2 : (nI (M ((a + n) - i)) - nI 48).toInt < 0 := by rw [xn_s2 (by omega) (by omega)]; omega
            refine xg_istore hX (lv' := [(6, .int ((nI (M ((a + n) - i))) - (nI 48))), (0, .ref dq), (1, .ref tq), (2, .int (nI n)), (3, .int (nI a)), (4, .int (nI (M a))), (5, .int (nI i))]) dD_readCharacters_56 (by decide) rfl ?_
            refine xg_iload hX 0 dD_readCharacters_58 rfl ?_
            refine xg_if_ltZ hX (((nI (M ((a + n) - i))) - (nI 48)).toInt) rfl 70 dD_readCharacters_60 (by decide) (fun h60 => ?_) (fun h60 => absurd h60 (by omega))
            refine xg_iconst hX (nI 0) dD_readCharacters_70 (by decide) ?_
            refine xg_top (bI false) rfl ?_
            exact hret (false, mix i (chD M n a) zf, false) _ _ _ rfl (xn_narB _) (show false = chb M n a ∧ (false = true → (mix i (chD M n a) zf) = chD M n a ∧ false = chS M n a) from ⟨(chb_f (fun q => by have := q.2 i h40; omega)).symm, fun q => by cases q⟩) dD_readCharacters_71
          ·
            refine xg_top (nI (M ((a + n) - i) - 48)) (pk_sub hs) ?_
            refine xg_istore hX (lv' := [(6, .int (nI (M ((a + n) - i) - 48))), (0, .ref dq), (1, .ref tq), (2, .int (nI n)), (3, .int (nI a)), (4, .int (nI (M a))), (5, .int (nI i))]) dD_readCharacters_56 (by decide) rfl ?_
            refine xg_iload hX 0 dD_readCharacters_58 rfl ?_
            refine xg_if_ltN hX 70 (by omega) dD_readCharacters_60 (by decide) ?_
            refine xg_iload hX 0 dD_readCharacters_63 rfl ?_
            refine xg_bipush hX (nI 9) dD_readCharacters_65 (by decide) ?_
            refine xg_icmp_leN hX 72 (by omega) (by omega) dD_readCharacters_67 (by decide) (fun h67 => ?_) (fun h67 => ?_)
            ·
              refine xg_aload_n hX 2 dD_readCharacters_72 rfl rfl ?_
              refine xg_iload hX 6 dD_readCharacters_73 rfl ?_
              refine xg_iload hX 0 dD_readCharacters_75 rfl ?_
              refine xg_cV hX tq [.int (nI i), .int (nI (M ((a + n) - i) - 48))] (hM := xc_setDigit l D cI tq tp (mix i (chD M n a) zf) false i (M ((a + n) - i) - 48) (by omega)) (wr := [(dq, .inr (2, [.ref dm, .ref d1, .ref d2, .ref d3, .ref d4, .ref dw, .int (bI den)])), (dm, .inl (cI, 256, .inl (nf M)))]) (ws' := fun _ => [(dq, .inr (2, [.ref dm, .ref d1, .ref d2, .ref d3, .ref d4, .ref dw, .int (bI den)])), (dm, .inl (cI, 256, .inl (nf M))), (tq, .inr (0, [.ref tp, .int (bI false)])), (tp, .inl (cI, 130, .inl (nf (up (mix i (chD M n a) zf) i (M ((a + n) - i) - 48)))))]) (st' := fun _ => []) [2, 3] [0, 1] [0, 1, 2, 3] [] rfl mt_128 mt_125 mt_2 mt_126 mt_127 0 rfl rfl hdR_setDigit (by decide) ⟨rfl, rfl⟩ (by decide) rfl rfl (by decide) rfl (by decide) (by decide) (by decide) (fun u => rfl) (fun u => rfl) (fun u => rfl) rfl rfl (by simp [Value.category]) dD_readCharacters_77 (fun _ _ => ?_)
              refine xg_iincN hX (lv' := [(5, .int (nI (i + 1))), (6, .int (nI (M ((a + n) - i) - 48))), (0, .ref dq), (1, .ref tq), (2, .int (nI n)), (3, .int (nI a)), (4, .int (nI (M a)))]) (i + 1) 6 dD_readCharacters_80 rfl (xn_inc _) (by decide) rfl ?_
              refine xg_goto hX 37 dD_readCharacters_83 (by decide) ?_
              refine xg_ext hX (g := mix (i + 1) (chD M n a) zf) (ws' := [(dq, .inr (2, [.ref dm, .ref d1, .ref d2, .ref d3, .ref d4, .ref dw, .int (bI den)])), (dm, .inl (cI, 256, .inl (nf M))), (tq, .inr (0, [.ref tp, .int (bI false)])), (tp, .inl (cI, 130, .inl (nf (mix (i + 1) (chD M n a) zf))))]) 3 rfl (fun j hj => mix_up (chD_at h40) j) rfl ?_
              refine xg_lv hX (lv' := [(0, .ref dq), (1, .ref tq), (2, .int (nI n)), (3, .int (nI a)), (4, .int (nI (M a))), (5, .int (nI (i + 1)))]) [2, 3, 4, 5, 6, 0] rfl ?_
              exact ih4 (i + 1) (by omega) (fun k hk => by rcases Nat.lt_or_ge k i with q | q; exact hz k q; obtain rfl : k = i := (by omega); exact ⟨by omega, by omega⟩) (by omega)
            ·
              refine xg_iconst hX (nI 0) dD_readCharacters_70 (by decide) ?_
              refine xg_top (bI false) rfl ?_
              exact hret (false, mix i (chD M n a) zf, false) _ _ _ rfl (xn_narB _) (show false = chb M n a ∧ (false = true → (mix i (chD M n a) zf) = chD M n a ∧ false = chS M n a) from ⟨(chb_f (fun q => by have := q.2 i h40; omega)).symm, fun q => by cases q⟩) dD_readCharacters_71
    refine xg_ext hX (g := mix 0 (chD M n a) zf) (ws' := [(dq, .inr (2, [.ref dm, .ref d1, .ref d2, .ref d3, .ref d4, .ref dw, .int (bI den)])), (dm, .inl (cI, 256, .inl (nf M))), (tq, .inr (0, [.ref tp, .int (bI false)])), (tp, .inl (cI, 130, .inl (nf (mix 0 (chD M n a) zf))))]) 3 rfl (fun j hj => mix_0 j) rfl ?_
    refine xg_lv hX (lv' := [(0, .ref dq), (1, .ref tq), (2, .int (nI n)), (3, .int (nI a)), (4, .int (nI (M a))), (5, .int (nI 0))]) [1, 2, 3, 4, 5, 0] rfl ?_
    exact lp2 (n - 0 + 1) 0 (by omega) (fun k hk => absurd hk (Nat.not_lt_zero _)) (Nat.lt_succ_self _)
  refine xg_iload hX 0 dD_readCharacters_7 rfl ?_
  refine xg_bipush hX (nI 43) dD_readCharacters_9 (by decide) ?_
  refine xg_icmp_eqN hX 30 (by omega) (by omega) dD_readCharacters_11 (by decide) (fun h11 => ?_) (fun h11 => ?_)
  ·
    refine xg_lv hX (lv' := [(0, .ref dq), (1, .ref tq), (2, .int (nI n)), (3, .int (nI a)), (4, .int (nI (M a)))]) [1, 2, 3, 4, 0] rfl ?_
    exact jn1  (by omega)
  ·
    refine xg_iload hX 0 dD_readCharacters_14 rfl ?_
    refine xg_bipush hX (nI 45) dD_readCharacters_16 (by decide) ?_
    refine xg_icmp_eqN hX 30 (by omega) (by omega) dD_readCharacters_18 (by decide) (fun h18 => ?_) (fun h18 => ?_)
    ·
      refine xg_lv hX (lv' := [(0, .ref dq), (1, .ref tq), (2, .int (nI n)), (3, .int (nI a)), (4, .int (nI (M a)))]) [1, 2, 3, 4, 0] rfl ?_
      exact jn1  (by omega)
    ·
      refine xg_iload hX 0 dD_readCharacters_21 rfl ?_
      refine xg_bipush hX (nI 32) dD_readCharacters_23 (by decide) ?_
      refine xg_icmp_eqN hX 30 (by omega) (by omega) dD_readCharacters_25 (by decide) (fun h25 => ?_) (fun h25 => ?_)
      ·
        refine xg_lv hX (lv' := [(0, .ref dq), (1, .ref tq), (2, .int (nI n)), (3, .int (nI a)), (4, .int (nI (M a)))]) [1, 2, 3, 4, 0] rfl ?_
        exact jn1  (by omega)
      ·
        refine xg_iconst hX (nI 0) dD_readCharacters_28 (by decide) ?_
        refine xg_top (bI false) rfl ?_
        exact hret (false, td, ts) _ _ _ rfl (xn_narB _) (show false = chb M n a ∧ (false = true → td = chD M n a ∧ ts = chS M n a) from ⟨(chb_f (fun q => by omega)).symm, fun q => by cases q⟩) dD_readCharacters_29
set_option maxHeartbeats 4000000 in
set_option maxRecDepth 100000 in
theorem xc_writeDecimal (l : Launch) (D : va_G) (cI : ClassId) (dq : Nat) (dm : Nat) (d1 : Nat) (d2 : Nat) (d3 : Nat) (d4 : Nat) (dw : Nat) (den : Bool) (M : Nat → Nat) (tq : Nat) (tp : Nat) (td : Nat → Nat) (ts : Bool) (n : Nat) (a : Nat) (hn : n ≤ 31) (ha : a + n / 2 < 256) (htd : ∀ j, td j < 10) : Ctr l D cI yD_writeDecimal cD_writeDecimal 9 (some .int) { frames := 3, cells := 0, slots := 0, locals := 66 } [.ref dq, .ref tq, .int (nI n), .int (nI a)] [(dq, .inr (2, [.ref dm, .ref d1, .ref d2, .ref d3, .ref d4, .ref dw, .int (bI den)])), (dm, .inl (cI, 256, .inl (nf M))), (tq, .inr (0, [.ref tp, .int (bI ts)])), (tp, .inl (cI, 130, .inl (nf td)))] (fun _ : Unit => some (.int (nI (flg td ts n)))) (fun _ : Unit => True) (fun _ : Unit => [(dq, .inr (2, [.ref dm, .ref d1, .ref d2, .ref d3, .ref d4, .ref dw, .int (bI den)])), (dm, .inl (cI, 256, .inl (nf (wrM M td ts n a)))), (tq, .inr (0, [.ref tp, .int (bI ts)])), (tp, .inl (cI, 130, .inl (nf td)))]) 0 0 := by
  refine xc_mkI (by decide +kernel) (Nat.le_of_ble_eq_true rfl) (fun X hX hret => ?_)
  show GG D X 0 0 0 [(dq, .inr (2, [.ref dm, .ref d1, .ref d2, .ref d3, .ref d4, .ref dw, .int (bI den)])), (dm, .inl (cI, 256, .inl (nf M))), (tq, .inr (0, [.ref tp, .int (bI ts)])), (tp, .inl (cI, 130, .inl (nf td)))] [(0, .ref dq), (1, .ref tq), (2, .int (nI n)), (3, .int (nI a))] []
  refine xg_aload_n hX 1 dD_writeDecimal_0 rfl rfl ?_
  refine xg_iload_n hX 2 dD_writeDecimal_1 rfl rfl ?_
  refine xg_cV hX tq [.int (nI n)] (hM := xc_flags l D cI tq tp td ts n (by omega) htd) (wr := [(dq, .inr (2, [.ref dm, .ref d1, .ref d2, .ref d3, .ref d4, .ref dw, .int (bI den)])), (dm, .inl (cI, 256, .inl (nf M)))]) (ws' := fun _ => [(dq, .inr (2, [.ref dm, .ref d1, .ref d2, .ref d3, .ref d4, .ref dw, .int (bI den)])), (dm, .inl (cI, 256, .inl (nf M))), (tq, .inr (0, [.ref tp, .int (bI ts)])), (tp, .inl (cI, 130, .inl (nf td)))]) (st' := fun _ => [.int (nI (flg td ts n))]) [2, 3] [0, 1] [0, 1, 2, 3] [] rfl mt_170 mt_167 mt_2 mt_168 mt_169 0 rfl rfl hdR_flagsOfLowest (by decide) ⟨rfl, rfl⟩ (by decide) rfl rfl (by decide) rfl (by decide) (by decide) (by decide) (fun u => rfl) (fun u => rfl) (fun u => rfl) rfl rfl (by simp [Value.category]) dD_writeDecimal_2 (fun _ _ => ?_)
  refine xg_istore hX (lv' := [(4, .int (nI (flg td ts n))), (0, .ref dq), (1, .ref tq), (2, .int (nI n)), (3, .int (nI a))]) dD_writeDecimal_5 (by decide) rfl ?_
  refine xg_iload hX 0 dD_writeDecimal_7 rfl ?_
  refine xg_bipush hX (nI 8) dD_writeDecimal_9 (by decide) ?_
  refine xg_iand hX dD_writeDecimal_11 ?_
  refine xg_top (nI (if ng td ts n = true then 8 else 0)) (xn_f8 td ts n) ?_
  have jn1 : GG D X 0 0 24 [(dq, .inr (2, [.ref dm, .ref d1, .ref d2, .ref d3, .ref d4, .ref dw, .int (bI den)])), (dm, .inl (cI, 256, .inl (nf M))), (tq, .inr (0, [.ref tp, .int (bI ts)])), (tp, .inl (cI, 130, .inl (nf td)))] [(0, .ref dq), (1, .ref tq), (2, .int (nI n)), (3, .int (nI a)), (4, .int (nI (flg td ts n))), (5, .int (nI (if ng td ts n = true then 13 else 12)))] [] := by
    refine xg_iload_n hX 2 dD_writeDecimal_24 rfl rfl ?_
    refine xg_iconst hX (nI 2) dD_writeDecimal_25 (by decide) ?_
    refine xg_idivN hX (by omega) (by omega) (by omega) dD_writeDecimal_26 ?_
    refine xg_iconst hX (nI 1) dD_writeDecimal_27 (by decide) ?_
    refine xg_iaddN hX dD_writeDecimal_28 ?_
    refine xg_istore hX (lv' := [(6, .int (nI ((n / 2) + 1))), (0, .ref dq), (1, .ref tq), (2, .int (nI n)), (3, .int (nI a)), (4, .int (nI (flg td ts n))), (5, .int (nI (if ng td ts n = true then 13 else 12)))]) dD_writeDecimal_29 (by decide) rfl ?_
    refine xg_iconst hX (nI 0) dD_writeDecimal_31 (by decide) ?_
    refine xg_istore hX (lv' := [(7, .int (nI 0)), (6, .int (nI ((n / 2) + 1))), (0, .ref dq), (1, .ref tq), (2, .int (nI n)), (3, .int (nI a)), (4, .int (nI (flg td ts n))), (5, .int (nI (if ng td ts n = true then 13 else 12)))]) dD_writeDecimal_32 (by decide) rfl ?_
    have lp2 : ∀ (fu3 : Nat) (i : Nat), (i ≤ n / 2 + 1) → n / 2 + 1 - i < fu3 → GG D X 0 0 34 [(dq, .inr (2, [.ref dm, .ref d1, .ref d2, .ref d3, .ref d4, .ref dw, .int (bI den)])), (dm, .inl (cI, 256, .inl (nf (wrP M td (if ng td ts n = true then 13 else 12) n a i)))), (tq, .inr (0, [.ref tp, .int (bI ts)])), (tp, .inl (cI, 130, .inl (nf td)))] [(0, .ref dq), (1, .ref tq), (2, .int (nI n)), (3, .int (nI a)), (4, .int (nI (flg td ts n))), (5, .int (nI (wrL td (if ng td ts n = true then 13 else 12) i))), (6, .int (nI ((n / 2) + 1))), (7, .int (nI i))] [] := by
      intro fu3
      induction fu3 with
      | zero => intro i hi hm5; exact absurd hm5 (Nat.not_lt_zero _)
      | succ fu3 ih4 =>
        intro i hi hm5
        have e1 := htd (2 * i)
        have e2 : wrL td (if ng td ts n = true then 13 else 12) i < 16 := wrL_lt htd (by split <;> decide) i
        refine xg_iload hX 7 dD_writeDecimal_34 rfl ?_
        refine xg_iload hX 6 dD_writeDecimal_36 rfl ?_
        refine xg_icmp_geN hX 102 (by omega) (by omega) dD_writeDecimal_38 (by decide) (fun h38 => ?_) (fun h38 => ?_)
        ·
          refine xg_iload hX 4 dD_writeDecimal_102 rfl ?_
          have hie : i = n / 2 + 1 := by omega
          refine xg_ext hX (g := wrM M td ts n a) (ws' := [(dq, .inr (2, [.ref dm, .ref d1, .ref d2, .ref d3, .ref d4, .ref dw, .int (bI den)])), (dm, .inl (cI, 256, .inl (nf (wrM M td ts n a)))), (tq, .inr (0, [.ref tp, .int (bI ts)])), (tp, .inl (cI, 130, .inl (nf td)))]) 1 rfl (fun j hj => by first | rfl | (rw [hie]; done) | (rw [hie]; rfl)) rfl ?_
          exact hret () _ _ _ rfl trivial dD_writeDecimal_104
        ·
          refine xg_iconst hX (nI 2) dD_writeDecimal_41 (by decide) ?_
          refine xg_iload hX 7 dD_writeDecimal_42 rfl ?_
          refine xg_imulN hX dD_writeDecimal_44 ?_
          refine xg_iload_n hX 2 dD_writeDecimal_45 rfl rfl ?_
          refine xg_icmp_geN hX 60 (by omega) (by omega) dD_writeDecimal_46 (by decide) (fun h46 => ?_) (fun h46 => ?_)
          ·
            refine xg_iconst hX (nI 0) dD_writeDecimal_60 (by decide) ?_
            refine xg_istore hX (lv' := [(8, .int (nI 0)), (0, .ref dq), (1, .ref tq), (2, .int (nI n)), (3, .int (nI a)), (4, .int (nI (flg td ts n))), (5, .int (nI (wrL td (if ng td ts n = true then 13 else 12) i))), (6, .int (nI ((n / 2) + 1))), (7, .int (nI i))]) dD_writeDecimal_61 (by decide) rfl ?_
            refine xg_aload_n hX 1 dD_writeDecimal_63 rfl rfl ?_
            refine xg_iload_n hX 4 dD_writeDecimal_64 rfl rfl ?_
            refine xg_iload_n hX 3 dD_writeDecimal_65 rfl rfl ?_
            refine xg_iconst hX (nI 2) dD_writeDecimal_66 (by decide) ?_
            refine xg_idivN hX (by omega) (by omega) (by omega) dD_writeDecimal_67 ?_
            refine xg_iaddN hX dD_writeDecimal_68 ?_
            refine xg_iload hX 8 dD_writeDecimal_69 rfl ?_
            refine xg_isubN hX (by omega) dD_writeDecimal_71 ?_
            refine xg_iload hX 0 dD_writeDecimal_72 rfl ?_
            refine xg_bipush hX (nI 16) dD_writeDecimal_74 (by decide) ?_
            refine xg_imulN hX dD_writeDecimal_76 ?_
            refine xg_iload hX 6 dD_writeDecimal_77 rfl ?_
            refine xg_iaddN hX dD_writeDecimal_79 ?_
            refine xg_cV hX dq [.int (nI ((a + (n / 2)) - i)), .int (nI ((0 * 16) + (wrL td (if ng td ts n = true then 13 else 12) i)))] (hM := xc_putN l D cI dq dm d1 d2 d3 d4 dw den (wrP M td (if ng td ts n = true then 13 else 12) n a i) ((a + (n / 2)) - i) ((0 * 16) + (wrL td (if ng td ts n = true then 13 else 12) i)) (by omega) (by omega)) (wr := [(tq, .inr (0, [.ref tp, .int (bI ts)])), (tp, .inl (cI, 130, .inl (nf td)))]) (ws' := fun _ => [(dq, .inr (2, [.ref dm, .ref d1, .ref d2, .ref d3, .ref d4, .ref dw, .int (bI den)])), (dm, .inl (cI, 256, .inl (nf (up (wrP M td (if ng td ts n = true then 13 else 12) n a i) ((a + (n / 2)) - i) ((0 * 16) + (wrL td (if ng td ts n = true then 13 else 12) i)))))), (tq, .inr (0, [.ref tp, .int (bI ts)])), (tp, .inl (cI, 130, .inl (nf td)))]) (st' := fun _ => [.int (bI true)]) [0, 1] [2, 3] [2, 3, 0, 1] [] rfl mt_93 mt_172 mt_1 mt_91 mt_92 0 rfl rfl hdD_put (by decide) ⟨rfl, rfl⟩ (by decide) rfl rfl (by decide) rfl (by decide) (by decide) (by decide) (fun u => rfl) (fun u => rfl) (fun u => rfl) rfl rfl (by simp [Value.category]) dD_writeDecimal_80 (fun _ _ => ?_)
            refine xg_pop hX dD_writeDecimal_83 rfl ?_
            refine xg_aload_n hX 2 dD_writeDecimal_84 rfl rfl ?_
            refine xg_iconst hX (nI 2) dD_writeDecimal_85 (by decide) ?_
            refine xg_iload hX 8 dD_writeDecimal_86 rfl ?_
            refine xg_imulN hX dD_writeDecimal_88 ?_
            refine xg_iconst hX (nI 1) dD_writeDecimal_89 (by decide) ?_
            refine xg_iaddN hX dD_writeDecimal_90 ?_
            refine xg_cV hX tq [.int (nI ((2 * i) + 1))] (hM := xc_digitAt l D cI tq tp td ts ((2 * i) + 1) (by omega)) (wr := [(dq, .inr (2, [.ref dm, .ref d1, .ref d2, .ref d3, .ref d4, .ref dw, .int (bI den)])), (dm, .inl (cI, 256, .inl (nf (up (wrP M td (if ng td ts n = true then 13 else 12) n a i) ((a + (n / 2)) - i) ((0 * 16) + (wrL td (if ng td ts n = true then 13 else 12) i))))))]) (ws' := fun _ => [(dq, .inr (2, [.ref dm, .ref d1, .ref d2, .ref d3, .ref d4, .ref dw, .int (bI den)])), (dm, .inl (cI, 256, .inl (nf (up (wrP M td (if ng td ts n = true then 13 else 12) n a i) ((a + (n / 2)) - i) ((0 * 16) + (wrL td (if ng td ts n = true then 13 else 12) i)))))), (tq, .inr (0, [.ref tp, .int (bI ts)])), (tp, .inl (cI, 130, .inl (nf td)))]) (st' := fun _ => [.int (nI (td ((2 * i) + 1)))]) [2, 3] [0, 1] [0, 1, 2, 3] [] rfl mt_144 mt_171 mt_2 mt_142 mt_143 0 rfl rfl hdR_digitAt (by decide) ⟨rfl, rfl⟩ (by decide) rfl rfl (by decide) rfl (by decide) (by decide) (by decide) (fun u => rfl) (fun u => rfl) (fun u => rfl) rfl rfl (by simp [Value.category]) dD_writeDecimal_91 (fun _ _ => ?_)
            refine xg_istore hX (lv' := [(5, .int (nI (td ((2 * i) + 1)))), (8, .int (nI 0)), (0, .ref dq), (1, .ref tq), (2, .int (nI n)), (3, .int (nI a)), (4, .int (nI (flg td ts n))), (6, .int (nI ((n / 2) + 1))), (7, .int (nI i))]) dD_writeDecimal_94 (by decide) rfl ?_
            refine xg_iincN hX (lv' := [(7, .int (nI (i + 1))), (5, .int (nI (td ((2 * i) + 1)))), (8, .int (nI 0)), (0, .ref dq), (1, .ref tq), (2, .int (nI n)), (3, .int (nI a)), (4, .int (nI (flg td ts n))), (6, .int (nI ((n / 2) + 1)))]) (i + 1) 8 dD_writeDecimal_96 rfl (xn_inc _) (by decide) rfl ?_
            refine xg_goto hX 34 dD_writeDecimal_99 (by decide) ?_
            refine xg_ext hX (g := wrP M td (if ng td ts n = true then 13 else 12) n a (i + 1)) (ws' := [(dq, .inr (2, [.ref dm, .ref d1, .ref d2, .ref d3, .ref d4, .ref dw, .int (bI den)])), (dm, .inl (cI, 256, .inl (nf (wrP M td (if ng td ts n = true then 13 else 12) n a (i + 1))))), (tq, .inr (0, [.ref tp, .int (bI ts)])), (tp, .inl (cI, 130, .inl (nf td)))]) 1 rfl (fun j hj => wrP_s (by omega) (by unfold wrB; first | (rw [if_pos (show 2 * i < n from h46)]; done) | (rw [if_neg (show ¬ 2 * i < n by omega)]; done)) j) rfl ?_
            refine xg_lv hX (lv' := [(0, .ref dq), (1, .ref tq), (2, .int (nI n)), (3, .int (nI a)), (4, .int (nI (flg td ts n))), (5, .int (nI (td ((2 * i) + 1)))), (6, .int (nI ((n / 2) + 1))), (7, .int (nI (i + 1)))]) [3, 4, 5, 6, 7, 1, 8, 0] rfl ?_
            refine xg_lvE (lv' := [(0, .ref dq), (1, .ref tq), (2, .int (nI n)), (3, .int (nI a)), (4, .int (nI (flg td ts n))), (5, .int (nI (wrL td (if ng td ts n = true then 13 else 12) (i + 1)))), (6, .int (nI ((n / 2) + 1))), (7, .int (nI (i + 1)))]) (by rw [← (show (nI (td ((2 * i) + 1)) : Int32) = nI (wrL td (if ng td ts n = true then 13 else 12) (i + 1)) from (by first | rfl | decide))]) ?_
            exact ih4 (i + 1) (by omega) (by omega)
          ·
            refine xg_aload_n hX 1 dD_writeDecimal_49 rfl rfl ?_
            refine xg_iconst hX (nI 2) dD_writeDecimal_50 (by decide) ?_
            refine xg_iload hX 7 dD_writeDecimal_51 rfl ?_
            refine xg_imulN hX dD_writeDecimal_53 ?_
            refine xg_cV hX tq [.int (nI (2 * i))] (hM := xc_digitAt l D cI tq tp td ts (2 * i) (by omega)) (wr := [(dq, .inr (2, [.ref dm, .ref d1, .ref d2, .ref d3, .ref d4, .ref dw, .int (bI den)])), (dm, .inl (cI, 256, .inl (nf (wrP M td (if ng td ts n = true then 13 else 12) n a i))))]) (ws' := fun _ => [(dq, .inr (2, [.ref dm, .ref d1, .ref d2, .ref d3, .ref d4, .ref dw, .int (bI den)])), (dm, .inl (cI, 256, .inl (nf (wrP M td (if ng td ts n = true then 13 else 12) n a i)))), (tq, .inr (0, [.ref tp, .int (bI ts)])), (tp, .inl (cI, 130, .inl (nf td)))]) (st' := fun _ => [.int (nI (td (2 * i)))]) [2, 3] [0, 1] [0, 1, 2, 3] [] rfl mt_144 mt_171 mt_2 mt_142 mt_143 0 rfl rfl hdR_digitAt (by decide) ⟨rfl, rfl⟩ (by decide) rfl rfl (by decide) rfl (by decide) (by decide) (by decide) (fun u => rfl) (fun u => rfl) (fun u => rfl) rfl rfl (by simp [Value.category]) dD_writeDecimal_54 (fun _ _ => ?_)
            refine xg_goto hX 61 dD_writeDecimal_57 (by decide) ?_
            refine xg_istore hX (lv' := [(8, .int (nI (td (2 * i)))), (0, .ref dq), (1, .ref tq), (2, .int (nI n)), (3, .int (nI a)), (4, .int (nI (flg td ts n))), (5, .int (nI (wrL td (if ng td ts n = true then 13 else 12) i))), (6, .int (nI ((n / 2) + 1))), (7, .int (nI i))]) dD_writeDecimal_61 (by decide) rfl ?_
            refine xg_aload_n hX 1 dD_writeDecimal_63 rfl rfl ?_
            refine xg_iload_n hX 4 dD_writeDecimal_64 rfl rfl ?_
            refine xg_iload_n hX 3 dD_writeDecimal_65 rfl rfl ?_
            refine xg_iconst hX (nI 2) dD_writeDecimal_66 (by decide) ?_
            refine xg_idivN hX (by omega) (by omega) (by omega) dD_writeDecimal_67 ?_
            refine xg_iaddN hX dD_writeDecimal_68 ?_
            refine xg_iload hX 8 dD_writeDecimal_69 rfl ?_
            refine xg_isubN hX (by omega) dD_writeDecimal_71 ?_
            refine xg_iload hX 0 dD_writeDecimal_72 rfl ?_
            refine xg_bipush hX (nI 16) dD_writeDecimal_74 (by decide) ?_
            refine xg_imulN hX dD_writeDecimal_76 ?_
            refine xg_iload hX 6 dD_writeDecimal_77 rfl ?_
            refine xg_iaddN hX dD_writeDecimal_79 ?_
            refine xg_cV hX dq [.int (nI ((a + (n / 2)) - i)), .int (nI (((td (2 * i)) * 16) + (wrL td (if ng td ts n = true then 13 else 12) i)))] (hM := xc_putN l D cI dq dm d1 d2 d3 d4 dw den (wrP M td (if ng td ts n = true then 13 else 12) n a i) ((a + (n / 2)) - i) (((td (2 * i)) * 16) + (wrL td (if ng td ts n = true then 13 else 12) i)) (by omega) (by omega)) (wr := [(tq, .inr (0, [.ref tp, .int (bI ts)])), (tp, .inl (cI, 130, .inl (nf td)))]) (ws' := fun _ => [(dq, .inr (2, [.ref dm, .ref d1, .ref d2, .ref d3, .ref d4, .ref dw, .int (bI den)])), (dm, .inl (cI, 256, .inl (nf (up (wrP M td (if ng td ts n = true then 13 else 12) n a i) ((a + (n / 2)) - i) (((td (2 * i)) * 16) + (wrL td (if ng td ts n = true then 13 else 12) i)))))), (tq, .inr (0, [.ref tp, .int (bI ts)])), (tp, .inl (cI, 130, .inl (nf td)))]) (st' := fun _ => [.int (bI true)]) [0, 1] [2, 3] [2, 3, 0, 1] [] rfl mt_93 mt_172 mt_1 mt_91 mt_92 0 rfl rfl hdD_put (by decide) ⟨rfl, rfl⟩ (by decide) rfl rfl (by decide) rfl (by decide) (by decide) (by decide) (fun u => rfl) (fun u => rfl) (fun u => rfl) rfl rfl (by simp [Value.category]) dD_writeDecimal_80 (fun _ _ => ?_)
            refine xg_pop hX dD_writeDecimal_83 rfl ?_
            refine xg_aload_n hX 2 dD_writeDecimal_84 rfl rfl ?_
            refine xg_iconst hX (nI 2) dD_writeDecimal_85 (by decide) ?_
            refine xg_iload hX 8 dD_writeDecimal_86 rfl ?_
            refine xg_imulN hX dD_writeDecimal_88 ?_
            refine xg_iconst hX (nI 1) dD_writeDecimal_89 (by decide) ?_
            refine xg_iaddN hX dD_writeDecimal_90 ?_
            refine xg_cV hX tq [.int (nI ((2 * i) + 1))] (hM := xc_digitAt l D cI tq tp td ts ((2 * i) + 1) (by omega)) (wr := [(dq, .inr (2, [.ref dm, .ref d1, .ref d2, .ref d3, .ref d4, .ref dw, .int (bI den)])), (dm, .inl (cI, 256, .inl (nf (up (wrP M td (if ng td ts n = true then 13 else 12) n a i) ((a + (n / 2)) - i) (((td (2 * i)) * 16) + (wrL td (if ng td ts n = true then 13 else 12) i))))))]) (ws' := fun _ => [(dq, .inr (2, [.ref dm, .ref d1, .ref d2, .ref d3, .ref d4, .ref dw, .int (bI den)])), (dm, .inl (cI, 256, .inl (nf (up (wrP M td (if ng td ts n = true then 13 else 12) n a i) ((a + (n / 2)) - i) (((td (2 * i)) * 16) + (wrL td (if ng td ts n = true then 13 else 12) i)))))), (tq, .inr (0, [.ref tp, .int (bI ts)])), (tp, .inl (cI, 130, .inl (nf td)))]) (st' := fun _ => [.int (nI (td ((2 * i) + 1)))]) [2, 3] [0, 1] [0, 1, 2, 3] [] rfl mt_144 mt_171 mt_2 mt_142 mt_143 0 rfl rfl hdR_digitAt (by decide) ⟨rfl, rfl⟩ (by decide) rfl rfl (by decide) rfl (by decide) (by decide) (by decide) (fun u => rfl) (fun u => rfl) (fun u => rfl) rfl rfl (by simp [Value.category]) dD_writeDecimal_91 (fun _ _ => ?_)
            refine xg_istore hX (lv' := [(5, .int (nI (td ((2 * i) + 1)))), (8, .int (nI (td (2 * i)))), (0, .ref dq), (1, .ref tq), (2, .int (nI n)), (3, .int (nI a)), (4, .int (nI (flg td ts n))), (6, .int (nI ((n / 2) + 1))), (7, .int (nI i))]) dD_writeDecimal_94 (by decide) rfl ?_
            refine xg_iincN hX (lv' := [(7, .int (nI (i + 1))), (5, .int (nI (td ((2 * i) + 1)))), (8, .int (nI (td (2 * i)))), (0, .ref dq), (1, .ref tq), (2, .int (nI n)), (3, .int (nI a)), (4, .int (nI (flg td ts n))), (6, .int (nI ((n / 2) + 1)))]) (i + 1) 8 dD_writeDecimal_96 rfl (xn_inc _) (by decide) rfl ?_
            refine xg_goto hX 34 dD_writeDecimal_99 (by decide) ?_
            refine xg_ext hX (g := wrP M td (if ng td ts n = true then 13 else 12) n a (i + 1)) (ws' := [(dq, .inr (2, [.ref dm, .ref d1, .ref d2, .ref d3, .ref d4, .ref dw, .int (bI den)])), (dm, .inl (cI, 256, .inl (nf (wrP M td (if ng td ts n = true then 13 else 12) n a (i + 1))))), (tq, .inr (0, [.ref tp, .int (bI ts)])), (tp, .inl (cI, 130, .inl (nf td)))]) 1 rfl (fun j hj => wrP_s (by omega) (by unfold wrB; first | (rw [if_pos (show 2 * i < n from h46)]; done) | (rw [if_neg (show ¬ 2 * i < n by omega)]; done)) j) rfl ?_
            refine xg_lv hX (lv' := [(0, .ref dq), (1, .ref tq), (2, .int (nI n)), (3, .int (nI a)), (4, .int (nI (flg td ts n))), (5, .int (nI (td ((2 * i) + 1)))), (6, .int (nI ((n / 2) + 1))), (7, .int (nI (i + 1)))]) [3, 4, 5, 6, 7, 1, 8, 0] rfl ?_
            refine xg_lvE (lv' := [(0, .ref dq), (1, .ref tq), (2, .int (nI n)), (3, .int (nI a)), (4, .int (nI (flg td ts n))), (5, .int (nI (wrL td (if ng td ts n = true then 13 else 12) (i + 1)))), (6, .int (nI ((n / 2) + 1))), (7, .int (nI (i + 1)))]) (by rw [← (show (nI (td ((2 * i) + 1)) : Int32) = nI (wrL td (if ng td ts n = true then 13 else 12) (i + 1)) from (by first | rfl | decide))]) ?_
            exact ih4 (i + 1) (by omega) (by omega)
    refine xg_ext hX (g := wrP M td (if ng td ts n = true then 13 else 12) n a 0) (ws' := [(dq, .inr (2, [.ref dm, .ref d1, .ref d2, .ref d3, .ref d4, .ref dw, .int (bI den)])), (dm, .inl (cI, 256, .inl (nf (wrP M td (if ng td ts n = true then 13 else 12) n a 0)))), (tq, .inr (0, [.ref tp, .int (bI ts)])), (tp, .inl (cI, 130, .inl (nf td)))]) 1 rfl (fun j hj => wrP_0 j) rfl ?_
    refine xg_lv hX (lv' := [(0, .ref dq), (1, .ref tq), (2, .int (nI n)), (3, .int (nI a)), (4, .int (nI (flg td ts n))), (5, .int (nI (if ng td ts n = true then 13 else 12))), (6, .int (nI ((n / 2) + 1))), (7, .int (nI 0))]) [2, 3, 4, 5, 6, 7, 1, 0] rfl ?_
    refine xg_lvE (lv' := [(0, .ref dq), (1, .ref tq), (2, .int (nI n)), (3, .int (nI a)), (4, .int (nI (flg td ts n))), (5, .int (nI (wrL td (if ng td ts n = true then 13 else 12) 0))), (6, .int (nI ((n / 2) + 1))), (7, .int (nI 0))]) (by rw [← (show (nI (if ng td ts n = true then 13 else 12) : Int32) = nI (wrL td (if ng td ts n = true then 13 else 12) 0) from (by first | rfl | decide))]) ?_
    exact lp2 (n / 2 + 1 - 0 + 1) 0 (by omega) (Nat.lt_succ_self _)
  refine xg_if_eqN hX 20 (by split <;> decide) dD_writeDecimal_12 (by decide) (fun h12 => ?_) (fun h12 => ?_)
  ·
    have hsg : (12 : Nat) = (if ng td ts n = true then 13 else 12) := by cases hq : ng td ts n with | false => rfl | true => rw [hq] at h12; cases h12
    refine xg_bipush hX (nI 12) dD_writeDecimal_20 (by decide) ?_
    refine xg_istore hX (lv' := [(5, .int (nI 12)), (4, .int (nI (flg td ts n))), (0, .ref dq), (1, .ref tq), (2, .int (nI n)), (3, .int (nI a))]) dD_writeDecimal_22 (by decide) rfl ?_
    refine xg_lv hX (lv' := [(0, .ref dq), (1, .ref tq), (2, .int (nI n)), (3, .int (nI a)), (4, .int (nI (flg td ts n))), (5, .int (nI 12))]) [2, 3, 4, 5, 1, 0] rfl ?_
    refine xg_lvE (lv' := [(0, .ref dq), (1, .ref tq), (2, .int (nI n)), (3, .int (nI a)), (4, .int (nI (flg td ts n))), (5, .int (nI (if ng td ts n = true then 13 else 12)))]) (by rw [← (show (nI 12 : Int32) = nI (if ng td ts n = true then 13 else 12) from (by rw [← hsg]))]) ?_
    exact jn1  
  ·
    have hsg : (13 : Nat) = (if ng td ts n = true then 13 else 12) := by cases hq : ng td ts n with | true => rfl | false => rw [hq] at h12; cases h12
    refine xg_bipush hX (nI 13) dD_writeDecimal_15 (by decide) ?_
    refine xg_goto hX 22 dD_writeDecimal_17 (by decide) ?_
    refine xg_istore hX (lv' := [(5, .int (nI 13)), (4, .int (nI (flg td ts n))), (0, .ref dq), (1, .ref tq), (2, .int (nI n)), (3, .int (nI a))]) dD_writeDecimal_22 (by decide) rfl ?_
    refine xg_lv hX (lv' := [(0, .ref dq), (1, .ref tq), (2, .int (nI n)), (3, .int (nI a)), (4, .int (nI (flg td ts n))), (5, .int (nI 13))]) [2, 3, 4, 5, 1, 0] rfl ?_
    refine xg_lvE (lv' := [(0, .ref dq), (1, .ref tq), (2, .int (nI n)), (3, .int (nI a)), (4, .int (nI (flg td ts n))), (5, .int (nI (if ng td ts n = true then 13 else 12)))]) (by rw [← (show (nI 13 : Int32) = nI (if ng td ts n = true then 13 else 12) from (by rw [← hsg]))]) ?_
    exact jn1  
end
section
set_option maxHeartbeats 4000000 in
set_option maxRecDepth 100000 in
theorem xc_begin (l : Launch) (D : va_G) (cI : ClassId) (wq : Nat) (pw : Nat) (pt : Nat) (cn : Nat) (lf : Nat) (sg : Bool) (bl : Bool) (zr : Bool) (fi : Nat) (si : Nat) (W : Nat → Nat) (T : Nat → Nat) (xq : Nat) (xp : Nat) (xd : Nat → Nat) (xs : Bool) (n : Nat) (hxd : ∀ j, xd j < 10) : Ctr l D cI yW_begin cW_begin 4 none { frames := 3, cells := 0, slots := 0, locals := 64 } [.ref wq, .ref xq, .int (nI n)] [(wq, .inr (1, [.ref pw, .ref pt, .int (nI cn), .int (nI lf), .int (bI sg), .int (bI bl), .int (bI zr), .int (nI fi), .int (nI si)])), (pw, .inl (cI, 64, .inl (nf W))), (pt, .inl (cI, 31, .inl (nf T))), (xq, .inr (0, [.ref xp, .int (bI xs)])), (xp, .inl (cI, 130, .inl (nf xd)))] (fun _ : Unit => none) (fun _ : Unit => True) (fun _ : Unit => [(wq, .inr (1, [.ref pw, .ref pt, .int (nI 0), .int (nI n), .int (bI false), .int (bI xs), .int (bI (!hasD xd 0 130)), .int (nI 32), .int (nI (if xs = true then 45 else 32))])), (pw, .inl (cI, 64, .inl (nf W))), (pt, .inl (cI, 31, .inl (nf xd))), (xq, .inr (0, [.ref xp, .int (bI xs)])), (xp, .inl (cI, 130, .inl (nf xd)))]) 0 0 := by
  refine xc_mkV (by decide +kernel) (Nat.le_of_ble_eq_true rfl) (fun X hX hin hret => ?_)
  show GG D X 0 0 0 [(wq, .inr (1, [.ref pw, .ref pt, .int (nI cn), .int (nI lf), .int (bI sg), .int (bI bl), .int (bI zr), .int (nI fi), .int (nI si)])), (pw, .inl (cI, 64, .inl (nf W))), (pt, .inl (cI, 31, .inl (nf T))), (xq, .inr (0, [.ref xp, .int (bI xs)])), (xp, .inl (cI, 130, .inl (nf xd)))] [(0, .ref wq), (1, .ref xq), (2, .int (nI n))] []
  refine xg_iconst hX (nI 0) dW_begin_0 (by decide) ?_
  refine xg_istore_n hX (lv' := [(3, .int (nI 0)), (0, .ref wq), (1, .ref xq), (2, .int (nI n))]) dW_begin_1 rfl (by decide) rfl ?_
  have lp1 : ∀ (fu2 : Nat) (i : Nat), (i ≤ 31) → 31 - i < fu2 → GG D X 0 0 2 [(wq, .inr (1, [.ref pw, .ref pt, .int (nI cn), .int (nI lf), .int (bI sg), .int (bI bl), .int (bI zr), .int (nI fi), .int (nI si)])), (pw, .inl (cI, 64, .inl (nf W))), (pt, .inl (cI, 31, .inl (nf (mix i xd T)))), (xq, .inr (0, [.ref xp, .int (bI xs)])), (xp, .inl (cI, 130, .inl (nf xd)))] [(0, .ref wq), (1, .ref xq), (2, .int (nI n)), (3, .int (nI i))] [] := by
    intro fu2
    induction fu2 with
    | zero => intro i hi hm4; exact absurd hm4 (Nat.not_lt_zero _)
    | succ fu2 ih3 =>
      intro i hi hm4
      refine xg_iload_n hX 3 dW_begin_2 rfl rfl ?_
      refine xg_bipush hX (nI 31) dW_begin_3 (by decide) ?_
      refine xg_icmp_geN hX 25 (by omega) (by omega) dW_begin_5 (by decide) (fun h5 => ?_) (fun h5 => ?_)
      ·
        refine xg_aload_n hX 0 dW_begin_25 rfl rfl ?_
        refine xg_iconst hX (nI 0) dW_begin_26 (by decide) ?_
        refine xg_put hX tyW tyW_ok nmW (ci := 1) rfl hinW (ws' := [(wq, .inr (1, [.ref pw, .ref pt, .int (nI 0), .int (nI lf), .int (bI sg), .int (bI bl), .int (bI zr), .int (nI fi), .int (nI si)])), (pw, .inl (cI, 64, .inl (nf W))), (pt, .inl (cI, 31, .inl (nf (mix i xd T)))), (xq, .inr (0, [.ref xp, .int (bI xs)])), (xp, .inl (cI, 130, .inl (nf xd)))]) 0 rfl 2 (by decide) mt_39 rfl rfl rfl (Nat.le_of_ble_eq_true rfl) rfl dW_begin_27 ?_
        refine xg_aload_n hX 0 dW_begin_30 rfl rfl ?_
        refine xg_iload_n hX 2 dW_begin_31 rfl rfl ?_
        refine xg_put hX tyW tyW_ok nmW (ci := 1) rfl hinW (ws' := [(wq, .inr (1, [.ref pw, .ref pt, .int (nI 0), .int (nI n), .int (bI sg), .int (bI bl), .int (bI zr), .int (nI fi), .int (nI si)])), (pw, .inl (cI, 64, .inl (nf W))), (pt, .inl (cI, 31, .inl (nf (mix i xd T)))), (xq, .inr (0, [.ref xp, .int (bI xs)])), (xp, .inl (cI, 130, .inl (nf xd)))]) 0 rfl 3 (by decide) mt_41 rfl rfl rfl (Nat.le_of_ble_eq_true rfl) rfl dW_begin_32 ?_
        refine xg_aload_n hX 0 dW_begin_35 rfl rfl ?_
        refine xg_iconst hX (nI 0) dW_begin_36 (by decide) ?_
        refine xg_top (bI false) rfl ?_
        refine xg_put hX tyW tyW_ok nmW (ci := 1) rfl hinW (ws' := [(wq, .inr (1, [.ref pw, .ref pt, .int (nI 0), .int (nI n), .int (bI false), .int (bI bl), .int (bI zr), .int (nI fi), .int (nI si)])), (pw, .inl (cI, 64, .inl (nf W))), (pt, .inl (cI, 31, .inl (nf (mix i xd T)))), (xq, .inr (0, [.ref xp, .int (bI xs)])), (xp, .inl (cI, 130, .inl (nf xd)))]) 0 rfl 4 (by decide) mt_43 rfl (xn_narB _) (xn_fitB _) (Nat.le_of_ble_eq_true rfl) rfl dW_begin_37 ?_
        refine xg_aload_n hX 0 dW_begin_40 rfl rfl ?_
        refine xg_aload_n hX 1 dW_begin_41 rfl rfl ?_
        refine xg_get hX (ci := 0) rfl hinR 3 rfl 1 (by decide) mt_23 rfl dW_begin_42 ?_
        refine xg_put hX tyW tyW_ok nmW (ci := 1) rfl hinW (ws' := [(wq, .inr (1, [.ref pw, .ref pt, .int (nI 0), .int (nI n), .int (bI false), .int (bI xs), .int (bI zr), .int (nI fi), .int (nI si)])), (pw, .inl (cI, 64, .inl (nf W))), (pt, .inl (cI, 31, .inl (nf (mix i xd T)))), (xq, .inr (0, [.ref xp, .int (bI xs)])), (xp, .inl (cI, 130, .inl (nf xd)))]) 0 rfl 5 (by decide) mt_45 rfl (xn_narB _) (xn_fitB _) (Nat.le_of_ble_eq_true rfl) rfl dW_begin_45 ?_
        refine xg_aload_n hX 0 dW_begin_48 rfl rfl ?_
        refine xg_aload_n hX 1 dW_begin_49 rfl rfl ?_
        refine xg_cV hX xq [] (hM := xc_isZero l D cI xq xp xd xs hxd) (wr := [(wq, .inr (1, [.ref pw, .ref pt, .int (nI 0), .int (nI n), .int (bI false), .int (bI xs), .int (bI zr), .int (nI fi), .int (nI si)])), (pw, .inl (cI, 64, .inl (nf W))), (pt, .inl (cI, 31, .inl (nf (mix i xd T))))]) (ws' := fun _ => [(wq, .inr (1, [.ref pw, .ref pt, .int (nI 0), .int (nI n), .int (bI false), .int (bI xs), .int (bI zr), .int (nI fi), .int (nI si)])), (pw, .inl (cI, 64, .inl (nf W))), (pt, .inl (cI, 31, .inl (nf (mix i xd T)))), (xq, .inr (0, [.ref xp, .int (bI xs)])), (xp, .inl (cI, 130, .inl (nf xd)))]) (st' := fun _ => [.int (bI (!hasD xd 0 130)), .ref wq]) [3, 4] [0, 1, 2] [0, 1, 2, 3, 4] [.ref wq] rfl mt_136 mt_270 mt_2 mt_134 mt_135 0 rfl rfl hdR_isZero (by decide) ⟨rfl, rfl⟩ (by decide) rfl rfl (by decide) rfl (by decide) (by decide) (by decide) (fun u => rfl) (fun u => rfl) (fun u => rfl) rfl rfl (by simp [Value.category]) dW_begin_50 (fun _ _ => ?_)
        refine xg_put hX tyW tyW_ok nmW (ci := 1) rfl hinW (ws' := [(wq, .inr (1, [.ref pw, .ref pt, .int (nI 0), .int (nI n), .int (bI false), .int (bI xs), .int (bI (!hasD xd 0 130)), .int (nI fi), .int (nI si)])), (pw, .inl (cI, 64, .inl (nf W))), (pt, .inl (cI, 31, .inl (nf (mix i xd T)))), (xq, .inr (0, [.ref xp, .int (bI xs)])), (xp, .inl (cI, 130, .inl (nf xd)))]) 0 rfl 6 (by decide) mt_46 rfl (xn_narB _) (xn_fitB _) (Nat.le_of_ble_eq_true rfl) rfl dW_begin_53 ?_
        refine xg_aload_n hX 0 dW_begin_56 rfl rfl ?_
        refine xg_bipush hX (nI 32) dW_begin_57 (by decide) ?_
        refine xg_put hX tyW tyW_ok nmW (ci := 1) rfl hinW (ws' := [(wq, .inr (1, [.ref pw, .ref pt, .int (nI 0), .int (nI n), .int (bI false), .int (bI xs), .int (bI (!hasD xd 0 130)), .int (nI 32), .int (nI si)])), (pw, .inl (cI, 64, .inl (nf W))), (pt, .inl (cI, 31, .inl (nf (mix i xd T)))), (xq, .inr (0, [.ref xp, .int (bI xs)])), (xp, .inl (cI, 130, .inl (nf xd)))]) 0 rfl 7 (by decide) mt_47 rfl rfl rfl (Nat.le_of_ble_eq_true rfl) rfl dW_begin_59 ?_
        refine xg_aload_n hX 0 dW_begin_62 rfl rfl ?_
        refine xg_aload_n hX 0 dW_begin_63 rfl rfl ?_
        refine xg_get hX (ci := 1) rfl hinW 0 rfl 5 (by decide) mt_45 rfl dW_begin_64 ?_
        refine xg_if_eqB hX 75 dW_begin_67 (by decide) (fun h67 => ?_) (fun h67 => ?_)
        ·
          refine xg_bipush hX (nI 32) dW_begin_75 (by decide) ?_
          refine xg_put hX tyW tyW_ok nmW (ci := 1) rfl hinW (ws' := [(wq, .inr (1, [.ref pw, .ref pt, .int (nI 0), .int (nI n), .int (bI false), .int (bI xs), .int (bI (!hasD xd 0 130)), .int (nI 32), .int (nI 32)])), (pw, .inl (cI, 64, .inl (nf W))), (pt, .inl (cI, 31, .inl (nf (mix i xd T)))), (xq, .inr (0, [.ref xp, .int (bI xs)])), (xp, .inl (cI, 130, .inl (nf xd)))]) 0 rfl 8 (by decide) mt_48 rfl rfl rfl (Nat.le_of_ble_eq_true rfl) rfl dW_begin_77 ?_
          have hie : i = 31 := by omega
          refine xg_wsE (ws' := [(wq, .inr (1, [.ref pw, .ref pt, .int (nI 0), .int (nI n), .int (bI false), .int (bI xs), .int (bI (!hasD xd 0 130)), .int (nI 32), .int (nI (if xs = true then 45 else 32))])), (pw, .inl (cI, 64, .inl (nf W))), (pt, .inl (cI, 31, .inl (nf (mix i xd T)))), (xq, .inr (0, [.ref xp, .int (bI xs)])), (xp, .inl (cI, 130, .inl (nf xd)))]) (by rw [← (show (nI 32 : Int32) = nI (if xs = true then 45 else 32) from (by rw [h67] <;> rfl))]) ?_
          refine xg_ext hX (g := xd) (ws' := [(wq, .inr (1, [.ref pw, .ref pt, .int (nI 0), .int (nI n), .int (bI false), .int (bI xs), .int (bI (!hasD xd 0 130)), .int (nI 32), .int (nI (if xs = true then 45 else 32))])), (pw, .inl (cI, 64, .inl (nf W))), (pt, .inl (cI, 31, .inl (nf xd))), (xq, .inr (0, [.ref xp, .int (bI xs)])), (xp, .inl (cI, 130, .inl (nf xd)))]) 2 rfl (fun j hj => by rw [hie]; exact mix_lo hj) rfl ?_
          exact hret () _ _ rfl trivial dW_begin_80
        ·
          refine xg_bipush hX (nI 45) dW_begin_70 (by decide) ?_
          refine xg_goto hX 77 dW_begin_72 (by decide) ?_
          refine xg_put hX tyW tyW_ok nmW (ci := 1) rfl hinW (ws' := [(wq, .inr (1, [.ref pw, .ref pt, .int (nI 0), .int (nI n), .int (bI false), .int (bI xs), .int (bI (!hasD xd 0 130)), .int (nI 32), .int (nI 45)])), (pw, .inl (cI, 64, .inl (nf W))), (pt, .inl (cI, 31, .inl (nf (mix i xd T)))), (xq, .inr (0, [.ref xp, .int (bI xs)])), (xp, .inl (cI, 130, .inl (nf xd)))]) 0 rfl 8 (by decide) mt_48 rfl rfl rfl (Nat.le_of_ble_eq_true rfl) rfl dW_begin_77 ?_
          have hie : i = 31 := by omega
          refine xg_wsE (ws' := [(wq, .inr (1, [.ref pw, .ref pt, .int (nI 0), .int (nI n), .int (bI false), .int (bI xs), .int (bI (!hasD xd 0 130)), .int (nI 32), .int (nI (if xs = true then 45 else 32))])), (pw, .inl (cI, 64, .inl (nf W))), (pt, .inl (cI, 31, .inl (nf (mix i xd T)))), (xq, .inr (0, [.ref xp, .int (bI xs)])), (xp, .inl (cI, 130, .inl (nf xd)))]) (by rw [← (show (nI 45 : Int32) = nI (if xs = true then 45 else 32) from (by rw [h67] <;> rfl))]) ?_
          refine xg_ext hX (g := xd) (ws' := [(wq, .inr (1, [.ref pw, .ref pt, .int (nI 0), .int (nI n), .int (bI false), .int (bI xs), .int (bI (!hasD xd 0 130)), .int (nI 32), .int (nI (if xs = true then 45 else 32))])), (pw, .inl (cI, 64, .inl (nf W))), (pt, .inl (cI, 31, .inl (nf xd))), (xq, .inr (0, [.ref xp, .int (bI xs)])), (xp, .inl (cI, 130, .inl (nf xd)))]) 2 rfl (fun j hj => by rw [hie]; exact mix_lo hj) rfl ?_
          exact hret () _ _ rfl trivial dW_begin_80
      ·
        refine xg_aload_n hX 0 dW_begin_8 rfl rfl ?_
        refine xg_get hX (ci := 1) rfl hinW 0 rfl 1 (by decide) mt_38 rfl dW_begin_9 ?_
        refine xg_iload_n hX 3 dW_begin_12 rfl rfl ?_
        refine xg_aload_n hX 1 dW_begin_13 rfl rfl ?_
        refine xg_iload_n hX 3 dW_begin_14 rfl rfl ?_
        refine xg_cV hX xq [.int (nI i)] (hM := xc_digitAt l D cI xq xp xd xs i (by omega)) (wr := [(wq, .inr (1, [.ref pw, .ref pt, .int (nI cn), .int (nI lf), .int (bI sg), .int (bI bl), .int (bI zr), .int (nI fi), .int (nI si)])), (pw, .inl (cI, 64, .inl (nf W))), (pt, .inl (cI, 31, .inl (nf (mix i xd T))))]) (ws' := fun _ => [(wq, .inr (1, [.ref pw, .ref pt, .int (nI cn), .int (nI lf), .int (bI sg), .int (bI bl), .int (bI zr), .int (nI fi), .int (nI si)])), (pw, .inl (cI, 64, .inl (nf W))), (pt, .inl (cI, 31, .inl (nf (mix i xd T)))), (xq, .inr (0, [.ref xp, .int (bI xs)])), (xp, .inl (cI, 130, .inl (nf xd)))]) (st' := fun _ => [.int (nI (xd i)), .int (nI i), .ref pt]) [3, 4] [0, 1, 2] [0, 1, 2, 3, 4] [.int (nI i), .ref pt] rfl mt_144 mt_269 mt_2 mt_142 mt_143 0 rfl rfl hdR_digitAt (by decide) ⟨rfl, rfl⟩ (by decide) rfl rfl (by decide) rfl (by decide) (by decide) (by decide) (fun u => rfl) (fun u => rfl) (fun u => rfl) rfl rfl (by simp [Value.category]) dW_begin_15 (fun _ _ => ?_)
        refine xg_iast hX (ws' := [(wq, .inr (1, [.ref pw, .ref pt, .int (nI cn), .int (nI lf), .int (bI sg), .int (bI bl), .int (bI zr), .int (nI fi), .int (nI si)])), (pw, .inl (cI, 64, .inl (nf W))), (pt, .inl (cI, 31, .inl (nf (up (mix i xd T) i (xd i))))), (xq, .inr (0, [.ref xp, .int (bI xs)])), (xp, .inl (cI, 130, .inl (nf xd)))]) 2 i (xd i) rfl (by omega) (by decide) rfl dW_begin_18 ?_
        refine xg_iincN hX (lv' := [(3, .int (nI (i + 1))), (0, .ref wq), (1, .ref xq), (2, .int (nI n))]) (i + 1) 3 dW_begin_19 rfl (xn_inc _) (by decide) rfl ?_
        refine xg_goto hX 2 dW_begin_22 (by decide) ?_
        refine xg_ext hX (g := mix (i + 1) xd T) (ws' := [(wq, .inr (1, [.ref pw, .ref pt, .int (nI cn), .int (nI lf), .int (bI sg), .int (bI bl), .int (bI zr), .int (nI fi), .int (nI si)])), (pw, .inl (cI, 64, .inl (nf W))), (pt, .inl (cI, 31, .inl (nf (mix (i + 1) xd T)))), (xq, .inr (0, [.ref xp, .int (bI xs)])), (xp, .inl (cI, 130, .inl (nf xd)))]) 2 rfl (fun j hj => mix_up rfl j) rfl ?_
        refine xg_lv hX (lv' := [(0, .ref wq), (1, .ref xq), (2, .int (nI n)), (3, .int (nI (i + 1)))]) [1, 2, 3, 0] rfl ?_
        exact ih3 (i + 1) (by omega) (by omega)
  refine xg_ext hX (g := mix 0 xd T) (ws' := [(wq, .inr (1, [.ref pw, .ref pt, .int (nI cn), .int (nI lf), .int (bI sg), .int (bI bl), .int (bI zr), .int (nI fi), .int (nI si)])), (pw, .inl (cI, 64, .inl (nf W))), (pt, .inl (cI, 31, .inl (nf (mix 0 xd T)))), (xq, .inr (0, [.ref xp, .int (bI xs)])), (xp, .inl (cI, 130, .inl (nf xd)))]) 2 rfl (fun j hj => mix_0 j) rfl ?_
  refine xg_lv hX (lv' := [(0, .ref wq), (1, .ref xq), (2, .int (nI n)), (3, .int (nI 0))]) [1, 2, 3, 0] rfl ?_
  exact lp1 (31 - 0 + 1) 0 (by omega) (Nat.lt_succ_self _)
set_option maxHeartbeats 4000000 in
set_option maxRecDepth 100000 in
theorem xc_takesNext (l : Launch) (D : va_G) (cI : ClassId) (k : Nat) (hk : k < 256) : Ctr l D cI yW_takesNext cW_takesNext 1 (some .boolean) { frames := 0, cells := 0, slots := 0, locals := 0 } [.int (nI k)] [] (fun _ : Unit => some (.int (bI (takesN k)))) (fun _ : Unit => True) (fun _ : Unit => []) 0 0 := by
  refine xc_mkZ (by decide +kernel) (Nat.le_of_ble_eq_true rfl) (fun X hX hret => ?_)
  show GG D X 0 0 0 [] [(0, .int (nI k))] []
  refine xg_iload_n hX 0 dW_takesNext_0 rfl rfl ?_
  refine xg_iconst hX (nI 4) dW_takesNext_1 (by decide) ?_
  refine xg_icmp_ltN hX 15 (by omega) (by omega) dW_takesNext_2 (by decide) (fun h1 => ?_) (fun h1 => ?_)
  ·
    refine xg_iconst hX (nI 0) dW_takesNext_15 (by decide) ?_
    refine xg_top (bI (takesN k)) (by unfold takesN; first | (rw [decide_eq_true (by omega)] <;> rfl) | (rw [decide_eq_false (by omega)] <;> rfl)) ?_
    exact hret () _ _ _ rfl (xn_narB _) trivial dW_takesNext_16
  ·
    refine xg_iload_n hX 0 dW_takesNext_5 rfl rfl ?_
    refine xg_bipush hX (nI 8) dW_takesNext_6 (by decide) ?_
    refine xg_icmp_gtN hX 15 (by omega) (by omega) dW_takesNext_8 (by decide) (fun h2 => ?_) (fun h2 => ?_)
    ·
      refine xg_iconst hX (nI 0) dW_takesNext_15 (by decide) ?_
      refine xg_top (bI (takesN k)) (by unfold takesN; first | (rw [decide_eq_true (by omega)] <;> rfl) | (rw [decide_eq_false (by omega)] <;> rfl)) ?_
      exact hret () _ _ _ rfl (xn_narB _) trivial dW_takesNext_16
    ·
      refine xg_iconst hX (nI 1) dW_takesNext_11 (by decide) ?_
      refine xg_goto hX 16 dW_takesNext_12 (by decide) ?_
      refine xg_top (bI (takesN k)) (by unfold takesN; first | (rw [decide_eq_true (by omega)] <;> rfl) | (rw [decide_eq_false (by omega)] <;> rfl)) ?_
      exact hret () _ _ _ rfl (xn_narB _) trivial dW_takesNext_16
set_option maxHeartbeats 4000000 in
set_option maxRecDepth 100000 in
theorem xc_charAt (l : Launch) (D : va_G) (cI : ClassId) (wq : Nat) (pw : Nat) (pt : Nat) (cn : Nat) (lf : Nat) (sg : Bool) (bl : Bool) (zr : Bool) (fi : Nat) (si : Nat) (W : Nat → Nat) (T : Nat → Nat) (k : Nat) (hk : k < 64) : Ctr l D cI yW_characterAt cW_characterAt 2 (some .int) { frames := 0, cells := 0, slots := 0, locals := 0 } [.ref wq, .int (nI k)] [(wq, .inr (1, [.ref pw, .ref pt, .int (nI cn), .int (nI lf), .int (bI sg), .int (bI bl), .int (bI zr), .int (nI fi), .int (nI si)])), (pw, .inl (cI, 64, .inl (nf W))), (pt, .inl (cI, 31, .inl (nf T)))] (fun _ : Unit => some (.int (nI (W k)))) (fun _ : Unit => True) (fun _ : Unit => [(wq, .inr (1, [.ref pw, .ref pt, .int (nI cn), .int (nI lf), .int (bI sg), .int (bI bl), .int (bI zr), .int (nI fi), .int (nI si)])), (pw, .inl (cI, 64, .inl (nf W))), (pt, .inl (cI, 31, .inl (nf T)))]) 0 0 := by
  refine xc_mkI (by decide +kernel) (Nat.le_of_ble_eq_true rfl) (fun X hX hret => ?_)
  show GG D X 0 0 0 [(wq, .inr (1, [.ref pw, .ref pt, .int (nI cn), .int (nI lf), .int (bI sg), .int (bI bl), .int (bI zr), .int (nI fi), .int (nI si)])), (pw, .inl (cI, 64, .inl (nf W))), (pt, .inl (cI, 31, .inl (nf T)))] [(0, .ref wq), (1, .int (nI k))] []
  refine xg_iload_n hX 1 dW_characterAt_0 rfl rfl ?_
  refine xg_if_ltN hX 19 (by omega) dW_characterAt_1 (by decide) ?_
  refine xg_iload_n hX 1 dW_characterAt_4 rfl rfl ?_
  refine xg_bipush hX (nI 64) dW_characterAt_5 (by decide) ?_
  refine xg_icmp_geN hX 19 (by omega) (by omega) dW_characterAt_7 (by decide) (fun h2 => absurd h2 (by omega)) (fun h2 => ?_)
  refine xg_aload_n hX 0 dW_characterAt_10 rfl rfl ?_
  refine xg_get hX (ci := 1) rfl hinW 0 rfl 0 (by decide) mt_37 rfl dW_characterAt_11 ?_
  refine xg_iload_n hX 1 dW_characterAt_14 rfl rfl ?_
  refine xg_iald hX 1 k rfl (by omega) (by decide) dW_characterAt_15 ?_
  refine xg_goto hX 21 dW_characterAt_16 (by decide) ?_
  exact hret () _ _ _ rfl trivial dW_characterAt_21
set_option maxHeartbeats 4000000 in
set_option maxRecDepth 100000 in
theorem xc_isRun (l : Launch) (D : va_G) (cI : ClassId) (k : Nat) (b : Nat) (hk : k < 256) (hb : b < 256) : Ctr l D cI yW_isRun cW_isRun 2 (some .boolean) { frames := 0, cells := 0, slots := 0, locals := 0 } [.int (nI k), .int (nI b)] [] (fun _ : Unit => some (.int (bI (decide (b < k ∧ k ≤ b + 15))))) (fun _ : Unit => True) (fun _ : Unit => []) 0 0 := by
  refine xc_mkZ (by decide +kernel) (Nat.le_of_ble_eq_true rfl) (fun X hX hret => ?_)
  show GG D X 0 0 0 [] [(0, .int (nI k)), (1, .int (nI b))] []
  refine xg_iload_n hX 0 dW_isRun_0 rfl rfl ?_
  refine xg_iload_n hX 1 dW_isRun_1 rfl rfl ?_
  refine xg_icmp_leN hX 17 (by omega) (by omega) dW_isRun_2 (by decide) (fun h1 => ?_) (fun h1 => ?_)
  ·
    refine xg_iconst hX (nI 0) dW_isRun_17 (by decide) ?_
    refine xg_top (bI (decide (b < k ∧ k ≤ b + 15))) (by first | (rw [decide_eq_true (by omega)] <;> rfl) | (rw [decide_eq_false (by omega)] <;> rfl)) ?_
    exact hret () _ _ _ rfl (xn_narB _) trivial dW_isRun_18
  ·
    refine xg_iload_n hX 0 dW_isRun_5 rfl rfl ?_
    refine xg_iload_n hX 1 dW_isRun_6 rfl rfl ?_
    refine xg_bipush hX (nI 15) dW_isRun_7 (by decide) ?_
    refine xg_iaddN hX dW_isRun_9 ?_
    refine xg_icmp_gtN hX 17 (by omega) (by omega) dW_isRun_10 (by decide) (fun h2 => ?_) (fun h2 => ?_)
    ·
      refine xg_iconst hX (nI 0) dW_isRun_17 (by decide) ?_
      refine xg_top (bI (decide (b < k ∧ k ≤ b + 15))) (by first | (rw [decide_eq_true (by omega)] <;> rfl) | (rw [decide_eq_false (by omega)] <;> rfl)) ?_
      exact hret () _ _ _ rfl (xn_narB _) trivial dW_isRun_18
    ·
      refine xg_iconst hX (nI 1) dW_isRun_13 (by decide) ?_
      refine xg_goto hX 18 dW_isRun_14 (by decide) ?_
      refine xg_top (bI (decide (b < k ∧ k ≤ b + 15))) (by first | (rw [decide_eq_true (by omega)] <;> rfl) | (rw [decide_eq_false (by omega)] <;> rfl)) ?_
      exact hret () _ _ _ rfl (xn_narB _) trivial dW_isRun_18
set_option maxHeartbeats 4000000 in
set_option maxRecDepth 100000 in
theorem xc_write (l : Launch) (D : va_G) (cI : ClassId) (wq : Nat) (pw : Nat) (pt : Nat) (cn : Nat) (lf : Nat) (sg : Bool) (bl : Bool) (zr : Bool) (fi : Nat) (si : Nat) (W : Nat → Nat) (T : Nat → Nat) (c : Nat) (hcn : cn ≤ 64) : Ctr l D cI yW_write cW_write 2 (some .boolean) { frames := 0, cells := 0, slots := 0, locals := 0 } [.ref wq, .int (nI c)] [(wq, .inr (1, [.ref pw, .ref pt, .int (nI cn), .int (nI lf), .int (bI sg), .int (bI bl), .int (bI zr), .int (nI fi), .int (nI si)])), (pw, .inl (cI, 64, .inl (nf W))), (pt, .inl (cI, 31, .inl (nf T)))] (fun u : Bool × (Nat → Nat) × Nat × Nat × Bool × Nat × Nat => match u with | (ok, W2, cn2, lf2, sg2, fi2, si2) => some (.int (bI ok))) (fun u : Bool × (Nat → Nat) × Nat × Nat × Bool × Nat × Nat => match u with | (ok, W2, cn2, lf2, sg2, fi2, si2) => pres ok (pWr c (W, cn, lf, sg, fi, si)) (W2, cn2, lf2, sg2, fi2, si2)) (fun u : Bool × (Nat → Nat) × Nat × Nat × Bool × Nat × Nat => match u with | (ok, W2, cn2, lf2, sg2, fi2, si2) => [(wq, .inr (1, [.ref pw, .ref pt, .int (nI cn2), .int (nI lf2), .int (bI sg2), .int (bI bl), .int (bI zr), .int (nI fi2), .int (nI si2)])), (pw, .inl (cI, 64, .inl (nf W2))), (pt, .inl (cI, 31, .inl (nf T)))]) 0 0 := by
  refine xc_mkZ (by decide +kernel) (Nat.le_of_ble_eq_true rfl) (fun X hX hret => ?_)
  show GG D X 0 0 0 [(wq, .inr (1, [.ref pw, .ref pt, .int (nI cn), .int (nI lf), .int (bI sg), .int (bI bl), .int (bI zr), .int (nI fi), .int (nI si)])), (pw, .inl (cI, 64, .inl (nf W))), (pt, .inl (cI, 31, .inl (nf T)))] [(0, .ref wq), (1, .int (nI c))] []
  refine xg_aload_n hX 0 dW_write_0 rfl rfl ?_
  refine xg_get hX (ci := 1) rfl hinW 0 rfl 2 (by decide) mt_39 rfl dW_write_1 ?_
  refine xg_if_ltN hX 16 (by omega) dW_write_4 (by decide) ?_
  refine xg_aload_n hX 0 dW_write_7 rfl rfl ?_
  refine xg_get hX (ci := 1) rfl hinW 0 rfl 2 (by decide) mt_39 rfl dW_write_8 ?_
  refine xg_bipush hX (nI 64) dW_write_11 (by decide) ?_
  refine xg_icmp_ltN hX 18 (by omega) (by omega) dW_write_13 (by decide) (fun h13 => ?_) (fun h13 => ?_)
  ·
    refine xg_aload_n hX 0 dW_write_18 rfl rfl ?_
    refine xg_get hX (ci := 1) rfl hinW 0 rfl 0 (by decide) mt_37 rfl dW_write_19 ?_
    refine xg_aload_n hX 0 dW_write_22 rfl rfl ?_
    refine xg_get hX (ci := 1) rfl hinW 0 rfl 2 (by decide) mt_39 rfl dW_write_23 ?_
    refine xg_iload_n hX 1 dW_write_26 rfl rfl ?_
    refine xg_iast hX (ws' := [(wq, .inr (1, [.ref pw, .ref pt, .int (nI cn), .int (nI lf), .int (bI sg), .int (bI bl), .int (bI zr), .int (nI fi), .int (nI si)])), (pw, .inl (cI, 64, .inl (nf (up W cn c)))), (pt, .inl (cI, 31, .inl (nf T)))]) 1 cn c rfl (by omega) (by decide) rfl dW_write_27 ?_
    refine xg_aload_n hX 0 dW_write_28 rfl rfl ?_
    refine xg_dup hX dW_write_29 rfl ?_
    refine xg_get hX (ci := 1) rfl hinW 0 rfl 2 (by decide) mt_39 rfl dW_write_30 ?_
    refine xg_iconst hX (nI 1) dW_write_33 (by decide) ?_
    refine xg_iaddN hX dW_write_34 ?_
    refine xg_put hX tyW tyW_ok nmW (ci := 1) rfl hinW (ws' := [(wq, .inr (1, [.ref pw, .ref pt, .int (nI (cn + 1)), .int (nI lf), .int (bI sg), .int (bI bl), .int (bI zr), .int (nI fi), .int (nI si)])), (pw, .inl (cI, 64, .inl (nf (up W cn c)))), (pt, .inl (cI, 31, .inl (nf T)))]) 0 rfl 2 (by decide) mt_39 rfl rfl rfl (Nat.le_of_ble_eq_true rfl) rfl dW_write_35 ?_
    refine xg_iconst hX (nI 1) dW_write_38 (by decide) ?_
    refine xg_top (bI true) rfl ?_
    exact hret (true, up W cn c, cn + 1, lf, sg, fi, si) _ _ _ rfl (xn_narB _) (show pres true (pWr c (W, cn, lf, sg, fi, si)) ((up W cn c), (cn + 1), lf, sg, fi, si) from (pres_t (if_pos h13))) dW_write_39
  ·
    refine xg_iconst hX (nI 0) dW_write_16 (by decide) ?_
    refine xg_top (bI false) rfl ?_
    exact hret (false, W, cn, lf, sg, fi, si) _ _ _ rfl (xn_narB _) (show pres false (pWr c (W, cn, lf, sg, fi, si)) (W, cn, lf, sg, fi, si) from (pres_f (if_neg (by show ¬ cn < 64; omega)))) dW_write_17
set_option maxHeartbeats 4000000 in
set_option maxRecDepth 100000 in
theorem xc_writeFills (l : Launch) (D : va_G) (cI : ClassId) (wq : Nat) (pw : Nat) (pt : Nat) (cn : Nat) (lf : Nat) (sg : Bool) (bl : Bool) (zr : Bool) (fi : Nat) (si : Nat) (W : Nat → Nat) (T : Nat → Nat) (x : Nat) (hx : x ≤ 15) (hcn : cn ≤ 64) : Ctr l D cI yW_writeFills cW_writeFills 3 (some .boolean) { frames := 1, cells := 0, slots := 0, locals := 21 } [.ref wq, .int (nI x)] [(wq, .inr (1, [.ref pw, .ref pt, .int (nI cn), .int (nI lf), .int (bI sg), .int (bI bl), .int (bI zr), .int (nI fi), .int (nI si)])), (pw, .inl (cI, 64, .inl (nf W))), (pt, .inl (cI, 31, .inl (nf T)))] (fun u : Bool × (Nat → Nat) × Nat × Nat × Bool × Nat × Nat => match u with | (ok, W2, cn2, lf2, sg2, fi2, si2) => some (.int (bI ok))) (fun u : Bool × (Nat → Nat) × Nat × Nat × Bool × Nat × Nat => match u with | (ok, W2, cn2, lf2, sg2, fi2, si2) => pres ok (pFl x (W, cn, lf, sg, fi, si)) (W2, cn2, lf2, sg2, fi2, si2)) (fun u : Bool × (Nat → Nat) × Nat × Nat × Bool × Nat × Nat => match u with | (ok, W2, cn2, lf2, sg2, fi2, si2) => [(wq, .inr (1, [.ref pw, .ref pt, .int (nI cn2), .int (nI lf2), .int (bI sg2), .int (bI bl), .int (bI zr), .int (nI fi2), .int (nI si2)])), (pw, .inl (cI, 64, .inl (nf W2))), (pt, .inl (cI, 31, .inl (nf T)))]) 0 0 := by
  refine xc_mkZ (by decide +kernel) (Nat.le_of_ble_eq_true rfl) (fun X hX hret => ?_)
  show GG D X 0 0 0 [(wq, .inr (1, [.ref pw, .ref pt, .int (nI cn), .int (nI lf), .int (bI sg), .int (bI bl), .int (bI zr), .int (nI fi), .int (nI si)])), (pw, .inl (cI, 64, .inl (nf W))), (pt, .inl (cI, 31, .inl (nf T)))] [(0, .ref wq), (1, .int (nI x))] []
  refine xg_iconst hX (nI 0) dW_writeFills_0 (by decide) ?_
  refine xg_istore_n hX (lv' := [(2, .int (nI 0)), (0, .ref wq), (1, .int (nI x))]) dW_writeFills_1 rfl (by decide) rfl ?_
  have lp1 : ∀ (fu2 : Nat) (i : Nat) (Vw : Nat → Nat) (vc : Nat), (i ≤ x) → (vc ≤ 64) → (pFl x (W, cn, lf, sg, fi, si) = pFl (x - i) (Vw, vc, lf, sg, fi, si)) → x - i < fu2 → GG D X 0 0 2 [(wq, .inr (1, [.ref pw, .ref pt, .int (nI vc), .int (nI lf), .int (bI sg), .int (bI bl), .int (bI zr), .int (nI fi), .int (nI si)])), (pw, .inl (cI, 64, .inl (nf Vw))), (pt, .inl (cI, 31, .inl (nf T)))] [(0, .ref wq), (1, .int (nI x)), (2, .int (nI i))] [] := by
    intro fu2
    induction fu2 with
    | zero => intro i Vw vc hi hvc hq hm4; exact absurd hm4 (Nat.not_lt_zero _)
    | succ fu2 ih3 =>
      intro i Vw vc hi hvc hq hm4
      refine xg_iload_n hX 2 dW_writeFills_2 rfl rfl ?_
      refine xg_iload_n hX 1 dW_writeFills_3 rfl rfl ?_
      refine xg_icmp_geN hX 26 (by omega) (by omega) dW_writeFills_4 (by decide) (fun h4 => ?_) (fun h4 => ?_)
      ·
        refine xg_iconst hX (nI 1) dW_writeFills_26 (by decide) ?_
        refine xg_top (bI true) rfl ?_
        exact hret (true, Vw, vc, lf, sg, fi, si) _ _ _ rfl (xn_narB _) (show pres true (pFl x (W, cn, lf, sg, fi, si)) (Vw, vc, lf, sg, fi, si) from (pres_t (by rw [hq, show x - i = 0 by omega] <;> rfl))) dW_writeFills_27
      ·
        refine xg_aload_n hX 0 dW_writeFills_7 rfl rfl ?_
        refine xg_aload_n hX 0 dW_writeFills_8 rfl rfl ?_
        refine xg_get hX (ci := 1) rfl hinW 0 rfl 7 (by decide) mt_47 rfl dW_writeFills_9 ?_
        refine xg_cV hX wq [.int (nI fi)] (hM := xc_write l D cI wq pw pt vc lf sg bl zr fi si Vw T fi hvc) (wr := []) (ws' := fun u => match u with | (okA, W2A, cn2A, lf2A, sg2A, fi2A, si2A) => [(wq, .inr (1, [.ref pw, .ref pt, .int (nI cn2A), .int (nI lf2A), .int (bI sg2A), .int (bI bl), .int (bI zr), .int (nI fi2A), .int (nI si2A)])), (pw, .inl (cI, 64, .inl (nf W2A))), (pt, .inl (cI, 31, .inl (nf T)))]) (st' := fun u => match u with | (okA, W2A, cn2A, lf2A, sg2A, fi2A, si2A) => [.int (bI okA)]) [0, 1, 2] [] [0, 1, 2] [] rfl mt_293 mt_290 mt_3 mt_292 mp_13 0 rfl rfl hdW_write (by decide) ⟨rfl, rfl⟩ (by decide) rfl rfl (by decide) rfl (by decide) (by decide) (by decide) (fun u => rfl) (fun u => rfl) (fun u => rfl) rfl rfl (by simp [Value.category]) dW_writeFills_12 (fun u hu => ?_)
        obtain ⟨okA, W2A, cn2A, lf2A, sg2A, fi2A, si2A⟩ := u
        have huA : pres okA (pWr fi (Vw, vc, lf, sg, fi, si)) (W2A, cn2A, lf2A, sg2A, fi2A, si2A) := hu
        show GG D X 0 0 15 [(wq, .inr (1, [.ref pw, .ref pt, .int (nI cn2A), .int (nI lf2A), .int (bI sg2A), .int (bI bl), .int (bI zr), .int (nI fi2A), .int (nI si2A)])), (pw, .inl (cI, 64, .inl (nf W2A))), (pt, .inl (cI, 31, .inl (nf T)))] [(0, .ref wq), (1, .int (nI x)), (2, .int (nI i))] [.int (bI okA)]
        refine xg_if_neB hX 20 dW_writeFills_15 (by decide) (fun h15 => ?_) (fun h15 => ?_)
        ·
          obtain ⟨rfl, rfl, rfl, rfl, rfl, rfl, eA⟩ := pWr_eq (pres_some huA h15)
          refine xg_iincN hX (lv' := [(2, .int (nI (i + 1))), (0, .ref wq), (1, .int (nI x))]) (i + 1) 2 dW_writeFills_20 rfl (xn_inc _) (by decide) rfl ?_
          refine xg_goto hX 2 dW_writeFills_23 (by decide) ?_
          refine xg_lv hX (lv' := [(0, .ref wq), (1, .int (nI x)), (2, .int (nI (i + 1)))]) [1, 2, 0] rfl ?_
          exact ih3 (i + 1) (up Vw vc fi) (vc + 1) (by omega) (by omega) (by rw [hq, show x - i = (x - (i + 1)) + 1 by omega, pFl_s, pWr_lt eA] <;> rfl) (by omega)
        ·
          refine xg_iconst hX (nI 0) dW_writeFills_18 (by decide) ?_
          refine xg_top (bI false) rfl ?_
          exact hret (false, W2A, cn2A, lf2A, sg2A, fi2A, si2A) _ _ _ rfl (xn_narB _) (show pres false (pFl x (W, cn, lf, sg, fi, si)) (W2A, cn2A, lf2A, sg2A, fi2A, si2A) from (pres_f (by rw [hq, show x - i = (x - (i + 1)) + 1 by omega, pFl_s, pres_none huA h15] <;> rfl))) dW_writeFills_19
  refine xg_lv hX (lv' := [(0, .ref wq), (1, .int (nI x)), (2, .int (nI 0))]) [1, 2, 0] rfl ?_
  exact lp1 (x - 0 + 1) 0 W cn (by omega) (by omega) rfl (Nat.lt_succ_self _)
set_option maxHeartbeats 4000000 in
set_option maxRecDepth 100000 in
theorem xc_writeDigit (l : Launch) (D : va_G) (cI : ClassId) (wq : Nat) (pw : Nat) (pt : Nat) (cn : Nat) (lf : Nat) (sg : Bool) (bl : Bool) (zr : Bool) (fi : Nat) (si : Nat) (W : Nat → Nat) (T : Nat → Nat) (sd : Bool) (hlf : lf < 31) (hcn : cn ≤ 64) (hT : ∀ j, T j < 10) : Ctr l D cI yW_writeDigit cW_writeDigit 5 (some .boolean) { frames := 1, cells := 0, slots := 0, locals := 21 } [.ref wq, .int (nI lf), .int (bI sd)] [(wq, .inr (1, [.ref pw, .ref pt, .int (nI cn), .int (nI lf), .int (bI sg), .int (bI bl), .int (bI zr), .int (nI fi), .int (nI si)])), (pw, .inl (cI, 64, .inl (nf W))), (pt, .inl (cI, 31, .inl (nf T)))] (fun u : Bool × (Nat → Nat) × Nat × Nat × Bool × Nat × Nat => match u with | (ok, W2, cn2, lf2, sg2, fi2, si2) => some (.int (bI ok))) (fun u : Bool × (Nat → Nat) × Nat × Nat × Bool × Nat × Nat => match u with | (ok, W2, cn2, lf2, sg2, fi2, si2) => pres ok (pDg T sd (W, cn, lf + 1, sg, fi, si)) (W2, cn2, lf2, sg2, fi2, si2)) (fun u : Bool × (Nat → Nat) × Nat × Nat × Bool × Nat × Nat => match u with | (ok, W2, cn2, lf2, sg2, fi2, si2) => [(wq, .inr (1, [.ref pw, .ref pt, .int (nI cn2), .int (nI lf2), .int (bI sg2), .int (bI bl), .int (bI zr), .int (nI fi2), .int (nI si2)])), (pw, .inl (cI, 64, .inl (nf W2))), (pt, .inl (cI, 31, .inl (nf T)))]) 0 0 := by
  refine xc_mkZ (by decide +kernel) (Nat.le_of_ble_eq_true rfl) (fun X hX hret => ?_)
  show GG D X 0 0 0 [(wq, .inr (1, [.ref pw, .ref pt, .int (nI cn), .int (nI lf), .int (bI sg), .int (bI bl), .int (bI zr), .int (nI fi), .int (nI si)])), (pw, .inl (cI, 64, .inl (nf W))), (pt, .inl (cI, 31, .inl (nf T)))] [(0, .ref wq), (1, .int (nI lf)), (2, .int (bI sd))] []
  refine xg_iload_n hX 1 dW_writeDigit_0 rfl rfl ?_
  refine xg_if_ltN hX 19 (by omega) dW_writeDigit_1 (by decide) ?_
  refine xg_iload_n hX 1 dW_writeDigit_4 rfl rfl ?_
  refine xg_bipush hX (nI 31) dW_writeDigit_5 (by decide) ?_
  refine xg_icmp_geN hX 19 (by omega) (by omega) dW_writeDigit_7 (by decide) (fun h2 => absurd h2 (by omega)) (fun h2 => ?_)
  refine xg_aload_n hX 0 dW_writeDigit_10 rfl rfl ?_
  refine xg_get hX (ci := 1) rfl hinW 0 rfl 1 (by decide) mt_38 rfl dW_writeDigit_11 ?_
  refine xg_iload_n hX 1 dW_writeDigit_14 rfl rfl ?_
  refine xg_iald hX 2 lf rfl (by omega) (by decide) dW_writeDigit_15 ?_
  have eT := hT lf
  refine xg_goto hX 20 dW_writeDigit_16 (by decide) ?_
  refine xg_istore_n hX (lv' := [(3, .int (nI (T lf))), (0, .ref wq), (1, .int (nI lf)), (2, .int (bI sd))]) dW_writeDigit_20 rfl (by decide) rfl ?_
  refine xg_iload_n hX 0 dW_writeDigit_21 rfl rfl ?_
  refine xg_if_neN hX 41 (by omega) dW_writeDigit_22 (by decide) (fun h22 => ?_) (fun h22 => ?_)
  ·
    refine xg_iload_n hX 3 dW_writeDigit_41 rfl rfl ?_
    refine xg_if_eqB hX 56 dW_writeDigit_42 (by decide) (fun h42 => ?_) (fun h42 => ?_)
    ·
      refine xg_iconst hX (nI 0) dW_writeDigit_56 (by decide) ?_
      refine xg_istore hX (lv' := [(4, .int (nI 0)), (3, .int (nI (T lf))), (0, .ref wq), (1, .int (nI lf)), (2, .int (bI sd))]) dW_writeDigit_57 (by decide) rfl ?_
      refine xg_aload_n hX 2 dW_writeDigit_59 rfl rfl ?_
      refine xg_iconst hX (nI 1) dW_writeDigit_60 (by decide) ?_
      refine xg_top (bI true) rfl ?_
      refine xg_put hX tyW tyW_ok nmW (ci := 1) rfl hinW (ws' := [(wq, .inr (1, [.ref pw, .ref pt, .int (nI cn), .int (nI lf), .int (bI true), .int (bI bl), .int (bI zr), .int (nI fi), .int (nI si)])), (pw, .inl (cI, 64, .inl (nf W))), (pt, .inl (cI, 31, .inl (nf T)))]) 0 rfl 4 (by decide) mt_43 rfl (xn_narB _) (xn_fitB _) (Nat.le_of_ble_eq_true rfl) rfl dW_writeDigit_61 ?_
      refine xg_iload hX 0 dW_writeDigit_64 rfl ?_
      refine xg_if_eqN hX 82 (by omega) dW_writeDigit_66 (by decide) (fun _ => ?_) (fun h => absurd h (by decide))
      refine xg_aload_n hX 2 dW_writeDigit_82 rfl rfl ?_
      refine xg_bipush hX (nI 48) dW_writeDigit_83 (by decide) ?_
      refine xg_iload_n hX 1 dW_writeDigit_85 rfl rfl ?_
      refine xg_iaddN hX dW_writeDigit_86 ?_
      refine xg_cV hX wq [.int (nI (48 + (T lf)))] (hM := xc_write l D cI wq pw pt cn lf true bl zr fi si W T (48 + (T lf)) (by omega)) (wr := []) (ws' := fun u => match u with | (okC, W2C, cn2C, lf2C, sg2C, fi2C, si2C) => [(wq, .inr (1, [.ref pw, .ref pt, .int (nI cn2C), .int (nI lf2C), .int (bI sg2C), .int (bI bl), .int (bI zr), .int (nI fi2C), .int (nI si2C)])), (pw, .inl (cI, 64, .inl (nf W2C))), (pt, .inl (cI, 31, .inl (nf T)))]) (st' := fun u => match u with | (okC, W2C, cn2C, lf2C, sg2C, fi2C, si2C) => [.int (bI okC)]) [0, 1, 2] [] [0, 1, 2] [] rfl mt_293 mt_290 mt_3 mt_292 mp_13 0 rfl rfl hdW_write (by decide) ⟨rfl, rfl⟩ (by decide) rfl rfl (by decide) rfl (by decide) (by decide) (by decide) (fun u => rfl) (fun u => rfl) (fun u => rfl) rfl rfl (by simp [Value.category]) dW_writeDigit_87 (fun u hu => ?_)
      obtain ⟨okC, W2C, cn2C, lf2C, sg2C, fi2C, si2C⟩ := u
      have huC : pres okC (pWr (48 + (T lf)) (W, cn, lf, true, fi, si)) (W2C, cn2C, lf2C, sg2C, fi2C, si2C) := hu
      show GG D X 0 0 90 [(wq, .inr (1, [.ref pw, .ref pt, .int (nI cn2C), .int (nI lf2C), .int (bI sg2C), .int (bI bl), .int (bI zr), .int (nI fi2C), .int (nI si2C)])), (pw, .inl (cI, 64, .inl (nf W2C))), (pt, .inl (cI, 31, .inl (nf T)))] [(4, .int (nI 0)), (3, .int (nI (T lf))), (0, .ref wq), (1, .int (nI lf)), (2, .int (bI sd))] [.int (bI okC)]
      exact hret (okC, W2C, cn2C, lf2C, sg2C, fi2C, si2C) _ _ _ rfl (xn_narB _) (show pres okC (pDg T sd (W, cn, lf + 1, sg, fi, si)) (W2C, cn2C, lf2C, sg2C, fi2C, si2C) from (by rw [pDg_eq, if_neg (fun q => by first | omega | exact absurd (h29.symm.trans q.2) (by decide))]; first | (rw [if_pos ⟨h42, h49⟩, pWr_lt eB]; exact huC) | (rw [if_neg (fun q => by first | exact absurd (h42.symm.trans q.1) (by decide) | exact absurd (h49.symm.trans q.2) (by decide))]; exact huC))) dW_writeDigit_90
    ·
      refine xg_aload_n hX 1 dW_writeDigit_45 rfl rfl ?_
      refine xg_get hX (ci := 1) rfl hinW 0 rfl 4 (by decide) mt_43 rfl dW_writeDigit_46 ?_
      refine xg_if_neB hX 56 dW_writeDigit_49 (by decide) (fun h49 => ?_) (fun h49 => ?_)
      ·
        refine xg_iconst hX (nI 0) dW_writeDigit_56 (by decide) ?_
        refine xg_istore hX (lv' := [(4, .int (nI 0)), (3, .int (nI (T lf))), (0, .ref wq), (1, .int (nI lf)), (2, .int (bI sd))]) dW_writeDigit_57 (by decide) rfl ?_
        refine xg_aload_n hX 2 dW_writeDigit_59 rfl rfl ?_
        refine xg_iconst hX (nI 1) dW_writeDigit_60 (by decide) ?_
        refine xg_top (bI true) rfl ?_
        refine xg_put hX tyW tyW_ok nmW (ci := 1) rfl hinW (ws' := [(wq, .inr (1, [.ref pw, .ref pt, .int (nI cn), .int (nI lf), .int (bI true), .int (bI bl), .int (bI zr), .int (nI fi), .int (nI si)])), (pw, .inl (cI, 64, .inl (nf W))), (pt, .inl (cI, 31, .inl (nf T)))]) 0 rfl 4 (by decide) mt_43 rfl (xn_narB _) (xn_fitB _) (Nat.le_of_ble_eq_true rfl) rfl dW_writeDigit_61 ?_
        refine xg_iload hX 0 dW_writeDigit_64 rfl ?_
        refine xg_if_eqN hX 82 (by omega) dW_writeDigit_66 (by decide) (fun _ => ?_) (fun h => absurd h (by decide))
        refine xg_aload_n hX 2 dW_writeDigit_82 rfl rfl ?_
        refine xg_bipush hX (nI 48) dW_writeDigit_83 (by decide) ?_
        refine xg_iload_n hX 1 dW_writeDigit_85 rfl rfl ?_
        refine xg_iaddN hX dW_writeDigit_86 ?_
        refine xg_cV hX wq [.int (nI (48 + (T lf)))] (hM := xc_write l D cI wq pw pt cn lf true bl zr fi si W T (48 + (T lf)) (by omega)) (wr := []) (ws' := fun u => match u with | (okC, W2C, cn2C, lf2C, sg2C, fi2C, si2C) => [(wq, .inr (1, [.ref pw, .ref pt, .int (nI cn2C), .int (nI lf2C), .int (bI sg2C), .int (bI bl), .int (bI zr), .int (nI fi2C), .int (nI si2C)])), (pw, .inl (cI, 64, .inl (nf W2C))), (pt, .inl (cI, 31, .inl (nf T)))]) (st' := fun u => match u with | (okC, W2C, cn2C, lf2C, sg2C, fi2C, si2C) => [.int (bI okC)]) [0, 1, 2] [] [0, 1, 2] [] rfl mt_293 mt_290 mt_3 mt_292 mp_13 0 rfl rfl hdW_write (by decide) ⟨rfl, rfl⟩ (by decide) rfl rfl (by decide) rfl (by decide) (by decide) (by decide) (fun u => rfl) (fun u => rfl) (fun u => rfl) rfl rfl (by simp [Value.category]) dW_writeDigit_87 (fun u hu => ?_)
        obtain ⟨okC, W2C, cn2C, lf2C, sg2C, fi2C, si2C⟩ := u
        have huC : pres okC (pWr (48 + (T lf)) (W, cn, lf, true, fi, si)) (W2C, cn2C, lf2C, sg2C, fi2C, si2C) := hu
        show GG D X 0 0 90 [(wq, .inr (1, [.ref pw, .ref pt, .int (nI cn2C), .int (nI lf2C), .int (bI sg2C), .int (bI bl), .int (bI zr), .int (nI fi2C), .int (nI si2C)])), (pw, .inl (cI, 64, .inl (nf W2C))), (pt, .inl (cI, 31, .inl (nf T)))] [(4, .int (nI 0)), (3, .int (nI (T lf))), (0, .ref wq), (1, .int (nI lf)), (2, .int (bI sd))] [.int (bI okC)]
        exact hret (okC, W2C, cn2C, lf2C, sg2C, fi2C, si2C) _ _ _ rfl (xn_narB _) (show pres okC (pDg T sd (W, cn, lf + 1, sg, fi, si)) (W2C, cn2C, lf2C, sg2C, fi2C, si2C) from (by rw [pDg_eq, if_neg (fun q => by first | omega | exact absurd (h29.symm.trans q.2) (by decide))]; first | (rw [if_pos ⟨h42, h49⟩, pWr_lt eB]; exact huC) | (rw [if_neg (fun q => by first | exact absurd (h42.symm.trans q.1) (by decide) | exact absurd (h49.symm.trans q.2) (by decide))]; exact huC))) dW_writeDigit_90
      ·
        refine xg_iconst hX (nI 1) dW_writeDigit_52 (by decide) ?_
        refine xg_goto hX 57 dW_writeDigit_53 (by decide) ?_
        refine xg_istore hX (lv' := [(4, .int (nI 1)), (3, .int (nI (T lf))), (0, .ref wq), (1, .int (nI lf)), (2, .int (bI sd))]) dW_writeDigit_57 (by decide) rfl ?_
        refine xg_aload_n hX 2 dW_writeDigit_59 rfl rfl ?_
        refine xg_iconst hX (nI 1) dW_writeDigit_60 (by decide) ?_
        refine xg_top (bI true) rfl ?_
        refine xg_put hX tyW tyW_ok nmW (ci := 1) rfl hinW (ws' := [(wq, .inr (1, [.ref pw, .ref pt, .int (nI cn), .int (nI lf), .int (bI true), .int (bI bl), .int (bI zr), .int (nI fi), .int (nI si)])), (pw, .inl (cI, 64, .inl (nf W))), (pt, .inl (cI, 31, .inl (nf T)))]) 0 rfl 4 (by decide) mt_43 rfl (xn_narB _) (xn_fitB _) (Nat.le_of_ble_eq_true rfl) rfl dW_writeDigit_61 ?_
        refine xg_iload hX 0 dW_writeDigit_64 rfl ?_
        refine xg_if_eqN hX 82 (by omega) dW_writeDigit_66 (by decide) (fun h => absurd h (by decide)) (fun _ => ?_)
        refine xg_aload_n hX 2 dW_writeDigit_69 rfl rfl ?_
        refine xg_aload_n hX 2 dW_writeDigit_70 rfl rfl ?_
        refine xg_get hX (ci := 1) rfl hinW 0 rfl 8 (by decide) mt_48 rfl dW_writeDigit_71 ?_
        refine xg_cV hX wq [.int (nI si)] (hM := xc_write l D cI wq pw pt cn lf true bl zr fi si W T si hcn) (wr := []) (ws' := fun u => match u with | (okB, W2B, cn2B, lf2B, sg2B, fi2B, si2B) => [(wq, .inr (1, [.ref pw, .ref pt, .int (nI cn2B), .int (nI lf2B), .int (bI sg2B), .int (bI bl), .int (bI zr), .int (nI fi2B), .int (nI si2B)])), (pw, .inl (cI, 64, .inl (nf W2B))), (pt, .inl (cI, 31, .inl (nf T)))]) (st' := fun u => match u with | (okB, W2B, cn2B, lf2B, sg2B, fi2B, si2B) => [.int (bI okB)]) [0, 1, 2] [] [0, 1, 2] [] rfl mt_293 mt_290 mt_3 mt_292 mp_13 0 rfl rfl hdW_write (by decide) ⟨rfl, rfl⟩ (by decide) rfl rfl (by decide) rfl (by decide) (by decide) (by decide) (fun u => rfl) (fun u => rfl) (fun u => rfl) rfl rfl (by simp [Value.category]) dW_writeDigit_74 (fun u hu => ?_)
        obtain ⟨okB, W2B, cn2B, lf2B, sg2B, fi2B, si2B⟩ := u
        have huB : pres okB (pWr si (W, cn, lf, true, fi, si)) (W2B, cn2B, lf2B, sg2B, fi2B, si2B) := hu
        show GG D X 0 0 77 [(wq, .inr (1, [.ref pw, .ref pt, .int (nI cn2B), .int (nI lf2B), .int (bI sg2B), .int (bI bl), .int (bI zr), .int (nI fi2B), .int (nI si2B)])), (pw, .inl (cI, 64, .inl (nf W2B))), (pt, .inl (cI, 31, .inl (nf T)))] [(4, .int (nI 1)), (3, .int (nI (T lf))), (0, .ref wq), (1, .int (nI lf)), (2, .int (bI sd))] [.int (bI okB)]
        refine xg_if_neB hX 82 dW_writeDigit_77 (by decide) (fun h77 => ?_) (fun h77 => ?_)
        ·
          obtain ⟨rfl, rfl, rfl, rfl, rfl, rfl, eB⟩ := pWr_eq (pres_some huB h77)
          refine xg_aload_n hX 2 dW_writeDigit_82 rfl rfl ?_
          refine xg_bipush hX (nI 48) dW_writeDigit_83 (by decide) ?_
          refine xg_iload_n hX 1 dW_writeDigit_85 rfl rfl ?_
          refine xg_iaddN hX dW_writeDigit_86 ?_
          refine xg_cV hX wq [.int (nI (48 + (T lf)))] (hM := xc_write l D cI wq pw pt (cn + 1) lf true bl zr fi si (up W cn si) T (48 + (T lf)) (by omega)) (wr := []) (ws' := fun u => match u with | (okC, W2C, cn2C, lf2C, sg2C, fi2C, si2C) => [(wq, .inr (1, [.ref pw, .ref pt, .int (nI cn2C), .int (nI lf2C), .int (bI sg2C), .int (bI bl), .int (bI zr), .int (nI fi2C), .int (nI si2C)])), (pw, .inl (cI, 64, .inl (nf W2C))), (pt, .inl (cI, 31, .inl (nf T)))]) (st' := fun u => match u with | (okC, W2C, cn2C, lf2C, sg2C, fi2C, si2C) => [.int (bI okC)]) [0, 1, 2] [] [0, 1, 2] [] rfl mt_293 mt_290 mt_3 mt_292 mp_13 0 rfl rfl hdW_write (by decide) ⟨rfl, rfl⟩ (by decide) rfl rfl (by decide) rfl (by decide) (by decide) (by decide) (fun u => rfl) (fun u => rfl) (fun u => rfl) rfl rfl (by simp [Value.category]) dW_writeDigit_87 (fun u hu => ?_)
          obtain ⟨okC, W2C, cn2C, lf2C, sg2C, fi2C, si2C⟩ := u
          have huC : pres okC (pWr (48 + (T lf)) (up W cn si, cn + 1, lf, true, fi, si)) (W2C, cn2C, lf2C, sg2C, fi2C, si2C) := hu
          show GG D X 0 0 90 [(wq, .inr (1, [.ref pw, .ref pt, .int (nI cn2C), .int (nI lf2C), .int (bI sg2C), .int (bI bl), .int (bI zr), .int (nI fi2C), .int (nI si2C)])), (pw, .inl (cI, 64, .inl (nf W2C))), (pt, .inl (cI, 31, .inl (nf T)))] [(4, .int (nI 1)), (3, .int (nI (T lf))), (0, .ref wq), (1, .int (nI lf)), (2, .int (bI sd))] [.int (bI okC)]
          exact hret (okC, W2C, cn2C, lf2C, sg2C, fi2C, si2C) _ _ _ rfl (xn_narB _) (show pres okC (pDg T sd (W, cn, lf + 1, sg, fi, si)) (W2C, cn2C, lf2C, sg2C, fi2C, si2C) from (by rw [pDg_eq, if_neg (fun q => by first | omega | exact absurd (h29.symm.trans q.2) (by decide))]; first | (rw [if_pos ⟨h42, h49⟩, pWr_lt eB]; exact huC) | (rw [if_neg (fun q => by first | exact absurd (h42.symm.trans q.1) (by decide) | exact absurd (h49.symm.trans q.2) (by decide))]; exact huC))) dW_writeDigit_90
        ·
          refine xg_iconst hX (nI 0) dW_writeDigit_80 (by decide) ?_
          refine xg_top (bI false) rfl ?_
          exact hret (false, W2B, cn2B, lf2B, sg2B, fi2B, si2B) _ _ _ rfl (xn_narB _) (show pres false (pDg T sd (W, cn, lf + 1, sg, fi, si)) (W2B, cn2B, lf2B, sg2B, fi2B, si2B) from (pres_f (by rw [pDg_eq, if_neg (fun q => by first | omega | exact absurd (h29.symm.trans q.2) (by decide)), if_pos ⟨h42, h49⟩, pres_none huB h77] <;> rfl))) dW_writeDigit_81
  ·
    refine xg_aload_n hX 1 dW_writeDigit_25 rfl rfl ?_
    refine xg_get hX (ci := 1) rfl hinW 0 rfl 4 (by decide) mt_43 rfl dW_writeDigit_26 ?_
    refine xg_if_neB hX 41 dW_writeDigit_29 (by decide) (fun h29 => ?_) (fun h29 => ?_)
    ·
      refine xg_iload_n hX 3 dW_writeDigit_41 rfl rfl ?_
      refine xg_if_eqB hX 56 dW_writeDigit_42 (by decide) (fun h42 => ?_) (fun h42 => ?_)
      ·
        refine xg_iconst hX (nI 0) dW_writeDigit_56 (by decide) ?_
        refine xg_istore hX (lv' := [(4, .int (nI 0)), (3, .int (nI (T lf))), (0, .ref wq), (1, .int (nI lf)), (2, .int (bI sd))]) dW_writeDigit_57 (by decide) rfl ?_
        refine xg_aload_n hX 2 dW_writeDigit_59 rfl rfl ?_
        refine xg_iconst hX (nI 1) dW_writeDigit_60 (by decide) ?_
        refine xg_top (bI true) rfl ?_
        refine xg_put hX tyW tyW_ok nmW (ci := 1) rfl hinW (ws' := [(wq, .inr (1, [.ref pw, .ref pt, .int (nI cn), .int (nI lf), .int (bI true), .int (bI bl), .int (bI zr), .int (nI fi), .int (nI si)])), (pw, .inl (cI, 64, .inl (nf W))), (pt, .inl (cI, 31, .inl (nf T)))]) 0 rfl 4 (by decide) mt_43 rfl (xn_narB _) (xn_fitB _) (Nat.le_of_ble_eq_true rfl) rfl dW_writeDigit_61 ?_
        refine xg_iload hX 0 dW_writeDigit_64 rfl ?_
        refine xg_if_eqN hX 82 (by omega) dW_writeDigit_66 (by decide) (fun _ => ?_) (fun h => absurd h (by decide))
        refine xg_aload_n hX 2 dW_writeDigit_82 rfl rfl ?_
        refine xg_bipush hX (nI 48) dW_writeDigit_83 (by decide) ?_
        refine xg_iload_n hX 1 dW_writeDigit_85 rfl rfl ?_
        refine xg_iaddN hX dW_writeDigit_86 ?_
        refine xg_cV hX wq [.int (nI (48 + (T lf)))] (hM := xc_write l D cI wq pw pt cn lf true bl zr fi si W T (48 + (T lf)) (by omega)) (wr := []) (ws' := fun u => match u with | (okC, W2C, cn2C, lf2C, sg2C, fi2C, si2C) => [(wq, .inr (1, [.ref pw, .ref pt, .int (nI cn2C), .int (nI lf2C), .int (bI sg2C), .int (bI bl), .int (bI zr), .int (nI fi2C), .int (nI si2C)])), (pw, .inl (cI, 64, .inl (nf W2C))), (pt, .inl (cI, 31, .inl (nf T)))]) (st' := fun u => match u with | (okC, W2C, cn2C, lf2C, sg2C, fi2C, si2C) => [.int (bI okC)]) [0, 1, 2] [] [0, 1, 2] [] rfl mt_293 mt_290 mt_3 mt_292 mp_13 0 rfl rfl hdW_write (by decide) ⟨rfl, rfl⟩ (by decide) rfl rfl (by decide) rfl (by decide) (by decide) (by decide) (fun u => rfl) (fun u => rfl) (fun u => rfl) rfl rfl (by simp [Value.category]) dW_writeDigit_87 (fun u hu => ?_)
        obtain ⟨okC, W2C, cn2C, lf2C, sg2C, fi2C, si2C⟩ := u
        have huC : pres okC (pWr (48 + (T lf)) (W, cn, lf, true, fi, si)) (W2C, cn2C, lf2C, sg2C, fi2C, si2C) := hu
        show GG D X 0 0 90 [(wq, .inr (1, [.ref pw, .ref pt, .int (nI cn2C), .int (nI lf2C), .int (bI sg2C), .int (bI bl), .int (bI zr), .int (nI fi2C), .int (nI si2C)])), (pw, .inl (cI, 64, .inl (nf W2C))), (pt, .inl (cI, 31, .inl (nf T)))] [(4, .int (nI 0)), (3, .int (nI (T lf))), (0, .ref wq), (1, .int (nI lf)), (2, .int (bI sd))] [.int (bI okC)]
        exact hret (okC, W2C, cn2C, lf2C, sg2C, fi2C, si2C) _ _ _ rfl (xn_narB _) (show pres okC (pDg T sd (W, cn, lf + 1, sg, fi, si)) (W2C, cn2C, lf2C, sg2C, fi2C, si2C) from (by rw [pDg_eq, if_neg (fun q => by first | omega | exact absurd (h29.symm.trans q.2) (by decide))]; first | (rw [if_pos ⟨h42, h49⟩, pWr_lt eB]; exact huC) | (rw [if_neg (fun q => by first | exact absurd (h42.symm.trans q.1) (by decide) | exact absurd (h49.symm.trans q.2) (by decide))]; exact huC))) dW_writeDigit_90
      ·
        refine xg_aload_n hX 1 dW_writeDigit_45 rfl rfl ?_
        refine xg_get hX (ci := 1) rfl hinW 0 rfl 4 (by decide) mt_43 rfl dW_writeDigit_46 ?_
        refine xg_if_neB hX 56 dW_writeDigit_49 (by decide) (fun h49 => ?_) (fun h49 => ?_)
        ·
          refine xg_iconst hX (nI 0) dW_writeDigit_56 (by decide) ?_
          refine xg_istore hX (lv' := [(4, .int (nI 0)), (3, .int (nI (T lf))), (0, .ref wq), (1, .int (nI lf)), (2, .int (bI sd))]) dW_writeDigit_57 (by decide) rfl ?_
          refine xg_aload_n hX 2 dW_writeDigit_59 rfl rfl ?_
          refine xg_iconst hX (nI 1) dW_writeDigit_60 (by decide) ?_
          refine xg_top (bI true) rfl ?_
          refine xg_put hX tyW tyW_ok nmW (ci := 1) rfl hinW (ws' := [(wq, .inr (1, [.ref pw, .ref pt, .int (nI cn), .int (nI lf), .int (bI true), .int (bI bl), .int (bI zr), .int (nI fi), .int (nI si)])), (pw, .inl (cI, 64, .inl (nf W))), (pt, .inl (cI, 31, .inl (nf T)))]) 0 rfl 4 (by decide) mt_43 rfl (xn_narB _) (xn_fitB _) (Nat.le_of_ble_eq_true rfl) rfl dW_writeDigit_61 ?_
          refine xg_iload hX 0 dW_writeDigit_64 rfl ?_
          refine xg_if_eqN hX 82 (by omega) dW_writeDigit_66 (by decide) (fun _ => ?_) (fun h => absurd h (by decide))
          refine xg_aload_n hX 2 dW_writeDigit_82 rfl rfl ?_
          refine xg_bipush hX (nI 48) dW_writeDigit_83 (by decide) ?_
          refine xg_iload_n hX 1 dW_writeDigit_85 rfl rfl ?_
          refine xg_iaddN hX dW_writeDigit_86 ?_
          refine xg_cV hX wq [.int (nI (48 + (T lf)))] (hM := xc_write l D cI wq pw pt cn lf true bl zr fi si W T (48 + (T lf)) (by omega)) (wr := []) (ws' := fun u => match u with | (okC, W2C, cn2C, lf2C, sg2C, fi2C, si2C) => [(wq, .inr (1, [.ref pw, .ref pt, .int (nI cn2C), .int (nI lf2C), .int (bI sg2C), .int (bI bl), .int (bI zr), .int (nI fi2C), .int (nI si2C)])), (pw, .inl (cI, 64, .inl (nf W2C))), (pt, .inl (cI, 31, .inl (nf T)))]) (st' := fun u => match u with | (okC, W2C, cn2C, lf2C, sg2C, fi2C, si2C) => [.int (bI okC)]) [0, 1, 2] [] [0, 1, 2] [] rfl mt_293 mt_290 mt_3 mt_292 mp_13 0 rfl rfl hdW_write (by decide) ⟨rfl, rfl⟩ (by decide) rfl rfl (by decide) rfl (by decide) (by decide) (by decide) (fun u => rfl) (fun u => rfl) (fun u => rfl) rfl rfl (by simp [Value.category]) dW_writeDigit_87 (fun u hu => ?_)
          obtain ⟨okC, W2C, cn2C, lf2C, sg2C, fi2C, si2C⟩ := u
          have huC : pres okC (pWr (48 + (T lf)) (W, cn, lf, true, fi, si)) (W2C, cn2C, lf2C, sg2C, fi2C, si2C) := hu
          show GG D X 0 0 90 [(wq, .inr (1, [.ref pw, .ref pt, .int (nI cn2C), .int (nI lf2C), .int (bI sg2C), .int (bI bl), .int (bI zr), .int (nI fi2C), .int (nI si2C)])), (pw, .inl (cI, 64, .inl (nf W2C))), (pt, .inl (cI, 31, .inl (nf T)))] [(4, .int (nI 0)), (3, .int (nI (T lf))), (0, .ref wq), (1, .int (nI lf)), (2, .int (bI sd))] [.int (bI okC)]
          exact hret (okC, W2C, cn2C, lf2C, sg2C, fi2C, si2C) _ _ _ rfl (xn_narB _) (show pres okC (pDg T sd (W, cn, lf + 1, sg, fi, si)) (W2C, cn2C, lf2C, sg2C, fi2C, si2C) from (by rw [pDg_eq, if_neg (fun q => by first | omega | exact absurd (h29.symm.trans q.2) (by decide))]; first | (rw [if_pos ⟨h42, h49⟩, pWr_lt eB]; exact huC) | (rw [if_neg (fun q => by first | exact absurd (h42.symm.trans q.1) (by decide) | exact absurd (h49.symm.trans q.2) (by decide))]; exact huC))) dW_writeDigit_90
        ·
          refine xg_iconst hX (nI 1) dW_writeDigit_52 (by decide) ?_
          refine xg_goto hX 57 dW_writeDigit_53 (by decide) ?_
          refine xg_istore hX (lv' := [(4, .int (nI 1)), (3, .int (nI (T lf))), (0, .ref wq), (1, .int (nI lf)), (2, .int (bI sd))]) dW_writeDigit_57 (by decide) rfl ?_
          refine xg_aload_n hX 2 dW_writeDigit_59 rfl rfl ?_
          refine xg_iconst hX (nI 1) dW_writeDigit_60 (by decide) ?_
          refine xg_top (bI true) rfl ?_
          refine xg_put hX tyW tyW_ok nmW (ci := 1) rfl hinW (ws' := [(wq, .inr (1, [.ref pw, .ref pt, .int (nI cn), .int (nI lf), .int (bI true), .int (bI bl), .int (bI zr), .int (nI fi), .int (nI si)])), (pw, .inl (cI, 64, .inl (nf W))), (pt, .inl (cI, 31, .inl (nf T)))]) 0 rfl 4 (by decide) mt_43 rfl (xn_narB _) (xn_fitB _) (Nat.le_of_ble_eq_true rfl) rfl dW_writeDigit_61 ?_
          refine xg_iload hX 0 dW_writeDigit_64 rfl ?_
          refine xg_if_eqN hX 82 (by omega) dW_writeDigit_66 (by decide) (fun h => absurd h (by decide)) (fun _ => ?_)
          refine xg_aload_n hX 2 dW_writeDigit_69 rfl rfl ?_
          refine xg_aload_n hX 2 dW_writeDigit_70 rfl rfl ?_
          refine xg_get hX (ci := 1) rfl hinW 0 rfl 8 (by decide) mt_48 rfl dW_writeDigit_71 ?_
          refine xg_cV hX wq [.int (nI si)] (hM := xc_write l D cI wq pw pt cn lf true bl zr fi si W T si hcn) (wr := []) (ws' := fun u => match u with | (okB, W2B, cn2B, lf2B, sg2B, fi2B, si2B) => [(wq, .inr (1, [.ref pw, .ref pt, .int (nI cn2B), .int (nI lf2B), .int (bI sg2B), .int (bI bl), .int (bI zr), .int (nI fi2B), .int (nI si2B)])), (pw, .inl (cI, 64, .inl (nf W2B))), (pt, .inl (cI, 31, .inl (nf T)))]) (st' := fun u => match u with | (okB, W2B, cn2B, lf2B, sg2B, fi2B, si2B) => [.int (bI okB)]) [0, 1, 2] [] [0, 1, 2] [] rfl mt_293 mt_290 mt_3 mt_292 mp_13 0 rfl rfl hdW_write (by decide) ⟨rfl, rfl⟩ (by decide) rfl rfl (by decide) rfl (by decide) (by decide) (by decide) (fun u => rfl) (fun u => rfl) (fun u => rfl) rfl rfl (by simp [Value.category]) dW_writeDigit_74 (fun u hu => ?_)
          obtain ⟨okB, W2B, cn2B, lf2B, sg2B, fi2B, si2B⟩ := u
          have huB : pres okB (pWr si (W, cn, lf, true, fi, si)) (W2B, cn2B, lf2B, sg2B, fi2B, si2B) := hu
          show GG D X 0 0 77 [(wq, .inr (1, [.ref pw, .ref pt, .int (nI cn2B), .int (nI lf2B), .int (bI sg2B), .int (bI bl), .int (bI zr), .int (nI fi2B), .int (nI si2B)])), (pw, .inl (cI, 64, .inl (nf W2B))), (pt, .inl (cI, 31, .inl (nf T)))] [(4, .int (nI 1)), (3, .int (nI (T lf))), (0, .ref wq), (1, .int (nI lf)), (2, .int (bI sd))] [.int (bI okB)]
          refine xg_if_neB hX 82 dW_writeDigit_77 (by decide) (fun h77 => ?_) (fun h77 => ?_)
          ·
            obtain ⟨rfl, rfl, rfl, rfl, rfl, rfl, eB⟩ := pWr_eq (pres_some huB h77)
            refine xg_aload_n hX 2 dW_writeDigit_82 rfl rfl ?_
            refine xg_bipush hX (nI 48) dW_writeDigit_83 (by decide) ?_
            refine xg_iload_n hX 1 dW_writeDigit_85 rfl rfl ?_
            refine xg_iaddN hX dW_writeDigit_86 ?_
            refine xg_cV hX wq [.int (nI (48 + (T lf)))] (hM := xc_write l D cI wq pw pt (cn + 1) lf true bl zr fi si (up W cn si) T (48 + (T lf)) (by omega)) (wr := []) (ws' := fun u => match u with | (okC, W2C, cn2C, lf2C, sg2C, fi2C, si2C) => [(wq, .inr (1, [.ref pw, .ref pt, .int (nI cn2C), .int (nI lf2C), .int (bI sg2C), .int (bI bl), .int (bI zr), .int (nI fi2C), .int (nI si2C)])), (pw, .inl (cI, 64, .inl (nf W2C))), (pt, .inl (cI, 31, .inl (nf T)))]) (st' := fun u => match u with | (okC, W2C, cn2C, lf2C, sg2C, fi2C, si2C) => [.int (bI okC)]) [0, 1, 2] [] [0, 1, 2] [] rfl mt_293 mt_290 mt_3 mt_292 mp_13 0 rfl rfl hdW_write (by decide) ⟨rfl, rfl⟩ (by decide) rfl rfl (by decide) rfl (by decide) (by decide) (by decide) (fun u => rfl) (fun u => rfl) (fun u => rfl) rfl rfl (by simp [Value.category]) dW_writeDigit_87 (fun u hu => ?_)
            obtain ⟨okC, W2C, cn2C, lf2C, sg2C, fi2C, si2C⟩ := u
            have huC : pres okC (pWr (48 + (T lf)) (up W cn si, cn + 1, lf, true, fi, si)) (W2C, cn2C, lf2C, sg2C, fi2C, si2C) := hu
            show GG D X 0 0 90 [(wq, .inr (1, [.ref pw, .ref pt, .int (nI cn2C), .int (nI lf2C), .int (bI sg2C), .int (bI bl), .int (bI zr), .int (nI fi2C), .int (nI si2C)])), (pw, .inl (cI, 64, .inl (nf W2C))), (pt, .inl (cI, 31, .inl (nf T)))] [(4, .int (nI 1)), (3, .int (nI (T lf))), (0, .ref wq), (1, .int (nI lf)), (2, .int (bI sd))] [.int (bI okC)]
            exact hret (okC, W2C, cn2C, lf2C, sg2C, fi2C, si2C) _ _ _ rfl (xn_narB _) (show pres okC (pDg T sd (W, cn, lf + 1, sg, fi, si)) (W2C, cn2C, lf2C, sg2C, fi2C, si2C) from (by rw [pDg_eq, if_neg (fun q => by first | omega | exact absurd (h29.symm.trans q.2) (by decide))]; first | (rw [if_pos ⟨h42, h49⟩, pWr_lt eB]; exact huC) | (rw [if_neg (fun q => by first | exact absurd (h42.symm.trans q.1) (by decide) | exact absurd (h49.symm.trans q.2) (by decide))]; exact huC))) dW_writeDigit_90
          ·
            refine xg_iconst hX (nI 0) dW_writeDigit_80 (by decide) ?_
            refine xg_top (bI false) rfl ?_
            exact hret (false, W2B, cn2B, lf2B, sg2B, fi2B, si2B) _ _ _ rfl (xn_narB _) (show pres false (pDg T sd (W, cn, lf + 1, sg, fi, si)) (W2B, cn2B, lf2B, sg2B, fi2B, si2B) from (pres_f (by rw [pDg_eq, if_neg (fun q => by first | omega | exact absurd (h29.symm.trans q.2) (by decide)), if_pos ⟨h42, h49⟩, pres_none huB h77] <;> rfl))) dW_writeDigit_81
    ·
      refine xg_aload_n hX 1 dW_writeDigit_32 rfl rfl ?_
      refine xg_aload_n hX 1 dW_writeDigit_33 rfl rfl ?_
      refine xg_get hX (ci := 1) rfl hinW 0 rfl 7 (by decide) mt_47 rfl dW_writeDigit_34 ?_
      refine xg_cV hX wq [.int (nI fi)] (hM := xc_write l D cI wq pw pt cn lf sg bl zr fi si W T fi hcn) (wr := []) (ws' := fun u => match u with | (okA, W2A, cn2A, lf2A, sg2A, fi2A, si2A) => [(wq, .inr (1, [.ref pw, .ref pt, .int (nI cn2A), .int (nI lf2A), .int (bI sg2A), .int (bI bl), .int (bI zr), .int (nI fi2A), .int (nI si2A)])), (pw, .inl (cI, 64, .inl (nf W2A))), (pt, .inl (cI, 31, .inl (nf T)))]) (st' := fun u => match u with | (okA, W2A, cn2A, lf2A, sg2A, fi2A, si2A) => [.int (bI okA)]) [0, 1, 2] [] [0, 1, 2] [] rfl mt_293 mt_290 mt_3 mt_292 mp_13 0 rfl rfl hdW_write (by decide) ⟨rfl, rfl⟩ (by decide) rfl rfl (by decide) rfl (by decide) (by decide) (by decide) (fun u => rfl) (fun u => rfl) (fun u => rfl) rfl rfl (by simp [Value.category]) dW_writeDigit_37 (fun u hu => ?_)
      obtain ⟨okA, W2A, cn2A, lf2A, sg2A, fi2A, si2A⟩ := u
      have huA : pres okA (pWr fi (W, cn, lf, sg, fi, si)) (W2A, cn2A, lf2A, sg2A, fi2A, si2A) := hu
      show GG D X 0 0 40 [(wq, .inr (1, [.ref pw, .ref pt, .int (nI cn2A), .int (nI lf2A), .int (bI sg2A), .int (bI bl), .int (bI zr), .int (nI fi2A), .int (nI si2A)])), (pw, .inl (cI, 64, .inl (nf W2A))), (pt, .inl (cI, 31, .inl (nf T)))] [(3, .int (nI (T lf))), (0, .ref wq), (1, .int (nI lf)), (2, .int (bI sd))] [.int (bI okA)]
      exact hret (okA, W2A, cn2A, lf2A, sg2A, fi2A, si2A) _ _ _ rfl (xn_narB _) (show pres okA (pDg T sd (W, cn, lf + 1, sg, fi, si)) (W2A, cn2A, lf2A, sg2A, fi2A, si2A) from (by rw [pDg_eq, if_pos ⟨h22, h29⟩]; exact huA)) dW_writeDigit_40
set_option maxHeartbeats 4000000 in
set_option maxRecDepth 100000 in
theorem xc_writeDigits (l : Launch) (D : va_G) (cI : ClassId) (wq : Nat) (pw : Nat) (pt : Nat) (cn : Nat) (lf : Nat) (sg : Bool) (bl : Bool) (zr : Bool) (fi : Nat) (si : Nat) (W : Nat → Nat) (T : Nat → Nat) (x : Nat) (sd : Bool) (hx : x ≤ 15) (hlf : lf ≤ 31) (hcn : cn ≤ 64) (hT : ∀ j, T j < 10) : Ctr l D cI yW_writeDigits cW_writeDigits 4 (some .boolean) { frames := 2, cells := 0, slots := 0, locals := 45 } [.ref wq, .int (nI x), .int (bI sd)] [(wq, .inr (1, [.ref pw, .ref pt, .int (nI cn), .int (nI lf), .int (bI sg), .int (bI bl), .int (bI zr), .int (nI fi), .int (nI si)])), (pw, .inl (cI, 64, .inl (nf W))), (pt, .inl (cI, 31, .inl (nf T)))] (fun u : Bool × (Nat → Nat) × Nat × Nat × Bool × Nat × Nat => match u with | (ok, W2, cn2, lf2, sg2, fi2, si2) => some (.int (bI ok))) (fun u : Bool × (Nat → Nat) × Nat × Nat × Bool × Nat × Nat => match u with | (ok, W2, cn2, lf2, sg2, fi2, si2) => pres ok (pDs T sd x (W, cn, lf, sg, fi, si)) (W2, cn2, lf2, sg2, fi2, si2)) (fun u : Bool × (Nat → Nat) × Nat × Nat × Bool × Nat × Nat => match u with | (ok, W2, cn2, lf2, sg2, fi2, si2) => [(wq, .inr (1, [.ref pw, .ref pt, .int (nI cn2), .int (nI lf2), .int (bI sg2), .int (bI bl), .int (bI zr), .int (nI fi2), .int (nI si2)])), (pw, .inl (cI, 64, .inl (nf W2))), (pt, .inl (cI, 31, .inl (nf T)))]) 0 0 := by
  refine xc_mkZ (by decide +kernel) (Nat.le_of_ble_eq_true rfl) (fun X hX hret => ?_)
  show GG D X 0 0 0 [(wq, .inr (1, [.ref pw, .ref pt, .int (nI cn), .int (nI lf), .int (bI sg), .int (bI bl), .int (bI zr), .int (nI fi), .int (nI si)])), (pw, .inl (cI, 64, .inl (nf W))), (pt, .inl (cI, 31, .inl (nf T)))] [(0, .ref wq), (1, .int (nI x)), (2, .int (bI sd))] []
  refine xg_iload_n hX 1 dW_writeDigits_0 rfl rfl ?_
  refine xg_aload_n hX 0 dW_writeDigits_1 rfl rfl ?_
  refine xg_get hX (ci := 1) rfl hinW 0 rfl 3 (by decide) mt_41 rfl dW_writeDigits_2 ?_
  refine xg_icmp_leN hX 10 (by omega) (by omega) dW_writeDigits_5 (by decide) (fun h5 => ?_) (fun h5 => ?_)
  ·
    refine xg_iconst hX (nI 0) dW_writeDigits_10 (by decide) ?_
    refine xg_istore_n hX (lv' := [(3, .int (nI 0)), (0, .ref wq), (1, .int (nI x)), (2, .int (bI sd))]) dW_writeDigits_11 rfl (by decide) rfl ?_
    have lp1 : ∀ (fu2 : Nat) (i : Nat) (Vw : Nat → Nat) (vc : Nat) (vl : Nat) (vs : Bool), (i ≤ x) → (vc ≤ 64) → (vl ≤ 31) → (x - i ≤ vl) → (pDs T sd x (W, cn, lf, sg, fi, si) = pDs T sd (x - i) (Vw, vc, vl, vs, fi, si)) → x - i < fu2 → GG D X 0 0 12 [(wq, .inr (1, [.ref pw, .ref pt, .int (nI vc), .int (nI vl), .int (bI vs), .int (bI bl), .int (bI zr), .int (nI fi), .int (nI si)])), (pw, .inl (cI, 64, .inl (nf Vw))), (pt, .inl (cI, 31, .inl (nf T)))] [(0, .ref wq), (1, .int (nI x)), (2, .int (bI sd)), (3, .int (nI i))] [] := by
      intro fu2
      induction fu2 with
      | zero => intro i Vw vc vl vs hi hvc hvl hxl hq hm4; exact absurd hm4 (Nat.not_lt_zero _)
      | succ fu2 ih3 =>
        intro i Vw vc vl vs hi hvc hvl hxl hq hm4
        refine xg_iload_n hX 3 dW_writeDigits_12 rfl rfl ?_
        refine xg_iload_n hX 1 dW_writeDigits_13 rfl rfl ?_
        refine xg_icmp_geN hX 47 (by omega) (by omega) dW_writeDigits_14 (by decide) (fun h14 => ?_) (fun h14 => ?_)
        ·
          refine xg_iconst hX (nI 1) dW_writeDigits_47 (by decide) ?_
          refine xg_top (bI true) rfl ?_
          exact hret (true, Vw, vc, vl, vs, fi, si) _ _ _ rfl (xn_narB _) (show pres true (pDs T sd x (W, cn, lf, sg, fi, si)) (Vw, vc, vl, vs, fi, si) from (pres_t (by rw [hq, show x - i = 0 by omega] <;> rfl))) dW_writeDigits_48
        ·
          refine xg_aload_n hX 0 dW_writeDigits_17 rfl rfl ?_
          refine xg_dup hX dW_writeDigits_18 rfl ?_
          refine xg_get hX (ci := 1) rfl hinW 0 rfl 3 (by decide) mt_41 rfl dW_writeDigits_19 ?_
          refine xg_iconst hX (nI 1) dW_writeDigits_22 (by decide) ?_
          refine xg_isubN hX (by omega) dW_writeDigits_23 ?_
          refine xg_put hX tyW tyW_ok nmW (ci := 1) rfl hinW (ws' := [(wq, .inr (1, [.ref pw, .ref pt, .int (nI vc), .int (nI (vl - 1)), .int (bI vs), .int (bI bl), .int (bI zr), .int (nI fi), .int (nI si)])), (pw, .inl (cI, 64, .inl (nf Vw))), (pt, .inl (cI, 31, .inl (nf T)))]) 0 rfl 3 (by decide) mt_41 rfl rfl rfl (Nat.le_of_ble_eq_true rfl) rfl dW_writeDigits_24 ?_
          refine xg_aload_n hX 0 dW_writeDigits_27 rfl rfl ?_
          refine xg_aload_n hX 0 dW_writeDigits_28 rfl rfl ?_
          refine xg_get hX (ci := 1) rfl hinW 0 rfl 3 (by decide) mt_41 rfl dW_writeDigits_29 ?_
          refine xg_iload_n hX 2 dW_writeDigits_32 rfl rfl ?_
          refine xg_cV hX wq [.int (nI (vl - 1)), .int (bI sd)] (hM := xc_writeDigit l D cI wq pw pt vc (vl - 1) vs bl zr fi si Vw T sd (by omega) hvc hT) (wr := []) (ws' := fun u => match u with | (okA, W2A, cn2A, lf2A, sg2A, fi2A, si2A) => [(wq, .inr (1, [.ref pw, .ref pt, .int (nI cn2A), .int (nI lf2A), .int (bI sg2A), .int (bI bl), .int (bI zr), .int (nI fi2A), .int (nI si2A)])), (pw, .inl (cI, 64, .inl (nf W2A))), (pt, .inl (cI, 31, .inl (nf T)))]) (st' := fun u => match u with | (okA, W2A, cn2A, lf2A, sg2A, fi2A, si2A) => [.int (bI okA)]) [0, 1, 2] [] [0, 1, 2] [] rfl mt_289 mt_286 mt_3 mt_288 mp_12 0 rfl rfl hdW_writeDigit (by decide) ⟨rfl, rfl⟩ (by decide) rfl rfl (by decide) rfl (by decide) (by decide) (by decide) (fun u => rfl) (fun u => rfl) (fun u => rfl) rfl rfl (by simp [Value.category]) dW_writeDigits_33 (fun u hu => ?_)
          obtain ⟨okA, W2A, cn2A, lf2A, sg2A, fi2A, si2A⟩ := u
          have huA : pres okA (pDg T sd (Vw, vc, (vl - 1) + 1, vs, fi, si)) (W2A, cn2A, lf2A, sg2A, fi2A, si2A) := hu
          show GG D X 0 0 36 [(wq, .inr (1, [.ref pw, .ref pt, .int (nI cn2A), .int (nI lf2A), .int (bI sg2A), .int (bI bl), .int (bI zr), .int (nI fi2A), .int (nI si2A)])), (pw, .inl (cI, 64, .inl (nf W2A))), (pt, .inl (cI, 31, .inl (nf T)))] [(0, .ref wq), (1, .int (nI x)), (2, .int (bI sd)), (3, .int (nI i))] [.int (bI okA)]
          refine xg_if_neB hX 41 dW_writeDigits_36 (by decide) (fun h36 => ?_) (fun h36 => ?_)
          ·
            obtain ⟨rfl, rfl, rfl, eA⟩ := pDg_keep (pres_some huA h36)
            refine xg_iincN hX (lv' := [(3, .int (nI (i + 1))), (0, .ref wq), (1, .int (nI x)), (2, .int (bI sd))]) (i + 1) 3 dW_writeDigits_41 rfl (xn_inc _) (by decide) rfl ?_
            refine xg_goto hX 12 dW_writeDigits_44 (by decide) ?_
            refine xg_lv hX (lv' := [(0, .ref wq), (1, .int (nI x)), (2, .int (bI sd)), (3, .int (nI (i + 1)))]) [1, 2, 3, 0] rfl ?_
            exact ih3 (i + 1) W2A cn2A (vl - 1) sg2A (by omega) eA (by omega) (by omega) (by rw [hq, show x - i = (x - (i + 1)) + 1 by omega, pDs_s (by omega)]; have e9 := pres_some huA h36; rw [show vl - 1 + 1 = vl by omega] at e9; rw [e9] <;> rfl) (by omega)
          ·
            refine xg_iconst hX (nI 0) dW_writeDigits_39 (by decide) ?_
            refine xg_top (bI false) rfl ?_
            exact hret (false, W2A, cn2A, lf2A, sg2A, fi2A, si2A) _ _ _ rfl (xn_narB _) (show pres false (pDs T sd x (W, cn, lf, sg, fi, si)) (W2A, cn2A, lf2A, sg2A, fi2A, si2A) from (pres_f (by rw [hq, show x - i = (x - (i + 1)) + 1 by omega, pDs_s (by omega)]; have e9 := pres_none huA h36; rw [show vl - 1 + 1 = vl by omega] at e9; rw [e9] <;> rfl))) dW_writeDigits_40
    refine xg_lv hX (lv' := [(0, .ref wq), (1, .int (nI x)), (2, .int (bI sd)), (3, .int (nI 0))]) [1, 2, 3, 0] rfl ?_
    exact lp1 (x - 0 + 1) 0 W cn lf sg (by omega) (by omega) (by omega) (by omega) rfl (Nat.lt_succ_self _)
  ·
    refine xg_iconst hX (nI 0) dW_writeDigits_8 (by decide) ?_
    refine xg_top (bI false) rfl ?_
    exact hret (false, W, cn, lf, sg, fi, si) _ _ _ rfl (xn_narB _) (show pres false (pDs T sd x (W, cn, lf, sg, fi, si)) (W, cn, lf, sg, fi, si) from (pres_f (pDs_more x _ h5))) dW_writeDigits_9
set_option maxHeartbeats 4000000 in
set_option maxRecDepth 100000 in
theorem xc_fillLast (l : Launch) (D : va_G) (cI : ClassId) (wq : Nat) (pw : Nat) (pt : Nat) (cn : Nat) (lf : Nat) (sg : Bool) (bl : Bool) (zr : Bool) (fi : Nat) (si : Nat) (W : Nat → Nat) (T : Nat → Nat) (x : Nat) (hx : x < 256) (hcn : cn ≤ 64) : Ctr l D cI yW_fillLast cW_fillLast 3 (some .boolean) { frames := 0, cells := 0, slots := 0, locals := 0 } [.ref wq, .int (nI x)] [(wq, .inr (1, [.ref pw, .ref pt, .int (nI cn), .int (nI lf), .int (bI sg), .int (bI bl), .int (bI zr), .int (nI fi), .int (nI si)])), (pw, .inl (cI, 64, .inl (nf W))), (pt, .inl (cI, 31, .inl (nf T)))] (fun u : Bool × (Nat → Nat) × Nat × Nat × Bool × Nat × Nat => match u with | (ok, W2, cn2, lf2, sg2, fi2, si2) => some (.int (bI ok))) (fun u : Bool × (Nat → Nat) × Nat × Nat × Bool × Nat × Nat => match u with | (ok, W2, cn2, lf2, sg2, fi2, si2) => pres ok (pL8 zr x (W, cn, lf, sg, fi, si)) (W2, cn2, lf2, sg2, fi2, si2)) (fun u : Bool × (Nat → Nat) × Nat × Nat × Bool × Nat × Nat => match u with | (ok, W2, cn2, lf2, sg2, fi2, si2) => [(wq, .inr (1, [.ref pw, .ref pt, .int (nI cn2), .int (nI lf2), .int (bI sg2), .int (bI bl), .int (bI zr), .int (nI fi2), .int (nI si2)])), (pw, .inl (cI, 64, .inl (nf W2))), (pt, .inl (cI, 31, .inl (nf T)))]) 0 0 := by
  refine xc_mkZ (by decide +kernel) (Nat.le_of_ble_eq_true rfl) (fun X hX hret => ?_)
  show GG D X 0 0 0 [(wq, .inr (1, [.ref pw, .ref pt, .int (nI cn), .int (nI lf), .int (bI sg), .int (bI bl), .int (bI zr), .int (nI fi), .int (nI si)])), (pw, .inl (cI, 64, .inl (nf W))), (pt, .inl (cI, 31, .inl (nf T)))] [(0, .ref wq), (1, .int (nI x))] []
  refine xg_iload_n hX 1 dW_fillLast_0 rfl rfl ?_
  refine xg_aload_n hX 0 dW_fillLast_1 rfl rfl ?_
  refine xg_get hX (ci := 1) rfl hinW 0 rfl 2 (by decide) mt_39 rfl dW_fillLast_2 ?_
  refine xg_icmp_leN hX 10 (by omega) (by omega) dW_fillLast_5 (by decide) (fun h5 => ?_) (fun h5 => ?_)
  ·
    refine xg_aload_n hX 0 dW_fillLast_10 rfl rfl ?_
    refine xg_get hX (ci := 1) rfl hinW 0 rfl 2 (by decide) mt_39 rfl dW_fillLast_11 ?_
    refine xg_iload_n hX 1 dW_fillLast_14 rfl rfl ?_
    refine xg_isubN hX (by omega) dW_fillLast_15 ?_
    refine xg_istore_n hX (lv' := [(2, .int (nI (cn - x))), (0, .ref wq), (1, .int (nI x))]) dW_fillLast_16 rfl (by decide) rfl ?_
    have lp1 : ∀ (fu2 : Nat) (i : Nat), (cn - x ≤ i) → (i ≤ cn) → (zr = false → i = cn - x) → cn - i < fu2 → GG D X 0 0 17 [(wq, .inr (1, [.ref pw, .ref pt, .int (nI cn), .int (nI lf), .int (bI sg), .int (bI bl), .int (bI zr), .int (nI fi), .int (nI si)])), (pw, .inl (cI, 64, .inl (nf (f8 W fi cn x i)))), (pt, .inl (cI, 31, .inl (nf T)))] [(0, .ref wq), (1, .int (nI x)), (2, .int (nI i))] [] := by
      intro fu2
      induction fu2 with
      | zero => intro i hi hi2 hz hm4; exact absurd hm4 (Nat.not_lt_zero _)
      | succ fu2 ih3 =>
        intro i hi hi2 hz hm4
        refine xg_aload_n hX 0 dW_fillLast_17 rfl rfl ?_
        refine xg_get hX (ci := 1) rfl hinW 0 rfl 6 (by decide) mt_46 rfl dW_fillLast_18 ?_
        refine xg_if_eqB hX 58 dW_fillLast_21 (by decide) (fun h21 => ?_) (fun h21 => ?_)
        ·
          refine xg_iconst hX (nI 1) dW_fillLast_58 (by decide) ?_
          by_cases hzr : zr = true
          ·
            have hie : i = cn := by first | omega | (rw [h21] at hzr; cases hzr)
            refine xg_ext hX (g := f8 W fi cn x cn) (ws' := [(wq, .inr (1, [.ref pw, .ref pt, .int (nI cn), .int (nI lf), .int (bI sg), .int (bI bl), .int (bI zr), .int (nI fi), .int (nI si)])), (pw, .inl (cI, 64, .inl (nf (f8 W fi cn x cn)))), (pt, .inl (cI, 31, .inl (nf T)))]) 1 rfl (fun j hj => by rw [hie]) rfl ?_
            refine xg_top (bI true) rfl ?_
            exact hret (true, f8 W fi cn x cn, cn, lf, sg, fi, si) _ _ _ rfl (xn_narB _) (pres_t (pL8_t h5 hzr)) dW_fillLast_59
          ·
            have hzf : zr = false := by cases zr with | true => exact absurd rfl hzr | false => rfl
            have hie := hz hzf
            refine xg_ext hX (g := W) (ws' := [(wq, .inr (1, [.ref pw, .ref pt, .int (nI cn), .int (nI lf), .int (bI sg), .int (bI bl), .int (bI zr), .int (nI fi), .int (nI si)])), (pw, .inl (cI, 64, .inl (nf W))), (pt, .inl (cI, 31, .inl (nf T)))]) 1 rfl (fun j hj => by rw [hie]; exact (f8_0 j).symm) rfl ?_
            refine xg_top (bI true) rfl ?_
            exact hret (true, W, cn, lf, sg, fi, si) _ _ _ rfl (xn_narB _) (pres_t (pL8_f h5 hzf)) dW_fillLast_59
        ·
          refine xg_iload_n hX 2 dW_fillLast_24 rfl rfl ?_
          refine xg_aload_n hX 0 dW_fillLast_25 rfl rfl ?_
          refine xg_get hX (ci := 1) rfl hinW 0 rfl 2 (by decide) mt_39 rfl dW_fillLast_26 ?_
          refine xg_icmp_geN hX 58 (by omega) (by omega) dW_fillLast_29 (by decide) (fun h29 => ?_) (fun h29 => ?_)
          ·
            refine xg_iconst hX (nI 1) dW_fillLast_58 (by decide) ?_
            by_cases hzr : zr = true
            ·
              have hie : i = cn := by first | omega | (rw [h21] at hzr; cases hzr)
              refine xg_ext hX (g := f8 W fi cn x cn) (ws' := [(wq, .inr (1, [.ref pw, .ref pt, .int (nI cn), .int (nI lf), .int (bI sg), .int (bI bl), .int (bI zr), .int (nI fi), .int (nI si)])), (pw, .inl (cI, 64, .inl (nf (f8 W fi cn x cn)))), (pt, .inl (cI, 31, .inl (nf T)))]) 1 rfl (fun j hj => by rw [hie]) rfl ?_
              refine xg_top (bI true) rfl ?_
              exact hret (true, f8 W fi cn x cn, cn, lf, sg, fi, si) _ _ _ rfl (xn_narB _) (pres_t (pL8_t h5 hzr)) dW_fillLast_59
            ·
              have hzf : zr = false := by cases zr with | true => exact absurd rfl hzr | false => rfl
              have hie := hz hzf
              refine xg_ext hX (g := W) (ws' := [(wq, .inr (1, [.ref pw, .ref pt, .int (nI cn), .int (nI lf), .int (bI sg), .int (bI bl), .int (bI zr), .int (nI fi), .int (nI si)])), (pw, .inl (cI, 64, .inl (nf W))), (pt, .inl (cI, 31, .inl (nf T)))]) 1 rfl (fun j hj => by rw [hie]; exact (f8_0 j).symm) rfl ?_
              refine xg_top (bI true) rfl ?_
              exact hret (true, W, cn, lf, sg, fi, si) _ _ _ rfl (xn_narB _) (pres_t (pL8_f h5 hzf)) dW_fillLast_59
          ·
            refine xg_iload_n hX 2 dW_fillLast_32 rfl rfl ?_
            refine xg_if_ltN hX 52 (by omega) dW_fillLast_33 (by decide) ?_
            refine xg_iload_n hX 2 dW_fillLast_36 rfl rfl ?_
            refine xg_bipush hX (nI 64) dW_fillLast_37 (by decide) ?_
            refine xg_icmp_geN hX 52 (by omega) (by omega) dW_fillLast_39 (by decide) (fun h6 => absurd h6 (by omega)) (fun h6 => ?_)
            refine xg_aload_n hX 0 dW_fillLast_42 rfl rfl ?_
            refine xg_get hX (ci := 1) rfl hinW 0 rfl 0 (by decide) mt_37 rfl dW_fillLast_43 ?_
            refine xg_iload_n hX 2 dW_fillLast_46 rfl rfl ?_
            refine xg_aload_n hX 0 dW_fillLast_47 rfl rfl ?_
            refine xg_get hX (ci := 1) rfl hinW 0 rfl 7 (by decide) mt_47 rfl dW_fillLast_48 ?_
            refine xg_iast hX (ws' := [(wq, .inr (1, [.ref pw, .ref pt, .int (nI cn), .int (nI lf), .int (bI sg), .int (bI bl), .int (bI zr), .int (nI fi), .int (nI si)])), (pw, .inl (cI, 64, .inl (nf (up (f8 W fi cn x i) i fi)))), (pt, .inl (cI, 31, .inl (nf T)))]) 1 i fi rfl (by omega) (by decide) rfl dW_fillLast_51 ?_
            refine xg_iincN hX (lv' := [(2, .int (nI (i + 1))), (0, .ref wq), (1, .int (nI x))]) (i + 1) 2 dW_fillLast_52 rfl (xn_inc _) (by decide) rfl ?_
            refine xg_goto hX 17 dW_fillLast_55 (by decide) ?_
            refine xg_ext hX (g := f8 W fi cn x (i + 1)) (ws' := [(wq, .inr (1, [.ref pw, .ref pt, .int (nI cn), .int (nI lf), .int (bI sg), .int (bI bl), .int (bI zr), .int (nI fi), .int (nI si)])), (pw, .inl (cI, 64, .inl (nf (f8 W fi cn x (i + 1))))), (pt, .inl (cI, 31, .inl (nf T)))]) 1 rfl (fun j hj => f8_s hi j) rfl ?_
            refine xg_lv hX (lv' := [(0, .ref wq), (1, .int (nI x)), (2, .int (nI (i + 1)))]) [1, 2, 0] rfl ?_
            exact ih3 (i + 1) (by omega) (by omega) (fun q => by rw [h21] at q; cases q) (by omega)
    refine xg_ext hX (g := f8 W fi cn x (cn - x)) (ws' := [(wq, .inr (1, [.ref pw, .ref pt, .int (nI cn), .int (nI lf), .int (bI sg), .int (bI bl), .int (bI zr), .int (nI fi), .int (nI si)])), (pw, .inl (cI, 64, .inl (nf (f8 W fi cn x (cn - x))))), (pt, .inl (cI, 31, .inl (nf T)))]) 1 rfl (fun j hj => f8_0 j) rfl ?_
    refine xg_lv hX (lv' := [(0, .ref wq), (1, .int (nI x)), (2, .int (nI (cn - x)))]) [1, 2, 0] rfl ?_
    exact lp1 (cn - (cn - x) + 1) (cn - x) (by omega) (by omega) (fun _ => rfl) (Nat.lt_succ_self _)
  ·
    refine xg_iconst hX (nI 0) dW_fillLast_8 (by decide) ?_
    refine xg_top (bI false) rfl ?_
    exact hret (false, W, cn, lf, sg, fi, si) _ _ _ rfl (xn_narB _) (show pres false (pL8 zr x (W, cn, lf, sg, fi, si)) (W, cn, lf, sg, fi, si) from (pres_f (pL8_no h5))) dW_fillLast_9
set_option maxHeartbeats 4000000 in
set_option maxRecDepth 100000 in
theorem xc_obeyNext (l : Launch) (D : va_G) (cI : ClassId) (wq : Nat) (pw : Nat) (pt : Nat) (cn : Nat) (lf : Nat) (sg : Bool) (bl : Bool) (zr : Bool) (fi : Nat) (si : Nat) (W : Nat → Nat) (T : Nat → Nat) (k : Nat) (x : Nat) (hk1 : 4 ≤ k) (hk2 : k ≤ 8) (hx : x < 256) (hcn : cn ≤ 64) : Ctr l D cI yW_obeyWithNext cW_obeyWithNext 3 (some .boolean) { frames := 1, cells := 0, slots := 0, locals := 22 } [.ref wq, .int (nI k), .int (nI x)] [(wq, .inr (1, [.ref pw, .ref pt, .int (nI cn), .int (nI lf), .int (bI sg), .int (bI bl), .int (bI zr), .int (nI fi), .int (nI si)])), (pw, .inl (cI, 64, .inl (nf W))), (pt, .inl (cI, 31, .inl (nf T)))] (fun u : Bool × (Nat → Nat) × Nat × Nat × Bool × Nat × Nat => match u with | (ok, W2, cn2, lf2, sg2, fi2, si2) => some (.int (bI ok))) (fun u : Bool × (Nat → Nat) × Nat × Nat × Bool × Nat × Nat => match u with | (ok, W2, cn2, lf2, sg2, fi2, si2) => pres ok (pNx bl zr k x (W, cn, lf, sg, fi, si)) (W2, cn2, lf2, sg2, fi2, si2)) (fun u : Bool × (Nat → Nat) × Nat × Nat × Bool × Nat × Nat => match u with | (ok, W2, cn2, lf2, sg2, fi2, si2) => [(wq, .inr (1, [.ref pw, .ref pt, .int (nI cn2), .int (nI lf2), .int (bI sg2), .int (bI bl), .int (bI zr), .int (nI fi2), .int (nI si2)])), (pw, .inl (cI, 64, .inl (nf W2))), (pt, .inl (cI, 31, .inl (nf T)))]) 0 0 := by
  refine xc_mkZ (by decide +kernel) (Nat.le_of_ble_eq_true rfl) (fun X hX hret => ?_)
  show GG D X 0 0 0 [(wq, .inr (1, [.ref pw, .ref pt, .int (nI cn), .int (nI lf), .int (bI sg), .int (bI bl), .int (bI zr), .int (nI fi), .int (nI si)])), (pw, .inl (cI, 64, .inl (nf W))), (pt, .inl (cI, 31, .inl (nf T)))] [(0, .ref wq), (1, .int (nI k)), (2, .int (nI x))] []
  refine xg_iload_n hX 1 dW_obeyWithNext_0 rfl rfl ?_
  rcases (show k = 4 ∨ k = 5 ∨ k = 6 ∨ k = 7 ∨ k = 8 by omega) with hk | hk | hk | hk | hk
  ·
    refine xg_tab hX (c := 4) hk 36 dW_obeyWithNext_1 (by decide) (by decide) rfl (by decide) ?_
    refine xg_aload_n hX 0 dW_obeyWithNext_36 rfl rfl ?_
    refine xg_iload_n hX 2 dW_obeyWithNext_37 rfl rfl ?_
    refine xg_put hX tyW tyW_ok nmW (ci := 1) rfl hinW (ws' := [(wq, .inr (1, [.ref pw, .ref pt, .int (nI cn), .int (nI lf), .int (bI sg), .int (bI bl), .int (bI zr), .int (nI x), .int (nI si)])), (pw, .inl (cI, 64, .inl (nf W))), (pt, .inl (cI, 31, .inl (nf T)))]) 0 rfl 7 (by decide) mt_47 rfl rfl rfl (Nat.le_of_ble_eq_true rfl) rfl dW_obeyWithNext_38 ?_
    refine xg_iconst hX (nI 1) dW_obeyWithNext_41 (by decide) ?_
    refine xg_top (bI true) rfl ?_
    exact hret (true, W, cn, lf, sg, x, si) _ _ _ rfl (xn_narB _) (show pres true (pNx bl zr k x (W, cn, lf, sg, fi, si)) (W, cn, lf, sg, x, si) from (pres_t (by subst hk; rfl))) dW_obeyWithNext_42
  ·
    refine xg_tab hX (c := 5) hk 43 dW_obeyWithNext_1 (by decide) (by decide) rfl (by decide) ?_
    refine xg_aload_n hX 0 dW_obeyWithNext_43 rfl rfl ?_
    refine xg_aload_n hX 0 dW_obeyWithNext_44 rfl rfl ?_
    refine xg_get hX (ci := 1) rfl hinW 0 rfl 5 (by decide) mt_45 rfl dW_obeyWithNext_45 ?_
    refine xg_if_eqB hX 58 dW_obeyWithNext_48 (by decide) (fun h48 => ?_) (fun h48 => ?_)
    ·
      refine xg_iload_n hX 2 dW_obeyWithNext_58 rfl rfl ?_
      refine xg_put hX tyW tyW_ok nmW (ci := 1) rfl hinW (ws' := [(wq, .inr (1, [.ref pw, .ref pt, .int (nI cn), .int (nI lf), .int (bI sg), .int (bI bl), .int (bI zr), .int (nI fi), .int (nI x)])), (pw, .inl (cI, 64, .inl (nf W))), (pt, .inl (cI, 31, .inl (nf T)))]) 0 rfl 8 (by decide) mt_48 rfl rfl rfl (Nat.le_of_ble_eq_true rfl) rfl dW_obeyWithNext_59 ?_
      refine xg_iconst hX (nI 1) dW_obeyWithNext_62 (by decide) ?_
      refine xg_top (bI true) rfl ?_
      exact hret (true, W, cn, lf, sg, fi, x) _ _ _ rfl (xn_narB _) (show pres true (pNx bl zr k x (W, cn, lf, sg, fi, si)) (W, cn, lf, sg, fi, x) from (pres_t (by subst hk; simp [pNx, h48]))) dW_obeyWithNext_63
    ·
      refine xg_aload_n hX 0 dW_obeyWithNext_51 rfl rfl ?_
      refine xg_get hX (ci := 1) rfl hinW 0 rfl 8 (by decide) mt_48 rfl dW_obeyWithNext_52 ?_
      refine xg_goto hX 59 dW_obeyWithNext_55 (by decide) ?_
      refine xg_put hX tyW tyW_ok nmW (ci := 1) rfl hinW (ws' := [(wq, .inr (1, [.ref pw, .ref pt, .int (nI cn), .int (nI lf), .int (bI sg), .int (bI bl), .int (bI zr), .int (nI fi), .int (nI si)])), (pw, .inl (cI, 64, .inl (nf W))), (pt, .inl (cI, 31, .inl (nf T)))]) 0 rfl 8 (by decide) mt_48 rfl rfl rfl (Nat.le_of_ble_eq_true rfl) rfl dW_obeyWithNext_59 ?_
      refine xg_iconst hX (nI 1) dW_obeyWithNext_62 (by decide) ?_
      refine xg_top (bI true) rfl ?_
      exact hret (true, W, cn, lf, sg, fi, si) _ _ _ rfl (xn_narB _) (show pres true (pNx bl zr k x (W, cn, lf, sg, fi, si)) (W, cn, lf, sg, fi, si) from (pres_t (by subst hk; simp [pNx, h48]))) dW_obeyWithNext_63
  ·
    refine xg_tab hX (c := 6) hk 64 dW_obeyWithNext_1 (by decide) (by decide) rfl (by decide) ?_
    refine xg_aload_n hX 0 dW_obeyWithNext_64 rfl rfl ?_
    refine xg_aload_n hX 0 dW_obeyWithNext_65 rfl rfl ?_
    refine xg_get hX (ci := 1) rfl hinW 0 rfl 5 (by decide) mt_45 rfl dW_obeyWithNext_66 ?_
    refine xg_if_eqB hX 76 dW_obeyWithNext_69 (by decide) (fun h69 => ?_) (fun h69 => ?_)
    ·
      refine xg_aload_n hX 0 dW_obeyWithNext_76 rfl rfl ?_
      refine xg_get hX (ci := 1) rfl hinW 0 rfl 8 (by decide) mt_48 rfl dW_obeyWithNext_77 ?_
      refine xg_put hX tyW tyW_ok nmW (ci := 1) rfl hinW (ws' := [(wq, .inr (1, [.ref pw, .ref pt, .int (nI cn), .int (nI lf), .int (bI sg), .int (bI bl), .int (bI zr), .int (nI fi), .int (nI si)])), (pw, .inl (cI, 64, .inl (nf W))), (pt, .inl (cI, 31, .inl (nf T)))]) 0 rfl 8 (by decide) mt_48 rfl rfl rfl (Nat.le_of_ble_eq_true rfl) rfl dW_obeyWithNext_80 ?_
      refine xg_iconst hX (nI 1) dW_obeyWithNext_83 (by decide) ?_
      refine xg_top (bI true) rfl ?_
      exact hret (true, W, cn, lf, sg, fi, si) _ _ _ rfl (xn_narB _) (show pres true (pNx bl zr k x (W, cn, lf, sg, fi, si)) (W, cn, lf, sg, fi, si) from (pres_t (by subst hk; simp [pNx, h69]))) dW_obeyWithNext_84
    ·
      refine xg_iload_n hX 2 dW_obeyWithNext_72 rfl rfl ?_
      refine xg_goto hX 80 dW_obeyWithNext_73 (by decide) ?_
      refine xg_put hX tyW tyW_ok nmW (ci := 1) rfl hinW (ws' := [(wq, .inr (1, [.ref pw, .ref pt, .int (nI cn), .int (nI lf), .int (bI sg), .int (bI bl), .int (bI zr), .int (nI fi), .int (nI x)])), (pw, .inl (cI, 64, .inl (nf W))), (pt, .inl (cI, 31, .inl (nf T)))]) 0 rfl 8 (by decide) mt_48 rfl rfl rfl (Nat.le_of_ble_eq_true rfl) rfl dW_obeyWithNext_80 ?_
      refine xg_iconst hX (nI 1) dW_obeyWithNext_83 (by decide) ?_
      refine xg_top (bI true) rfl ?_
      exact hret (true, W, cn, lf, sg, fi, x) _ _ _ rfl (xn_narB _) (show pres true (pNx bl zr k x (W, cn, lf, sg, fi, si)) (W, cn, lf, sg, fi, x) from (pres_t (by subst hk; simp [pNx, h69]))) dW_obeyWithNext_84
  ·
    refine xg_tab hX (c := 7) hk 85 dW_obeyWithNext_1 (by decide) (by decide) rfl (by decide) ?_
    refine xg_aload_n hX 0 dW_obeyWithNext_85 rfl rfl ?_
    refine xg_aload_n hX 0 dW_obeyWithNext_86 rfl rfl ?_
    refine xg_get hX (ci := 1) rfl hinW 0 rfl 4 (by decide) mt_43 rfl dW_obeyWithNext_87 ?_
    refine xg_if_eqB hX 97 dW_obeyWithNext_90 (by decide) (fun h90 => ?_) (fun h90 => ?_)
    ·
      refine xg_aload_n hX 0 dW_obeyWithNext_97 rfl rfl ?_
      refine xg_get hX (ci := 1) rfl hinW 0 rfl 7 (by decide) mt_47 rfl dW_obeyWithNext_98 ?_
      refine xg_cV hX wq [.int (nI fi)] (hM := xc_write l D cI wq pw pt cn lf sg bl zr fi si W T fi hcn) (wr := []) (ws' := fun u => match u with | (okA, W2A, cn2A, lf2A, sg2A, fi2A, si2A) => [(wq, .inr (1, [.ref pw, .ref pt, .int (nI cn2A), .int (nI lf2A), .int (bI sg2A), .int (bI bl), .int (bI zr), .int (nI fi2A), .int (nI si2A)])), (pw, .inl (cI, 64, .inl (nf W2A))), (pt, .inl (cI, 31, .inl (nf T)))]) (st' := fun u => match u with | (okA, W2A, cn2A, lf2A, sg2A, fi2A, si2A) => [.int (bI okA)]) [0, 1, 2] [] [0, 1, 2] [] rfl mt_293 mt_290 mt_3 mt_292 mp_13 0 rfl rfl hdW_write (by decide) ⟨rfl, rfl⟩ (by decide) rfl rfl (by decide) rfl (by decide) (by decide) (by decide) (fun u => rfl) (fun u => rfl) (fun u => rfl) rfl rfl (by simp [Value.category]) dW_obeyWithNext_101 (fun u hu => ?_)
      obtain ⟨okA, W2A, cn2A, lf2A, sg2A, fi2A, si2A⟩ := u
      have huA : pres okA (pWr fi (W, cn, lf, sg, fi, si)) (W2A, cn2A, lf2A, sg2A, fi2A, si2A) := hu
      show GG D X 0 0 104 [(wq, .inr (1, [.ref pw, .ref pt, .int (nI cn2A), .int (nI lf2A), .int (bI sg2A), .int (bI bl), .int (bI zr), .int (nI fi2A), .int (nI si2A)])), (pw, .inl (cI, 64, .inl (nf W2A))), (pt, .inl (cI, 31, .inl (nf T)))] [(0, .ref wq), (1, .int (nI k)), (2, .int (nI x))] [.int (bI okA)]
      exact hret (okA, W2A, cn2A, lf2A, sg2A, fi2A, si2A) _ _ _ rfl (xn_narB _) (show pres okA (pNx bl zr k x (W, cn, lf, sg, fi, si)) (W2A, cn2A, lf2A, sg2A, fi2A, si2A) from (by subst hk; simpa [pNx, h90] using huA)) dW_obeyWithNext_104
    ·
      refine xg_iload_n hX 2 dW_obeyWithNext_93 rfl rfl ?_
      refine xg_goto hX 101 dW_obeyWithNext_94 (by decide) ?_
      refine xg_cV hX wq [.int (nI x)] (hM := xc_write l D cI wq pw pt cn lf sg bl zr fi si W T x hcn) (wr := []) (ws' := fun u => match u with | (okA, W2A, cn2A, lf2A, sg2A, fi2A, si2A) => [(wq, .inr (1, [.ref pw, .ref pt, .int (nI cn2A), .int (nI lf2A), .int (bI sg2A), .int (bI bl), .int (bI zr), .int (nI fi2A), .int (nI si2A)])), (pw, .inl (cI, 64, .inl (nf W2A))), (pt, .inl (cI, 31, .inl (nf T)))]) (st' := fun u => match u with | (okA, W2A, cn2A, lf2A, sg2A, fi2A, si2A) => [.int (bI okA)]) [0, 1, 2] [] [0, 1, 2] [] rfl mt_293 mt_290 mt_3 mt_292 mp_13 0 rfl rfl hdW_write (by decide) ⟨rfl, rfl⟩ (by decide) rfl rfl (by decide) rfl (by decide) (by decide) (by decide) (fun u => rfl) (fun u => rfl) (fun u => rfl) rfl rfl (by simp [Value.category]) dW_obeyWithNext_101 (fun u hu => ?_)
      obtain ⟨okA, W2A, cn2A, lf2A, sg2A, fi2A, si2A⟩ := u
      have huA : pres okA (pWr x (W, cn, lf, sg, fi, si)) (W2A, cn2A, lf2A, sg2A, fi2A, si2A) := hu
      show GG D X 0 0 104 [(wq, .inr (1, [.ref pw, .ref pt, .int (nI cn2A), .int (nI lf2A), .int (bI sg2A), .int (bI bl), .int (bI zr), .int (nI fi2A), .int (nI si2A)])), (pw, .inl (cI, 64, .inl (nf W2A))), (pt, .inl (cI, 31, .inl (nf T)))] [(0, .ref wq), (1, .int (nI k)), (2, .int (nI x))] [.int (bI okA)]
      exact hret (okA, W2A, cn2A, lf2A, sg2A, fi2A, si2A) _ _ _ rfl (xn_narB _) (show pres okA (pNx bl zr k x (W, cn, lf, sg, fi, si)) (W2A, cn2A, lf2A, sg2A, fi2A, si2A) from (by subst hk; simpa [pNx, h90] using huA)) dW_obeyWithNext_104
  ·
    refine xg_tab hX (c := 8) hk 105 dW_obeyWithNext_1 (by decide) (by decide) rfl (by decide) ?_
    refine xg_aload_n hX 0 dW_obeyWithNext_105 rfl rfl ?_
    refine xg_iload_n hX 2 dW_obeyWithNext_106 rfl rfl ?_
    refine xg_cV hX wq [.int (nI x)] (hM := xc_fillLast l D cI wq pw pt cn lf sg bl zr fi si W T x hx hcn) (wr := []) (ws' := fun u => match u with | (okA, W2A, cn2A, lf2A, sg2A, fi2A, si2A) => [(wq, .inr (1, [.ref pw, .ref pt, .int (nI cn2A), .int (nI lf2A), .int (bI sg2A), .int (bI bl), .int (bI zr), .int (nI fi2A), .int (nI si2A)])), (pw, .inl (cI, 64, .inl (nf W2A))), (pt, .inl (cI, 31, .inl (nf T)))]) (st' := fun u => match u with | (okA, W2A, cn2A, lf2A, sg2A, fi2A, si2A) => [.int (bI okA)]) [0, 1, 2] [] [0, 1, 2] [] rfl mt_308 mt_305 mt_3 mt_307 mp_16 0 rfl rfl hdW_fillLast (by decide) ⟨rfl, rfl⟩ (by decide) rfl rfl (by decide) rfl (by decide) (by decide) (by decide) (fun u => rfl) (fun u => rfl) (fun u => rfl) rfl rfl (by simp [Value.category]) dW_obeyWithNext_107 (fun u hu => ?_)
    obtain ⟨okA, W2A, cn2A, lf2A, sg2A, fi2A, si2A⟩ := u
    have huA : pres okA (pL8 zr x (W, cn, lf, sg, fi, si)) (W2A, cn2A, lf2A, sg2A, fi2A, si2A) := hu
    show GG D X 0 0 110 [(wq, .inr (1, [.ref pw, .ref pt, .int (nI cn2A), .int (nI lf2A), .int (bI sg2A), .int (bI bl), .int (bI zr), .int (nI fi2A), .int (nI si2A)])), (pw, .inl (cI, 64, .inl (nf W2A))), (pt, .inl (cI, 31, .inl (nf T)))] [(0, .ref wq), (1, .int (nI k)), (2, .int (nI x))] [.int (bI okA)]
    exact hret (okA, W2A, cn2A, lf2A, sg2A, fi2A, si2A) _ _ _ rfl (xn_narB _) (show pres okA (pNx bl zr k x (W, cn, lf, sg, fi, si)) (W2A, cn2A, lf2A, sg2A, fi2A, si2A) from (by subst hk; exact huA)) dW_obeyWithNext_110
set_option maxHeartbeats 4000000 in
set_option maxRecDepth 100000 in
theorem xc_obey (l : Launch) (D : va_G) (cI : ClassId) (wq : Nat) (pw : Nat) (pt : Nat) (cn : Nat) (lf : Nat) (sg : Bool) (bl : Bool) (zr : Bool) (fi : Nat) (si : Nat) (W : Nat → Nat) (T : Nat → Nat) (k : Nat) (nx : Option Nat) (hk1 : 1 ≤ k) (hk2 : k < 256) (hnx : ∀ y, nx = some y → y < 256) (hlf : lf ≤ 31) (hcn : cn ≤ 64) (hT : ∀ j, T j < 10) : Ctr l D cI yW_obey cW_obey 3 (some .boolean) { frames := 3, cells := 0, slots := 0, locals := 68 } [.ref wq, .int (nI k), .int (nxI nx)] [(wq, .inr (1, [.ref pw, .ref pt, .int (nI cn), .int (nI lf), .int (bI sg), .int (bI bl), .int (bI zr), .int (nI fi), .int (nI si)])), (pw, .inl (cI, 64, .inl (nf W))), (pt, .inl (cI, 31, .inl (nf T)))] (fun u : Bool × (Nat → Nat) × Nat × Nat × Bool × Nat × Nat => match u with | (ok, W2, cn2, lf2, sg2, fi2, si2) => some (.int (bI ok))) (fun u : Bool × (Nat → Nat) × Nat × Nat × Bool × Nat × Nat => match u with | (ok, W2, cn2, lf2, sg2, fi2, si2) => pres ok (pOb T bl zr k nx (W, cn, lf, sg, fi, si)) (W2, cn2, lf2, sg2, fi2, si2)) (fun u : Bool × (Nat → Nat) × Nat × Nat × Bool × Nat × Nat => match u with | (ok, W2, cn2, lf2, sg2, fi2, si2) => [(wq, .inr (1, [.ref pw, .ref pt, .int (nI cn2), .int (nI lf2), .int (bI sg2), .int (bI bl), .int (bI zr), .int (nI fi2), .int (nI si2)])), (pw, .inl (cI, 64, .inl (nf W2))), (pt, .inl (cI, 31, .inl (nf T)))]) 0 0 := by
  refine xc_mkZ (by decide +kernel) (Nat.le_of_ble_eq_true rfl) (fun X hX hret => ?_)
  show GG D X 0 0 0 [(wq, .inr (1, [.ref pw, .ref pt, .int (nI cn), .int (nI lf), .int (bI sg), .int (bI bl), .int (bI zr), .int (nI fi), .int (nI si)])), (pw, .inl (cI, 64, .inl (nf W))), (pt, .inl (cI, 31, .inl (nf T)))] [(0, .ref wq), (1, .int (nI k)), (2, .int (nxI nx))] []
  refine xg_iload_n hX 1 dW_obey_0 rfl rfl ?_
  refine xg_sipush hX (nI 160) dW_obey_1 (by decide) ?_
  refine xg_cS hX [.int (nI k), .int (nI 160)] (hM := xc_isRun l D cI k 160 (by omega) (by omega)) (wr := [(wq, .inr (1, [.ref pw, .ref pt, .int (nI cn), .int (nI lf), .int (bI sg), .int (bI bl), .int (bI zr), .int (nI fi), .int (nI si)])), (pw, .inl (cI, 64, .inl (nf W))), (pt, .inl (cI, 31, .inl (nf T)))]) (ws' := fun _ => [(wq, .inr (1, [.ref pw, .ref pt, .int (nI cn), .int (nI lf), .int (bI sg), .int (bI bl), .int (bI zr), .int (nI fi), .int (nI si)])), (pw, .inl (cI, 64, .inl (nf W))), (pt, .inl (cI, 31, .inl (nf T)))]) (st' := fun _ => [.int (bI (decide (160 < k ∧ k ≤ 160 + 15)))]) [] [0, 1, 2] [0, 1, 2] [] rfl mt_281 mt_279 mt_3 mt_280 hdW_isRun (by decide) ⟨rfl, rfl⟩ (by decide) rfl rfl (by decide) rfl (by decide) (by decide) (by decide) (fun u => rfl) (fun u => rfl) (fun u => rfl) rfl rfl (by simp [Value.category]) dW_obey_4 (fun _ _ => ?_)
  refine xg_if_eqB hX 21 dW_obey_7 (by decide) (fun h7 => ?_) (fun h7 => ?_)
  ·
    have c1 : ¬ (160 < k ∧ k ≤ 175) := of_decide_eq_false h7
    refine xg_iload_n hX 1 dW_obey_21 rfl rfl ?_
    refine xg_sipush hX (nI 144) dW_obey_22 (by decide) ?_
    refine xg_cS hX [.int (nI k), .int (nI 144)] (hM := xc_isRun l D cI k 144 (by omega) (by omega)) (wr := [(wq, .inr (1, [.ref pw, .ref pt, .int (nI cn), .int (nI lf), .int (bI sg), .int (bI bl), .int (bI zr), .int (nI fi), .int (nI si)])), (pw, .inl (cI, 64, .inl (nf W))), (pt, .inl (cI, 31, .inl (nf T)))]) (ws' := fun _ => [(wq, .inr (1, [.ref pw, .ref pt, .int (nI cn), .int (nI lf), .int (bI sg), .int (bI bl), .int (bI zr), .int (nI fi), .int (nI si)])), (pw, .inl (cI, 64, .inl (nf W))), (pt, .inl (cI, 31, .inl (nf T)))]) (st' := fun _ => [.int (bI (decide (144 < k ∧ k ≤ 144 + 15)))]) [] [0, 1, 2] [0, 1, 2] [] rfl mt_281 mt_279 mt_3 mt_280 hdW_isRun (by decide) ⟨rfl, rfl⟩ (by decide) rfl rfl (by decide) rfl (by decide) (by decide) (by decide) (fun u => rfl) (fun u => rfl) (fun u => rfl) rfl rfl (by simp [Value.category]) dW_obey_25 (fun _ _ => ?_)
    refine xg_if_eqB hX 42 dW_obey_28 (by decide) (fun h28 => ?_) (fun h28 => ?_)
    ·
      have c2 : ¬ (144 < k ∧ k ≤ 159) := of_decide_eq_false h28
      refine xg_iload_n hX 1 dW_obey_42 rfl rfl ?_
      refine xg_sipush hX (nI 128) dW_obey_43 (by decide) ?_
      refine xg_cS hX [.int (nI k), .int (nI 128)] (hM := xc_isRun l D cI k 128 (by omega) (by omega)) (wr := [(wq, .inr (1, [.ref pw, .ref pt, .int (nI cn), .int (nI lf), .int (bI sg), .int (bI bl), .int (bI zr), .int (nI fi), .int (nI si)])), (pw, .inl (cI, 64, .inl (nf W))), (pt, .inl (cI, 31, .inl (nf T)))]) (ws' := fun _ => [(wq, .inr (1, [.ref pw, .ref pt, .int (nI cn), .int (nI lf), .int (bI sg), .int (bI bl), .int (bI zr), .int (nI fi), .int (nI si)])), (pw, .inl (cI, 64, .inl (nf W))), (pt, .inl (cI, 31, .inl (nf T)))]) (st' := fun _ => [.int (bI (decide (128 < k ∧ k ≤ 128 + 15)))]) [] [0, 1, 2] [0, 1, 2] [] rfl mt_281 mt_279 mt_3 mt_280 hdW_isRun (by decide) ⟨rfl, rfl⟩ (by decide) rfl rfl (by decide) rfl (by decide) (by decide) (by decide) (fun u => rfl) (fun u => rfl) (fun u => rfl) rfl rfl (by simp [Value.category]) dW_obey_46 (fun _ _ => ?_)
      refine xg_if_eqB hX 62 dW_obey_49 (by decide) (fun h49 => ?_) (fun h49 => ?_)
      ·
        have c3 : ¬ (128 < k ∧ k ≤ 143) := of_decide_eq_false h49
        refine xg_iload_n hX 1 dW_obey_62 rfl rfl ?_
        refine xg_cS hX [.int (nI k)] (hM := xc_takesNext l D cI k (by omega)) (wr := [(wq, .inr (1, [.ref pw, .ref pt, .int (nI cn), .int (nI lf), .int (bI sg), .int (bI bl), .int (bI zr), .int (nI fi), .int (nI si)])), (pw, .inl (cI, 64, .inl (nf W))), (pt, .inl (cI, 31, .inl (nf T)))]) (ws' := fun _ => [(wq, .inr (1, [.ref pw, .ref pt, .int (nI cn), .int (nI lf), .int (bI sg), .int (bI bl), .int (bI zr), .int (nI fi), .int (nI si)])), (pw, .inl (cI, 64, .inl (nf W))), (pt, .inl (cI, 31, .inl (nf T)))]) (st' := fun _ => [.int (bI (takesN k))]) [] [0, 1, 2] [0, 1, 2] [] rfl mt_300 mt_298 mt_3 mt_299 hdW_takesNext (by decide) ⟨rfl, rfl⟩ (by decide) rfl rfl (by decide) rfl (by decide) (by decide) (by decide) (fun u => rfl) (fun u => rfl) (fun u => rfl) rfl rfl (by simp [Value.category]) dW_obey_63 (fun _ _ => ?_)
        refine xg_if_eqB hX 88 dW_obey_66 (by decide) (fun h66 => ?_) (fun h66 => ?_)
        ·
          have c4 : ¬ (4 ≤ k ∧ k ≤ 8) := of_decide_eq_false h66
          refine xg_iload_n hX 1 dW_obey_88 rfl rfl ?_
          refine xg_iconst hX (nI 1) dW_obey_89 (by decide) ?_
          refine xg_icmp_eqN hX 98 (by omega) (by omega) dW_obey_90 (by decide) (fun h90 => ?_) (fun h90 => ?_)
          ·
            refine xg_aload_n hX 0 dW_obey_98 rfl rfl ?_
            refine xg_iload_n hX 1 dW_obey_99 rfl rfl ?_
            refine xg_iconst hX (nI 2) dW_obey_100 (by decide) ?_
            refine xg_icmp_neN hX 108 (by omega) (by omega) dW_obey_101 (by decide) (fun h101 => ?_) (fun h101 => ?_)
            ·
              refine xg_iconst hX (nI 0) dW_obey_108 (by decide) ?_
              refine xg_top (bI false) rfl ?_
              refine xg_put hX tyW tyW_ok nmW (ci := 1) rfl hinW (ws' := [(wq, .inr (1, [.ref pw, .ref pt, .int (nI cn), .int (nI lf), .int (bI false), .int (bI bl), .int (bI zr), .int (nI fi), .int (nI si)])), (pw, .inl (cI, 64, .inl (nf W))), (pt, .inl (cI, 31, .inl (nf T)))]) 0 rfl 4 (by decide) mt_43 rfl (xn_narB _) (xn_fitB _) (Nat.le_of_ble_eq_true rfl) rfl dW_obey_109 ?_
              refine xg_iconst hX (nI 1) dW_obey_112 (by decide) ?_
              refine xg_top (bI true) rfl ?_
              exact hret (true, W, cn, lf, false, fi, si) _ _ _ rfl (xn_narB _) (show pres true (pOb T bl zr k nx (W, cn, lf, sg, fi, si)) (W, cn, lf, false, fi, si) from (pres_t (by unfold pOb; rw [if_neg c1, if_neg c2, if_neg c3, if_neg c4, if_pos (by omega)]; first | (rw [decide_eq_true (by omega)]; done) | (rw [decide_eq_false (by omega)]; done)))) dW_obey_113
            ·
              refine xg_iconst hX (nI 1) dW_obey_104 (by decide) ?_
              refine xg_goto hX 109 dW_obey_105 (by decide) ?_
              refine xg_top (bI true) rfl ?_
              refine xg_put hX tyW tyW_ok nmW (ci := 1) rfl hinW (ws' := [(wq, .inr (1, [.ref pw, .ref pt, .int (nI cn), .int (nI lf), .int (bI true), .int (bI bl), .int (bI zr), .int (nI fi), .int (nI si)])), (pw, .inl (cI, 64, .inl (nf W))), (pt, .inl (cI, 31, .inl (nf T)))]) 0 rfl 4 (by decide) mt_43 rfl (xn_narB _) (xn_fitB _) (Nat.le_of_ble_eq_true rfl) rfl dW_obey_109 ?_
              refine xg_iconst hX (nI 1) dW_obey_112 (by decide) ?_
              refine xg_top (bI true) rfl ?_
              exact hret (true, W, cn, lf, true, fi, si) _ _ _ rfl (xn_narB _) (show pres true (pOb T bl zr k nx (W, cn, lf, sg, fi, si)) (W, cn, lf, true, fi, si) from (pres_t (by unfold pOb; rw [if_neg c1, if_neg c2, if_neg c3, if_neg c4, if_pos (by omega)]; first | (rw [decide_eq_true (by omega)]; done) | (rw [decide_eq_false (by omega)]; done)))) dW_obey_113
          ·
            refine xg_iload_n hX 1 dW_obey_93 rfl rfl ?_
            refine xg_iconst hX (nI 2) dW_obey_94 (by decide) ?_
            refine xg_icmp_neN hX 114 (by omega) (by omega) dW_obey_95 (by decide) (fun h95 => ?_) (fun h95 => ?_)
            ·
              refine xg_iload_n hX 1 dW_obey_114 rfl rfl ?_
              refine xg_iconst hX (nI 3) dW_obey_115 (by decide) ?_
              refine xg_icmp_neN hX 134 (by omega) (by omega) dW_obey_116 (by decide) (fun h116 => ?_) (fun h116 => ?_)
              ·
                refine xg_iconst hX (nI 0) dW_obey_134 (by decide) ?_
                refine xg_top (bI false) rfl ?_
                exact hret (false, W, cn, lf, sg, fi, si) _ _ _ rfl (xn_narB _) (show pres false (pOb T bl zr k nx (W, cn, lf, sg, fi, si)) (W, cn, lf, sg, fi, si) from (pres_f (by unfold pOb; rw [if_neg c1, if_neg c2, if_neg c3, if_neg c4, if_neg (by omega)]; rw [if_neg (by omega)]))) dW_obey_135
              ·
                refine xg_aload_n hX 0 dW_obey_119 rfl rfl ?_
                refine xg_aload_n hX 0 dW_obey_120 rfl rfl ?_
                refine xg_get hX (ci := 1) rfl hinW 0 rfl 8 (by decide) mt_48 rfl dW_obey_121 ?_
                refine xg_cV hX wq [.int (nI si)] (hM := xc_write l D cI wq pw pt cn lf sg bl zr fi si W T si hcn) (wr := []) (ws' := fun u => match u with | (okA, W2A, cn2A, lf2A, sg2A, fi2A, si2A) => [(wq, .inr (1, [.ref pw, .ref pt, .int (nI cn2A), .int (nI lf2A), .int (bI sg2A), .int (bI bl), .int (bI zr), .int (nI fi2A), .int (nI si2A)])), (pw, .inl (cI, 64, .inl (nf W2A))), (pt, .inl (cI, 31, .inl (nf T)))]) (st' := fun u => match u with | (okA, W2A, cn2A, lf2A, sg2A, fi2A, si2A) => [.int (bI okA)]) [0, 1, 2] [] [0, 1, 2] [] rfl mt_293 mt_290 mt_3 mt_292 mp_13 0 rfl rfl hdW_write (by decide) ⟨rfl, rfl⟩ (by decide) rfl rfl (by decide) rfl (by decide) (by decide) (by decide) (fun u => rfl) (fun u => rfl) (fun u => rfl) rfl rfl (by simp [Value.category]) dW_obey_124 (fun u hu => ?_)
                obtain ⟨okA, W2A, cn2A, lf2A, sg2A, fi2A, si2A⟩ := u
                have huA : pres okA (pWr si (W, cn, lf, sg, fi, si)) (W2A, cn2A, lf2A, sg2A, fi2A, si2A) := hu
                show GG D X 0 0 127 [(wq, .inr (1, [.ref pw, .ref pt, .int (nI cn2A), .int (nI lf2A), .int (bI sg2A), .int (bI bl), .int (bI zr), .int (nI fi2A), .int (nI si2A)])), (pw, .inl (cI, 64, .inl (nf W2A))), (pt, .inl (cI, 31, .inl (nf T)))] [(0, .ref wq), (1, .int (nI k)), (2, .int (nxI nx))] [.int (bI okA)]
                refine xg_if_eqB hX 134 dW_obey_127 (by decide) (fun h127 => ?_) (fun h127 => ?_)
                ·
                  refine xg_iconst hX (nI 0) dW_obey_134 (by decide) ?_
                  refine xg_top (bI false) rfl ?_
                  exact hret (false, W2A, cn2A, lf2A, sg2A, fi2A, si2A) _ _ _ rfl (xn_narB _) (show pres false (pOb T bl zr k nx (W, cn, lf, sg, fi, si)) (W2A, cn2A, lf2A, sg2A, fi2A, si2A) from (pres_f (by unfold pOb; rw [if_neg c1, if_neg c2, if_neg c3, if_neg c4, if_neg (by omega)]; rw [if_pos (by omega)]; exact pres_none huA h127))) dW_obey_135
                ·
                  refine xg_iconst hX (nI 1) dW_obey_130 (by decide) ?_
                  refine xg_goto hX 135 dW_obey_131 (by decide) ?_
                  refine xg_top (bI true) rfl ?_
                  exact hret (true, W2A, cn2A, lf2A, sg2A, fi2A, si2A) _ _ _ rfl (xn_narB _) (show pres true (pOb T bl zr k nx (W, cn, lf, sg, fi, si)) (W2A, cn2A, lf2A, sg2A, fi2A, si2A) from (pres_t (by unfold pOb; rw [if_neg c1, if_neg c2, if_neg c3, if_neg c4, if_neg (by omega)]; rw [if_pos (by omega)]; exact pres_some huA h127))) dW_obey_135
            ·
              refine xg_aload_n hX 0 dW_obey_98 rfl rfl ?_
              refine xg_iload_n hX 1 dW_obey_99 rfl rfl ?_
              refine xg_iconst hX (nI 2) dW_obey_100 (by decide) ?_
              refine xg_icmp_neN hX 108 (by omega) (by omega) dW_obey_101 (by decide) (fun h101 => ?_) (fun h101 => ?_)
              ·
                refine xg_iconst hX (nI 0) dW_obey_108 (by decide) ?_
                refine xg_top (bI false) rfl ?_
                refine xg_put hX tyW tyW_ok nmW (ci := 1) rfl hinW (ws' := [(wq, .inr (1, [.ref pw, .ref pt, .int (nI cn), .int (nI lf), .int (bI false), .int (bI bl), .int (bI zr), .int (nI fi), .int (nI si)])), (pw, .inl (cI, 64, .inl (nf W))), (pt, .inl (cI, 31, .inl (nf T)))]) 0 rfl 4 (by decide) mt_43 rfl (xn_narB _) (xn_fitB _) (Nat.le_of_ble_eq_true rfl) rfl dW_obey_109 ?_
                refine xg_iconst hX (nI 1) dW_obey_112 (by decide) ?_
                refine xg_top (bI true) rfl ?_
                exact hret (true, W, cn, lf, false, fi, si) _ _ _ rfl (xn_narB _) (show pres true (pOb T bl zr k nx (W, cn, lf, sg, fi, si)) (W, cn, lf, false, fi, si) from (pres_t (by unfold pOb; rw [if_neg c1, if_neg c2, if_neg c3, if_neg c4, if_pos (by omega)]; first | (rw [decide_eq_true (by omega)]; done) | (rw [decide_eq_false (by omega)]; done)))) dW_obey_113
              ·
                refine xg_iconst hX (nI 1) dW_obey_104 (by decide) ?_
                refine xg_goto hX 109 dW_obey_105 (by decide) ?_
                refine xg_top (bI true) rfl ?_
                refine xg_put hX tyW tyW_ok nmW (ci := 1) rfl hinW (ws' := [(wq, .inr (1, [.ref pw, .ref pt, .int (nI cn), .int (nI lf), .int (bI true), .int (bI bl), .int (bI zr), .int (nI fi), .int (nI si)])), (pw, .inl (cI, 64, .inl (nf W))), (pt, .inl (cI, 31, .inl (nf T)))]) 0 rfl 4 (by decide) mt_43 rfl (xn_narB _) (xn_fitB _) (Nat.le_of_ble_eq_true rfl) rfl dW_obey_109 ?_
                refine xg_iconst hX (nI 1) dW_obey_112 (by decide) ?_
                refine xg_top (bI true) rfl ?_
                exact hret (true, W, cn, lf, true, fi, si) _ _ _ rfl (xn_narB _) (show pres true (pOb T bl zr k nx (W, cn, lf, sg, fi, si)) (W, cn, lf, true, fi, si) from (pres_t (by unfold pOb; rw [if_neg c1, if_neg c2, if_neg c3, if_neg c4, if_pos (by omega)]; first | (rw [decide_eq_true (by omega)]; done) | (rw [decide_eq_false (by omega)]; done)))) dW_obey_113
        ·
          have c4 : 4 ≤ k ∧ k ≤ 8 := of_decide_eq_true h66
          cases nx with
          | none =>
            show GG D X 0 0 69 [(wq, .inr (1, [.ref pw, .ref pt, .int (nI cn), .int (nI lf), .int (bI sg), .int (bI bl), .int (bI zr), .int (nI fi), .int (nI si)])), (pw, .inl (cI, 64, .inl (nf W))), (pt, .inl (cI, 31, .inl (nf T)))] [(0, .ref wq), (1, .int (nI k)), (2, .int (-1))] []
            refine xg_iload_n hX 2 dW_obey_69 rfl rfl ?_
            refine xg_if_lt hX 86 dW_obey_70 (by decide) (fun _ => ?_) (fun h => absurd (by decide) h)
            refine xg_iconst hX (nI 0) dW_obey_86 (by decide) ?_
            refine xg_top (bI false) rfl ?_
            exact hret (false, W, cn, lf, sg, fi, si) _ _ _ rfl (xn_narB _) (pres_f (by unfold pOb; rw [if_neg c1, if_neg c2, if_neg c3, if_pos c4]; rfl)) dW_obey_87
          | some y =>
            have hy := hnx y rfl
            show GG D X 0 0 69 [(wq, .inr (1, [.ref pw, .ref pt, .int (nI cn), .int (nI lf), .int (bI sg), .int (bI bl), .int (bI zr), .int (nI fi), .int (nI si)])), (pw, .inl (cI, 64, .inl (nf W))), (pt, .inl (cI, 31, .inl (nf T)))] [(0, .ref wq), (1, .int (nI k)), (2, .int (nI y))] []
            refine xg_iload_n hX 2 dW_obey_69 rfl rfl ?_
            refine xg_if_ltN hX 86 (by omega) dW_obey_70 (by decide) ?_
            refine xg_aload_n hX 0 dW_obey_73 rfl rfl ?_
            refine xg_iload_n hX 1 dW_obey_74 rfl rfl ?_
            refine xg_iload_n hX 2 dW_obey_75 rfl rfl ?_
            refine xg_cV hX wq [.int (nI k), .int (nI y)] (hM := xc_obeyNext l D cI wq pw pt cn lf sg bl zr fi si W T k y (by omega) (by omega) (hnx _ rfl) hcn) (wr := []) (ws' := fun u => match u with | (okA, W2A, cn2A, lf2A, sg2A, fi2A, si2A) => [(wq, .inr (1, [.ref pw, .ref pt, .int (nI cn2A), .int (nI lf2A), .int (bI sg2A), .int (bI bl), .int (bI zr), .int (nI fi2A), .int (nI si2A)])), (pw, .inl (cI, 64, .inl (nf W2A))), (pt, .inl (cI, 31, .inl (nf T)))]) (st' := fun u => match u with | (okA, W2A, cn2A, lf2A, sg2A, fi2A, si2A) => [.int (bI okA)]) [0, 1, 2] [] [0, 1, 2] [] rfl mt_304 mt_301 mt_3 mt_303 mp_15 0 rfl rfl hdW_obeyWithNext (by decide) ⟨rfl, rfl⟩ (by decide) rfl rfl (by decide) rfl (by decide) (by decide) (by decide) (fun u => rfl) (fun u => rfl) (fun u => rfl) rfl rfl (by simp [Value.category]) dW_obey_76 (fun u hu => ?_)
            obtain ⟨okA, W2A, cn2A, lf2A, sg2A, fi2A, si2A⟩ := u
            have huA : pres okA (pNx bl zr k y (W, cn, lf, sg, fi, si)) (W2A, cn2A, lf2A, sg2A, fi2A, si2A) := hu
            show GG D X 0 0 79 [(wq, .inr (1, [.ref pw, .ref pt, .int (nI cn2A), .int (nI lf2A), .int (bI sg2A), .int (bI bl), .int (bI zr), .int (nI fi2A), .int (nI si2A)])), (pw, .inl (cI, 64, .inl (nf W2A))), (pt, .inl (cI, 31, .inl (nf T)))] [(0, .ref wq), (1, .int (nI k)), (2, .int (nI y))] [.int (bI okA)]
            refine xg_if_eqB hX 86 dW_obey_79 (by decide) (fun h79 => ?_) (fun h79 => ?_)
            ·
              refine xg_iconst hX (nI 0) dW_obey_86 (by decide) ?_
              refine xg_top (bI false) rfl ?_
              exact hret (false, W2A, cn2A, lf2A, sg2A, fi2A, si2A) _ _ _ rfl (xn_narB _) (pres_f (by unfold pOb; rw [if_neg c1, if_neg c2, if_neg c3, if_pos c4]; exact pres_none huA h79)) dW_obey_87
            ·
              refine xg_iconst hX (nI 1) dW_obey_82 (by decide) ?_
              refine xg_goto hX 87 dW_obey_83 (by decide) ?_
              refine xg_top (bI true) rfl ?_
              exact hret (true, W2A, cn2A, lf2A, sg2A, fi2A, si2A) _ _ _ rfl (xn_narB _) (pres_t (by unfold pOb; rw [if_neg c1, if_neg c2, if_neg c3, if_pos c4]; exact pres_some huA h79)) dW_obey_87
      ·
        have c3 : 128 < k ∧ k ≤ 143 := of_decide_eq_true h49
        refine xg_aload_n hX 0 dW_obey_52 rfl rfl ?_
        refine xg_iload_n hX 1 dW_obey_53 rfl rfl ?_
        refine xg_sipush hX (nI 128) dW_obey_54 (by decide) ?_
        refine xg_isubN hX (by omega) dW_obey_57 ?_
        refine xg_cV hX wq [.int (nI (k - 128))] (hM := xc_writeFills l D cI wq pw pt cn lf sg bl zr fi si W T (k - 128) (by omega) hcn) (wr := []) (ws' := fun u => match u with | (okA, W2A, cn2A, lf2A, sg2A, fi2A, si2A) => [(wq, .inr (1, [.ref pw, .ref pt, .int (nI cn2A), .int (nI lf2A), .int (bI sg2A), .int (bI bl), .int (bI zr), .int (nI fi2A), .int (nI si2A)])), (pw, .inl (cI, 64, .inl (nf W2A))), (pt, .inl (cI, 31, .inl (nf T)))]) (st' := fun u => match u with | (okA, W2A, cn2A, lf2A, sg2A, fi2A, si2A) => [.int (bI okA)]) [0, 1, 2] [] [0, 1, 2] [] rfl mt_297 mt_294 mt_3 mt_296 mp_14 0 rfl rfl hdW_writeFills (by decide) ⟨rfl, rfl⟩ (by decide) rfl rfl (by decide) rfl (by decide) (by decide) (by decide) (fun u => rfl) (fun u => rfl) (fun u => rfl) rfl rfl (by simp [Value.category]) dW_obey_58 (fun u hu => ?_)
        obtain ⟨okA, W2A, cn2A, lf2A, sg2A, fi2A, si2A⟩ := u
        have huA : pres okA (pFl (k - 128) (W, cn, lf, sg, fi, si)) (W2A, cn2A, lf2A, sg2A, fi2A, si2A) := hu
        show GG D X 0 0 61 [(wq, .inr (1, [.ref pw, .ref pt, .int (nI cn2A), .int (nI lf2A), .int (bI sg2A), .int (bI bl), .int (bI zr), .int (nI fi2A), .int (nI si2A)])), (pw, .inl (cI, 64, .inl (nf W2A))), (pt, .inl (cI, 31, .inl (nf T)))] [(0, .ref wq), (1, .int (nI k)), (2, .int (nxI nx))] [.int (bI okA)]
        exact hret (okA, W2A, cn2A, lf2A, sg2A, fi2A, si2A) _ _ _ rfl (xn_narB _) (show pres okA (pOb T bl zr k nx (W, cn, lf, sg, fi, si)) (W2A, cn2A, lf2A, sg2A, fi2A, si2A) from (by unfold pOb; rw [if_neg c1, if_neg c2, if_pos c3]; exact huA)) dW_obey_61
    ·
      have c2 : 144 < k ∧ k ≤ 159 := of_decide_eq_true h28
      refine xg_aload_n hX 0 dW_obey_31 rfl rfl ?_
      refine xg_iload_n hX 1 dW_obey_32 rfl rfl ?_
      refine xg_sipush hX (nI 144) dW_obey_33 (by decide) ?_
      refine xg_isubN hX (by omega) dW_obey_36 ?_
      refine xg_iconst hX (nI 0) dW_obey_37 (by decide) ?_
      refine xg_cV hX wq [.int (nI (k - 144)), .int (bI false)] (hM := xc_writeDigits l D cI wq pw pt cn lf sg bl zr fi si W T (k - 144) false (by omega) hlf hcn hT) (wr := []) (ws' := fun u => match u with | (okA, W2A, cn2A, lf2A, sg2A, fi2A, si2A) => [(wq, .inr (1, [.ref pw, .ref pt, .int (nI cn2A), .int (nI lf2A), .int (bI sg2A), .int (bI bl), .int (bI zr), .int (nI fi2A), .int (nI si2A)])), (pw, .inl (cI, 64, .inl (nf W2A))), (pt, .inl (cI, 31, .inl (nf T)))]) (st' := fun u => match u with | (okA, W2A, cn2A, lf2A, sg2A, fi2A, si2A) => [.int (bI okA)]) [0, 1, 2] [] [0, 1, 2] [] (by simp [bI_nI]) mt_285 mt_282 mt_3 mt_284 mp_11 0 rfl rfl hdW_writeDigits (by decide) ⟨rfl, rfl⟩ (by decide) rfl rfl (by decide) rfl (by decide) (by decide) (by decide) (fun u => rfl) (fun u => rfl) (fun u => rfl) rfl rfl (by simp [Value.category]) dW_obey_38 (fun u hu => ?_)
      obtain ⟨okA, W2A, cn2A, lf2A, sg2A, fi2A, si2A⟩ := u
      have huA : pres okA (pDs T false (k - 144) (W, cn, lf, sg, fi, si)) (W2A, cn2A, lf2A, sg2A, fi2A, si2A) := hu
      show GG D X 0 0 41 [(wq, .inr (1, [.ref pw, .ref pt, .int (nI cn2A), .int (nI lf2A), .int (bI sg2A), .int (bI bl), .int (bI zr), .int (nI fi2A), .int (nI si2A)])), (pw, .inl (cI, 64, .inl (nf W2A))), (pt, .inl (cI, 31, .inl (nf T)))] [(0, .ref wq), (1, .int (nI k)), (2, .int (nxI nx))] [.int (bI okA)]
      exact hret (okA, W2A, cn2A, lf2A, sg2A, fi2A, si2A) _ _ _ rfl (xn_narB _) (show pres okA (pOb T bl zr k nx (W, cn, lf, sg, fi, si)) (W2A, cn2A, lf2A, sg2A, fi2A, si2A) from (by unfold pOb; rw [if_neg c1, if_pos c2]; exact huA)) dW_obey_41
  ·
    have c1 : 160 < k ∧ k ≤ 175 := of_decide_eq_true h7
    refine xg_aload_n hX 0 dW_obey_10 rfl rfl ?_
    refine xg_iload_n hX 1 dW_obey_11 rfl rfl ?_
    refine xg_sipush hX (nI 160) dW_obey_12 (by decide) ?_
    refine xg_isubN hX (by omega) dW_obey_15 ?_
    refine xg_iconst hX (nI 1) dW_obey_16 (by decide) ?_
    refine xg_cV hX wq [.int (nI (k - 160)), .int (bI true)] (hM := xc_writeDigits l D cI wq pw pt cn lf sg bl zr fi si W T (k - 160) true (by omega) hlf hcn hT) (wr := []) (ws' := fun u => match u with | (okA, W2A, cn2A, lf2A, sg2A, fi2A, si2A) => [(wq, .inr (1, [.ref pw, .ref pt, .int (nI cn2A), .int (nI lf2A), .int (bI sg2A), .int (bI bl), .int (bI zr), .int (nI fi2A), .int (nI si2A)])), (pw, .inl (cI, 64, .inl (nf W2A))), (pt, .inl (cI, 31, .inl (nf T)))]) (st' := fun u => match u with | (okA, W2A, cn2A, lf2A, sg2A, fi2A, si2A) => [.int (bI okA)]) [0, 1, 2] [] [0, 1, 2] [] (by simp [bI_nI]) mt_285 mt_282 mt_3 mt_284 mp_11 0 rfl rfl hdW_writeDigits (by decide) ⟨rfl, rfl⟩ (by decide) rfl rfl (by decide) rfl (by decide) (by decide) (by decide) (fun u => rfl) (fun u => rfl) (fun u => rfl) rfl rfl (by simp [Value.category]) dW_obey_17 (fun u hu => ?_)
    obtain ⟨okA, W2A, cn2A, lf2A, sg2A, fi2A, si2A⟩ := u
    have huA : pres okA (pDs T true (k - 160) (W, cn, lf, sg, fi, si)) (W2A, cn2A, lf2A, sg2A, fi2A, si2A) := hu
    show GG D X 0 0 20 [(wq, .inr (1, [.ref pw, .ref pt, .int (nI cn2A), .int (nI lf2A), .int (bI sg2A), .int (bI bl), .int (bI zr), .int (nI fi2A), .int (nI si2A)])), (pw, .inl (cI, 64, .inl (nf W2A))), (pt, .inl (cI, 31, .inl (nf T)))] [(0, .ref wq), (1, .int (nI k)), (2, .int (nxI nx))] [.int (bI okA)]
    exact hret (okA, W2A, cn2A, lf2A, sg2A, fi2A, si2A) _ _ _ rfl (xn_narB _) (show pres okA (pOb T bl zr k nx (W, cn, lf, sg, fi, si)) (W2A, cn2A, lf2A, sg2A, fi2A, si2A) from (by unfold pOb; rw [if_pos c1]; exact huA)) dW_obey_20
end
section
/-! the calls, of the class, as functions of memory and arguments -/
def tn (x : Int32) : Nat := x.toInt.toNat
theorem dfits_sp {n a : Int32} (h : dfits n a = true) : 0 ≤ n.toInt ∧ n.toInt ≤ 31 ∧ 0 ≤ a.toInt ∧ a.toInt < 256 - n.toInt / 2 := of_decide_eq_true h
theorem cfits_sp {n a : Int32} (h : cfits n a = true) : 0 ≤ n.toInt ∧ n.toInt ≤ 31 ∧ 0 ≤ a.toInt ∧ a.toInt < 256 - n.toInt := of_decide_eq_true h
theorem xn_tn {x : Int32} (h : 0 ≤ x.toInt) : x = nI (tn x) := xn_self h
theorem tn_le {x : Int32} {c : Nat} (h : x.toInt ≤ (c : Int)) : tn x ≤ c := by unfold tn; omega
theorem df1 {n a : Int32} (h : dfits n a = true) : tn n ≤ 31 := by have := dfits_sp h; unfold tn; omega
theorem df2 {n a : Int32} (h : dfits n a = true) : tn a + tn n / 2 < 256 := by have := dfits_sp h; unfold tn; omega
theorem df3 {n a : Int32} (h : dfits n a = true) : n = nI (tn n) := xn_tn (dfits_sp h).1
theorem df4 {n a : Int32} (h : dfits n a = true) : a = nI (tn a) := xn_tn (dfits_sp h).2.2.1
theorem cf1 {n a : Int32} (h : cfits n a = true) : tn n ≤ 31 := by have := cfits_sp h; unfold tn; omega
theorem cf2 {n a : Int32} (h : cfits n a = true) : tn a + tn n < 256 := by have := cfits_sp h; unfold tn; omega
theorem cf3 {n a : Int32} (h : cfits n a = true) : n = nI (tn n) := xn_tn (cfits_sp h).1
theorem cf4 {n a : Int32} (h : cfits n a = true) : a = nI (tn a) := xn_tn (cfits_sp h).2.2.1
def opR (M : Nat → Nat) (n a m b k c : Int32) : Int32 := if (dfits n a && dfits m b && dfits k c) = true then (if (rdb M (tn n) (tn a) && rdb M (tn m) (tn b)) = true then 0 else -2) else -1
theorem opR_0 {M : Nat → Nat} {n a m b k c : Int32} (h : opR M n a m b k c = 0) : dfits n a = true ∧ dfits m b = true ∧ dfits k c = true ∧ rdb M (tn n) (tn a) = true ∧ rdb M (tn m) (tn b) = true := by
  unfold opR at h
  by_cases h1 : (dfits n a && dfits m b && dfits k c) = true
  · rw [if_pos h1] at h
    by_cases h2 : (rdb M (tn n) (tn a) && rdb M (tn m) (tn b)) = true
    · simp only [Bool.and_eq_true] at h1 h2
      exact ⟨h1.1.1, h1.1.2, h1.2, h2.1, h2.2⟩
    · rw [if_neg h2] at h; exact absurd h (by decide)
  · rw [if_neg h1] at h; exact absurd h (by decide)
theorem rd_lt {M : Nat → Nat} {n a : Nat} (h : rdb M n a = true) : ∀ j, rdD M n a j < 10 := rdD_lt (rdb_iff.mp h).2
def arZ (o : Int32) (M D : Nat → Nat) (S : Bool) (k c : Int32) : Int32 × (Nat → Nat) := if o = 0 then (nI (flg D S (tn k)), wrM M D S (tn k) (tn c)) else (o, M)
def sumZ (M : Nat → Nat) (n a m b k c : Int32) : Int32 × (Nat → Nat) :=
  arZ (opR M n a m b k c) M (asD (rdD M (tn m) (tn b)) (rdS M (tn m) (tn b)) (rdD M (tn n) (tn a)) (rdS M (tn n) (tn a))) (asS (rdD M (tn m) (tn b)) (rdS M (tn m) (tn b)) (rdD M (tn n) (tn a)) (rdS M (tn n) (tn a))) k c
def lessZ (M : Nat → Nat) (n a m b k c : Int32) : Int32 × (Nat → Nat) :=
  arZ (opR M n a m b k c) M (asD (rdD M (tn m) (tn b)) (rdS M (tn m) (tn b)) (rdD M (tn n) (tn a)) (!rdS M (tn n) (tn a))) (asS (rdD M (tn m) (tn b)) (rdS M (tn m) (tn b)) (rdD M (tn n) (tn a)) (!rdS M (tn n) (tn a))) k c
def prodZ (M : Nat → Nat) (n a m b k c : Int32) : Int32 × (Nat → Nat) :=
  arZ (opR M n a m b k c) M (muR (rdD M (tn n) (tn a)) (rdD M (tn m) (tn b)) 31) (rdS M (tn n) (tn a) != rdS M (tn m) (tn b)) k c
def quotZ (M : Nat → Nat) (n a m b k c : Int32) : Int32 × (Nat → Nat) :=
  arZ (if opR M n a m b k c = 0 then (if hasD (rdD M (tn n) (tn a)) 0 130 = true then 0 else -3) else opR M n a m b k c) M (qmx 0 (dvQ 32 (rdD M (tn m) (tn b)) (rdD M (tn n) (tn a)))) (rdS M (tn m) (tn b) != rdS M (tn n) (tn a)) k c
def shR (M : Nat → Nat) (n a y up_ m b : Int32) : Int32 := if (dfits n a && dfits m b) = true then (if -99 ≤ y.toInt ∧ y.toInt ≤ 99 ∧ 0 ≤ up_.toInt ∧ up_.toInt ≤ 9 then (if rdb M (tn n) (tn a) = true then 0 else -2) else -1) else -1
def shD (x : Nat → Nat) (y up_ : Int32) : Nat → Nat := if y.toInt < 0 ∧ 9 < x ((-y.toInt - 1).toNat) + tn up_ then mix 32 (inD (mvI x y.toInt 31)) (mvI x y.toInt 31) else mvI x y.toInt 31
def shiftZ (M : Nat → Nat) (n a y up_ m b : Int32) : Int32 × (Nat → Nat) := arZ (shR M n a y up_ m b) M (shD (rdD M (tn n) (tn a)) y up_) (rdS M (tn n) (tn a)) m b
def cmpR (M : Nat → Nat) (n a m b : Int32) : Int32 := if (dfits n a && dfits m b) = true then (if (rdb M (tn n) (tn a) && rdb M (tn m) (tn b)) = true then (if ordS (rdD M (tn n) (tn a)) (rdS M (tn n) (tn a)) (rdD M (tn m) (tn b)) (rdS M (tn m) (tn b)) = 0 then 4 else if ordS (rdD M (tn n) (tn a)) (rdS M (tn n) (tn a)) (rdD M (tn m) (tn b)) (rdS M (tn m) (tn b)) < 0 then 8 else 0) else -2) else -1
def numZ (M : Nat → Nat) (v n a : Int32) : Int32 × (Nat → Nat) := arZ (if dfits n a = true then 0 else -1) M (mix 31 (dig (absN v)) zf) (decide (v.toInt < 0)) n a
def valR (M : Nat → Nat) (n a : Int32) : Int64 := if dfits n a = true ∧ rdb M (tn n) (tn a) = true then (if rdS M (tn n) (tn a) = true then -(lbF (rdD M (tn n) (tn a)) 31) else lbF (rdD M (tn n) (tn a)) 31) else 0
def chO (M : Nat → Nat) (n a m b : Int32) : Int32 := if (dfits n a && cfits m b) = true then (if rdb M (tn n) (tn a) = true then 0 else -2) else -1
/-- i digits from the last on, and the sign, are written as characters -/
def chP (M d : Nat → Nat) (sg m b i : Nat) : Nat → Nat := fun j => if j = b then sg else if j ≤ b + m ∧ b + m < j + i then 48 + d (b + m - j) else M j
def charZ (M : Nat → Nat) (n a m b : Int32) : Int32 × (Nat → Nat) :=
  if chO M n a m b = 0 then (nI (flg (rdD M (tn n) (tn a)) (rdS M (tn n) (tn a)) (tn m)), chP M (rdD M (tn n) (tn a)) (if ng (rdD M (tn n) (tn a)) (rdS M (tn n) (tn a)) (tn m) = true then 45 else 43) (tn m) (tn b) (tn m)) else (chO M n a m b, M)
def digZ (M : Nat → Nat) (n a m b : Int32) : Int32 × (Nat → Nat) := arZ (if (cfits n a && dfits m b) = true then (if chb M (tn n) (tn a) = true then 0 else -2) else -1) M (chD M (tn n) (tn a)) (chS M (tn n) (tn a)) m b
def bgW (W d : Nat → Nat) (s : Bool) (n : Nat) : PW := (W, 0, n, false, 32, if s = true then 45 else 32)
/-- what the pattern makes of a decimal; W: what lay there before -/
def edP (M W : Nat → Nat) (n a p : Int32) : Option PW := fol M (rdD M (tn n) (tn a)) (rdS M (tn n) (tn a)) (!hasD (rdD M (tn n) (tn a)) 0 130) 64 p (bgW W (rdD M (tn n) (tn a)) (rdS M (tn n) (tn a)) (tn n))
def edM (M W : Nat → Nat) (b i : Nat) : Nat → Nat := fun j => if b ≤ j ∧ j < b + i then W (j - b) else M j
def editZ (M : Nat → Nat) (en : Bool) (W : Nat → Nat) (n a p b : Int32) : Int32 × (Nat → Nat) × Bool :=
  if dfits n a = true then (if rdb M (tn n) (tn a) = true then
    (match edP M W n a p with
     | none => (-2, M, en)
     | some u => if 0 ≤ b.toInt ∧ b.toInt ≤ 256 ∧ (u.2.1 : Int) ≤ 256 - b.toInt then (nI u.2.1, edM M u.1 (tn b) u.2.1, u.2.2.2.1) else (-1, M, en)) else (-2, M, en)) else (-1, M, en)
theorem chP_0 {M d : Nat → Nat} {sg m b : Nat} : ∀ j, up M b sg j = chP M d sg m b 0 j := by
  intro j
  unfold up chP
  by_cases h : j = b
  · rw [if_pos h, if_pos h]
  · rw [if_neg h, if_neg h, if_neg (by omega)]
theorem chP_s {M d : Nat → Nat} {sg m b i : Nat} (h : i < m) : ∀ j, up (chP M d sg m b i) (b + m - i) (48 + d i) j = chP M d sg m b (i + 1) j := by
  intro j
  unfold up chP
  by_cases h0 : j = b + m - i
  · subst h0
    rw [if_pos rfl, if_neg (by omega), if_pos (by omega)]
    congr 2
    omega
  · rw [if_neg h0]
    by_cases h1 : j = b
    · rw [if_pos h1, if_pos h1]
    · rw [if_neg h1, if_neg h1]
      by_cases h2 : j ≤ b + m ∧ b + m < j + i
      · rw [if_pos h2, if_pos (by omega)]
      · rw [if_neg h2, if_neg (by omega)]
theorem edM_0 {M W : Nat → Nat} {b : Nat} : ∀ j, M j = edM M W b 0 j := by
  intro j
  unfold edM
  rw [if_neg (by omega)]
theorem edM_s {M W : Nat → Nat} {b i : Nat} : ∀ j, up (edM M W b i) (b + i) (W i) j = edM M W b (i + 1) j := by
  intro j
  unfold up edM
  by_cases h0 : j = b + i
  · subst h0
    rw [if_pos rfl, if_pos (by omega), Nat.add_sub_cancel_left]
  · rw [if_neg h0]
    by_cases h2 : b ≤ j ∧ j < b + i
    · rw [if_pos h2, if_pos (by omega)]
    · rw [if_neg h2, if_neg (by omega)]
theorem wrP_lt {M d : Nat → Nat} {sg n a i : Nat} (hM : ∀ j, M j < 256) (hd : ∀ j, d j < 10) (hs : sg < 16) : ∀ j, wrP M d sg n a i j < 256 := by
  intro j
  unfold wrP
  by_cases h : j ≤ a + n / 2 ∧ a + n / 2 < j + i
  · rw [if_pos h]
    unfold wrB
    have h1 := wrL_lt hd hs (a + n / 2 - j)
    by_cases h2 : 2 * (a + n / 2 - j) < n
    · rw [if_pos h2]; have := hd (2 * (a + n / 2 - j)); omega
    · rw [if_neg h2]; omega
  · rw [if_neg h]; exact hM j
theorem wrM_lt {M d : Nat → Nat} {s : Bool} {n a : Nat} (hM : ∀ j, M j < 256) (hd : ∀ j, d j < 10) : ∀ j, wrM M d s n a j < 256 := wrP_lt hM hd (by split <;> decide)
theorem asD_lt {x y : Nat → Nat} {s t : Bool} (hx : ∀ j, x j < 10) (hy : ∀ j, y j < 10) : ∀ j, asD x s y t j < 10 := by
  have hm : ∀ A : Nat → Nat, (∀ j, A j < 10) → ∀ j, mix 32 A zf j < 10 := by
    intro A hA j
    unfold mix
    by_cases h : j < 32
    · rw [if_pos h]; exact hA j
    · rw [if_neg h]; show 0 < 10; decide
  intro j
  unfold asD
  by_cases h1 : s = t
  · rw [if_pos h1]; exact hm _ (adD_lt x y) j
  · rw [if_neg h1]
    by_cases h2 : cmpZ x y 32 < 0
    · rw [if_pos h2]; exact hm _ (suD_lt hy hx) j
    · rw [if_neg h2]; exact hm _ (suD_lt hx hy) j
theorem taF_le {w : Nat} {e : Nat → Nat} (f : Nat) : ∀ r : Nat → Nat, (taF w e f r).1 ≤ f := by
  induction f with
  | zero => intro r; exact Nat.le_refl _
  | succ f ih =>
    intro r
    unfold taF
    by_cases h : cmpZ r e w < 0
    · rw [if_pos h]; exact Nat.zero_le _
    · rw [if_neg h]; exact Nat.succ_le_succ (ih _)
theorem dvQ_lt {w : Nat} {x e : Nat → Nat} (_hx : ∀ j, x j < 10) (_he : ∀ j, e j < 10) : ∀ j, dvQ w x e j < 10 := fun _ => Nat.lt_succ_of_le (taF_le 9 _)
theorem qmx_lt {c : Nat} {Q : Nat → Nat} (h : ∀ j, Q j < 10) : ∀ j, qmx c Q j < 10 := by
  intro j
  unfold qmx
  by_cases q : c ≤ j ∧ j < 31
  · rw [if_pos q]; exact h j
  · rw [if_neg q]; decide
theorem mvI_lt {x : Nat → Nat} {b : Int} {i : Nat} (h : ∀ j, x j < 10) : ∀ j, mvI x b i j < 10 := by
  intro j
  unfold mvI
  by_cases q : b ≤ (j : Int) ∧ (j : Int) < (i : Int) + b
  · rw [if_pos q]; exact h _
  · rw [if_neg q]; decide
theorem inD_lt (d : Nat → Nat) (k : Nat) : inD d k < 10 := Nat.mod_lt _ (by decide)
theorem shD_lt {x : Nat → Nat} {y u : Int32} (h : ∀ j, x j < 10) : ∀ j, shD x y u j < 10 := by
  intro j
  unfold shD
  by_cases q : y.toInt < 0 ∧ 9 < x ((-y.toInt - 1).toNat) + tn u
  · rw [if_pos q]
    unfold mix
    by_cases q2 : j < 32
    · rw [if_pos q2]; exact inD_lt _ j
    · rw [if_neg q2]; exact mvI_lt h j
  · rw [if_neg q]; exact mvI_lt h j
theorem mdz_lt (m : Nat) : ∀ j, mix 31 (dig m) zf j < 10 := by
  intro j
  unfold mix
  by_cases q : j < 31
  · rw [if_pos q]; exact dig_lt m j
  · rw [if_neg q]; show 0 < 10; decide
theorem xn_negm1 {y : Int32} (h1 : -99 ≤ y.toInt) (h2 : y.toInt < 0) : -y - nI 1 = nI ((-y.toInt - 1).toNat) := by
  apply Int32.toInt_inj.mp
  rw [Int32.toInt_sub, Int32.toInt_neg, xn_ti (show 1 < 2147483648 by decide), xn_ti (by omega)]
  rw [Int.bmod_eq_of_le (n := -y.toInt) (by omega) (by omega), Int.bmod_eq_of_le (by omega) (by omega)]
  omega
theorem xn_nlt {x : Int32} (h : 0 ≤ x) : ¬ x < 0 := by
  have h0 : (0 : Int32).toInt = 0 := rfl
  simp only [Int32.lt_iff_toInt_lt, Int32.le_iff_toInt_le, h0] at *
  omega
theorem xn_ltn {x : Int32} (h : ¬ 0 ≤ x) : x < 0 := by
  have h0 : (0 : Int32).toInt = 0 := rfl
  simp only [Int32.lt_iff_toInt_lt, Int32.le_iff_toInt_le, h0] at *
  omega
theorem arZ_no {o : Int32} {M D : Nat → Nat} {S : Bool} {k c : Int32} (h : o ≠ 0) : arZ o M D S k c = (o, M) := if_neg h
theorem arZ_ys {M D : Nat → Nat} {S : Bool} {k c : Int32} : arZ 0 M D S k c = (nI (flg D S (tn k)), wrM M D S (tn k) (tn c)) := if_pos rfl
end
section
set_option maxHeartbeats 4000000 in
set_option maxRecDepth 100000 in
theorem xc_operands (l : Launch) (D : va_G) (cI : ClassId) (dq : Nat) (dm : Nat) (d1 : Nat) (d2 : Nat) (d3 : Nat) (d4 : Nat) (dw : Nat) (den : Bool) (M : Nat → Nat) (p1 : Nat) (e1 : Nat → Nat) (s1 : Bool) (p2 : Nat) (e2 : Nat → Nat) (s2 : Bool) (n : Int32) (a : Int32) (m : Int32) (b : Int32) (k : Int32) (c : Int32) (hM : ∀ j, M j < 256) : Ctr l D cI yD_readOperands cD_readOperands 7 (some .int) { frames := 5, cells := 0, slots := 0, locals := 111 } [.ref dq, .int n, .int a, .int m, .int b, .int k, .int c] [(dq, .inr (2, [.ref dm, .ref d1, .ref d2, .ref d3, .ref d4, .ref dw, .int (bI den)])), (dm, .inl (cI, 256, .inl (nf M))), (d1, .inr (0, [.ref p1, .int (bI s1)])), (p1, .inl (cI, 130, .inl (nf e1))), (d2, .inr (0, [.ref p2, .int (bI s2)])), (p2, .inl (cI, 130, .inl (nf e2)))] (fun u : Int32 × (Nat → Nat) × Bool × (Nat → Nat) × Bool => match u with | (r, e1_, s1_, e2_, s2_) => some (.int r)) (fun u : Int32 × (Nat → Nat) × Bool × (Nat → Nat) × Bool => match u with | (r, e1_, s1_, e2_, s2_) => r = opR M n a m b k c ∧ (r = 0 → e1_ = rdD M (tn n) (tn a) ∧ s1_ = rdS M (tn n) (tn a) ∧ e2_ = rdD M (tn m) (tn b) ∧ s2_ = rdS M (tn m) (tn b))) (fun u : Int32 × (Nat → Nat) × Bool × (Nat → Nat) × Bool => match u with | (r, e1_, s1_, e2_, s2_) => [(dq, .inr (2, [.ref dm, .ref d1, .ref d2, .ref d3, .ref d4, .ref dw, .int (bI den)])), (dm, .inl (cI, 256, .inl (nf M))), (d1, .inr (0, [.ref p1, .int (bI s1_)])), (p1, .inl (cI, 130, .inl (nf e1_))), (d2, .inr (0, [.ref p2, .int (bI s2_)])), (p2, .inl (cI, 130, .inl (nf e2_)))]) 0 0 := by
  refine xc_mkI (by decide +kernel) (Nat.le_of_ble_eq_true rfl) (fun X hX hret => ?_)
  show GG D X 0 0 0 [(dq, .inr (2, [.ref dm, .ref d1, .ref d2, .ref d3, .ref d4, .ref dw, .int (bI den)])), (dm, .inl (cI, 256, .inl (nf M))), (d1, .inr (0, [.ref p1, .int (bI s1)])), (p1, .inl (cI, 130, .inl (nf e1))), (d2, .inr (0, [.ref p2, .int (bI s2)])), (p2, .inl (cI, 130, .inl (nf e2)))] [(0, .ref dq), (1, .int n), (2, .int a), (3, .int m), (4, .int b), (5, .int k), (6, .int c)] []
  refine xg_iload_n hX 1 dD_readOperands_0 rfl rfl ?_
  refine xg_iload_n hX 2 dD_readOperands_1 rfl rfl ?_
  refine xg_cS hX [.int n, .int a] (hM := xc_dfits l D cI n a) (wr := [(dq, .inr (2, [.ref dm, .ref d1, .ref d2, .ref d3, .ref d4, .ref dw, .int (bI den)])), (dm, .inl (cI, 256, .inl (nf M))), (d1, .inr (0, [.ref p1, .int (bI s1)])), (p1, .inl (cI, 130, .inl (nf e1))), (d2, .inr (0, [.ref p2, .int (bI s2)])), (p2, .inl (cI, 130, .inl (nf e2)))]) (ws' := fun _ => [(dq, .inr (2, [.ref dm, .ref d1, .ref d2, .ref d3, .ref d4, .ref dw, .int (bI den)])), (dm, .inl (cI, 256, .inl (nf M))), (d1, .inr (0, [.ref p1, .int (bI s1)])), (p1, .inl (cI, 130, .inl (nf e1))), (d2, .inr (0, [.ref p2, .int (bI s2)])), (p2, .inl (cI, 130, .inl (nf e2)))]) (st' := fun _ => [.int (bI (dfits n a))]) [] [0, 1, 2, 3, 4, 5] [0, 1, 2, 3, 4, 5] [] rfl mt_108 mt_106 mt_1 mt_107 hdD_decimalFits (by decide) ⟨rfl, rfl⟩ (by decide) rfl rfl (by decide) rfl (by decide) (by decide) (by decide) (fun u => rfl) (fun u => rfl) (fun u => rfl) rfl rfl (by simp [Value.category]) dD_readOperands_2 (fun _ _ => ?_)
  refine xg_if_eqB hX 27 dD_readOperands_5 (by decide) (fun h5 => ?_) (fun h5 => ?_)
  ·
    refine xg_iconst hX ((-1)) dD_readOperands_27 (by decide) ?_
    exact hret ((-1), e1, s1, e2, s2) _ _ _ rfl (show (-1) = opR M n a m b k c ∧ ((-1) = 0 → e1 = rdD M (tn n) (tn a) ∧ s1 = rdS M (tn n) (tn a) ∧ e2 = rdD M (tn m) (tn b) ∧ s2 = rdS M (tn m) (tn b)) from ⟨by unfold opR; rw [if_neg (fun q => by simp only [Bool.and_eq_true] at q; first | exact absurd (h5.symm.trans q.1.1) (by decide) | exact absurd (h14.symm.trans q.1.2) (by decide) | exact absurd (h24.symm.trans q.2) (by decide))], fun q => absurd q (by decide)⟩) dD_readOperands_28
  ·
    refine xg_iload_n hX 3 dD_readOperands_8 rfl rfl ?_
    refine xg_iload hX 4 dD_readOperands_9 rfl ?_
    refine xg_cS hX [.int m, .int b] (hM := xc_dfits l D cI m b) (wr := [(dq, .inr (2, [.ref dm, .ref d1, .ref d2, .ref d3, .ref d4, .ref dw, .int (bI den)])), (dm, .inl (cI, 256, .inl (nf M))), (d1, .inr (0, [.ref p1, .int (bI s1)])), (p1, .inl (cI, 130, .inl (nf e1))), (d2, .inr (0, [.ref p2, .int (bI s2)])), (p2, .inl (cI, 130, .inl (nf e2)))]) (ws' := fun _ => [(dq, .inr (2, [.ref dm, .ref d1, .ref d2, .ref d3, .ref d4, .ref dw, .int (bI den)])), (dm, .inl (cI, 256, .inl (nf M))), (d1, .inr (0, [.ref p1, .int (bI s1)])), (p1, .inl (cI, 130, .inl (nf e1))), (d2, .inr (0, [.ref p2, .int (bI s2)])), (p2, .inl (cI, 130, .inl (nf e2)))]) (st' := fun _ => [.int (bI (dfits m b))]) [] [0, 1, 2, 3, 4, 5] [0, 1, 2, 3, 4, 5] [] rfl mt_108 mt_106 mt_1 mt_107 hdD_decimalFits (by decide) ⟨rfl, rfl⟩ (by decide) rfl rfl (by decide) rfl (by decide) (by decide) (by decide) (fun u => rfl) (fun u => rfl) (fun u => rfl) rfl rfl (by simp [Value.category]) dD_readOperands_11 (fun _ _ => ?_)
    refine xg_if_eqB hX 27 dD_readOperands_14 (by decide) (fun h14 => ?_) (fun h14 => ?_)
    ·
      refine xg_iconst hX ((-1)) dD_readOperands_27 (by decide) ?_
      exact hret ((-1), e1, s1, e2, s2) _ _ _ rfl (show (-1) = opR M n a m b k c ∧ ((-1) = 0 → e1 = rdD M (tn n) (tn a) ∧ s1 = rdS M (tn n) (tn a) ∧ e2 = rdD M (tn m) (tn b) ∧ s2 = rdS M (tn m) (tn b)) from ⟨by unfold opR; rw [if_neg (fun q => by simp only [Bool.and_eq_true] at q; first | exact absurd (h5.symm.trans q.1.1) (by decide) | exact absurd (h14.symm.trans q.1.2) (by decide) | exact absurd (h24.symm.trans q.2) (by decide))], fun q => absurd q (by decide)⟩) dD_readOperands_28
    ·
      refine xg_iload hX 5 dD_readOperands_17 rfl ?_
      refine xg_iload hX 6 dD_readOperands_19 rfl ?_
      refine xg_cS hX [.int k, .int c] (hM := xc_dfits l D cI k c) (wr := [(dq, .inr (2, [.ref dm, .ref d1, .ref d2, .ref d3, .ref d4, .ref dw, .int (bI den)])), (dm, .inl (cI, 256, .inl (nf M))), (d1, .inr (0, [.ref p1, .int (bI s1)])), (p1, .inl (cI, 130, .inl (nf e1))), (d2, .inr (0, [.ref p2, .int (bI s2)])), (p2, .inl (cI, 130, .inl (nf e2)))]) (ws' := fun _ => [(dq, .inr (2, [.ref dm, .ref d1, .ref d2, .ref d3, .ref d4, .ref dw, .int (bI den)])), (dm, .inl (cI, 256, .inl (nf M))), (d1, .inr (0, [.ref p1, .int (bI s1)])), (p1, .inl (cI, 130, .inl (nf e1))), (d2, .inr (0, [.ref p2, .int (bI s2)])), (p2, .inl (cI, 130, .inl (nf e2)))]) (st' := fun _ => [.int (bI (dfits k c))]) [] [0, 1, 2, 3, 4, 5] [0, 1, 2, 3, 4, 5] [] rfl mt_108 mt_106 mt_1 mt_107 hdD_decimalFits (by decide) ⟨rfl, rfl⟩ (by decide) rfl rfl (by decide) rfl (by decide) (by decide) (by decide) (fun u => rfl) (fun u => rfl) (fun u => rfl) rfl rfl (by simp [Value.category]) dD_readOperands_21 (fun _ _ => ?_)
      refine xg_if_neB hX 29 dD_readOperands_24 (by decide) (fun h24 => ?_) (fun h24 => ?_)
      ·
        refine xg_aload_n hX 0 dD_readOperands_29 rfl rfl ?_
        refine xg_aload_n hX 0 dD_readOperands_30 rfl rfl ?_
        refine xg_get hX (ci := 2) rfl hinD 0 rfl 1 (by decide) mt_69 rfl dD_readOperands_31 ?_
        refine xg_iload_n hX 1 dD_readOperands_34 rfl rfl ?_
        refine xg_top (nI (tn n)) (df3 h5) ?_
        refine xg_iload_n hX 2 dD_readOperands_35 rfl rfl ?_
        refine xg_top (nI (tn a)) (df4 h5) ?_
        refine xg_cV hX dq [.ref d1, .int (nI (tn n)), .int (nI (tn a))] (hM := xc_readDecimal l D cI dq dm d1 d2 d3 d4 dw den M d1 p1 e1 s1 (tn n) (tn a) (df1 h5) (df2 h5) hM) (wr := [(d2, .inr (0, [.ref p2, .int (bI s2)])), (p2, .inl (cI, 130, .inl (nf e2)))]) (ws' := fun u => match u with | (okA, tA, sA) => [(dq, .inr (2, [.ref dm, .ref d1, .ref d2, .ref d3, .ref d4, .ref dw, .int (bI den)])), (dm, .inl (cI, 256, .inl (nf M))), (d1, .inr (0, [.ref p1, .int (bI sA)])), (p1, .inl (cI, 130, .inl (nf tA))), (d2, .inr (0, [.ref p2, .int (bI s2)])), (p2, .inl (cI, 130, .inl (nf e2)))]) (st' := fun u => match u with | (okA, tA, sA) => [.int (bI okA)]) [0, 1, 2, 3] [4, 5] [2, 3, 4, 5, 0, 1] [] rfl mt_112 mt_109 mt_1 mt_111 mp_1 0 rfl rfl hdD_readDecimal (by decide) ⟨rfl, rfl⟩ (by decide) rfl rfl (by decide) rfl (by decide) (by decide) (by decide) (fun u => rfl) (fun u => rfl) (fun u => rfl) rfl rfl (by simp [Value.category]) dD_readOperands_36 (fun u hu => ?_)
        obtain ⟨okA, tA, sA⟩ := u
        have huA : okA = rdb M (tn n) (tn a) ∧ (okA = true → tA = rdD M (tn n) (tn a) ∧ sA = rdS M (tn n) (tn a)) := hu
        show GG D X 0 0 39 [(dq, .inr (2, [.ref dm, .ref d1, .ref d2, .ref d3, .ref d4, .ref dw, .int (bI den)])), (dm, .inl (cI, 256, .inl (nf M))), (d1, .inr (0, [.ref p1, .int (bI sA)])), (p1, .inl (cI, 130, .inl (nf tA))), (d2, .inr (0, [.ref p2, .int (bI s2)])), (p2, .inl (cI, 130, .inl (nf e2)))] [(0, .ref dq), (1, .int n), (2, .int a), (3, .int m), (4, .int b), (5, .int k), (6, .int c)] [.int (bI okA)]
        refine xg_if_eqB hX 56 dD_readOperands_39 (by decide) (fun h39 => ?_) (fun h39 => ?_)
        ·
          refine xg_bipush hX ((-2)) dD_readOperands_56 (by decide) ?_
          exact hret ((-2), tA, sA, e2, s2) _ _ _ rfl (show (-2) = opR M n a m b k c ∧ ((-2) = 0 → tA = rdD M (tn n) (tn a) ∧ sA = rdS M (tn n) (tn a) ∧ e2 = rdD M (tn m) (tn b) ∧ s2 = rdS M (tn m) (tn b)) from ⟨by unfold opR; rw [if_pos (by rw [h5, h14, h24]; rfl), if_neg (fun q => by simp only [Bool.and_eq_true] at q; first | exact absurd (huA.1.symm.trans h39 |>.symm.trans q.1) (by decide) | exact absurd (huB.1.symm.trans h53 |>.symm.trans q.2) (by decide))], fun q => absurd q (by decide)⟩) dD_readOperands_58
        ·
          refine xg_aload_n hX 0 dD_readOperands_42 rfl rfl ?_
          refine xg_aload_n hX 0 dD_readOperands_43 rfl rfl ?_
          refine xg_get hX (ci := 2) rfl hinD 0 rfl 2 (by decide) mt_70 rfl dD_readOperands_44 ?_
          refine xg_iload_n hX 3 dD_readOperands_47 rfl rfl ?_
          refine xg_top (nI (tn m)) (df3 h14) ?_
          refine xg_iload hX 4 dD_readOperands_48 rfl ?_
          refine xg_top (nI (tn b)) (df4 h14) ?_
          refine xg_cV hX dq [.ref d2, .int (nI (tn m)), .int (nI (tn b))] (hM := xc_readDecimal l D cI dq dm d1 d2 d3 d4 dw den M d2 p2 e2 s2 (tn m) (tn b) (df1 h14) (df2 h14) hM) (wr := [(d1, .inr (0, [.ref p1, .int (bI sA)])), (p1, .inl (cI, 130, .inl (nf tA)))]) (ws' := fun u => match u with | (okB, tB, sB) => [(dq, .inr (2, [.ref dm, .ref d1, .ref d2, .ref d3, .ref d4, .ref dw, .int (bI den)])), (dm, .inl (cI, 256, .inl (nf M))), (d1, .inr (0, [.ref p1, .int (bI sA)])), (p1, .inl (cI, 130, .inl (nf tA))), (d2, .inr (0, [.ref p2, .int (bI sB)])), (p2, .inl (cI, 130, .inl (nf tB)))]) (st' := fun u => match u with | (okB, tB, sB) => [.int (bI okB)]) [0, 1, 4, 5] [2, 3] [2, 3, 0, 1, 4, 5] [] rfl mt_112 mt_109 mt_1 mt_111 mp_1 0 rfl rfl hdD_readDecimal (by decide) ⟨rfl, rfl⟩ (by decide) rfl rfl (by decide) rfl (by decide) (by decide) (by decide) (fun u => rfl) (fun u => rfl) (fun u => rfl) rfl rfl (by simp [Value.category]) dD_readOperands_50 (fun u hu => ?_)
          obtain ⟨okB, tB, sB⟩ := u
          have huB : okB = rdb M (tn m) (tn b) ∧ (okB = true → tB = rdD M (tn m) (tn b) ∧ sB = rdS M (tn m) (tn b)) := hu
          show GG D X 0 0 53 [(dq, .inr (2, [.ref dm, .ref d1, .ref d2, .ref d3, .ref d4, .ref dw, .int (bI den)])), (dm, .inl (cI, 256, .inl (nf M))), (d1, .inr (0, [.ref p1, .int (bI sA)])), (p1, .inl (cI, 130, .inl (nf tA))), (d2, .inr (0, [.ref p2, .int (bI sB)])), (p2, .inl (cI, 130, .inl (nf tB)))] [(0, .ref dq), (1, .int n), (2, .int a), (3, .int m), (4, .int b), (5, .int k), (6, .int c)] [.int (bI okB)]
          refine xg_if_neB hX 59 dD_readOperands_53 (by decide) (fun h53 => ?_) (fun h53 => ?_)
          ·
            refine xg_iconst hX (nI 0) dD_readOperands_59 (by decide) ?_
            exact hret (nI 0, tA, sA, tB, sB) _ _ _ rfl (show (nI 0) = opR M n a m b k c ∧ ((nI 0) = 0 → tA = rdD M (tn n) (tn a) ∧ sA = rdS M (tn n) (tn a) ∧ tB = rdD M (tn m) (tn b) ∧ sB = rdS M (tn m) (tn b)) from ⟨by unfold opR; rw [if_pos (by rw [h5, h14, h24]; rfl), if_pos (by rw [← huA.1, ← huB.1, h39, h53]; rfl)]; rfl, fun _ => ⟨(huA.2 h39).1, (huA.2 h39).2, (huB.2 h53).1, (huB.2 h53).2⟩⟩) dD_readOperands_60
          ·
            refine xg_bipush hX ((-2)) dD_readOperands_56 (by decide) ?_
            exact hret ((-2), tA, sA, tB, sB) _ _ _ rfl (show (-2) = opR M n a m b k c ∧ ((-2) = 0 → tA = rdD M (tn n) (tn a) ∧ sA = rdS M (tn n) (tn a) ∧ tB = rdD M (tn m) (tn b) ∧ sB = rdS M (tn m) (tn b)) from ⟨by unfold opR; rw [if_pos (by rw [h5, h14, h24]; rfl), if_neg (fun q => by simp only [Bool.and_eq_true] at q; first | exact absurd (huA.1.symm.trans h39 |>.symm.trans q.1) (by decide) | exact absurd (huB.1.symm.trans h53 |>.symm.trans q.2) (by decide))], fun q => absurd q (by decide)⟩) dD_readOperands_58
      ·
        refine xg_iconst hX ((-1)) dD_readOperands_27 (by decide) ?_
        exact hret ((-1), e1, s1, e2, s2) _ _ _ rfl (show (-1) = opR M n a m b k c ∧ ((-1) = 0 → e1 = rdD M (tn n) (tn a) ∧ s1 = rdS M (tn n) (tn a) ∧ e2 = rdD M (tn m) (tn b) ∧ s2 = rdS M (tn m) (tn b)) from ⟨by unfold opR; rw [if_neg (fun q => by simp only [Bool.and_eq_true] at q; first | exact absurd (h5.symm.trans q.1.1) (by decide) | exact absurd (h14.symm.trans q.1.2) (by decide) | exact absurd (h24.symm.trans q.2) (by decide))], fun q => absurd q (by decide)⟩) dD_readOperands_28
set_option maxHeartbeats 4000000 in
set_option maxRecDepth 100000 in
theorem xc_sum (l : Launch) (D : va_G) (cI : ClassId) (dq : Nat) (dm : Nat) (d1 : Nat) (d2 : Nat) (d3 : Nat) (d4 : Nat) (dw : Nat) (den : Bool) (M : Nat → Nat) (p1 : Nat) (e1 : Nat → Nat) (s1 : Bool) (p2 : Nat) (e2 : Nat → Nat) (s2 : Bool) (p4 : Nat) (e4 : Nat → Nat) (s4 : Bool) (n : Int32) (a : Int32) (m : Int32) (b : Int32) (k : Int32) (c : Int32) (hM : ∀ j, M j < 256) : Ctr l D cI yD_sum cD_sum 8 (some .int) { frames := 6, cells := 0, slots := 0, locals := 137 } [.ref dq, .int n, .int a, .int m, .int b, .int k, .int c] [(dq, .inr (2, [.ref dm, .ref d1, .ref d2, .ref d3, .ref d4, .ref dw, .int (bI den)])), (dm, .inl (cI, 256, .inl (nf M))), (d1, .inr (0, [.ref p1, .int (bI s1)])), (p1, .inl (cI, 130, .inl (nf e1))), (d2, .inr (0, [.ref p2, .int (bI s2)])), (p2, .inl (cI, 130, .inl (nf e2))), (d4, .inr (0, [.ref p4, .int (bI s4)])), (p4, .inl (cI, 130, .inl (nf e4)))] (fun u : Int32 × (Nat → Nat) × (Nat → Nat) × Bool × (Nat → Nat) × Bool × (Nat → Nat) × Bool => match u with | (r, M2, e1_, s1_, e2_, s2_, e4_, s4_) => some (.int r)) (fun u : Int32 × (Nat → Nat) × (Nat → Nat) × Bool × (Nat → Nat) × Bool × (Nat → Nat) × Bool => match u with | (r, M2, e1_, s1_, e2_, s2_, e4_, s4_) => (r, M2) = sumZ M n a m b k c) (fun u : Int32 × (Nat → Nat) × (Nat → Nat) × Bool × (Nat → Nat) × Bool × (Nat → Nat) × Bool => match u with | (r, M2, e1_, s1_, e2_, s2_, e4_, s4_) => [(dq, .inr (2, [.ref dm, .ref d1, .ref d2, .ref d3, .ref d4, .ref dw, .int (bI den)])), (dm, .inl (cI, 256, .inl (nf M2))), (d1, .inr (0, [.ref p1, .int (bI s1_)])), (p1, .inl (cI, 130, .inl (nf e1_))), (d2, .inr (0, [.ref p2, .int (bI s2_)])), (p2, .inl (cI, 130, .inl (nf e2_))), (d4, .inr (0, [.ref p4, .int (bI s4_)])), (p4, .inl (cI, 130, .inl (nf e4_)))]) 0 0 := by
  refine xc_mkI (by decide +kernel) (Nat.le_of_ble_eq_true rfl) (fun X hX hret => ?_)
  show GG D X 0 0 0 [(dq, .inr (2, [.ref dm, .ref d1, .ref d2, .ref d3, .ref d4, .ref dw, .int (bI den)])), (dm, .inl (cI, 256, .inl (nf M))), (d1, .inr (0, [.ref p1, .int (bI s1)])), (p1, .inl (cI, 130, .inl (nf e1))), (d2, .inr (0, [.ref p2, .int (bI s2)])), (p2, .inl (cI, 130, .inl (nf e2))), (d4, .inr (0, [.ref p4, .int (bI s4)])), (p4, .inl (cI, 130, .inl (nf e4)))] [(0, .ref dq), (1, .int n), (2, .int a), (3, .int m), (4, .int b), (5, .int k), (6, .int c)] []
  refine xg_aload_n hX 0 dD_sum_0 rfl rfl ?_
  refine xg_iload_n hX 1 dD_sum_1 rfl rfl ?_
  refine xg_iload_n hX 2 dD_sum_2 rfl rfl ?_
  refine xg_iload_n hX 3 dD_sum_3 rfl rfl ?_
  refine xg_iload hX 4 dD_sum_4 rfl ?_
  refine xg_iload hX 5 dD_sum_6 rfl ?_
  refine xg_iload hX 6 dD_sum_8 rfl ?_
  refine xg_cV hX dq [.int n, .int a, .int m, .int b, .int k, .int c] (hM := xc_operands l D cI dq dm d1 d2 d3 d4 dw den M p1 e1 s1 p2 e2 s2 n a m b k c hM) (wr := [(d4, .inr (0, [.ref p4, .int (bI s4)])), (p4, .inl (cI, 130, .inl (nf e4)))]) (ws' := fun u => match u with | (rO, x1, y1, x2, y2) => [(dq, .inr (2, [.ref dm, .ref d1, .ref d2, .ref d3, .ref d4, .ref dw, .int (bI den)])), (dm, .inl (cI, 256, .inl (nf M))), (d1, .inr (0, [.ref p1, .int (bI y1)])), (p1, .inl (cI, 130, .inl (nf x1))), (d2, .inr (0, [.ref p2, .int (bI y2)])), (p2, .inl (cI, 130, .inl (nf x2))), (d4, .inr (0, [.ref p4, .int (bI s4)])), (p4, .inl (cI, 130, .inl (nf e4)))]) (st' := fun u => match u with | (rO, x1, y1, x2, y2) => [.int rO]) [0, 1, 2, 3, 4, 5] [6, 7] [2, 3, 4, 5, 6, 7, 0, 1] [] rfl mt_105 mt_102 mt_1 mt_104 mp_0 0 rfl rfl hdD_readOperands (by decide) ⟨rfl, rfl⟩ (by decide) rfl rfl (by decide) rfl (by decide) (by decide) (by decide) (fun u => rfl) (fun u => rfl) (fun u => rfl) rfl rfl (by simp [Value.category]) dD_sum_10 (fun u hu => ?_)
  obtain ⟨rO, x1, y1, x2, y2⟩ := u
  have huO : rO = opR M n a m b k c ∧ (rO = 0 → x1 = rdD M (tn n) (tn a) ∧ y1 = rdS M (tn n) (tn a) ∧ x2 = rdD M (tn m) (tn b) ∧ y2 = rdS M (tn m) (tn b)) := hu
  show GG D X 0 0 13 [(dq, .inr (2, [.ref dm, .ref d1, .ref d2, .ref d3, .ref d4, .ref dw, .int (bI den)])), (dm, .inl (cI, 256, .inl (nf M))), (d1, .inr (0, [.ref p1, .int (bI y1)])), (p1, .inl (cI, 130, .inl (nf x1))), (d2, .inr (0, [.ref p2, .int (bI y2)])), (p2, .inl (cI, 130, .inl (nf x2))), (d4, .inr (0, [.ref p4, .int (bI s4)])), (p4, .inl (cI, 130, .inl (nf e4)))] [(0, .ref dq), (1, .int n), (2, .int a), (3, .int m), (4, .int b), (5, .int k), (6, .int c)] [.int rO]
  refine xg_istore hX (lv' := [(7, .int rO), (0, .ref dq), (1, .int n), (2, .int a), (3, .int m), (4, .int b), (5, .int k), (6, .int c)]) dD_sum_13 (by decide) rfl ?_
  refine xg_iload hX 0 dD_sum_15 rfl ?_
  refine xg_if_eq hX 23 dD_sum_17 (by decide) (fun h17 => ?_) (fun h17 => ?_)
  ·
    have ho0 : opR M n a m b k c = 0 := by rw [← huO.1]; exact h17
    obtain ⟨f1, f2, f3, g1, g2⟩ := opR_0 ho0
    obtain ⟨rfl, rfl, rfl, rfl⟩ := huO.2 h17
    have hx := rd_lt g1
    have hy := rd_lt g2
    refine xg_aload_n hX 1 dD_sum_23 rfl rfl ?_
    refine xg_get hX (ci := 2) rfl hinD 0 rfl 4 (by decide) mt_72 rfl dD_sum_24 ?_
    refine xg_aload_n hX 1 dD_sum_27 rfl rfl ?_
    refine xg_get hX (ci := 2) rfl hinD 0 rfl 2 (by decide) mt_70 rfl dD_sum_28 ?_
    refine xg_aload_n hX 1 dD_sum_31 rfl rfl ?_
    refine xg_get hX (ci := 2) rfl hinD 0 rfl 1 (by decide) mt_69 rfl dD_sum_32 ?_
    refine xg_cV hX d4 [.ref d2, .ref d1] (hM := xc_addSigned l D cI d4 p4 e4 s4 d2 p2 (rdD M (tn m) (tn b)) (rdS M (tn m) (tn b)) d1 p1 (rdD M (tn n) (tn a)) (rdS M (tn n) (tn a)) hy hx) (wr := [(dq, .inr (2, [.ref dm, .ref d1, .ref d2, .ref d3, .ref d4, .ref dw, .int (bI den)])), (dm, .inl (cI, 256, .inl (nf M)))]) (ws' := fun _ => [(dq, .inr (2, [.ref dm, .ref d1, .ref d2, .ref d3, .ref d4, .ref dw, .int (bI den)])), (dm, .inl (cI, 256, .inl (nf M))), (d1, .inr (0, [.ref p1, .int (bI (rdS M (tn n) (tn a)))])), (p1, .inl (cI, 130, .inl (nf (rdD M (tn n) (tn a))))), (d2, .inr (0, [.ref p2, .int (bI (rdS M (tn m) (tn b)))])), (p2, .inl (cI, 130, .inl (nf (rdD M (tn m) (tn b))))), (d4, .inr (0, [.ref p4, .int (bI (asS (rdD M (tn m) (tn b)) (rdS M (tn m) (tn b)) (rdD M (tn n) (tn a)) (rdS M (tn n) (tn a))))])), (p4, .inl (cI, 130, .inl (nf (asD (rdD M (tn m) (tn b)) (rdS M (tn m) (tn b)) (rdD M (tn n) (tn a)) (rdS M (tn n) (tn a))))))]) (st' := fun _ => []) [6, 7, 4, 5, 2, 3] [0, 1] [0, 1, 6, 7, 4, 5, 2, 3] [] rfl mt_148 mt_145 mt_2 mt_146 mt_147 0 rfl rfl hdR_addSigned (by decide) ⟨rfl, rfl⟩ (by decide) rfl rfl (by decide) rfl (by decide) (by decide) (by decide) (fun u => rfl) (fun u => rfl) (fun u => rfl) rfl rfl (by simp [Value.category]) dD_sum_35 (fun _ _ => ?_)
    refine xg_aload_n hX 1 dD_sum_38 rfl rfl ?_
    refine xg_aload_n hX 1 dD_sum_39 rfl rfl ?_
    refine xg_get hX (ci := 2) rfl hinD 0 rfl 4 (by decide) mt_72 rfl dD_sum_40 ?_
    refine xg_iload hX 6 dD_sum_43 rfl ?_
    refine xg_top (nI (tn k)) (df3 f3) ?_
    refine xg_iload hX 7 dD_sum_45 rfl ?_
    refine xg_top (nI (tn c)) (df4 f3) ?_
    refine xg_cV hX dq [.ref d4, .int (nI (tn k)), .int (nI (tn c))] (hM := xc_writeDecimal l D cI dq dm d1 d2 d3 d4 dw den M d4 p4 (asD (rdD M (tn m) (tn b)) (rdS M (tn m) (tn b)) (rdD M (tn n) (tn a)) (rdS M (tn n) (tn a))) (asS (rdD M (tn m) (tn b)) (rdS M (tn m) (tn b)) (rdD M (tn n) (tn a)) (rdS M (tn n) (tn a))) (tn k) (tn c) (df1 f3) (df2 f3) (asD_lt hy hx)) (wr := [(d1, .inr (0, [.ref p1, .int (bI (rdS M (tn n) (tn a)))])), (p1, .inl (cI, 130, .inl (nf (rdD M (tn n) (tn a))))), (d2, .inr (0, [.ref p2, .int (bI (rdS M (tn m) (tn b)))])), (p2, .inl (cI, 130, .inl (nf (rdD M (tn m) (tn b)))))]) (ws' := fun _ => [(dq, .inr (2, [.ref dm, .ref d1, .ref d2, .ref d3, .ref d4, .ref dw, .int (bI den)])), (dm, .inl (cI, 256, .inl (nf (wrM M (asD (rdD M (tn m) (tn b)) (rdS M (tn m) (tn b)) (rdD M (tn n) (tn a)) (rdS M (tn n) (tn a))) (asS (rdD M (tn m) (tn b)) (rdS M (tn m) (tn b)) (rdD M (tn n) (tn a)) (rdS M (tn n) (tn a))) (tn k) (tn c))))), (d1, .inr (0, [.ref p1, .int (bI (rdS M (tn n) (tn a)))])), (p1, .inl (cI, 130, .inl (nf (rdD M (tn n) (tn a))))), (d2, .inr (0, [.ref p2, .int (bI (rdS M (tn m) (tn b)))])), (p2, .inl (cI, 130, .inl (nf (rdD M (tn m) (tn b))))), (d4, .inr (0, [.ref p4, .int (bI (asS (rdD M (tn m) (tn b)) (rdS M (tn m) (tn b)) (rdD M (tn n) (tn a)) (rdS M (tn n) (tn a))))])), (p4, .inl (cI, 130, .inl (nf (asD (rdD M (tn m) (tn b)) (rdS M (tn m) (tn b)) (rdD M (tn n) (tn a)) (rdS M (tn n) (tn a))))))]) (st' := fun _ => [.int (nI (flg (asD (rdD M (tn m) (tn b)) (rdS M (tn m) (tn b)) (rdD M (tn n) (tn a)) (rdS M (tn n) (tn a))) (asS (rdD M (tn m) (tn b)) (rdS M (tn m) (tn b)) (rdD M (tn n) (tn a)) (rdS M (tn n) (tn a))) (tn k)))]) [0, 1, 6, 7] [2, 3, 4, 5] [4, 5, 0, 1, 2, 3, 6, 7] [] rfl mt_166 mt_163 mt_1 mt_165 mp_5 0 rfl rfl hdD_writeDecimal (by decide) ⟨rfl, rfl⟩ (by decide) rfl rfl (by decide) rfl (by decide) (by decide) (by decide) (fun u => rfl) (fun u => rfl) (fun u => rfl) rfl rfl (by simp [Value.category]) dD_sum_47 (fun _ _ => ?_)
    exact hret (nI (flg (asD (rdD M (tn m) (tn b)) (rdS M (tn m) (tn b)) (rdD M (tn n) (tn a)) (rdS M (tn n) (tn a))) (asS (rdD M (tn m) (tn b)) (rdS M (tn m) (tn b)) (rdD M (tn n) (tn a)) (rdS M (tn n) (tn a))) (tn k)), wrM M (asD (rdD M (tn m) (tn b)) (rdS M (tn m) (tn b)) (rdD M (tn n) (tn a)) (rdS M (tn n) (tn a))) (asS (rdD M (tn m) (tn b)) (rdS M (tn m) (tn b)) (rdD M (tn n) (tn a)) (rdS M (tn n) (tn a))) (tn k) (tn c), rdD M (tn n) (tn a), rdS M (tn n) (tn a), rdD M (tn m) (tn b), rdS M (tn m) (tn b), asD (rdD M (tn m) (tn b)) (rdS M (tn m) (tn b)) (rdD M (tn n) (tn a)) (rdS M (tn n) (tn a)), asS (rdD M (tn m) (tn b)) (rdS M (tn m) (tn b)) (rdD M (tn n) (tn a)) (rdS M (tn n) (tn a))) _ _ _ rfl (show ((nI (flg (asD (rdD M (tn m) (tn b)) (rdS M (tn m) (tn b)) (rdD M (tn n) (tn a)) (rdS M (tn n) (tn a))) (asS (rdD M (tn m) (tn b)) (rdS M (tn m) (tn b)) (rdD M (tn n) (tn a)) (rdS M (tn n) (tn a))) (tn k))), (wrM M (asD (rdD M (tn m) (tn b)) (rdS M (tn m) (tn b)) (rdD M (tn n) (tn a)) (rdS M (tn n) (tn a))) (asS (rdD M (tn m) (tn b)) (rdS M (tn m) (tn b)) (rdD M (tn n) (tn a)) (rdS M (tn n) (tn a))) (tn k) (tn c))) = sumZ M n a m b k c from (by unfold sumZ arZ; rw [if_pos ho0])) dD_sum_50
  ·
    refine xg_iload hX 0 dD_sum_20 rfl ?_
    exact hret (rO, M, x1, y1, x2, y2, e4, s4) _ _ _ rfl (show (rO, M) = sumZ M n a m b k c from (by unfold sumZ arZ; rw [← huO.1, if_neg h17])) dD_sum_22
set_option maxHeartbeats 4000000 in
set_option maxRecDepth 100000 in
theorem xc_less (l : Launch) (D : va_G) (cI : ClassId) (dq : Nat) (dm : Nat) (d1 : Nat) (d2 : Nat) (d3 : Nat) (d4 : Nat) (dw : Nat) (den : Bool) (M : Nat → Nat) (p1 : Nat) (e1 : Nat → Nat) (s1 : Bool) (p2 : Nat) (e2 : Nat → Nat) (s2 : Bool) (p4 : Nat) (e4 : Nat → Nat) (s4 : Bool) (n : Int32) (a : Int32) (m : Int32) (b : Int32) (k : Int32) (c : Int32) (hM : ∀ j, M j < 256) : Ctr l D cI yD_less cD_less 8 (some .int) { frames := 6, cells := 0, slots := 0, locals := 137 } [.ref dq, .int n, .int a, .int m, .int b, .int k, .int c] [(dq, .inr (2, [.ref dm, .ref d1, .ref d2, .ref d3, .ref d4, .ref dw, .int (bI den)])), (dm, .inl (cI, 256, .inl (nf M))), (d1, .inr (0, [.ref p1, .int (bI s1)])), (p1, .inl (cI, 130, .inl (nf e1))), (d2, .inr (0, [.ref p2, .int (bI s2)])), (p2, .inl (cI, 130, .inl (nf e2))), (d4, .inr (0, [.ref p4, .int (bI s4)])), (p4, .inl (cI, 130, .inl (nf e4)))] (fun u : Int32 × (Nat → Nat) × (Nat → Nat) × Bool × (Nat → Nat) × Bool × (Nat → Nat) × Bool => match u with | (r, M2, e1_, s1_, e2_, s2_, e4_, s4_) => some (.int r)) (fun u : Int32 × (Nat → Nat) × (Nat → Nat) × Bool × (Nat → Nat) × Bool × (Nat → Nat) × Bool => match u with | (r, M2, e1_, s1_, e2_, s2_, e4_, s4_) => (r, M2) = lessZ M n a m b k c) (fun u : Int32 × (Nat → Nat) × (Nat → Nat) × Bool × (Nat → Nat) × Bool × (Nat → Nat) × Bool => match u with | (r, M2, e1_, s1_, e2_, s2_, e4_, s4_) => [(dq, .inr (2, [.ref dm, .ref d1, .ref d2, .ref d3, .ref d4, .ref dw, .int (bI den)])), (dm, .inl (cI, 256, .inl (nf M2))), (d1, .inr (0, [.ref p1, .int (bI s1_)])), (p1, .inl (cI, 130, .inl (nf e1_))), (d2, .inr (0, [.ref p2, .int (bI s2_)])), (p2, .inl (cI, 130, .inl (nf e2_))), (d4, .inr (0, [.ref p4, .int (bI s4_)])), (p4, .inl (cI, 130, .inl (nf e4_)))]) 0 0 := by
  refine xc_mkI (by decide +kernel) (Nat.le_of_ble_eq_true rfl) (fun X hX hret => ?_)
  show GG D X 0 0 0 [(dq, .inr (2, [.ref dm, .ref d1, .ref d2, .ref d3, .ref d4, .ref dw, .int (bI den)])), (dm, .inl (cI, 256, .inl (nf M))), (d1, .inr (0, [.ref p1, .int (bI s1)])), (p1, .inl (cI, 130, .inl (nf e1))), (d2, .inr (0, [.ref p2, .int (bI s2)])), (p2, .inl (cI, 130, .inl (nf e2))), (d4, .inr (0, [.ref p4, .int (bI s4)])), (p4, .inl (cI, 130, .inl (nf e4)))] [(0, .ref dq), (1, .int n), (2, .int a), (3, .int m), (4, .int b), (5, .int k), (6, .int c)] []
  refine xg_aload_n hX 0 dD_less_0 rfl rfl ?_
  refine xg_iload_n hX 1 dD_less_1 rfl rfl ?_
  refine xg_iload_n hX 2 dD_less_2 rfl rfl ?_
  refine xg_iload_n hX 3 dD_less_3 rfl rfl ?_
  refine xg_iload hX 4 dD_less_4 rfl ?_
  refine xg_iload hX 5 dD_less_6 rfl ?_
  refine xg_iload hX 6 dD_less_8 rfl ?_
  refine xg_cV hX dq [.int n, .int a, .int m, .int b, .int k, .int c] (hM := xc_operands l D cI dq dm d1 d2 d3 d4 dw den M p1 e1 s1 p2 e2 s2 n a m b k c hM) (wr := [(d4, .inr (0, [.ref p4, .int (bI s4)])), (p4, .inl (cI, 130, .inl (nf e4)))]) (ws' := fun u => match u with | (rO, x1, y1, x2, y2) => [(dq, .inr (2, [.ref dm, .ref d1, .ref d2, .ref d3, .ref d4, .ref dw, .int (bI den)])), (dm, .inl (cI, 256, .inl (nf M))), (d1, .inr (0, [.ref p1, .int (bI y1)])), (p1, .inl (cI, 130, .inl (nf x1))), (d2, .inr (0, [.ref p2, .int (bI y2)])), (p2, .inl (cI, 130, .inl (nf x2))), (d4, .inr (0, [.ref p4, .int (bI s4)])), (p4, .inl (cI, 130, .inl (nf e4)))]) (st' := fun u => match u with | (rO, x1, y1, x2, y2) => [.int rO]) [0, 1, 2, 3, 4, 5] [6, 7] [2, 3, 4, 5, 6, 7, 0, 1] [] rfl mt_105 mt_102 mt_1 mt_104 mp_0 0 rfl rfl hdD_readOperands (by decide) ⟨rfl, rfl⟩ (by decide) rfl rfl (by decide) rfl (by decide) (by decide) (by decide) (fun u => rfl) (fun u => rfl) (fun u => rfl) rfl rfl (by simp [Value.category]) dD_less_10 (fun u hu => ?_)
  obtain ⟨rO, x1, y1, x2, y2⟩ := u
  have huO : rO = opR M n a m b k c ∧ (rO = 0 → x1 = rdD M (tn n) (tn a) ∧ y1 = rdS M (tn n) (tn a) ∧ x2 = rdD M (tn m) (tn b) ∧ y2 = rdS M (tn m) (tn b)) := hu
  show GG D X 0 0 13 [(dq, .inr (2, [.ref dm, .ref d1, .ref d2, .ref d3, .ref d4, .ref dw, .int (bI den)])), (dm, .inl (cI, 256, .inl (nf M))), (d1, .inr (0, [.ref p1, .int (bI y1)])), (p1, .inl (cI, 130, .inl (nf x1))), (d2, .inr (0, [.ref p2, .int (bI y2)])), (p2, .inl (cI, 130, .inl (nf x2))), (d4, .inr (0, [.ref p4, .int (bI s4)])), (p4, .inl (cI, 130, .inl (nf e4)))] [(0, .ref dq), (1, .int n), (2, .int a), (3, .int m), (4, .int b), (5, .int k), (6, .int c)] [.int rO]
  refine xg_istore hX (lv' := [(7, .int rO), (0, .ref dq), (1, .int n), (2, .int a), (3, .int m), (4, .int b), (5, .int k), (6, .int c)]) dD_less_13 (by decide) rfl ?_
  refine xg_iload hX 0 dD_less_15 rfl ?_
  refine xg_if_eq hX 23 dD_less_17 (by decide) (fun h17 => ?_) (fun h17 => ?_)
  ·
    have ho0 : opR M n a m b k c = 0 := by rw [← huO.1]; exact h17
    obtain ⟨f1, f2, f3, g1, g2⟩ := opR_0 ho0
    obtain ⟨rfl, rfl, rfl, rfl⟩ := huO.2 h17
    have hx := rd_lt g1
    have hy := rd_lt g2
    refine xg_aload_n hX 1 dD_less_23 rfl rfl ?_
    refine xg_get hX (ci := 2) rfl hinD 0 rfl 1 (by decide) mt_69 rfl dD_less_24 ?_
    refine xg_aload_n hX 1 dD_less_27 rfl rfl ?_
    refine xg_get hX (ci := 2) rfl hinD 0 rfl 1 (by decide) mt_69 rfl dD_less_28 ?_
    refine xg_get hX (ci := 0) rfl hinR 2 rfl 1 (by decide) mt_24 rfl dD_less_31 ?_
    refine xg_if_neB hX 41 dD_less_34 (by decide) (fun h34 => ?_) (fun h34 => ?_)
    ·
      refine xg_iconst hX (nI 0) dD_less_41 (by decide) ?_
      refine xg_top (bI false) rfl ?_
      refine xg_put hX tyR tyR_ok nmR (ci := 0) rfl hinR (ws' := [(dq, .inr (2, [.ref dm, .ref d1, .ref d2, .ref d3, .ref d4, .ref dw, .int (bI den)])), (dm, .inl (cI, 256, .inl (nf M))), (d1, .inr (0, [.ref p1, .int (bI false)])), (p1, .inl (cI, 130, .inl (nf (rdD M (tn n) (tn a))))), (d2, .inr (0, [.ref p2, .int (bI (rdS M (tn m) (tn b)))])), (p2, .inl (cI, 130, .inl (nf (rdD M (tn m) (tn b))))), (d4, .inr (0, [.ref p4, .int (bI s4)])), (p4, .inl (cI, 130, .inl (nf e4)))]) 2 rfl 1 (by decide) mt_24 rfl (xn_narB _) (xn_fitB _) (Nat.le_of_ble_eq_true rfl) rfl dD_less_42 ?_
      refine xg_wsE (ws' := [(dq, .inr (2, [.ref dm, .ref d1, .ref d2, .ref d3, .ref d4, .ref dw, .int (bI den)])), (dm, .inl (cI, 256, .inl (nf M))), (d1, .inr (0, [.ref p1, .int (bI (!(rdS M (tn n) (tn a))))])), (p1, .inl (cI, 130, .inl (nf (rdD M (tn n) (tn a))))), (d2, .inr (0, [.ref p2, .int (bI (rdS M (tn m) (tn b)))])), (p2, .inl (cI, 130, .inl (nf (rdD M (tn m) (tn b))))), (d4, .inr (0, [.ref p4, .int (bI s4)])), (p4, .inl (cI, 130, .inl (nf e4)))]) (by rw [← (show (bI false : Int32) = bI (!(rdS M (tn n) (tn a))) from (by rw [h34]; rfl))]) ?_
      refine xg_aload_n hX 1 dD_less_45 rfl rfl ?_
      refine xg_get hX (ci := 2) rfl hinD 0 rfl 4 (by decide) mt_72 rfl dD_less_46 ?_
      refine xg_aload_n hX 1 dD_less_49 rfl rfl ?_
      refine xg_get hX (ci := 2) rfl hinD 0 rfl 2 (by decide) mt_70 rfl dD_less_50 ?_
      refine xg_aload_n hX 1 dD_less_53 rfl rfl ?_
      refine xg_get hX (ci := 2) rfl hinD 0 rfl 1 (by decide) mt_69 rfl dD_less_54 ?_
      refine xg_cV hX d4 [.ref d2, .ref d1] (hM := xc_addSigned l D cI d4 p4 e4 s4 d2 p2 (rdD M (tn m) (tn b)) (rdS M (tn m) (tn b)) d1 p1 (rdD M (tn n) (tn a)) (!(rdS M (tn n) (tn a))) hy hx) (wr := [(dq, .inr (2, [.ref dm, .ref d1, .ref d2, .ref d3, .ref d4, .ref dw, .int (bI den)])), (dm, .inl (cI, 256, .inl (nf M)))]) (ws' := fun _ => [(dq, .inr (2, [.ref dm, .ref d1, .ref d2, .ref d3, .ref d4, .ref dw, .int (bI den)])), (dm, .inl (cI, 256, .inl (nf M))), (d1, .inr (0, [.ref p1, .int (bI (!(rdS M (tn n) (tn a))))])), (p1, .inl (cI, 130, .inl (nf (rdD M (tn n) (tn a))))), (d2, .inr (0, [.ref p2, .int (bI (rdS M (tn m) (tn b)))])), (p2, .inl (cI, 130, .inl (nf (rdD M (tn m) (tn b))))), (d4, .inr (0, [.ref p4, .int (bI (asS (rdD M (tn m) (tn b)) (rdS M (tn m) (tn b)) (rdD M (tn n) (tn a)) (!(rdS M (tn n) (tn a)))))])), (p4, .inl (cI, 130, .inl (nf (asD (rdD M (tn m) (tn b)) (rdS M (tn m) (tn b)) (rdD M (tn n) (tn a)) (!(rdS M (tn n) (tn a)))))))]) (st' := fun _ => []) [6, 7, 4, 5, 2, 3] [0, 1] [0, 1, 6, 7, 4, 5, 2, 3] [] rfl mt_148 mt_145 mt_2 mt_146 mt_147 0 rfl rfl hdR_addSigned (by decide) ⟨rfl, rfl⟩ (by decide) rfl rfl (by decide) rfl (by decide) (by decide) (by decide) (fun u => rfl) (fun u => rfl) (fun u => rfl) rfl rfl (by simp [Value.category]) dD_less_57 (fun _ _ => ?_)
      refine xg_aload_n hX 1 dD_less_60 rfl rfl ?_
      refine xg_aload_n hX 1 dD_less_61 rfl rfl ?_
      refine xg_get hX (ci := 2) rfl hinD 0 rfl 4 (by decide) mt_72 rfl dD_less_62 ?_
      refine xg_iload hX 6 dD_less_65 rfl ?_
      refine xg_top (nI (tn k)) (df3 f3) ?_
      refine xg_iload hX 7 dD_less_67 rfl ?_
      refine xg_top (nI (tn c)) (df4 f3) ?_
      refine xg_cV hX dq [.ref d4, .int (nI (tn k)), .int (nI (tn c))] (hM := xc_writeDecimal l D cI dq dm d1 d2 d3 d4 dw den M d4 p4 (asD (rdD M (tn m) (tn b)) (rdS M (tn m) (tn b)) (rdD M (tn n) (tn a)) (!(rdS M (tn n) (tn a)))) (asS (rdD M (tn m) (tn b)) (rdS M (tn m) (tn b)) (rdD M (tn n) (tn a)) (!(rdS M (tn n) (tn a)))) (tn k) (tn c) (df1 f3) (df2 f3) (asD_lt hy hx)) (wr := [(d1, .inr (0, [.ref p1, .int (bI (!(rdS M (tn n) (tn a))))])), (p1, .inl (cI, 130, .inl (nf (rdD M (tn n) (tn a))))), (d2, .inr (0, [.ref p2, .int (bI (rdS M (tn m) (tn b)))])), (p2, .inl (cI, 130, .inl (nf (rdD M (tn m) (tn b)))))]) (ws' := fun _ => [(dq, .inr (2, [.ref dm, .ref d1, .ref d2, .ref d3, .ref d4, .ref dw, .int (bI den)])), (dm, .inl (cI, 256, .inl (nf (wrM M (asD (rdD M (tn m) (tn b)) (rdS M (tn m) (tn b)) (rdD M (tn n) (tn a)) (!(rdS M (tn n) (tn a)))) (asS (rdD M (tn m) (tn b)) (rdS M (tn m) (tn b)) (rdD M (tn n) (tn a)) (!(rdS M (tn n) (tn a)))) (tn k) (tn c))))), (d1, .inr (0, [.ref p1, .int (bI (!(rdS M (tn n) (tn a))))])), (p1, .inl (cI, 130, .inl (nf (rdD M (tn n) (tn a))))), (d2, .inr (0, [.ref p2, .int (bI (rdS M (tn m) (tn b)))])), (p2, .inl (cI, 130, .inl (nf (rdD M (tn m) (tn b))))), (d4, .inr (0, [.ref p4, .int (bI (asS (rdD M (tn m) (tn b)) (rdS M (tn m) (tn b)) (rdD M (tn n) (tn a)) (!(rdS M (tn n) (tn a)))))])), (p4, .inl (cI, 130, .inl (nf (asD (rdD M (tn m) (tn b)) (rdS M (tn m) (tn b)) (rdD M (tn n) (tn a)) (!(rdS M (tn n) (tn a)))))))]) (st' := fun _ => [.int (nI (flg (asD (rdD M (tn m) (tn b)) (rdS M (tn m) (tn b)) (rdD M (tn n) (tn a)) (!(rdS M (tn n) (tn a)))) (asS (rdD M (tn m) (tn b)) (rdS M (tn m) (tn b)) (rdD M (tn n) (tn a)) (!(rdS M (tn n) (tn a)))) (tn k)))]) [0, 1, 6, 7] [2, 3, 4, 5] [4, 5, 0, 1, 2, 3, 6, 7] [] rfl mt_166 mt_163 mt_1 mt_165 mp_5 0 rfl rfl hdD_writeDecimal (by decide) ⟨rfl, rfl⟩ (by decide) rfl rfl (by decide) rfl (by decide) (by decide) (by decide) (fun u => rfl) (fun u => rfl) (fun u => rfl) rfl rfl (by simp [Value.category]) dD_less_69 (fun _ _ => ?_)
      exact hret (nI (flg (asD (rdD M (tn m) (tn b)) (rdS M (tn m) (tn b)) (rdD M (tn n) (tn a)) (!(rdS M (tn n) (tn a)))) (asS (rdD M (tn m) (tn b)) (rdS M (tn m) (tn b)) (rdD M (tn n) (tn a)) (!(rdS M (tn n) (tn a)))) (tn k)), wrM M (asD (rdD M (tn m) (tn b)) (rdS M (tn m) (tn b)) (rdD M (tn n) (tn a)) (!(rdS M (tn n) (tn a)))) (asS (rdD M (tn m) (tn b)) (rdS M (tn m) (tn b)) (rdD M (tn n) (tn a)) (!(rdS M (tn n) (tn a)))) (tn k) (tn c), rdD M (tn n) (tn a), !(rdS M (tn n) (tn a)), rdD M (tn m) (tn b), rdS M (tn m) (tn b), asD (rdD M (tn m) (tn b)) (rdS M (tn m) (tn b)) (rdD M (tn n) (tn a)) (!(rdS M (tn n) (tn a))), asS (rdD M (tn m) (tn b)) (rdS M (tn m) (tn b)) (rdD M (tn n) (tn a)) (!(rdS M (tn n) (tn a)))) _ _ _ rfl (show ((nI (flg (asD (rdD M (tn m) (tn b)) (rdS M (tn m) (tn b)) (rdD M (tn n) (tn a)) (!(rdS M (tn n) (tn a)))) (asS (rdD M (tn m) (tn b)) (rdS M (tn m) (tn b)) (rdD M (tn n) (tn a)) (!(rdS M (tn n) (tn a)))) (tn k))), (wrM M (asD (rdD M (tn m) (tn b)) (rdS M (tn m) (tn b)) (rdD M (tn n) (tn a)) (!(rdS M (tn n) (tn a)))) (asS (rdD M (tn m) (tn b)) (rdS M (tn m) (tn b)) (rdD M (tn n) (tn a)) (!(rdS M (tn n) (tn a)))) (tn k) (tn c))) = lessZ M n a m b k c from (by unfold lessZ arZ; rw [if_pos ho0])) dD_less_72
    ·
      refine xg_iconst hX (nI 1) dD_less_37 (by decide) ?_
      refine xg_goto hX 42 dD_less_38 (by decide) ?_
      refine xg_top (bI true) rfl ?_
      refine xg_put hX tyR tyR_ok nmR (ci := 0) rfl hinR (ws' := [(dq, .inr (2, [.ref dm, .ref d1, .ref d2, .ref d3, .ref d4, .ref dw, .int (bI den)])), (dm, .inl (cI, 256, .inl (nf M))), (d1, .inr (0, [.ref p1, .int (bI true)])), (p1, .inl (cI, 130, .inl (nf (rdD M (tn n) (tn a))))), (d2, .inr (0, [.ref p2, .int (bI (rdS M (tn m) (tn b)))])), (p2, .inl (cI, 130, .inl (nf (rdD M (tn m) (tn b))))), (d4, .inr (0, [.ref p4, .int (bI s4)])), (p4, .inl (cI, 130, .inl (nf e4)))]) 2 rfl 1 (by decide) mt_24 rfl (xn_narB _) (xn_fitB _) (Nat.le_of_ble_eq_true rfl) rfl dD_less_42 ?_
      refine xg_wsE (ws' := [(dq, .inr (2, [.ref dm, .ref d1, .ref d2, .ref d3, .ref d4, .ref dw, .int (bI den)])), (dm, .inl (cI, 256, .inl (nf M))), (d1, .inr (0, [.ref p1, .int (bI (!(rdS M (tn n) (tn a))))])), (p1, .inl (cI, 130, .inl (nf (rdD M (tn n) (tn a))))), (d2, .inr (0, [.ref p2, .int (bI (rdS M (tn m) (tn b)))])), (p2, .inl (cI, 130, .inl (nf (rdD M (tn m) (tn b))))), (d4, .inr (0, [.ref p4, .int (bI s4)])), (p4, .inl (cI, 130, .inl (nf e4)))]) (by rw [← (show (bI true : Int32) = bI (!(rdS M (tn n) (tn a))) from (by rw [h34]; rfl))]) ?_
      refine xg_aload_n hX 1 dD_less_45 rfl rfl ?_
      refine xg_get hX (ci := 2) rfl hinD 0 rfl 4 (by decide) mt_72 rfl dD_less_46 ?_
      refine xg_aload_n hX 1 dD_less_49 rfl rfl ?_
      refine xg_get hX (ci := 2) rfl hinD 0 rfl 2 (by decide) mt_70 rfl dD_less_50 ?_
      refine xg_aload_n hX 1 dD_less_53 rfl rfl ?_
      refine xg_get hX (ci := 2) rfl hinD 0 rfl 1 (by decide) mt_69 rfl dD_less_54 ?_
      refine xg_cV hX d4 [.ref d2, .ref d1] (hM := xc_addSigned l D cI d4 p4 e4 s4 d2 p2 (rdD M (tn m) (tn b)) (rdS M (tn m) (tn b)) d1 p1 (rdD M (tn n) (tn a)) (!(rdS M (tn n) (tn a))) hy hx) (wr := [(dq, .inr (2, [.ref dm, .ref d1, .ref d2, .ref d3, .ref d4, .ref dw, .int (bI den)])), (dm, .inl (cI, 256, .inl (nf M)))]) (ws' := fun _ => [(dq, .inr (2, [.ref dm, .ref d1, .ref d2, .ref d3, .ref d4, .ref dw, .int (bI den)])), (dm, .inl (cI, 256, .inl (nf M))), (d1, .inr (0, [.ref p1, .int (bI (!(rdS M (tn n) (tn a))))])), (p1, .inl (cI, 130, .inl (nf (rdD M (tn n) (tn a))))), (d2, .inr (0, [.ref p2, .int (bI (rdS M (tn m) (tn b)))])), (p2, .inl (cI, 130, .inl (nf (rdD M (tn m) (tn b))))), (d4, .inr (0, [.ref p4, .int (bI (asS (rdD M (tn m) (tn b)) (rdS M (tn m) (tn b)) (rdD M (tn n) (tn a)) (!(rdS M (tn n) (tn a)))))])), (p4, .inl (cI, 130, .inl (nf (asD (rdD M (tn m) (tn b)) (rdS M (tn m) (tn b)) (rdD M (tn n) (tn a)) (!(rdS M (tn n) (tn a)))))))]) (st' := fun _ => []) [6, 7, 4, 5, 2, 3] [0, 1] [0, 1, 6, 7, 4, 5, 2, 3] [] rfl mt_148 mt_145 mt_2 mt_146 mt_147 0 rfl rfl hdR_addSigned (by decide) ⟨rfl, rfl⟩ (by decide) rfl rfl (by decide) rfl (by decide) (by decide) (by decide) (fun u => rfl) (fun u => rfl) (fun u => rfl) rfl rfl (by simp [Value.category]) dD_less_57 (fun _ _ => ?_)
      refine xg_aload_n hX 1 dD_less_60 rfl rfl ?_
      refine xg_aload_n hX 1 dD_less_61 rfl rfl ?_
      refine xg_get hX (ci := 2) rfl hinD 0 rfl 4 (by decide) mt_72 rfl dD_less_62 ?_
      refine xg_iload hX 6 dD_less_65 rfl ?_
      refine xg_top (nI (tn k)) (df3 f3) ?_
      refine xg_iload hX 7 dD_less_67 rfl ?_
      refine xg_top (nI (tn c)) (df4 f3) ?_
      refine xg_cV hX dq [.ref d4, .int (nI (tn k)), .int (nI (tn c))] (hM := xc_writeDecimal l D cI dq dm d1 d2 d3 d4 dw den M d4 p4 (asD (rdD M (tn m) (tn b)) (rdS M (tn m) (tn b)) (rdD M (tn n) (tn a)) (!(rdS M (tn n) (tn a)))) (asS (rdD M (tn m) (tn b)) (rdS M (tn m) (tn b)) (rdD M (tn n) (tn a)) (!(rdS M (tn n) (tn a)))) (tn k) (tn c) (df1 f3) (df2 f3) (asD_lt hy hx)) (wr := [(d1, .inr (0, [.ref p1, .int (bI (!(rdS M (tn n) (tn a))))])), (p1, .inl (cI, 130, .inl (nf (rdD M (tn n) (tn a))))), (d2, .inr (0, [.ref p2, .int (bI (rdS M (tn m) (tn b)))])), (p2, .inl (cI, 130, .inl (nf (rdD M (tn m) (tn b)))))]) (ws' := fun _ => [(dq, .inr (2, [.ref dm, .ref d1, .ref d2, .ref d3, .ref d4, .ref dw, .int (bI den)])), (dm, .inl (cI, 256, .inl (nf (wrM M (asD (rdD M (tn m) (tn b)) (rdS M (tn m) (tn b)) (rdD M (tn n) (tn a)) (!(rdS M (tn n) (tn a)))) (asS (rdD M (tn m) (tn b)) (rdS M (tn m) (tn b)) (rdD M (tn n) (tn a)) (!(rdS M (tn n) (tn a)))) (tn k) (tn c))))), (d1, .inr (0, [.ref p1, .int (bI (!(rdS M (tn n) (tn a))))])), (p1, .inl (cI, 130, .inl (nf (rdD M (tn n) (tn a))))), (d2, .inr (0, [.ref p2, .int (bI (rdS M (tn m) (tn b)))])), (p2, .inl (cI, 130, .inl (nf (rdD M (tn m) (tn b))))), (d4, .inr (0, [.ref p4, .int (bI (asS (rdD M (tn m) (tn b)) (rdS M (tn m) (tn b)) (rdD M (tn n) (tn a)) (!(rdS M (tn n) (tn a)))))])), (p4, .inl (cI, 130, .inl (nf (asD (rdD M (tn m) (tn b)) (rdS M (tn m) (tn b)) (rdD M (tn n) (tn a)) (!(rdS M (tn n) (tn a)))))))]) (st' := fun _ => [.int (nI (flg (asD (rdD M (tn m) (tn b)) (rdS M (tn m) (tn b)) (rdD M (tn n) (tn a)) (!(rdS M (tn n) (tn a)))) (asS (rdD M (tn m) (tn b)) (rdS M (tn m) (tn b)) (rdD M (tn n) (tn a)) (!(rdS M (tn n) (tn a)))) (tn k)))]) [0, 1, 6, 7] [2, 3, 4, 5] [4, 5, 0, 1, 2, 3, 6, 7] [] rfl mt_166 mt_163 mt_1 mt_165 mp_5 0 rfl rfl hdD_writeDecimal (by decide) ⟨rfl, rfl⟩ (by decide) rfl rfl (by decide) rfl (by decide) (by decide) (by decide) (fun u => rfl) (fun u => rfl) (fun u => rfl) rfl rfl (by simp [Value.category]) dD_less_69 (fun _ _ => ?_)
      exact hret (nI (flg (asD (rdD M (tn m) (tn b)) (rdS M (tn m) (tn b)) (rdD M (tn n) (tn a)) (!(rdS M (tn n) (tn a)))) (asS (rdD M (tn m) (tn b)) (rdS M (tn m) (tn b)) (rdD M (tn n) (tn a)) (!(rdS M (tn n) (tn a)))) (tn k)), wrM M (asD (rdD M (tn m) (tn b)) (rdS M (tn m) (tn b)) (rdD M (tn n) (tn a)) (!(rdS M (tn n) (tn a)))) (asS (rdD M (tn m) (tn b)) (rdS M (tn m) (tn b)) (rdD M (tn n) (tn a)) (!(rdS M (tn n) (tn a)))) (tn k) (tn c), rdD M (tn n) (tn a), !(rdS M (tn n) (tn a)), rdD M (tn m) (tn b), rdS M (tn m) (tn b), asD (rdD M (tn m) (tn b)) (rdS M (tn m) (tn b)) (rdD M (tn n) (tn a)) (!(rdS M (tn n) (tn a))), asS (rdD M (tn m) (tn b)) (rdS M (tn m) (tn b)) (rdD M (tn n) (tn a)) (!(rdS M (tn n) (tn a)))) _ _ _ rfl (show ((nI (flg (asD (rdD M (tn m) (tn b)) (rdS M (tn m) (tn b)) (rdD M (tn n) (tn a)) (!(rdS M (tn n) (tn a)))) (asS (rdD M (tn m) (tn b)) (rdS M (tn m) (tn b)) (rdD M (tn n) (tn a)) (!(rdS M (tn n) (tn a)))) (tn k))), (wrM M (asD (rdD M (tn m) (tn b)) (rdS M (tn m) (tn b)) (rdD M (tn n) (tn a)) (!(rdS M (tn n) (tn a)))) (asS (rdD M (tn m) (tn b)) (rdS M (tn m) (tn b)) (rdD M (tn n) (tn a)) (!(rdS M (tn n) (tn a)))) (tn k) (tn c))) = lessZ M n a m b k c from (by unfold lessZ arZ; rw [if_pos ho0])) dD_less_72
  ·
    refine xg_iload hX 0 dD_less_20 rfl ?_
    exact hret (rO, M, x1, y1, x2, y2, e4, s4) _ _ _ rfl (show (rO, M) = lessZ M n a m b k c from (by unfold lessZ arZ; rw [← huO.1, if_neg h17])) dD_less_22
set_option maxHeartbeats 4000000 in
set_option maxRecDepth 100000 in
theorem xc_product (l : Launch) (D : va_G) (cI : ClassId) (dq : Nat) (dm : Nat) (d1 : Nat) (d2 : Nat) (d3 : Nat) (d4 : Nat) (dw : Nat) (den : Bool) (M : Nat → Nat) (p1 : Nat) (e1 : Nat → Nat) (s1 : Bool) (p2 : Nat) (e2 : Nat → Nat) (s2 : Bool) (p4 : Nat) (e4 : Nat → Nat) (s4 : Bool) (n : Int32) (a : Int32) (m : Int32) (b : Int32) (k : Int32) (c : Int32) (hM : ∀ j, M j < 256) : Ctr l D cI yD_product cD_product 8 (some .int) { frames := 6, cells := 0, slots := 0, locals := 137 } [.ref dq, .int n, .int a, .int m, .int b, .int k, .int c] [(dq, .inr (2, [.ref dm, .ref d1, .ref d2, .ref d3, .ref d4, .ref dw, .int (bI den)])), (dm, .inl (cI, 256, .inl (nf M))), (d1, .inr (0, [.ref p1, .int (bI s1)])), (p1, .inl (cI, 130, .inl (nf e1))), (d2, .inr (0, [.ref p2, .int (bI s2)])), (p2, .inl (cI, 130, .inl (nf e2))), (d4, .inr (0, [.ref p4, .int (bI s4)])), (p4, .inl (cI, 130, .inl (nf e4)))] (fun u : Int32 × (Nat → Nat) × (Nat → Nat) × Bool × (Nat → Nat) × Bool × (Nat → Nat) × Bool => match u with | (r, M2, e1_, s1_, e2_, s2_, e4_, s4_) => some (.int r)) (fun u : Int32 × (Nat → Nat) × (Nat → Nat) × Bool × (Nat → Nat) × Bool × (Nat → Nat) × Bool => match u with | (r, M2, e1_, s1_, e2_, s2_, e4_, s4_) => (r, M2) = prodZ M n a m b k c) (fun u : Int32 × (Nat → Nat) × (Nat → Nat) × Bool × (Nat → Nat) × Bool × (Nat → Nat) × Bool => match u with | (r, M2, e1_, s1_, e2_, s2_, e4_, s4_) => [(dq, .inr (2, [.ref dm, .ref d1, .ref d2, .ref d3, .ref d4, .ref dw, .int (bI den)])), (dm, .inl (cI, 256, .inl (nf M2))), (d1, .inr (0, [.ref p1, .int (bI s1_)])), (p1, .inl (cI, 130, .inl (nf e1_))), (d2, .inr (0, [.ref p2, .int (bI s2_)])), (p2, .inl (cI, 130, .inl (nf e2_))), (d4, .inr (0, [.ref p4, .int (bI s4_)])), (p4, .inl (cI, 130, .inl (nf e4_)))]) 0 0 := by
  refine xc_mkI (by decide +kernel) (Nat.le_of_ble_eq_true rfl) (fun X hX hret => ?_)
  show GG D X 0 0 0 [(dq, .inr (2, [.ref dm, .ref d1, .ref d2, .ref d3, .ref d4, .ref dw, .int (bI den)])), (dm, .inl (cI, 256, .inl (nf M))), (d1, .inr (0, [.ref p1, .int (bI s1)])), (p1, .inl (cI, 130, .inl (nf e1))), (d2, .inr (0, [.ref p2, .int (bI s2)])), (p2, .inl (cI, 130, .inl (nf e2))), (d4, .inr (0, [.ref p4, .int (bI s4)])), (p4, .inl (cI, 130, .inl (nf e4)))] [(0, .ref dq), (1, .int n), (2, .int a), (3, .int m), (4, .int b), (5, .int k), (6, .int c)] []
  refine xg_aload_n hX 0 dD_product_0 rfl rfl ?_
  refine xg_iload_n hX 1 dD_product_1 rfl rfl ?_
  refine xg_iload_n hX 2 dD_product_2 rfl rfl ?_
  refine xg_iload_n hX 3 dD_product_3 rfl rfl ?_
  refine xg_iload hX 4 dD_product_4 rfl ?_
  refine xg_iload hX 5 dD_product_6 rfl ?_
  refine xg_iload hX 6 dD_product_8 rfl ?_
  refine xg_cV hX dq [.int n, .int a, .int m, .int b, .int k, .int c] (hM := xc_operands l D cI dq dm d1 d2 d3 d4 dw den M p1 e1 s1 p2 e2 s2 n a m b k c hM) (wr := [(d4, .inr (0, [.ref p4, .int (bI s4)])), (p4, .inl (cI, 130, .inl (nf e4)))]) (ws' := fun u => match u with | (rO, x1, y1, x2, y2) => [(dq, .inr (2, [.ref dm, .ref d1, .ref d2, .ref d3, .ref d4, .ref dw, .int (bI den)])), (dm, .inl (cI, 256, .inl (nf M))), (d1, .inr (0, [.ref p1, .int (bI y1)])), (p1, .inl (cI, 130, .inl (nf x1))), (d2, .inr (0, [.ref p2, .int (bI y2)])), (p2, .inl (cI, 130, .inl (nf x2))), (d4, .inr (0, [.ref p4, .int (bI s4)])), (p4, .inl (cI, 130, .inl (nf e4)))]) (st' := fun u => match u with | (rO, x1, y1, x2, y2) => [.int rO]) [0, 1, 2, 3, 4, 5] [6, 7] [2, 3, 4, 5, 6, 7, 0, 1] [] rfl mt_105 mt_102 mt_1 mt_104 mp_0 0 rfl rfl hdD_readOperands (by decide) ⟨rfl, rfl⟩ (by decide) rfl rfl (by decide) rfl (by decide) (by decide) (by decide) (fun u => rfl) (fun u => rfl) (fun u => rfl) rfl rfl (by simp [Value.category]) dD_product_10 (fun u hu => ?_)
  obtain ⟨rO, x1, y1, x2, y2⟩ := u
  have huO : rO = opR M n a m b k c ∧ (rO = 0 → x1 = rdD M (tn n) (tn a) ∧ y1 = rdS M (tn n) (tn a) ∧ x2 = rdD M (tn m) (tn b) ∧ y2 = rdS M (tn m) (tn b)) := hu
  show GG D X 0 0 13 [(dq, .inr (2, [.ref dm, .ref d1, .ref d2, .ref d3, .ref d4, .ref dw, .int (bI den)])), (dm, .inl (cI, 256, .inl (nf M))), (d1, .inr (0, [.ref p1, .int (bI y1)])), (p1, .inl (cI, 130, .inl (nf x1))), (d2, .inr (0, [.ref p2, .int (bI y2)])), (p2, .inl (cI, 130, .inl (nf x2))), (d4, .inr (0, [.ref p4, .int (bI s4)])), (p4, .inl (cI, 130, .inl (nf e4)))] [(0, .ref dq), (1, .int n), (2, .int a), (3, .int m), (4, .int b), (5, .int k), (6, .int c)] [.int rO]
  refine xg_istore hX (lv' := [(7, .int rO), (0, .ref dq), (1, .int n), (2, .int a), (3, .int m), (4, .int b), (5, .int k), (6, .int c)]) dD_product_13 (by decide) rfl ?_
  refine xg_iload hX 0 dD_product_15 rfl ?_
  refine xg_if_eq hX 23 dD_product_17 (by decide) (fun h17 => ?_) (fun h17 => ?_)
  ·
    have ho0 : opR M n a m b k c = 0 := by rw [← huO.1]; exact h17
    obtain ⟨f1, f2, f3, g1, g2⟩ := opR_0 ho0
    obtain ⟨rfl, rfl, rfl, rfl⟩ := huO.2 h17
    have hx := rd_lt g1
    have hy := rd_lt g2
    refine xg_aload_n hX 1 dD_product_23 rfl rfl ?_
    refine xg_get hX (ci := 2) rfl hinD 0 rfl 4 (by decide) mt_72 rfl dD_product_24 ?_
    refine xg_aload_n hX 1 dD_product_27 rfl rfl ?_
    refine xg_get hX (ci := 2) rfl hinD 0 rfl 1 (by decide) mt_69 rfl dD_product_28 ?_
    refine xg_aload_n hX 1 dD_product_31 rfl rfl ?_
    refine xg_get hX (ci := 2) rfl hinD 0 rfl 2 (by decide) mt_70 rfl dD_product_32 ?_
    refine xg_cV hX d4 [.ref d1, .ref d2] (hM := xc_multiply l D cI d4 p4 e4 s4 d1 p1 (rdD M (tn n) (tn a)) (rdS M (tn n) (tn a)) d2 p2 (rdD M (tn m) (tn b)) (rdS M (tn m) (tn b)) hx hy) (wr := [(dq, .inr (2, [.ref dm, .ref d1, .ref d2, .ref d3, .ref d4, .ref dw, .int (bI den)])), (dm, .inl (cI, 256, .inl (nf M)))]) (ws' := fun _ => [(dq, .inr (2, [.ref dm, .ref d1, .ref d2, .ref d3, .ref d4, .ref dw, .int (bI den)])), (dm, .inl (cI, 256, .inl (nf M))), (d1, .inr (0, [.ref p1, .int (bI (rdS M (tn n) (tn a)))])), (p1, .inl (cI, 130, .inl (nf (rdD M (tn n) (tn a))))), (d2, .inr (0, [.ref p2, .int (bI (rdS M (tn m) (tn b)))])), (p2, .inl (cI, 130, .inl (nf (rdD M (tn m) (tn b))))), (d4, .inr (0, [.ref p4, .int (bI ((rdS M (tn n) (tn a)) != (rdS M (tn m) (tn b))))])), (p4, .inl (cI, 130, .inl (nf (muR (rdD M (tn n) (tn a)) (rdD M (tn m) (tn b)) 31))))]) (st' := fun _ => []) [6, 7, 2, 3, 4, 5] [0, 1] [0, 1, 4, 5, 6, 7, 2, 3] [] rfl mt_184 mt_181 mt_2 mt_182 mt_183 0 rfl rfl hdR_multiply (by decide) ⟨rfl, rfl⟩ (by decide) rfl rfl (by decide) rfl (by decide) (by decide) (by decide) (fun u => rfl) (fun u => rfl) (fun u => rfl) rfl rfl (by simp [Value.category]) dD_product_35 (fun _ _ => ?_)
    refine xg_aload_n hX 1 dD_product_38 rfl rfl ?_
    refine xg_aload_n hX 1 dD_product_39 rfl rfl ?_
    refine xg_get hX (ci := 2) rfl hinD 0 rfl 4 (by decide) mt_72 rfl dD_product_40 ?_
    refine xg_iload hX 6 dD_product_43 rfl ?_
    refine xg_top (nI (tn k)) (df3 f3) ?_
    refine xg_iload hX 7 dD_product_45 rfl ?_
    refine xg_top (nI (tn c)) (df4 f3) ?_
    refine xg_cV hX dq [.ref d4, .int (nI (tn k)), .int (nI (tn c))] (hM := xc_writeDecimal l D cI dq dm d1 d2 d3 d4 dw den M d4 p4 (muR (rdD M (tn n) (tn a)) (rdD M (tn m) (tn b)) 31) ((rdS M (tn n) (tn a)) != (rdS M (tn m) (tn b))) (tn k) (tn c) (df1 f3) (df2 f3) (muR_lt _ _ 31)) (wr := [(d1, .inr (0, [.ref p1, .int (bI (rdS M (tn n) (tn a)))])), (p1, .inl (cI, 130, .inl (nf (rdD M (tn n) (tn a))))), (d2, .inr (0, [.ref p2, .int (bI (rdS M (tn m) (tn b)))])), (p2, .inl (cI, 130, .inl (nf (rdD M (tn m) (tn b)))))]) (ws' := fun _ => [(dq, .inr (2, [.ref dm, .ref d1, .ref d2, .ref d3, .ref d4, .ref dw, .int (bI den)])), (dm, .inl (cI, 256, .inl (nf (wrM M (muR (rdD M (tn n) (tn a)) (rdD M (tn m) (tn b)) 31) ((rdS M (tn n) (tn a)) != (rdS M (tn m) (tn b))) (tn k) (tn c))))), (d1, .inr (0, [.ref p1, .int (bI (rdS M (tn n) (tn a)))])), (p1, .inl (cI, 130, .inl (nf (rdD M (tn n) (tn a))))), (d2, .inr (0, [.ref p2, .int (bI (rdS M (tn m) (tn b)))])), (p2, .inl (cI, 130, .inl (nf (rdD M (tn m) (tn b))))), (d4, .inr (0, [.ref p4, .int (bI ((rdS M (tn n) (tn a)) != (rdS M (tn m) (tn b))))])), (p4, .inl (cI, 130, .inl (nf (muR (rdD M (tn n) (tn a)) (rdD M (tn m) (tn b)) 31))))]) (st' := fun _ => [.int (nI (flg (muR (rdD M (tn n) (tn a)) (rdD M (tn m) (tn b)) 31) ((rdS M (tn n) (tn a)) != (rdS M (tn m) (tn b))) (tn k)))]) [0, 1, 6, 7] [2, 3, 4, 5] [4, 5, 0, 1, 2, 3, 6, 7] [] rfl mt_166 mt_163 mt_1 mt_165 mp_5 0 rfl rfl hdD_writeDecimal (by decide) ⟨rfl, rfl⟩ (by decide) rfl rfl (by decide) rfl (by decide) (by decide) (by decide) (fun u => rfl) (fun u => rfl) (fun u => rfl) rfl rfl (by simp [Value.category]) dD_product_47 (fun _ _ => ?_)
    exact hret (nI (flg (muR (rdD M (tn n) (tn a)) (rdD M (tn m) (tn b)) 31) ((rdS M (tn n) (tn a)) != (rdS M (tn m) (tn b))) (tn k)), wrM M (muR (rdD M (tn n) (tn a)) (rdD M (tn m) (tn b)) 31) ((rdS M (tn n) (tn a)) != (rdS M (tn m) (tn b))) (tn k) (tn c), rdD M (tn n) (tn a), rdS M (tn n) (tn a), rdD M (tn m) (tn b), rdS M (tn m) (tn b), muR (rdD M (tn n) (tn a)) (rdD M (tn m) (tn b)) 31, (rdS M (tn n) (tn a)) != (rdS M (tn m) (tn b))) _ _ _ rfl (show ((nI (flg (muR (rdD M (tn n) (tn a)) (rdD M (tn m) (tn b)) 31) ((rdS M (tn n) (tn a)) != (rdS M (tn m) (tn b))) (tn k))), (wrM M (muR (rdD M (tn n) (tn a)) (rdD M (tn m) (tn b)) 31) ((rdS M (tn n) (tn a)) != (rdS M (tn m) (tn b))) (tn k) (tn c))) = prodZ M n a m b k c from (by unfold prodZ arZ; rw [if_pos ho0])) dD_product_50
  ·
    refine xg_iload hX 0 dD_product_20 rfl ?_
    exact hret (rO, M, x1, y1, x2, y2, e4, s4) _ _ _ rfl (show (rO, M) = prodZ M n a m b k c from (by unfold prodZ arZ; rw [← huO.1, if_neg h17])) dD_product_22
set_option maxHeartbeats 4000000 in
set_option maxRecDepth 100000 in
theorem xc_quotient (l : Launch) (D : va_G) (cI : ClassId) (dq : Nat) (dm : Nat) (d1 : Nat) (d2 : Nat) (d3 : Nat) (d4 : Nat) (dw : Nat) (den : Bool) (M : Nat → Nat) (p1 : Nat) (e1 : Nat → Nat) (s1 : Bool) (p2 : Nat) (e2 : Nat → Nat) (s2 : Bool) (p3 : Nat) (e3 : Nat → Nat) (s3 : Bool) (p4 : Nat) (e4 : Nat → Nat) (s4 : Bool) (n : Int32) (a : Int32) (m : Int32) (b : Int32) (k : Int32) (c : Int32) (hM : ∀ j, M j < 256) : Ctr l D cI yD_quotient cD_quotient 8 (some .int) { frames := 6, cells := 0, slots := 0, locals := 137 } [.ref dq, .int n, .int a, .int m, .int b, .int k, .int c] [(dq, .inr (2, [.ref dm, .ref d1, .ref d2, .ref d3, .ref d4, .ref dw, .int (bI den)])), (dm, .inl (cI, 256, .inl (nf M))), (d1, .inr (0, [.ref p1, .int (bI s1)])), (p1, .inl (cI, 130, .inl (nf e1))), (d2, .inr (0, [.ref p2, .int (bI s2)])), (p2, .inl (cI, 130, .inl (nf e2))), (d3, .inr (0, [.ref p3, .int (bI s3)])), (p3, .inl (cI, 130, .inl (nf e3))), (d4, .inr (0, [.ref p4, .int (bI s4)])), (p4, .inl (cI, 130, .inl (nf e4)))] (fun u : Int32 × (Nat → Nat) × (Nat → Nat) × Bool × (Nat → Nat) × Bool × (Nat → Nat) × Bool × (Nat → Nat) × Bool => match u with | (r, M2, e1_, s1_, e2_, s2_, e3_, s3_, e4_, s4_) => some (.int r)) (fun u : Int32 × (Nat → Nat) × (Nat → Nat) × Bool × (Nat → Nat) × Bool × (Nat → Nat) × Bool × (Nat → Nat) × Bool => match u with | (r, M2, e1_, s1_, e2_, s2_, e3_, s3_, e4_, s4_) => (r, M2) = quotZ M n a m b k c) (fun u : Int32 × (Nat → Nat) × (Nat → Nat) × Bool × (Nat → Nat) × Bool × (Nat → Nat) × Bool × (Nat → Nat) × Bool => match u with | (r, M2, e1_, s1_, e2_, s2_, e3_, s3_, e4_, s4_) => [(dq, .inr (2, [.ref dm, .ref d1, .ref d2, .ref d3, .ref d4, .ref dw, .int (bI den)])), (dm, .inl (cI, 256, .inl (nf M2))), (d1, .inr (0, [.ref p1, .int (bI s1_)])), (p1, .inl (cI, 130, .inl (nf e1_))), (d2, .inr (0, [.ref p2, .int (bI s2_)])), (p2, .inl (cI, 130, .inl (nf e2_))), (d3, .inr (0, [.ref p3, .int (bI s3_)])), (p3, .inl (cI, 130, .inl (nf e3_))), (d4, .inr (0, [.ref p4, .int (bI s4_)])), (p4, .inl (cI, 130, .inl (nf e4_)))]) 0 0 := by
  refine xc_mkI (by decide +kernel) (Nat.le_of_ble_eq_true rfl) (fun X hX hret => ?_)
  show GG D X 0 0 0 [(dq, .inr (2, [.ref dm, .ref d1, .ref d2, .ref d3, .ref d4, .ref dw, .int (bI den)])), (dm, .inl (cI, 256, .inl (nf M))), (d1, .inr (0, [.ref p1, .int (bI s1)])), (p1, .inl (cI, 130, .inl (nf e1))), (d2, .inr (0, [.ref p2, .int (bI s2)])), (p2, .inl (cI, 130, .inl (nf e2))), (d3, .inr (0, [.ref p3, .int (bI s3)])), (p3, .inl (cI, 130, .inl (nf e3))), (d4, .inr (0, [.ref p4, .int (bI s4)])), (p4, .inl (cI, 130, .inl (nf e4)))] [(0, .ref dq), (1, .int n), (2, .int a), (3, .int m), (4, .int b), (5, .int k), (6, .int c)] []
  refine xg_aload_n hX 0 dD_quotient_0 rfl rfl ?_
  refine xg_iload_n hX 1 dD_quotient_1 rfl rfl ?_
  refine xg_iload_n hX 2 dD_quotient_2 rfl rfl ?_
  refine xg_iload_n hX 3 dD_quotient_3 rfl rfl ?_
  refine xg_iload hX 4 dD_quotient_4 rfl ?_
  refine xg_iload hX 5 dD_quotient_6 rfl ?_
  refine xg_iload hX 6 dD_quotient_8 rfl ?_
  refine xg_cV hX dq [.int n, .int a, .int m, .int b, .int k, .int c] (hM := xc_operands l D cI dq dm d1 d2 d3 d4 dw den M p1 e1 s1 p2 e2 s2 n a m b k c hM) (wr := [(d3, .inr (0, [.ref p3, .int (bI s3)])), (p3, .inl (cI, 130, .inl (nf e3))), (d4, .inr (0, [.ref p4, .int (bI s4)])), (p4, .inl (cI, 130, .inl (nf e4)))]) (ws' := fun u => match u with | (rO, x1, y1, x2, y2) => [(dq, .inr (2, [.ref dm, .ref d1, .ref d2, .ref d3, .ref d4, .ref dw, .int (bI den)])), (dm, .inl (cI, 256, .inl (nf M))), (d1, .inr (0, [.ref p1, .int (bI y1)])), (p1, .inl (cI, 130, .inl (nf x1))), (d2, .inr (0, [.ref p2, .int (bI y2)])), (p2, .inl (cI, 130, .inl (nf x2))), (d3, .inr (0, [.ref p3, .int (bI s3)])), (p3, .inl (cI, 130, .inl (nf e3))), (d4, .inr (0, [.ref p4, .int (bI s4)])), (p4, .inl (cI, 130, .inl (nf e4)))]) (st' := fun u => match u with | (rO, x1, y1, x2, y2) => [.int rO]) [0, 1, 2, 3, 4, 5] [6, 7, 8, 9] [4, 5, 6, 7, 8, 9, 0, 1, 2, 3] [] rfl mt_105 mt_102 mt_1 mt_104 mp_0 0 rfl rfl hdD_readOperands (by decide) ⟨rfl, rfl⟩ (by decide) rfl rfl (by decide) rfl (by decide) (by decide) (by decide) (fun u => rfl) (fun u => rfl) (fun u => rfl) rfl rfl (by simp [Value.category]) dD_quotient_10 (fun u hu => ?_)
  obtain ⟨rO, x1, y1, x2, y2⟩ := u
  have huO : rO = opR M n a m b k c ∧ (rO = 0 → x1 = rdD M (tn n) (tn a) ∧ y1 = rdS M (tn n) (tn a) ∧ x2 = rdD M (tn m) (tn b) ∧ y2 = rdS M (tn m) (tn b)) := hu
  show GG D X 0 0 13 [(dq, .inr (2, [.ref dm, .ref d1, .ref d2, .ref d3, .ref d4, .ref dw, .int (bI den)])), (dm, .inl (cI, 256, .inl (nf M))), (d1, .inr (0, [.ref p1, .int (bI y1)])), (p1, .inl (cI, 130, .inl (nf x1))), (d2, .inr (0, [.ref p2, .int (bI y2)])), (p2, .inl (cI, 130, .inl (nf x2))), (d3, .inr (0, [.ref p3, .int (bI s3)])), (p3, .inl (cI, 130, .inl (nf e3))), (d4, .inr (0, [.ref p4, .int (bI s4)])), (p4, .inl (cI, 130, .inl (nf e4)))] [(0, .ref dq), (1, .int n), (2, .int a), (3, .int m), (4, .int b), (5, .int k), (6, .int c)] [.int rO]
  refine xg_istore hX (lv' := [(7, .int rO), (0, .ref dq), (1, .int n), (2, .int a), (3, .int m), (4, .int b), (5, .int k), (6, .int c)]) dD_quotient_13 (by decide) rfl ?_
  refine xg_iload hX 0 dD_quotient_15 rfl ?_
  refine xg_if_eq hX 23 dD_quotient_17 (by decide) (fun h17 => ?_) (fun h17 => ?_)
  ·
    have ho0 : opR M n a m b k c = 0 := by rw [← huO.1]; exact h17
    obtain ⟨f1, f2, f3, g1, g2⟩ := opR_0 ho0
    obtain ⟨rfl, rfl, rfl, rfl⟩ := huO.2 h17
    have hx := rd_lt g1
    have hy := rd_lt g2
    refine xg_aload_n hX 1 dD_quotient_23 rfl rfl ?_
    refine xg_get hX (ci := 2) rfl hinD 0 rfl 1 (by decide) mt_69 rfl dD_quotient_24 ?_
    refine xg_cV hX d1 [] (hM := xc_isZero l D cI d1 p1 (rdD M (tn n) (tn a)) (rdS M (tn n) (tn a)) hx) (wr := [(dq, .inr (2, [.ref dm, .ref d1, .ref d2, .ref d3, .ref d4, .ref dw, .int (bI den)])), (dm, .inl (cI, 256, .inl (nf M))), (d2, .inr (0, [.ref p2, .int (bI (rdS M (tn m) (tn b)))])), (p2, .inl (cI, 130, .inl (nf (rdD M (tn m) (tn b))))), (d3, .inr (0, [.ref p3, .int (bI s3)])), (p3, .inl (cI, 130, .inl (nf e3))), (d4, .inr (0, [.ref p4, .int (bI s4)])), (p4, .inl (cI, 130, .inl (nf e4)))]) (ws' := fun _ => [(dq, .inr (2, [.ref dm, .ref d1, .ref d2, .ref d3, .ref d4, .ref dw, .int (bI den)])), (dm, .inl (cI, 256, .inl (nf M))), (d1, .inr (0, [.ref p1, .int (bI (rdS M (tn n) (tn a)))])), (p1, .inl (cI, 130, .inl (nf (rdD M (tn n) (tn a))))), (d2, .inr (0, [.ref p2, .int (bI (rdS M (tn m) (tn b)))])), (p2, .inl (cI, 130, .inl (nf (rdD M (tn m) (tn b))))), (d3, .inr (0, [.ref p3, .int (bI s3)])), (p3, .inl (cI, 130, .inl (nf e3))), (d4, .inr (0, [.ref p4, .int (bI s4)])), (p4, .inl (cI, 130, .inl (nf e4)))]) (st' := fun _ => [.int (bI (!hasD (rdD M (tn n) (tn a)) 0 130))]) [2, 3] [0, 1, 4, 5, 6, 7, 8, 9] [0, 1, 8, 9, 2, 3, 4, 5, 6, 7] [] rfl mt_136 mt_193 mt_2 mt_134 mt_135 0 rfl rfl hdR_isZero (by decide) ⟨rfl, rfl⟩ (by decide) rfl rfl (by decide) rfl (by decide) (by decide) (by decide) (fun u => rfl) (fun u => rfl) (fun u => rfl) rfl rfl (by simp [Value.category]) dD_quotient_27 (fun _ _ => ?_)
    refine xg_if_eqB hX 36 dD_quotient_30 (by decide) (fun h30 => ?_) (fun h30 => ?_)
    ·
      refine xg_aload_n hX 1 dD_quotient_36 rfl rfl ?_
      refine xg_get hX (ci := 2) rfl hinD 0 rfl 4 (by decide) mt_72 rfl dD_quotient_37 ?_
      refine xg_aload_n hX 1 dD_quotient_40 rfl rfl ?_
      refine xg_get hX (ci := 2) rfl hinD 0 rfl 2 (by decide) mt_70 rfl dD_quotient_41 ?_
      refine xg_aload_n hX 1 dD_quotient_44 rfl rfl ?_
      refine xg_get hX (ci := 2) rfl hinD 0 rfl 1 (by decide) mt_69 rfl dD_quotient_45 ?_
      refine xg_aload_n hX 1 dD_quotient_48 rfl rfl ?_
      refine xg_get hX (ci := 2) rfl hinD 0 rfl 3 (by decide) mt_71 rfl dD_quotient_49 ?_
      refine xg_cV hX d4 [.ref d2, .ref d1, .ref d3] (hM := xc_divide l D cI d4 p4 e4 s4 d2 p2 (rdD M (tn m) (tn b)) (rdS M (tn m) (tn b)) d1 p1 (rdD M (tn n) (tn a)) (rdS M (tn n) (tn a)) d3 p3 e3 s3 hy hx) (wr := [(dq, .inr (2, [.ref dm, .ref d1, .ref d2, .ref d3, .ref d4, .ref dw, .int (bI den)])), (dm, .inl (cI, 256, .inl (nf M)))]) (ws' := fun _ => [(dq, .inr (2, [.ref dm, .ref d1, .ref d2, .ref d3, .ref d4, .ref dw, .int (bI den)])), (dm, .inl (cI, 256, .inl (nf M))), (d1, .inr (0, [.ref p1, .int (bI (rdS M (tn n) (tn a)))])), (p1, .inl (cI, 130, .inl (nf (rdD M (tn n) (tn a))))), (d2, .inr (0, [.ref p2, .int (bI (rdS M (tn m) (tn b)))])), (p2, .inl (cI, 130, .inl (nf (rdD M (tn m) (tn b))))), (d3, .inr (0, [.ref p3, .int (bI false)])), (p3, .inl (cI, 130, .inl (nf (dvR 32 (rdD M (tn m) (tn b)) (rdD M (tn n) (tn a)) 31)))), (d4, .inr (0, [.ref p4, .int (bI ((rdS M (tn m) (tn b)) != (rdS M (tn n) (tn a))))])), (p4, .inl (cI, 130, .inl (nf (qmx 0 (dvQ 32 (rdD M (tn m) (tn b)) (rdD M (tn n) (tn a)))))))]) (st' := fun _ => []) [8, 9, 4, 5, 2, 3, 6, 7] [0, 1] [0, 1, 6, 7, 4, 5, 8, 9, 2, 3] [] rfl mt_197 mt_194 mt_2 mt_195 mt_196 0 rfl rfl hdR_divide (by decide) ⟨rfl, rfl⟩ (by decide) rfl rfl (by decide) rfl (by decide) (by decide) (by decide) (fun u => rfl) (fun u => rfl) (fun u => rfl) rfl rfl (by simp [Value.category]) dD_quotient_52 (fun _ _ => ?_)
      refine xg_aload_n hX 1 dD_quotient_55 rfl rfl ?_
      refine xg_aload_n hX 1 dD_quotient_56 rfl rfl ?_
      refine xg_get hX (ci := 2) rfl hinD 0 rfl 4 (by decide) mt_72 rfl dD_quotient_57 ?_
      refine xg_iload hX 6 dD_quotient_60 rfl ?_
      refine xg_top (nI (tn k)) (df3 f3) ?_
      refine xg_iload hX 7 dD_quotient_62 rfl ?_
      refine xg_top (nI (tn c)) (df4 f3) ?_
      refine xg_cV hX dq [.ref d4, .int (nI (tn k)), .int (nI (tn c))] (hM := xc_writeDecimal l D cI dq dm d1 d2 d3 d4 dw den M d4 p4 (qmx 0 (dvQ 32 (rdD M (tn m) (tn b)) (rdD M (tn n) (tn a)))) ((rdS M (tn m) (tn b)) != (rdS M (tn n) (tn a))) (tn k) (tn c) (df1 f3) (df2 f3) (qmx_lt (dvQ_lt hy hx))) (wr := [(d1, .inr (0, [.ref p1, .int (bI (rdS M (tn n) (tn a)))])), (p1, .inl (cI, 130, .inl (nf (rdD M (tn n) (tn a))))), (d2, .inr (0, [.ref p2, .int (bI (rdS M (tn m) (tn b)))])), (p2, .inl (cI, 130, .inl (nf (rdD M (tn m) (tn b))))), (d3, .inr (0, [.ref p3, .int (bI false)])), (p3, .inl (cI, 130, .inl (nf (dvR 32 (rdD M (tn m) (tn b)) (rdD M (tn n) (tn a)) 31))))]) (ws' := fun _ => [(dq, .inr (2, [.ref dm, .ref d1, .ref d2, .ref d3, .ref d4, .ref dw, .int (bI den)])), (dm, .inl (cI, 256, .inl (nf (wrM M (qmx 0 (dvQ 32 (rdD M (tn m) (tn b)) (rdD M (tn n) (tn a)))) ((rdS M (tn m) (tn b)) != (rdS M (tn n) (tn a))) (tn k) (tn c))))), (d1, .inr (0, [.ref p1, .int (bI (rdS M (tn n) (tn a)))])), (p1, .inl (cI, 130, .inl (nf (rdD M (tn n) (tn a))))), (d2, .inr (0, [.ref p2, .int (bI (rdS M (tn m) (tn b)))])), (p2, .inl (cI, 130, .inl (nf (rdD M (tn m) (tn b))))), (d3, .inr (0, [.ref p3, .int (bI false)])), (p3, .inl (cI, 130, .inl (nf (dvR 32 (rdD M (tn m) (tn b)) (rdD M (tn n) (tn a)) 31)))), (d4, .inr (0, [.ref p4, .int (bI ((rdS M (tn m) (tn b)) != (rdS M (tn n) (tn a))))])), (p4, .inl (cI, 130, .inl (nf (qmx 0 (dvQ 32 (rdD M (tn m) (tn b)) (rdD M (tn n) (tn a)))))))]) (st' := fun _ => [.int (nI (flg (qmx 0 (dvQ 32 (rdD M (tn m) (tn b)) (rdD M (tn n) (tn a)))) ((rdS M (tn m) (tn b)) != (rdS M (tn n) (tn a))) (tn k)))]) [0, 1, 8, 9] [2, 3, 4, 5, 6, 7] [6, 7, 0, 1, 2, 3, 4, 5, 8, 9] [] rfl mt_166 mt_163 mt_1 mt_165 mp_5 0 rfl rfl hdD_writeDecimal (by decide) ⟨rfl, rfl⟩ (by decide) rfl rfl (by decide) rfl (by decide) (by decide) (by decide) (fun u => rfl) (fun u => rfl) (fun u => rfl) rfl rfl (by simp [Value.category]) dD_quotient_64 (fun _ _ => ?_)
      exact hret (nI (flg (qmx 0 (dvQ 32 (rdD M (tn m) (tn b)) (rdD M (tn n) (tn a)))) ((rdS M (tn m) (tn b)) != (rdS M (tn n) (tn a))) (tn k)), wrM M (qmx 0 (dvQ 32 (rdD M (tn m) (tn b)) (rdD M (tn n) (tn a)))) ((rdS M (tn m) (tn b)) != (rdS M (tn n) (tn a))) (tn k) (tn c), rdD M (tn n) (tn a), rdS M (tn n) (tn a), rdD M (tn m) (tn b), rdS M (tn m) (tn b), dvR 32 (rdD M (tn m) (tn b)) (rdD M (tn n) (tn a)) 31, false, qmx 0 (dvQ 32 (rdD M (tn m) (tn b)) (rdD M (tn n) (tn a))), (rdS M (tn m) (tn b)) != (rdS M (tn n) (tn a))) _ _ _ rfl (show ((nI (flg (qmx 0 (dvQ 32 (rdD M (tn m) (tn b)) (rdD M (tn n) (tn a)))) ((rdS M (tn m) (tn b)) != (rdS M (tn n) (tn a))) (tn k))), (wrM M (qmx 0 (dvQ 32 (rdD M (tn m) (tn b)) (rdD M (tn n) (tn a)))) ((rdS M (tn m) (tn b)) != (rdS M (tn n) (tn a))) (tn k) (tn c))) = quotZ M n a m b k c from (by unfold quotZ; rw [if_pos ho0, if_pos (by simpa using h30)]; rfl)) dD_quotient_67
    ·
      refine xg_bipush hX ((-3)) dD_quotient_33 (by decide) ?_
      exact hret ((-3), M, rdD M (tn n) (tn a), rdS M (tn n) (tn a), rdD M (tn m) (tn b), rdS M (tn m) (tn b), e3, s3, e4, s4) _ _ _ rfl (show ((-3), M) = quotZ M n a m b k c from (by unfold quotZ; rw [if_pos ho0, if_neg (fun q => by rw [q] at h30; exact absurd h30 (by decide))]; exact (arZ_no (by decide)).symm)) dD_quotient_35
  ·
    refine xg_iload hX 0 dD_quotient_20 rfl ?_
    exact hret (rO, M, x1, y1, x2, y2, e3, s3, e4, s4) _ _ _ rfl (show (rO, M) = quotZ M n a m b k c from (by unfold quotZ; rw [← huO.1, if_neg h17]; exact (arZ_no h17).symm)) dD_quotient_22
set_option maxHeartbeats 4000000 in
set_option maxRecDepth 100000 in
theorem xc_shift (l : Launch) (D : va_G) (cI : ClassId) (dq : Nat) (dm : Nat) (d1 : Nat) (d2 : Nat) (d3 : Nat) (d4 : Nat) (dw : Nat) (den : Bool) (M : Nat → Nat) (p1 : Nat) (e1 : Nat → Nat) (s1 : Bool) (p4 : Nat) (e4 : Nat → Nat) (s4 : Bool) (n : Int32) (a : Int32) (y : Int32) (up_ : Int32) (m : Int32) (b : Int32) (hM : ∀ j, M j < 256) : Ctr l D cI yD_shift cD_shift 7 (some .int) { frames := 5, cells := 0, slots := 0, locals := 111 } [.ref dq, .int n, .int a, .int y, .int up_, .int m, .int b] [(dq, .inr (2, [.ref dm, .ref d1, .ref d2, .ref d3, .ref d4, .ref dw, .int (bI den)])), (dm, .inl (cI, 256, .inl (nf M))), (d1, .inr (0, [.ref p1, .int (bI s1)])), (p1, .inl (cI, 130, .inl (nf e1))), (d4, .inr (0, [.ref p4, .int (bI s4)])), (p4, .inl (cI, 130, .inl (nf e4)))] (fun u : Int32 × (Nat → Nat) × (Nat → Nat) × Bool × (Nat → Nat) × Bool => match u with | (r, M2, e1_, s1_, e4_, s4_) => some (.int r)) (fun u : Int32 × (Nat → Nat) × (Nat → Nat) × Bool × (Nat → Nat) × Bool => match u with | (r, M2, e1_, s1_, e4_, s4_) => (r, M2) = shiftZ M n a y up_ m b) (fun u : Int32 × (Nat → Nat) × (Nat → Nat) × Bool × (Nat → Nat) × Bool => match u with | (r, M2, e1_, s1_, e4_, s4_) => [(dq, .inr (2, [.ref dm, .ref d1, .ref d2, .ref d3, .ref d4, .ref dw, .int (bI den)])), (dm, .inl (cI, 256, .inl (nf M2))), (d1, .inr (0, [.ref p1, .int (bI s1_)])), (p1, .inl (cI, 130, .inl (nf e1_))), (d4, .inr (0, [.ref p4, .int (bI s4_)])), (p4, .inl (cI, 130, .inl (nf e4_)))]) 0 0 := by
  refine xc_mkI (by decide +kernel) (Nat.le_of_ble_eq_true rfl) (fun X hX hret => ?_)
  show GG D X 0 0 0 [(dq, .inr (2, [.ref dm, .ref d1, .ref d2, .ref d3, .ref d4, .ref dw, .int (bI den)])), (dm, .inl (cI, 256, .inl (nf M))), (d1, .inr (0, [.ref p1, .int (bI s1)])), (p1, .inl (cI, 130, .inl (nf e1))), (d4, .inr (0, [.ref p4, .int (bI s4)])), (p4, .inl (cI, 130, .inl (nf e4)))] [(0, .ref dq), (1, .int n), (2, .int a), (3, .int y), (4, .int up_), (5, .int m), (6, .int b)] []
  refine xg_iload_n hX 1 dD_shift_0 rfl rfl ?_
  refine xg_iload_n hX 2 dD_shift_1 rfl rfl ?_
  refine xg_cS hX [.int n, .int a] (hM := xc_dfits l D cI n a) (wr := [(dq, .inr (2, [.ref dm, .ref d1, .ref d2, .ref d3, .ref d4, .ref dw, .int (bI den)])), (dm, .inl (cI, 256, .inl (nf M))), (d1, .inr (0, [.ref p1, .int (bI s1)])), (p1, .inl (cI, 130, .inl (nf e1))), (d4, .inr (0, [.ref p4, .int (bI s4)])), (p4, .inl (cI, 130, .inl (nf e4)))]) (ws' := fun _ => [(dq, .inr (2, [.ref dm, .ref d1, .ref d2, .ref d3, .ref d4, .ref dw, .int (bI den)])), (dm, .inl (cI, 256, .inl (nf M))), (d1, .inr (0, [.ref p1, .int (bI s1)])), (p1, .inl (cI, 130, .inl (nf e1))), (d4, .inr (0, [.ref p4, .int (bI s4)])), (p4, .inl (cI, 130, .inl (nf e4)))]) (st' := fun _ => [.int (bI (dfits n a))]) [] [0, 1, 2, 3, 4, 5] [0, 1, 2, 3, 4, 5] [] rfl mt_108 mt_106 mt_1 mt_107 hdD_decimalFits (by decide) ⟨rfl, rfl⟩ (by decide) rfl rfl (by decide) rfl (by decide) (by decide) (by decide) (fun u => rfl) (fun u => rfl) (fun u => rfl) rfl rfl (by simp [Value.category]) dD_shift_2 (fun _ _ => ?_)
  refine xg_if_eqB hX 18 dD_shift_5 (by decide) (fun h5 => ?_) (fun h5 => ?_)
  ·
    refine xg_iconst hX ((-1)) dD_shift_18 (by decide) ?_
    exact hret ((-1), M, e1, s1, e4, s4) _ _ _ rfl (show ((-1), M) = shiftZ M n a y up_ m b from (by have hz : shR M n a y up_ m b = -1 := (by unfold shR; rw [if_neg (fun q => by simp only [Bool.and_eq_true] at q; first | exact absurd (h5.symm.trans q.1) (by decide) | exact absurd (h15.symm.trans q.2) (by decide))]); rw [shiftZ, hz]; exact (arZ_no (by decide)).symm)) dD_shift_19
  ·
    refine xg_iload hX 5 dD_shift_8 rfl ?_
    refine xg_iload hX 6 dD_shift_10 rfl ?_
    refine xg_cS hX [.int m, .int b] (hM := xc_dfits l D cI m b) (wr := [(dq, .inr (2, [.ref dm, .ref d1, .ref d2, .ref d3, .ref d4, .ref dw, .int (bI den)])), (dm, .inl (cI, 256, .inl (nf M))), (d1, .inr (0, [.ref p1, .int (bI s1)])), (p1, .inl (cI, 130, .inl (nf e1))), (d4, .inr (0, [.ref p4, .int (bI s4)])), (p4, .inl (cI, 130, .inl (nf e4)))]) (ws' := fun _ => [(dq, .inr (2, [.ref dm, .ref d1, .ref d2, .ref d3, .ref d4, .ref dw, .int (bI den)])), (dm, .inl (cI, 256, .inl (nf M))), (d1, .inr (0, [.ref p1, .int (bI s1)])), (p1, .inl (cI, 130, .inl (nf e1))), (d4, .inr (0, [.ref p4, .int (bI s4)])), (p4, .inl (cI, 130, .inl (nf e4)))]) (st' := fun _ => [.int (bI (dfits m b))]) [] [0, 1, 2, 3, 4, 5] [0, 1, 2, 3, 4, 5] [] rfl mt_108 mt_106 mt_1 mt_107 hdD_decimalFits (by decide) ⟨rfl, rfl⟩ (by decide) rfl rfl (by decide) rfl (by decide) (by decide) (by decide) (fun u => rfl) (fun u => rfl) (fun u => rfl) rfl rfl (by simp [Value.category]) dD_shift_12 (fun _ _ => ?_)
    refine xg_if_neB hX 20 dD_shift_15 (by decide) (fun h15 => ?_) (fun h15 => ?_)
    ·
      refine xg_iload_n hX 3 dD_shift_20 rfl rfl ?_
      refine xg_bipush hX ((-99)) dD_shift_21 (by decide) ?_
      refine xg_icmp_ltZ hX y.toInt (-99) rfl rfl 44 dD_shift_23 (by decide) (fun h23 => ?_) (fun h23 => ?_)
      ·
        refine xg_iconst hX ((-1)) dD_shift_44 (by decide) ?_
        exact hret ((-1), M, e1, s1, e4, s4) _ _ _ rfl (show ((-1), M) = shiftZ M n a y up_ m b from (by have hz : shR M n a y up_ m b = -1 := (by unfold shR; rw [if_pos (by rw [h5, h15]; rfl), if_neg (by omega)]); rw [shiftZ, hz]; exact (arZ_no (by decide)).symm)) dD_shift_45
      ·
        refine xg_iload_n hX 3 dD_shift_26 rfl rfl ?_
        refine xg_bipush hX (nI 99) dD_shift_27 (by decide) ?_
        refine xg_icmp_gtZ hX y.toInt (99 : Nat) rfl (xn_ti (by omega)) 44 dD_shift_29 (by decide) (fun h29 => ?_) (fun h29 => ?_)
        ·
          refine xg_iconst hX ((-1)) dD_shift_44 (by decide) ?_
          exact hret ((-1), M, e1, s1, e4, s4) _ _ _ rfl (show ((-1), M) = shiftZ M n a y up_ m b from (by have hz : shR M n a y up_ m b = -1 := (by unfold shR; rw [if_pos (by rw [h5, h15]; rfl), if_neg (by omega)]); rw [shiftZ, hz]; exact (arZ_no (by decide)).symm)) dD_shift_45
        ·
          refine xg_iload hX 4 dD_shift_32 rfl ?_
          refine xg_if_ltZ hX up_.toInt rfl 44 dD_shift_34 (by decide) (fun h34 => ?_) (fun h34 => ?_)
          ·
            refine xg_iconst hX ((-1)) dD_shift_44 (by decide) ?_
            exact hret ((-1), M, e1, s1, e4, s4) _ _ _ rfl (show ((-1), M) = shiftZ M n a y up_ m b from (by have hz : shR M n a y up_ m b = -1 := (by unfold shR; rw [if_pos (by rw [h5, h15]; rfl), if_neg (by omega)]); rw [shiftZ, hz]; exact (arZ_no (by decide)).symm)) dD_shift_45
          ·
            refine xg_iload hX 4 dD_shift_37 rfl ?_
            refine xg_bipush hX (nI 9) dD_shift_39 (by decide) ?_
            refine xg_icmp_leZ hX up_.toInt (9 : Nat) rfl (xn_ti (by omega)) 46 dD_shift_41 (by decide) (fun h41 => ?_) (fun h41 => ?_)
            ·
              refine xg_aload_n hX 0 dD_shift_46 rfl rfl ?_
              refine xg_aload_n hX 0 dD_shift_47 rfl rfl ?_
              refine xg_get hX (ci := 2) rfl hinD 0 rfl 1 (by decide) mt_69 rfl dD_shift_48 ?_
              refine xg_iload_n hX 1 dD_shift_51 rfl rfl ?_
              refine xg_top (nI (tn n)) (df3 h5) ?_
              refine xg_iload_n hX 2 dD_shift_52 rfl rfl ?_
              refine xg_top (nI (tn a)) (df4 h5) ?_
              refine xg_cV hX dq [.ref d1, .int (nI (tn n)), .int (nI (tn a))] (hM := xc_readDecimal l D cI dq dm d1 d2 d3 d4 dw den M d1 p1 e1 s1 (tn n) (tn a) (df1 h5) (df2 h5) hM) (wr := [(d4, .inr (0, [.ref p4, .int (bI s4)])), (p4, .inl (cI, 130, .inl (nf e4)))]) (ws' := fun u => match u with | (okA, tA, sA) => [(dq, .inr (2, [.ref dm, .ref d1, .ref d2, .ref d3, .ref d4, .ref dw, .int (bI den)])), (dm, .inl (cI, 256, .inl (nf M))), (d1, .inr (0, [.ref p1, .int (bI sA)])), (p1, .inl (cI, 130, .inl (nf tA))), (d4, .inr (0, [.ref p4, .int (bI s4)])), (p4, .inl (cI, 130, .inl (nf e4)))]) (st' := fun u => match u with | (okA, tA, sA) => [.int (bI okA)]) [0, 1, 2, 3] [4, 5] [2, 3, 4, 5, 0, 1] [] rfl mt_112 mt_109 mt_1 mt_111 mp_1 0 rfl rfl hdD_readDecimal (by decide) ⟨rfl, rfl⟩ (by decide) rfl rfl (by decide) rfl (by decide) (by decide) (by decide) (fun u => rfl) (fun u => rfl) (fun u => rfl) rfl rfl (by simp [Value.category]) dD_shift_53 (fun u hu => ?_)
              obtain ⟨okA, tA, sA⟩ := u
              have huA : okA = rdb M (tn n) (tn a) ∧ (okA = true → tA = rdD M (tn n) (tn a) ∧ sA = rdS M (tn n) (tn a)) := hu
              show GG D X 0 0 56 [(dq, .inr (2, [.ref dm, .ref d1, .ref d2, .ref d3, .ref d4, .ref dw, .int (bI den)])), (dm, .inl (cI, 256, .inl (nf M))), (d1, .inr (0, [.ref p1, .int (bI sA)])), (p1, .inl (cI, 130, .inl (nf tA))), (d4, .inr (0, [.ref p4, .int (bI s4)])), (p4, .inl (cI, 130, .inl (nf e4)))] [(0, .ref dq), (1, .int n), (2, .int a), (3, .int y), (4, .int up_), (5, .int m), (6, .int b)] [.int (bI okA)]
              refine xg_if_neB hX 62 dD_shift_56 (by decide) (fun h56 => ?_) (fun h56 => ?_)
              ·
                have hs0 : shR M n a y up_ m b = 0 := by unfold shR; rw [if_pos (by rw [h5, h15]; rfl), if_pos ⟨h23, h29, h34, h41⟩, if_pos (huA.1.symm.trans h56)]
                have hx := rd_lt (huA.1.symm.trans h56)
                obtain ⟨rfl, rfl⟩ := huA.2 h56
                refine xg_aload_n hX 0 dD_shift_62 rfl rfl ?_
                refine xg_get hX (ci := 2) rfl hinD 0 rfl 4 (by decide) mt_72 rfl dD_shift_63 ?_
                refine xg_aload_n hX 0 dD_shift_66 rfl rfl ?_
                refine xg_get hX (ci := 2) rfl hinD 0 rfl 1 (by decide) mt_69 rfl dD_shift_67 ?_
                refine xg_iload_n hX 3 dD_shift_70 rfl rfl ?_
                refine xg_cV hX d4 [.ref d1, .int y] (hM := xc_moveLeft l D cI d4 p4 e4 s4 d1 p1 (rdD M (tn n) (tn a)) (rdS M (tn n) (tn a)) y h23 h29 hx) (wr := [(dq, .inr (2, [.ref dm, .ref d1, .ref d2, .ref d3, .ref d4, .ref dw, .int (bI den)])), (dm, .inl (cI, 256, .inl (nf M)))]) (ws' := fun _ => [(dq, .inr (2, [.ref dm, .ref d1, .ref d2, .ref d3, .ref d4, .ref dw, .int (bI den)])), (dm, .inl (cI, 256, .inl (nf M))), (d1, .inr (0, [.ref p1, .int (bI (rdS M (tn n) (tn a)))])), (p1, .inl (cI, 130, .inl (nf (rdD M (tn n) (tn a))))), (d4, .inr (0, [.ref p4, .int (bI (rdS M (tn n) (tn a)))])), (p4, .inl (cI, 130, .inl (nf (mvI (rdD M (tn n) (tn a)) y.toInt 31))))]) (st' := fun _ => []) [4, 5, 2, 3] [0, 1] [0, 1, 4, 5, 2, 3] [] rfl mt_213 mt_210 mt_2 mt_211 mt_212 0 rfl rfl hdR_moveLeft (by decide) ⟨rfl, rfl⟩ (by decide) rfl rfl (by decide) rfl (by decide) (by decide) (by decide) (fun u => rfl) (fun u => rfl) (fun u => rfl) rfl rfl (by simp [Value.category]) dD_shift_71 (fun _ _ => ?_)
                refine xg_iload_n hX 3 dD_shift_74 rfl rfl ?_
                refine xg_if_geZ hX y.toInt rfl 104 dD_shift_75 (by decide) (fun h75 => ?_) (fun h75 => ?_)
                ·
                  have hD : mvI (rdD M (tn n) (tn a)) y.toInt 31 = shD (rdD M (tn n) (tn a)) y up_ := by unfold shD; first | (rw [if_neg (by omega)]; done) | (rw [if_pos ⟨h75, h94⟩]; done)
                  refine xg_ext hX (g := shD (rdD M (tn n) (tn a)) y up_) (ws' := [(dq, .inr (2, [.ref dm, .ref d1, .ref d2, .ref d3, .ref d4, .ref dw, .int (bI den)])), (dm, .inl (cI, 256, .inl (nf M))), (d1, .inr (0, [.ref p1, .int (bI (rdS M (tn n) (tn a)))])), (p1, .inl (cI, 130, .inl (nf (rdD M (tn n) (tn a))))), (d4, .inr (0, [.ref p4, .int (bI (rdS M (tn n) (tn a)))])), (p4, .inl (cI, 130, .inl (nf (shD (rdD M (tn n) (tn a)) y up_))))]) 5 rfl (fun j hj => by rw [hD]) rfl ?_
                  refine xg_aload_n hX 0 dD_shift_104 rfl rfl ?_
                  refine xg_aload_n hX 0 dD_shift_105 rfl rfl ?_
                  refine xg_get hX (ci := 2) rfl hinD 0 rfl 4 (by decide) mt_72 rfl dD_shift_106 ?_
                  refine xg_iload hX 5 dD_shift_109 rfl ?_
                  refine xg_top (nI (tn m)) (df3 h15) ?_
                  refine xg_iload hX 6 dD_shift_111 rfl ?_
                  refine xg_top (nI (tn b)) (df4 h15) ?_
                  refine xg_cV hX dq [.ref d4, .int (nI (tn m)), .int (nI (tn b))] (hM := xc_writeDecimal l D cI dq dm d1 d2 d3 d4 dw den M d4 p4 (shD (rdD M (tn n) (tn a)) y up_) (rdS M (tn n) (tn a)) (tn m) (tn b) (df1 h15) (df2 h15) (shD_lt hx)) (wr := [(d1, .inr (0, [.ref p1, .int (bI (rdS M (tn n) (tn a)))])), (p1, .inl (cI, 130, .inl (nf (rdD M (tn n) (tn a)))))]) (ws' := fun _ => [(dq, .inr (2, [.ref dm, .ref d1, .ref d2, .ref d3, .ref d4, .ref dw, .int (bI den)])), (dm, .inl (cI, 256, .inl (nf (wrM M (shD (rdD M (tn n) (tn a)) y up_) (rdS M (tn n) (tn a)) (tn m) (tn b))))), (d1, .inr (0, [.ref p1, .int (bI (rdS M (tn n) (tn a)))])), (p1, .inl (cI, 130, .inl (nf (rdD M (tn n) (tn a))))), (d4, .inr (0, [.ref p4, .int (bI (rdS M (tn n) (tn a)))])), (p4, .inl (cI, 130, .inl (nf (shD (rdD M (tn n) (tn a)) y up_))))]) (st' := fun _ => [.int (nI (flg (shD (rdD M (tn n) (tn a)) y up_) (rdS M (tn n) (tn a)) (tn m)))]) [0, 1, 4, 5] [2, 3] [2, 3, 0, 1, 4, 5] [] rfl mt_166 mt_163 mt_1 mt_165 mp_5 0 rfl rfl hdD_writeDecimal (by decide) ⟨rfl, rfl⟩ (by decide) rfl rfl (by decide) rfl (by decide) (by decide) (by decide) (fun u => rfl) (fun u => rfl) (fun u => rfl) rfl rfl (by simp [Value.category]) dD_shift_113 (fun _ _ => ?_)
                  exact hret (nI (flg (shD (rdD M (tn n) (tn a)) y up_) (rdS M (tn n) (tn a)) (tn m)), wrM M (shD (rdD M (tn n) (tn a)) y up_) (rdS M (tn n) (tn a)) (tn m) (tn b), rdD M (tn n) (tn a), rdS M (tn n) (tn a), shD (rdD M (tn n) (tn a)) y up_, rdS M (tn n) (tn a)) _ _ _ rfl (show ((nI (flg (shD (rdD M (tn n) (tn a)) y up_) (rdS M (tn n) (tn a)) (tn m))), (wrM M (shD (rdD M (tn n) (tn a)) y up_) (rdS M (tn n) (tn a)) (tn m) (tn b))) = shiftZ M n a y up_ m b from (by unfold shiftZ arZ; rw [if_pos hs0])) dD_shift_116
                ·
                  refine xg_aload_n hX 0 dD_shift_78 rfl rfl ?_
                  refine xg_get hX (ci := 2) rfl hinD 0 rfl 1 (by decide) mt_69 rfl dD_shift_79 ?_
                  refine xg_iload_n hX 3 dD_shift_82 rfl rfl ?_
                  refine xg_ineg hX dD_shift_83 ?_
                  refine xg_iconst hX (nI 1) dD_shift_84 (by decide) ?_
                  refine xg_isub hX dD_shift_85 ?_
                  refine xg_top (nI ((-y.toInt - 1).toNat)) (xn_negm1 h23 h75) ?_
                  refine xg_cV hX d1 [.int (nI ((-y.toInt - 1).toNat))] (hM := xc_digitAt l D cI d1 p1 (rdD M (tn n) (tn a)) (rdS M (tn n) (tn a)) ((-y.toInt - 1).toNat) (by omega)) (wr := [(dq, .inr (2, [.ref dm, .ref d1, .ref d2, .ref d3, .ref d4, .ref dw, .int (bI den)])), (dm, .inl (cI, 256, .inl (nf M))), (d4, .inr (0, [.ref p4, .int (bI (rdS M (tn n) (tn a)))])), (p4, .inl (cI, 130, .inl (nf (mvI (rdD M (tn n) (tn a)) y.toInt 31))))]) (ws' := fun _ => [(dq, .inr (2, [.ref dm, .ref d1, .ref d2, .ref d3, .ref d4, .ref dw, .int (bI den)])), (dm, .inl (cI, 256, .inl (nf M))), (d1, .inr (0, [.ref p1, .int (bI (rdS M (tn n) (tn a)))])), (p1, .inl (cI, 130, .inl (nf (rdD M (tn n) (tn a))))), (d4, .inr (0, [.ref p4, .int (bI (rdS M (tn n) (tn a)))])), (p4, .inl (cI, 130, .inl (nf (mvI (rdD M (tn n) (tn a)) y.toInt 31))))]) (st' := fun _ => [.int (nI ((rdD M (tn n) (tn a)) ((-y.toInt - 1).toNat)))]) [2, 3] [0, 1, 4, 5] [0, 1, 4, 5, 2, 3] [] rfl mt_144 mt_171 mt_2 mt_142 mt_143 0 rfl rfl hdR_digitAt (by decide) ⟨rfl, rfl⟩ (by decide) rfl rfl (by decide) rfl (by decide) (by decide) (by decide) (fun u => rfl) (fun u => rfl) (fun u => rfl) rfl rfl (by simp [Value.category]) dD_shift_86 (fun _ _ => ?_)
                  have e9 := hx ((-y.toInt - 1).toNat)
                  have e8 : tn up_ ≤ 9 := tn_le h41
                  refine xg_iload hX 4 dD_shift_89 rfl ?_
                  refine xg_top (nI (tn up_)) (xn_tn h34) ?_
                  refine xg_iaddN hX dD_shift_91 ?_
                  refine xg_bipush hX (nI 9) dD_shift_92 (by decide) ?_
                  refine xg_icmp_leN hX 104 (by omega) (by omega) dD_shift_94 (by decide) (fun h94 => ?_) (fun h94 => ?_)
                  ·
                    have hD : mvI (rdD M (tn n) (tn a)) y.toInt 31 = shD (rdD M (tn n) (tn a)) y up_ := by unfold shD; first | (rw [if_neg (by omega)]; done) | (rw [if_pos ⟨h75, h94⟩]; done)
                    refine xg_ext hX (g := shD (rdD M (tn n) (tn a)) y up_) (ws' := [(dq, .inr (2, [.ref dm, .ref d1, .ref d2, .ref d3, .ref d4, .ref dw, .int (bI den)])), (dm, .inl (cI, 256, .inl (nf M))), (d1, .inr (0, [.ref p1, .int (bI (rdS M (tn n) (tn a)))])), (p1, .inl (cI, 130, .inl (nf (rdD M (tn n) (tn a))))), (d4, .inr (0, [.ref p4, .int (bI (rdS M (tn n) (tn a)))])), (p4, .inl (cI, 130, .inl (nf (shD (rdD M (tn n) (tn a)) y up_))))]) 5 rfl (fun j hj => by rw [hD]) rfl ?_
                    refine xg_aload_n hX 0 dD_shift_104 rfl rfl ?_
                    refine xg_aload_n hX 0 dD_shift_105 rfl rfl ?_
                    refine xg_get hX (ci := 2) rfl hinD 0 rfl 4 (by decide) mt_72 rfl dD_shift_106 ?_
                    refine xg_iload hX 5 dD_shift_109 rfl ?_
                    refine xg_top (nI (tn m)) (df3 h15) ?_
                    refine xg_iload hX 6 dD_shift_111 rfl ?_
                    refine xg_top (nI (tn b)) (df4 h15) ?_
                    refine xg_cV hX dq [.ref d4, .int (nI (tn m)), .int (nI (tn b))] (hM := xc_writeDecimal l D cI dq dm d1 d2 d3 d4 dw den M d4 p4 (shD (rdD M (tn n) (tn a)) y up_) (rdS M (tn n) (tn a)) (tn m) (tn b) (df1 h15) (df2 h15) (shD_lt hx)) (wr := [(d1, .inr (0, [.ref p1, .int (bI (rdS M (tn n) (tn a)))])), (p1, .inl (cI, 130, .inl (nf (rdD M (tn n) (tn a)))))]) (ws' := fun _ => [(dq, .inr (2, [.ref dm, .ref d1, .ref d2, .ref d3, .ref d4, .ref dw, .int (bI den)])), (dm, .inl (cI, 256, .inl (nf (wrM M (shD (rdD M (tn n) (tn a)) y up_) (rdS M (tn n) (tn a)) (tn m) (tn b))))), (d1, .inr (0, [.ref p1, .int (bI (rdS M (tn n) (tn a)))])), (p1, .inl (cI, 130, .inl (nf (rdD M (tn n) (tn a))))), (d4, .inr (0, [.ref p4, .int (bI (rdS M (tn n) (tn a)))])), (p4, .inl (cI, 130, .inl (nf (shD (rdD M (tn n) (tn a)) y up_))))]) (st' := fun _ => [.int (nI (flg (shD (rdD M (tn n) (tn a)) y up_) (rdS M (tn n) (tn a)) (tn m)))]) [0, 1, 4, 5] [2, 3] [2, 3, 0, 1, 4, 5] [] rfl mt_166 mt_163 mt_1 mt_165 mp_5 0 rfl rfl hdD_writeDecimal (by decide) ⟨rfl, rfl⟩ (by decide) rfl rfl (by decide) rfl (by decide) (by decide) (by decide) (fun u => rfl) (fun u => rfl) (fun u => rfl) rfl rfl (by simp [Value.category]) dD_shift_113 (fun _ _ => ?_)
                    exact hret (nI (flg (shD (rdD M (tn n) (tn a)) y up_) (rdS M (tn n) (tn a)) (tn m)), wrM M (shD (rdD M (tn n) (tn a)) y up_) (rdS M (tn n) (tn a)) (tn m) (tn b), rdD M (tn n) (tn a), rdS M (tn n) (tn a), shD (rdD M (tn n) (tn a)) y up_, rdS M (tn n) (tn a)) _ _ _ rfl (show ((nI (flg (shD (rdD M (tn n) (tn a)) y up_) (rdS M (tn n) (tn a)) (tn m))), (wrM M (shD (rdD M (tn n) (tn a)) y up_) (rdS M (tn n) (tn a)) (tn m) (tn b))) = shiftZ M n a y up_ m b from (by unfold shiftZ arZ; rw [if_pos hs0])) dD_shift_116
                  ·
                    refine xg_aload_n hX 0 dD_shift_97 rfl rfl ?_
                    refine xg_get hX (ci := 2) rfl hinD 0 rfl 4 (by decide) mt_72 rfl dD_shift_98 ?_
                    refine xg_cV hX d4 [] (hM := xc_addOne l D cI d4 p4 (mvI (rdD M (tn n) (tn a)) y.toInt 31) (rdS M (tn n) (tn a)) (mvI_lt hx)) (wr := [(dq, .inr (2, [.ref dm, .ref d1, .ref d2, .ref d3, .ref d4, .ref dw, .int (bI den)])), (dm, .inl (cI, 256, .inl (nf M))), (d1, .inr (0, [.ref p1, .int (bI (rdS M (tn n) (tn a)))])), (p1, .inl (cI, 130, .inl (nf (rdD M (tn n) (tn a)))))]) (ws' := fun _ => [(dq, .inr (2, [.ref dm, .ref d1, .ref d2, .ref d3, .ref d4, .ref dw, .int (bI den)])), (dm, .inl (cI, 256, .inl (nf M))), (d1, .inr (0, [.ref p1, .int (bI (rdS M (tn n) (tn a)))])), (p1, .inl (cI, 130, .inl (nf (rdD M (tn n) (tn a))))), (d4, .inr (0, [.ref p4, .int (bI (rdS M (tn n) (tn a)))])), (p4, .inl (cI, 130, .inl (nf (mix 32 (inD (mvI (rdD M (tn n) (tn a)) y.toInt 31)) (mvI (rdD M (tn n) (tn a)) y.toInt 31)))))]) (st' := fun _ => []) [4, 5] [0, 1, 2, 3] [0, 1, 2, 3, 4, 5] [] rfl mt_217 mt_214 mt_2 mt_215 mt_216 0 rfl rfl hdR_addOne (by decide) ⟨rfl, rfl⟩ (by decide) rfl rfl (by decide) rfl (by decide) (by decide) (by decide) (fun u => rfl) (fun u => rfl) (fun u => rfl) rfl rfl (by simp [Value.category]) dD_shift_101 (fun _ _ => ?_)
                    have hD : mix 32 (inD (mvI (rdD M (tn n) (tn a)) y.toInt 31)) (mvI (rdD M (tn n) (tn a)) y.toInt 31) = shD (rdD M (tn n) (tn a)) y up_ := by unfold shD; first | (rw [if_neg (by omega)]; done) | (rw [if_pos ⟨h75, h94⟩]; done)
                    refine xg_ext hX (g := shD (rdD M (tn n) (tn a)) y up_) (ws' := [(dq, .inr (2, [.ref dm, .ref d1, .ref d2, .ref d3, .ref d4, .ref dw, .int (bI den)])), (dm, .inl (cI, 256, .inl (nf M))), (d1, .inr (0, [.ref p1, .int (bI (rdS M (tn n) (tn a)))])), (p1, .inl (cI, 130, .inl (nf (rdD M (tn n) (tn a))))), (d4, .inr (0, [.ref p4, .int (bI (rdS M (tn n) (tn a)))])), (p4, .inl (cI, 130, .inl (nf (shD (rdD M (tn n) (tn a)) y up_))))]) 5 rfl (fun j hj => by rw [hD]) rfl ?_
                    refine xg_aload_n hX 0 dD_shift_104 rfl rfl ?_
                    refine xg_aload_n hX 0 dD_shift_105 rfl rfl ?_
                    refine xg_get hX (ci := 2) rfl hinD 0 rfl 4 (by decide) mt_72 rfl dD_shift_106 ?_
                    refine xg_iload hX 5 dD_shift_109 rfl ?_
                    refine xg_top (nI (tn m)) (df3 h15) ?_
                    refine xg_iload hX 6 dD_shift_111 rfl ?_
                    refine xg_top (nI (tn b)) (df4 h15) ?_
                    refine xg_cV hX dq [.ref d4, .int (nI (tn m)), .int (nI (tn b))] (hM := xc_writeDecimal l D cI dq dm d1 d2 d3 d4 dw den M d4 p4 (shD (rdD M (tn n) (tn a)) y up_) (rdS M (tn n) (tn a)) (tn m) (tn b) (df1 h15) (df2 h15) (shD_lt hx)) (wr := [(d1, .inr (0, [.ref p1, .int (bI (rdS M (tn n) (tn a)))])), (p1, .inl (cI, 130, .inl (nf (rdD M (tn n) (tn a)))))]) (ws' := fun _ => [(dq, .inr (2, [.ref dm, .ref d1, .ref d2, .ref d3, .ref d4, .ref dw, .int (bI den)])), (dm, .inl (cI, 256, .inl (nf (wrM M (shD (rdD M (tn n) (tn a)) y up_) (rdS M (tn n) (tn a)) (tn m) (tn b))))), (d1, .inr (0, [.ref p1, .int (bI (rdS M (tn n) (tn a)))])), (p1, .inl (cI, 130, .inl (nf (rdD M (tn n) (tn a))))), (d4, .inr (0, [.ref p4, .int (bI (rdS M (tn n) (tn a)))])), (p4, .inl (cI, 130, .inl (nf (shD (rdD M (tn n) (tn a)) y up_))))]) (st' := fun _ => [.int (nI (flg (shD (rdD M (tn n) (tn a)) y up_) (rdS M (tn n) (tn a)) (tn m)))]) [0, 1, 4, 5] [2, 3] [2, 3, 0, 1, 4, 5] [] rfl mt_166 mt_163 mt_1 mt_165 mp_5 0 rfl rfl hdD_writeDecimal (by decide) ⟨rfl, rfl⟩ (by decide) rfl rfl (by decide) rfl (by decide) (by decide) (by decide) (fun u => rfl) (fun u => rfl) (fun u => rfl) rfl rfl (by simp [Value.category]) dD_shift_113 (fun _ _ => ?_)
                    exact hret (nI (flg (shD (rdD M (tn n) (tn a)) y up_) (rdS M (tn n) (tn a)) (tn m)), wrM M (shD (rdD M (tn n) (tn a)) y up_) (rdS M (tn n) (tn a)) (tn m) (tn b), rdD M (tn n) (tn a), rdS M (tn n) (tn a), shD (rdD M (tn n) (tn a)) y up_, rdS M (tn n) (tn a)) _ _ _ rfl (show ((nI (flg (shD (rdD M (tn n) (tn a)) y up_) (rdS M (tn n) (tn a)) (tn m))), (wrM M (shD (rdD M (tn n) (tn a)) y up_) (rdS M (tn n) (tn a)) (tn m) (tn b))) = shiftZ M n a y up_ m b from (by unfold shiftZ arZ; rw [if_pos hs0])) dD_shift_116
              ·
                refine xg_bipush hX ((-2)) dD_shift_59 (by decide) ?_
                exact hret ((-2), M, tA, sA, e4, s4) _ _ _ rfl (show ((-2), M) = shiftZ M n a y up_ m b from (by have hz : shR M n a y up_ m b = -2 := (by unfold shR; rw [if_pos (by rw [h5, h15]; rfl), if_pos ⟨h23, h29, h34, h41⟩, if_neg (fun q => absurd (h56.symm.trans (huA.1.trans q)) (by decide))]); rw [shiftZ, hz]; exact (arZ_no (by decide)).symm)) dD_shift_61
            ·
              refine xg_iconst hX ((-1)) dD_shift_44 (by decide) ?_
              exact hret ((-1), M, e1, s1, e4, s4) _ _ _ rfl (show ((-1), M) = shiftZ M n a y up_ m b from (by have hz : shR M n a y up_ m b = -1 := (by unfold shR; rw [if_pos (by rw [h5, h15]; rfl), if_neg (by omega)]); rw [shiftZ, hz]; exact (arZ_no (by decide)).symm)) dD_shift_45
    ·
      refine xg_iconst hX ((-1)) dD_shift_18 (by decide) ?_
      exact hret ((-1), M, e1, s1, e4, s4) _ _ _ rfl (show ((-1), M) = shiftZ M n a y up_ m b from (by have hz : shR M n a y up_ m b = -1 := (by unfold shR; rw [if_neg (fun q => by simp only [Bool.and_eq_true] at q; first | exact absurd (h5.symm.trans q.1) (by decide) | exact absurd (h15.symm.trans q.2) (by decide))]); rw [shiftZ, hz]; exact (arZ_no (by decide)).symm)) dD_shift_19
set_option maxHeartbeats 4000000 in
set_option maxRecDepth 100000 in
theorem xc_compare (l : Launch) (D : va_G) (cI : ClassId) (dq : Nat) (dm : Nat) (d1 : Nat) (d2 : Nat) (d3 : Nat) (d4 : Nat) (dw : Nat) (den : Bool) (M : Nat → Nat) (p1 : Nat) (e1 : Nat → Nat) (s1 : Bool) (p2 : Nat) (e2 : Nat → Nat) (s2 : Bool) (n : Int32) (a : Int32) (m : Int32) (b : Int32) (hM : ∀ j, M j < 256) : Ctr l D cI yD_compare cD_compare 6 (some .int) { frames := 5, cells := 0, slots := 0, locals := 111 } [.ref dq, .int n, .int a, .int m, .int b] [(dq, .inr (2, [.ref dm, .ref d1, .ref d2, .ref d3, .ref d4, .ref dw, .int (bI den)])), (dm, .inl (cI, 256, .inl (nf M))), (d1, .inr (0, [.ref p1, .int (bI s1)])), (p1, .inl (cI, 130, .inl (nf e1))), (d2, .inr (0, [.ref p2, .int (bI s2)])), (p2, .inl (cI, 130, .inl (nf e2)))] (fun u : Int32 × (Nat → Nat) × Bool × (Nat → Nat) × Bool => match u with | (r, e1_, s1_, e2_, s2_) => some (.int r)) (fun u : Int32 × (Nat → Nat) × Bool × (Nat → Nat) × Bool => match u with | (r, e1_, s1_, e2_, s2_) => r = cmpR M n a m b) (fun u : Int32 × (Nat → Nat) × Bool × (Nat → Nat) × Bool => match u with | (r, e1_, s1_, e2_, s2_) => [(dq, .inr (2, [.ref dm, .ref d1, .ref d2, .ref d3, .ref d4, .ref dw, .int (bI den)])), (dm, .inl (cI, 256, .inl (nf M))), (d1, .inr (0, [.ref p1, .int (bI s1_)])), (p1, .inl (cI, 130, .inl (nf e1_))), (d2, .inr (0, [.ref p2, .int (bI s2_)])), (p2, .inl (cI, 130, .inl (nf e2_)))]) 0 0 := by
  refine xc_mkI (by decide +kernel) (Nat.le_of_ble_eq_true rfl) (fun X hX hret => ?_)
  show GG D X 0 0 0 [(dq, .inr (2, [.ref dm, .ref d1, .ref d2, .ref d3, .ref d4, .ref dw, .int (bI den)])), (dm, .inl (cI, 256, .inl (nf M))), (d1, .inr (0, [.ref p1, .int (bI s1)])), (p1, .inl (cI, 130, .inl (nf e1))), (d2, .inr (0, [.ref p2, .int (bI s2)])), (p2, .inl (cI, 130, .inl (nf e2)))] [(0, .ref dq), (1, .int n), (2, .int a), (3, .int m), (4, .int b)] []
  refine xg_iload_n hX 1 dD_compare_0 rfl rfl ?_
  refine xg_iload_n hX 2 dD_compare_1 rfl rfl ?_
  refine xg_cS hX [.int n, .int a] (hM := xc_dfits l D cI n a) (wr := [(dq, .inr (2, [.ref dm, .ref d1, .ref d2, .ref d3, .ref d4, .ref dw, .int (bI den)])), (dm, .inl (cI, 256, .inl (nf M))), (d1, .inr (0, [.ref p1, .int (bI s1)])), (p1, .inl (cI, 130, .inl (nf e1))), (d2, .inr (0, [.ref p2, .int (bI s2)])), (p2, .inl (cI, 130, .inl (nf e2)))]) (ws' := fun _ => [(dq, .inr (2, [.ref dm, .ref d1, .ref d2, .ref d3, .ref d4, .ref dw, .int (bI den)])), (dm, .inl (cI, 256, .inl (nf M))), (d1, .inr (0, [.ref p1, .int (bI s1)])), (p1, .inl (cI, 130, .inl (nf e1))), (d2, .inr (0, [.ref p2, .int (bI s2)])), (p2, .inl (cI, 130, .inl (nf e2)))]) (st' := fun _ => [.int (bI (dfits n a))]) [] [0, 1, 2, 3, 4, 5] [0, 1, 2, 3, 4, 5] [] rfl mt_108 mt_106 mt_1 mt_107 hdD_decimalFits (by decide) ⟨rfl, rfl⟩ (by decide) rfl rfl (by decide) rfl (by decide) (by decide) (by decide) (fun u => rfl) (fun u => rfl) (fun u => rfl) rfl rfl (by simp [Value.category]) dD_compare_2 (fun _ _ => ?_)
  refine xg_if_eqB hX 17 dD_compare_5 (by decide) (fun h5 => ?_) (fun h5 => ?_)
  ·
    refine xg_iconst hX ((-1)) dD_compare_17 (by decide) ?_
    exact hret ((-1), e1, s1, e2, s2) _ _ _ rfl (show (-1) = cmpR M n a m b from (by unfold cmpR; rw [if_neg (fun q => by simp only [Bool.and_eq_true] at q; first | exact absurd (h5.symm.trans q.1) (by decide) | exact absurd (h14.symm.trans q.2) (by decide))])) dD_compare_18
  ·
    refine xg_iload_n hX 3 dD_compare_8 rfl rfl ?_
    refine xg_iload hX 4 dD_compare_9 rfl ?_
    refine xg_cS hX [.int m, .int b] (hM := xc_dfits l D cI m b) (wr := [(dq, .inr (2, [.ref dm, .ref d1, .ref d2, .ref d3, .ref d4, .ref dw, .int (bI den)])), (dm, .inl (cI, 256, .inl (nf M))), (d1, .inr (0, [.ref p1, .int (bI s1)])), (p1, .inl (cI, 130, .inl (nf e1))), (d2, .inr (0, [.ref p2, .int (bI s2)])), (p2, .inl (cI, 130, .inl (nf e2)))]) (ws' := fun _ => [(dq, .inr (2, [.ref dm, .ref d1, .ref d2, .ref d3, .ref d4, .ref dw, .int (bI den)])), (dm, .inl (cI, 256, .inl (nf M))), (d1, .inr (0, [.ref p1, .int (bI s1)])), (p1, .inl (cI, 130, .inl (nf e1))), (d2, .inr (0, [.ref p2, .int (bI s2)])), (p2, .inl (cI, 130, .inl (nf e2)))]) (st' := fun _ => [.int (bI (dfits m b))]) [] [0, 1, 2, 3, 4, 5] [0, 1, 2, 3, 4, 5] [] rfl mt_108 mt_106 mt_1 mt_107 hdD_decimalFits (by decide) ⟨rfl, rfl⟩ (by decide) rfl rfl (by decide) rfl (by decide) (by decide) (by decide) (fun u => rfl) (fun u => rfl) (fun u => rfl) rfl rfl (by simp [Value.category]) dD_compare_11 (fun _ _ => ?_)
    refine xg_if_neB hX 19 dD_compare_14 (by decide) (fun h14 => ?_) (fun h14 => ?_)
    ·
      refine xg_aload_n hX 0 dD_compare_19 rfl rfl ?_
      refine xg_aload_n hX 0 dD_compare_20 rfl rfl ?_
      refine xg_get hX (ci := 2) rfl hinD 0 rfl 1 (by decide) mt_69 rfl dD_compare_21 ?_
      refine xg_iload_n hX 1 dD_compare_24 rfl rfl ?_
      refine xg_top (nI (tn n)) (df3 h5) ?_
      refine xg_iload_n hX 2 dD_compare_25 rfl rfl ?_
      refine xg_top (nI (tn a)) (df4 h5) ?_
      refine xg_cV hX dq [.ref d1, .int (nI (tn n)), .int (nI (tn a))] (hM := xc_readDecimal l D cI dq dm d1 d2 d3 d4 dw den M d1 p1 e1 s1 (tn n) (tn a) (df1 h5) (df2 h5) hM) (wr := [(d2, .inr (0, [.ref p2, .int (bI s2)])), (p2, .inl (cI, 130, .inl (nf e2)))]) (ws' := fun u => match u with | (okA, tA, sA) => [(dq, .inr (2, [.ref dm, .ref d1, .ref d2, .ref d3, .ref d4, .ref dw, .int (bI den)])), (dm, .inl (cI, 256, .inl (nf M))), (d1, .inr (0, [.ref p1, .int (bI sA)])), (p1, .inl (cI, 130, .inl (nf tA))), (d2, .inr (0, [.ref p2, .int (bI s2)])), (p2, .inl (cI, 130, .inl (nf e2)))]) (st' := fun u => match u with | (okA, tA, sA) => [.int (bI okA)]) [0, 1, 2, 3] [4, 5] [2, 3, 4, 5, 0, 1] [] rfl mt_112 mt_109 mt_1 mt_111 mp_1 0 rfl rfl hdD_readDecimal (by decide) ⟨rfl, rfl⟩ (by decide) rfl rfl (by decide) rfl (by decide) (by decide) (by decide) (fun u => rfl) (fun u => rfl) (fun u => rfl) rfl rfl (by simp [Value.category]) dD_compare_26 (fun u hu => ?_)
      obtain ⟨okA, tA, sA⟩ := u
      have huA : okA = rdb M (tn n) (tn a) ∧ (okA = true → tA = rdD M (tn n) (tn a) ∧ sA = rdS M (tn n) (tn a)) := hu
      show GG D X 0 0 29 [(dq, .inr (2, [.ref dm, .ref d1, .ref d2, .ref d3, .ref d4, .ref dw, .int (bI den)])), (dm, .inl (cI, 256, .inl (nf M))), (d1, .inr (0, [.ref p1, .int (bI sA)])), (p1, .inl (cI, 130, .inl (nf tA))), (d2, .inr (0, [.ref p2, .int (bI s2)])), (p2, .inl (cI, 130, .inl (nf e2)))] [(0, .ref dq), (1, .int n), (2, .int a), (3, .int m), (4, .int b)] [.int (bI okA)]
      refine xg_if_eqB hX 46 dD_compare_29 (by decide) (fun h29 => ?_) (fun h29 => ?_)
      ·
        refine xg_bipush hX ((-2)) dD_compare_46 (by decide) ?_
        exact hret ((-2), tA, sA, e2, s2) _ _ _ rfl (show (-2) = cmpR M n a m b from (by unfold cmpR; rw [if_pos (by rw [h5, h14]; rfl), if_neg (fun q => by simp only [Bool.and_eq_true] at q; first | exact absurd (huA.1.symm.trans h29 |>.symm.trans q.1) (by decide) | exact absurd (huB.1.symm.trans h43 |>.symm.trans q.2) (by decide))])) dD_compare_48
      ·
        refine xg_aload_n hX 0 dD_compare_32 rfl rfl ?_
        refine xg_aload_n hX 0 dD_compare_33 rfl rfl ?_
        refine xg_get hX (ci := 2) rfl hinD 0 rfl 2 (by decide) mt_70 rfl dD_compare_34 ?_
        refine xg_iload_n hX 3 dD_compare_37 rfl rfl ?_
        refine xg_top (nI (tn m)) (df3 h14) ?_
        refine xg_iload hX 4 dD_compare_38 rfl ?_
        refine xg_top (nI (tn b)) (df4 h14) ?_
        refine xg_cV hX dq [.ref d2, .int (nI (tn m)), .int (nI (tn b))] (hM := xc_readDecimal l D cI dq dm d1 d2 d3 d4 dw den M d2 p2 e2 s2 (tn m) (tn b) (df1 h14) (df2 h14) hM) (wr := [(d1, .inr (0, [.ref p1, .int (bI sA)])), (p1, .inl (cI, 130, .inl (nf tA)))]) (ws' := fun u => match u with | (okB, tB, sB) => [(dq, .inr (2, [.ref dm, .ref d1, .ref d2, .ref d3, .ref d4, .ref dw, .int (bI den)])), (dm, .inl (cI, 256, .inl (nf M))), (d1, .inr (0, [.ref p1, .int (bI sA)])), (p1, .inl (cI, 130, .inl (nf tA))), (d2, .inr (0, [.ref p2, .int (bI sB)])), (p2, .inl (cI, 130, .inl (nf tB)))]) (st' := fun u => match u with | (okB, tB, sB) => [.int (bI okB)]) [0, 1, 4, 5] [2, 3] [2, 3, 0, 1, 4, 5] [] rfl mt_112 mt_109 mt_1 mt_111 mp_1 0 rfl rfl hdD_readDecimal (by decide) ⟨rfl, rfl⟩ (by decide) rfl rfl (by decide) rfl (by decide) (by decide) (by decide) (fun u => rfl) (fun u => rfl) (fun u => rfl) rfl rfl (by simp [Value.category]) dD_compare_40 (fun u hu => ?_)
        obtain ⟨okB, tB, sB⟩ := u
        have huB : okB = rdb M (tn m) (tn b) ∧ (okB = true → tB = rdD M (tn m) (tn b) ∧ sB = rdS M (tn m) (tn b)) := hu
        show GG D X 0 0 43 [(dq, .inr (2, [.ref dm, .ref d1, .ref d2, .ref d3, .ref d4, .ref dw, .int (bI den)])), (dm, .inl (cI, 256, .inl (nf M))), (d1, .inr (0, [.ref p1, .int (bI sA)])), (p1, .inl (cI, 130, .inl (nf tA))), (d2, .inr (0, [.ref p2, .int (bI sB)])), (p2, .inl (cI, 130, .inl (nf tB)))] [(0, .ref dq), (1, .int n), (2, .int a), (3, .int m), (4, .int b)] [.int (bI okB)]
        refine xg_if_neB hX 49 dD_compare_43 (by decide) (fun h43 => ?_) (fun h43 => ?_)
        ·
          have hx := rd_lt (huA.1.symm.trans h29)
          have hy := rd_lt (huB.1.symm.trans h43)
          have hc : cmpR M n a m b = (if ordS (rdD M (tn n) (tn a)) (rdS M (tn n) (tn a)) (rdD M (tn m) (tn b)) (rdS M (tn m) (tn b)) = 0 then 4 else if ordS (rdD M (tn n) (tn a)) (rdS M (tn n) (tn a)) (rdD M (tn m) (tn b)) (rdS M (tn m) (tn b)) < 0 then 8 else 0) := by unfold cmpR; rw [if_pos (by rw [h5, h14]; rfl), if_pos (by rw [← huA.1, ← huB.1, h29, h43]; rfl)]
          obtain ⟨rfl, rfl⟩ := huA.2 h29
          obtain ⟨rfl, rfl⟩ := huB.2 h43
          refine xg_aload_n hX 0 dD_compare_49 rfl rfl ?_
          refine xg_get hX (ci := 2) rfl hinD 0 rfl 1 (by decide) mt_69 rfl dD_compare_50 ?_
          refine xg_aload_n hX 0 dD_compare_53 rfl rfl ?_
          refine xg_get hX (ci := 2) rfl hinD 0 rfl 2 (by decide) mt_70 rfl dD_compare_54 ?_
          refine xg_cV hX d1 [.ref d2] (hM := xc_orderS l D cI d1 p1 (rdD M (tn n) (tn a)) (rdS M (tn n) (tn a)) d2 p2 (rdD M (tn m) (tn b)) (rdS M (tn m) (tn b)) hx hy) (wr := [(dq, .inr (2, [.ref dm, .ref d1, .ref d2, .ref d3, .ref d4, .ref dw, .int (bI den)])), (dm, .inl (cI, 256, .inl (nf M)))]) (ws' := fun _ => [(dq, .inr (2, [.ref dm, .ref d1, .ref d2, .ref d3, .ref d4, .ref dw, .int (bI den)])), (dm, .inl (cI, 256, .inl (nf M))), (d1, .inr (0, [.ref p1, .int (bI (rdS M (tn n) (tn a)))])), (p1, .inl (cI, 130, .inl (nf (rdD M (tn n) (tn a))))), (d2, .inr (0, [.ref p2, .int (bI (rdS M (tn m) (tn b)))])), (p2, .inl (cI, 130, .inl (nf (rdD M (tn m) (tn b)))))]) (st' := fun _ => [.int (ordS (rdD M (tn n) (tn a)) (rdS M (tn n) (tn a)) (rdD M (tn m) (tn b)) (rdS M (tn m) (tn b)))]) [2, 3, 4, 5] [0, 1] [0, 1, 2, 3, 4, 5] [] rfl mt_225 mt_222 mt_2 mt_223 mt_224 0 rfl rfl hdR_orderSigned (by decide) ⟨rfl, rfl⟩ (by decide) rfl rfl (by decide) rfl (by decide) (by decide) (by decide) (fun u => rfl) (fun u => rfl) (fun u => rfl) rfl rfl (by simp [Value.category]) dD_compare_57 (fun _ _ => ?_)
          refine xg_istore hX (lv' := [(5, .int (ordS (rdD M (tn n) (tn a)) (rdS M (tn n) (tn a)) (rdD M (tn m) (tn b)) (rdS M (tn m) (tn b)))), (0, .ref dq), (1, .int n), (2, .int a), (3, .int m), (4, .int b)]) dD_compare_60 (by decide) rfl ?_
          refine xg_iload hX 0 dD_compare_62 rfl ?_
          refine xg_if_ne hX 69 dD_compare_64 (by decide) (fun h64 => ?_) (fun h64 => ?_)
          ·
            refine xg_iload hX 0 dD_compare_69 rfl ?_
            refine xg_if_ge hX 79 dD_compare_71 (by decide) (fun h71 => ?_) (fun h71 => ?_)
            ·
              refine xg_iconst hX (nI 0) dD_compare_79 (by decide) ?_
              exact hret (nI 0, rdD M (tn n) (tn a), rdS M (tn n) (tn a), rdD M (tn m) (tn b), rdS M (tn m) (tn b)) _ _ _ rfl (show (nI 0) = cmpR M n a m b from (by rw [hc, if_neg h64]; first | (rw [if_neg (xn_nlt h71)]; rfl) | (rw [if_pos (xn_ltn h71)]; rfl))) dD_compare_80
            ·
              refine xg_bipush hX (nI 8) dD_compare_74 (by decide) ?_
              refine xg_goto hX 80 dD_compare_76 (by decide) ?_
              exact hret (nI 8, rdD M (tn n) (tn a), rdS M (tn n) (tn a), rdD M (tn m) (tn b), rdS M (tn m) (tn b)) _ _ _ rfl (show (nI 8) = cmpR M n a m b from (by rw [hc, if_neg h64]; first | (rw [if_neg (xn_nlt h71)]; rfl) | (rw [if_pos (xn_ltn h71)]; rfl))) dD_compare_80
          ·
            refine xg_iconst hX (nI 4) dD_compare_67 (by decide) ?_
            exact hret (nI 4, rdD M (tn n) (tn a), rdS M (tn n) (tn a), rdD M (tn m) (tn b), rdS M (tn m) (tn b)) _ _ _ rfl (show (nI 4) = cmpR M n a m b from (by rw [hc, if_pos h64]; rfl)) dD_compare_68
        ·
          refine xg_bipush hX ((-2)) dD_compare_46 (by decide) ?_
          exact hret ((-2), tA, sA, tB, sB) _ _ _ rfl (show (-2) = cmpR M n a m b from (by unfold cmpR; rw [if_pos (by rw [h5, h14]; rfl), if_neg (fun q => by simp only [Bool.and_eq_true] at q; first | exact absurd (huA.1.symm.trans h29 |>.symm.trans q.1) (by decide) | exact absurd (huB.1.symm.trans h43 |>.symm.trans q.2) (by decide))])) dD_compare_48
    ·
      refine xg_iconst hX ((-1)) dD_compare_17 (by decide) ?_
      exact hret ((-1), e1, s1, e2, s2) _ _ _ rfl (show (-1) = cmpR M n a m b from (by unfold cmpR; rw [if_neg (fun q => by simp only [Bool.and_eq_true] at q; first | exact absurd (h5.symm.trans q.1) (by decide) | exact absurd (h14.symm.trans q.2) (by decide))])) dD_compare_18
set_option maxHeartbeats 4000000 in
set_option maxRecDepth 100000 in
theorem xc_number (l : Launch) (D : va_G) (cI : ClassId) (dq : Nat) (dm : Nat) (d1 : Nat) (d2 : Nat) (d3 : Nat) (d4 : Nat) (dw : Nat) (den : Bool) (M : Nat → Nat) (p4 : Nat) (e4 : Nat → Nat) (s4 : Bool) (v : Int32) (n : Int32) (a : Int32) (hM : ∀ j, M j < 256) : Ctr l D cI yD_number cD_number 4 (some .int) { frames := 4, cells := 0, slots := 0, locals := 94 } [.ref dq, .int v, .int n, .int a] [(dq, .inr (2, [.ref dm, .ref d1, .ref d2, .ref d3, .ref d4, .ref dw, .int (bI den)])), (dm, .inl (cI, 256, .inl (nf M))), (d4, .inr (0, [.ref p4, .int (bI s4)])), (p4, .inl (cI, 130, .inl (nf e4)))] (fun u : Int32 × (Nat → Nat) × (Nat → Nat) × Bool => match u with | (r, M2, e4_, s4_) => some (.int r)) (fun u : Int32 × (Nat → Nat) × (Nat → Nat) × Bool => match u with | (r, M2, e4_, s4_) => (r, M2) = numZ M v n a) (fun u : Int32 × (Nat → Nat) × (Nat → Nat) × Bool => match u with | (r, M2, e4_, s4_) => [(dq, .inr (2, [.ref dm, .ref d1, .ref d2, .ref d3, .ref d4, .ref dw, .int (bI den)])), (dm, .inl (cI, 256, .inl (nf M2))), (d4, .inr (0, [.ref p4, .int (bI s4_)])), (p4, .inl (cI, 130, .inl (nf e4_)))]) 0 0 := by
  refine xc_mkI (by decide +kernel) (Nat.le_of_ble_eq_true rfl) (fun X hX hret => ?_)
  show GG D X 0 0 0 [(dq, .inr (2, [.ref dm, .ref d1, .ref d2, .ref d3, .ref d4, .ref dw, .int (bI den)])), (dm, .inl (cI, 256, .inl (nf M))), (d4, .inr (0, [.ref p4, .int (bI s4)])), (p4, .inl (cI, 130, .inl (nf e4)))] [(0, .ref dq), (1, .int v), (2, .int n), (3, .int a)] []
  refine xg_iload_n hX 2 dD_number_0 rfl rfl ?_
  refine xg_iload_n hX 3 dD_number_1 rfl rfl ?_
  refine xg_cS hX [.int n, .int a] (hM := xc_dfits l D cI n a) (wr := [(dq, .inr (2, [.ref dm, .ref d1, .ref d2, .ref d3, .ref d4, .ref dw, .int (bI den)])), (dm, .inl (cI, 256, .inl (nf M))), (d4, .inr (0, [.ref p4, .int (bI s4)])), (p4, .inl (cI, 130, .inl (nf e4)))]) (ws' := fun _ => [(dq, .inr (2, [.ref dm, .ref d1, .ref d2, .ref d3, .ref d4, .ref dw, .int (bI den)])), (dm, .inl (cI, 256, .inl (nf M))), (d4, .inr (0, [.ref p4, .int (bI s4)])), (p4, .inl (cI, 130, .inl (nf e4)))]) (st' := fun _ => [.int (bI (dfits n a))]) [] [0, 1, 2, 3] [0, 1, 2, 3] [] rfl mt_108 mt_106 mt_1 mt_107 hdD_decimalFits (by decide) ⟨rfl, rfl⟩ (by decide) rfl rfl (by decide) rfl (by decide) (by decide) (by decide) (fun u => rfl) (fun u => rfl) (fun u => rfl) rfl rfl (by simp [Value.category]) dD_number_2 (fun _ _ => ?_)
  refine xg_if_neB hX 10 dD_number_5 (by decide) (fun h5 => ?_) (fun h5 => ?_)
  ·
    refine xg_aload_n hX 0 dD_number_10 rfl rfl ?_
    refine xg_get hX (ci := 2) rfl hinD 0 rfl 4 (by decide) mt_72 rfl dD_number_11 ?_
    refine xg_iload_n hX 1 dD_number_14 rfl rfl ?_
    refine xg_cV hX d4 [.int v] (hM := xc_take l D cI d4 p4 e4 s4 v) (wr := [(dq, .inr (2, [.ref dm, .ref d1, .ref d2, .ref d3, .ref d4, .ref dw, .int (bI den)])), (dm, .inl (cI, 256, .inl (nf M)))]) (ws' := fun _ => [(dq, .inr (2, [.ref dm, .ref d1, .ref d2, .ref d3, .ref d4, .ref dw, .int (bI den)])), (dm, .inl (cI, 256, .inl (nf M))), (d4, .inr (0, [.ref p4, .int (bI (decide (v.toInt < 0)))])), (p4, .inl (cI, 130, .inl (nf (mix 31 (dig (absN v)) zf))))]) (st' := fun _ => []) [2, 3] [0, 1] [0, 1, 2, 3] [] rfl mt_233 mt_230 mt_2 mt_231 mt_232 0 rfl rfl hdR_take (by decide) ⟨rfl, rfl⟩ (by decide) rfl rfl (by decide) rfl (by decide) (by decide) (by decide) (fun u => rfl) (fun u => rfl) (fun u => rfl) rfl rfl (by simp [Value.category]) dD_number_15 (fun _ _ => ?_)
    refine xg_aload_n hX 0 dD_number_18 rfl rfl ?_
    refine xg_aload_n hX 0 dD_number_19 rfl rfl ?_
    refine xg_get hX (ci := 2) rfl hinD 0 rfl 4 (by decide) mt_72 rfl dD_number_20 ?_
    refine xg_iload_n hX 2 dD_number_23 rfl rfl ?_
    refine xg_top (nI (tn n)) (df3 h5) ?_
    refine xg_iload_n hX 3 dD_number_24 rfl rfl ?_
    refine xg_top (nI (tn a)) (df4 h5) ?_
    refine xg_cV hX dq [.ref d4, .int (nI (tn n)), .int (nI (tn a))] (hM := xc_writeDecimal l D cI dq dm d1 d2 d3 d4 dw den M d4 p4 (mix 31 (dig (absN v)) zf) (decide (v.toInt < 0)) (tn n) (tn a) (df1 h5) (df2 h5) (mdz_lt _)) (wr := []) (ws' := fun _ => [(dq, .inr (2, [.ref dm, .ref d1, .ref d2, .ref d3, .ref d4, .ref dw, .int (bI den)])), (dm, .inl (cI, 256, .inl (nf (wrM M (mix 31 (dig (absN v)) zf) (decide (v.toInt < 0)) (tn n) (tn a))))), (d4, .inr (0, [.ref p4, .int (bI (decide (v.toInt < 0)))])), (p4, .inl (cI, 130, .inl (nf (mix 31 (dig (absN v)) zf))))]) (st' := fun _ => [.int (nI (flg (mix 31 (dig (absN v)) zf) (decide (v.toInt < 0)) (tn n)))]) [0, 1, 2, 3] [] [0, 1, 2, 3] [] rfl mt_166 mt_163 mt_1 mt_165 mp_5 0 rfl rfl hdD_writeDecimal (by decide) ⟨rfl, rfl⟩ (by decide) rfl rfl (by decide) rfl (by decide) (by decide) (by decide) (fun u => rfl) (fun u => rfl) (fun u => rfl) rfl rfl (by simp [Value.category]) dD_number_25 (fun _ _ => ?_)
    exact hret (nI (flg (mix 31 (dig (absN v)) zf) (decide (v.toInt < 0)) (tn n)), wrM M (mix 31 (dig (absN v)) zf) (decide (v.toInt < 0)) (tn n) (tn a), mix 31 (dig (absN v)) zf, decide (v.toInt < 0)) _ _ _ rfl (show ((nI (flg (mix 31 (dig (absN v)) zf) (decide (v.toInt < 0)) (tn n))), (wrM M (mix 31 (dig (absN v)) zf) (decide (v.toInt < 0)) (tn n) (tn a))) = numZ M v n a from (by unfold numZ; rw [if_pos h5]; rfl)) dD_number_28
  ·
    refine xg_iconst hX ((-1)) dD_number_8 (by decide) ?_
    exact hret ((-1), M, e4, s4) _ _ _ rfl (show ((-1), M) = numZ M v n a from (by unfold numZ; rw [if_neg (fun q => absurd (h5.symm.trans q) (by decide))]; exact (arZ_no (by decide)).symm)) dD_number_9
set_option maxHeartbeats 4000000 in
set_option maxRecDepth 100000 in
theorem xc_value (l : Launch) (D : va_G) (cI : ClassId) (dq : Nat) (dm : Nat) (d1 : Nat) (d2 : Nat) (d3 : Nat) (d4 : Nat) (dw : Nat) (den : Bool) (M : Nat → Nat) (p1 : Nat) (e1 : Nat → Nat) (s1 : Bool) (n : Int32) (a : Int32) (hM : ∀ j, M j < 256) : Ctr l D cI yD_value cD_value 3 (some .long) { frames := 5, cells := 0, slots := 0, locals := 111 } [.ref dq, .int n, .int a] [(dq, .inr (2, [.ref dm, .ref d1, .ref d2, .ref d3, .ref d4, .ref dw, .int (bI den)])), (dm, .inl (cI, 256, .inl (nf M))), (d1, .inr (0, [.ref p1, .int (bI s1)])), (p1, .inl (cI, 130, .inl (nf e1)))] (fun u : Int64 × (Nat → Nat) × Bool => match u with | (r, e1_, s1_) => some (.long r)) (fun u : Int64 × (Nat → Nat) × Bool => match u with | (r, e1_, s1_) => r = valR M n a) (fun u : Int64 × (Nat → Nat) × Bool => match u with | (r, e1_, s1_) => [(dq, .inr (2, [.ref dm, .ref d1, .ref d2, .ref d3, .ref d4, .ref dw, .int (bI den)])), (dm, .inl (cI, 256, .inl (nf M))), (d1, .inr (0, [.ref p1, .int (bI s1_)])), (p1, .inl (cI, 130, .inl (nf e1_)))]) 0 0 := by
  refine xc_mkL (by decide +kernel) (Nat.le_of_ble_eq_true rfl) (fun X hX hret => ?_)
  show GG D X 0 0 0 [(dq, .inr (2, [.ref dm, .ref d1, .ref d2, .ref d3, .ref d4, .ref dw, .int (bI den)])), (dm, .inl (cI, 256, .inl (nf M))), (d1, .inr (0, [.ref p1, .int (bI s1)])), (p1, .inl (cI, 130, .inl (nf e1)))] [(0, .ref dq), (1, .int n), (2, .int a)] []
  refine xg_iload_n hX 1 dD_value_0 rfl rfl ?_
  refine xg_iload_n hX 2 dD_value_1 rfl rfl ?_
  refine xg_cS hX [.int n, .int a] (hM := xc_dfits l D cI n a) (wr := [(dq, .inr (2, [.ref dm, .ref d1, .ref d2, .ref d3, .ref d4, .ref dw, .int (bI den)])), (dm, .inl (cI, 256, .inl (nf M))), (d1, .inr (0, [.ref p1, .int (bI s1)])), (p1, .inl (cI, 130, .inl (nf e1)))]) (ws' := fun _ => [(dq, .inr (2, [.ref dm, .ref d1, .ref d2, .ref d3, .ref d4, .ref dw, .int (bI den)])), (dm, .inl (cI, 256, .inl (nf M))), (d1, .inr (0, [.ref p1, .int (bI s1)])), (p1, .inl (cI, 130, .inl (nf e1)))]) (st' := fun _ => [.int (bI (dfits n a))]) [] [0, 1, 2, 3] [0, 1, 2, 3] [] rfl mt_108 mt_106 mt_1 mt_107 hdD_decimalFits (by decide) ⟨rfl, rfl⟩ (by decide) rfl rfl (by decide) rfl (by decide) (by decide) (by decide) (fun u => rfl) (fun u => rfl) (fun u => rfl) rfl rfl (by simp [Value.category]) dD_value_2 (fun _ _ => ?_)
  refine xg_if_eqB hX 21 dD_value_5 (by decide) (fun h5 => ?_) (fun h5 => ?_)
  ·
    refine xg_lconst hX 0 dD_value_21 (by decide) ?_
    exact hret (0, e1, s1) _ _ _ rfl (show 0 = valR M n a from (by unfold valR; rw [if_neg (fun q => by first | exact absurd (h5.symm.trans q.1) (by decide) | exact absurd (h18.symm.trans (huA.1.trans q.2)) (by decide))])) dD_value_22
  ·
    refine xg_aload_n hX 0 dD_value_8 rfl rfl ?_
    refine xg_aload_n hX 0 dD_value_9 rfl rfl ?_
    refine xg_get hX (ci := 2) rfl hinD 0 rfl 1 (by decide) mt_69 rfl dD_value_10 ?_
    refine xg_iload_n hX 1 dD_value_13 rfl rfl ?_
    refine xg_top (nI (tn n)) (df3 h5) ?_
    refine xg_iload_n hX 2 dD_value_14 rfl rfl ?_
    refine xg_top (nI (tn a)) (df4 h5) ?_
    refine xg_cV hX dq [.ref d1, .int (nI (tn n)), .int (nI (tn a))] (hM := xc_readDecimal l D cI dq dm d1 d2 d3 d4 dw den M d1 p1 e1 s1 (tn n) (tn a) (df1 h5) (df2 h5) hM) (wr := []) (ws' := fun u => match u with | (okA, tA, sA) => [(dq, .inr (2, [.ref dm, .ref d1, .ref d2, .ref d3, .ref d4, .ref dw, .int (bI den)])), (dm, .inl (cI, 256, .inl (nf M))), (d1, .inr (0, [.ref p1, .int (bI sA)])), (p1, .inl (cI, 130, .inl (nf tA)))]) (st' := fun u => match u with | (okA, tA, sA) => [.int (bI okA)]) [0, 1, 2, 3] [] [0, 1, 2, 3] [] rfl mt_112 mt_109 mt_1 mt_111 mp_1 0 rfl rfl hdD_readDecimal (by decide) ⟨rfl, rfl⟩ (by decide) rfl rfl (by decide) rfl (by decide) (by decide) (by decide) (fun u => rfl) (fun u => rfl) (fun u => rfl) rfl rfl (by simp [Value.category]) dD_value_15 (fun u hu => ?_)
    obtain ⟨okA, tA, sA⟩ := u
    have huA : okA = rdb M (tn n) (tn a) ∧ (okA = true → tA = rdD M (tn n) (tn a) ∧ sA = rdS M (tn n) (tn a)) := hu
    show GG D X 0 0 18 [(dq, .inr (2, [.ref dm, .ref d1, .ref d2, .ref d3, .ref d4, .ref dw, .int (bI den)])), (dm, .inl (cI, 256, .inl (nf M))), (d1, .inr (0, [.ref p1, .int (bI sA)])), (p1, .inl (cI, 130, .inl (nf tA)))] [(0, .ref dq), (1, .int n), (2, .int a)] [.int (bI okA)]
    refine xg_if_neB hX 23 dD_value_18 (by decide) (fun h18 => ?_) (fun h18 => ?_)
    ·
      have g1 := huA.1.symm.trans h18
      have hx := rd_lt g1
      obtain ⟨rfl, rfl⟩ := huA.2 h18
      refine xg_aload_n hX 0 dD_value_23 rfl rfl ?_
      refine xg_get hX (ci := 2) rfl hinD 0 rfl 1 (by decide) mt_69 rfl dD_value_24 ?_
      refine xg_cV hX d1 [] (hM := xc_lowestBits l D cI d1 p1 (rdD M (tn n) (tn a)) (rdS M (tn n) (tn a)) hx) (wr := [(dq, .inr (2, [.ref dm, .ref d1, .ref d2, .ref d3, .ref d4, .ref dw, .int (bI den)])), (dm, .inl (cI, 256, .inl (nf M)))]) (ws' := fun _ => [(dq, .inr (2, [.ref dm, .ref d1, .ref d2, .ref d3, .ref d4, .ref dw, .int (bI den)])), (dm, .inl (cI, 256, .inl (nf M))), (d1, .inr (0, [.ref p1, .int (bI (rdS M (tn n) (tn a)))])), (p1, .inl (cI, 130, .inl (nf (rdD M (tn n) (tn a)))))]) (st' := fun _ => [.long (if rdS M (tn n) (tn a) = true then -(lbF (rdD M (tn n) (tn a)) 31) else lbF (rdD M (tn n) (tn a)) 31)]) [2, 3] [0, 1] [0, 1, 2, 3] [] rfl mt_245 mt_242 mt_2 mt_243 mt_244 0 rfl rfl hdR_lowestBits (by decide) ⟨rfl, rfl⟩ (by decide) rfl rfl (by decide) rfl (by decide) (by decide) (by decide) (fun u => rfl) (fun u => rfl) (fun u => rfl) rfl rfl (by simp [Value.category]) dD_value_27 (fun _ _ => ?_)
      exact hret (if rdS M (tn n) (tn a) = true then -(lbF (rdD M (tn n) (tn a)) 31) else lbF (rdD M (tn n) (tn a)) 31, rdD M (tn n) (tn a), rdS M (tn n) (tn a)) _ _ _ rfl (show (if rdS M (tn n) (tn a) = true then -(lbF (rdD M (tn n) (tn a)) 31) else lbF (rdD M (tn n) (tn a)) 31) = valR M n a from (by unfold valR; exact (if_pos ⟨h5, g1⟩).symm)) dD_value_30
    ·
      refine xg_lconst hX 0 dD_value_21 (by decide) ?_
      exact hret (0, tA, sA) _ _ _ rfl (show 0 = valR M n a from (by unfold valR; rw [if_neg (fun q => by first | exact absurd (h5.symm.trans q.1) (by decide) | exact absurd (h18.symm.trans (huA.1.trans q.2)) (by decide))])) dD_value_22
set_option maxHeartbeats 4000000 in
set_option maxRecDepth 100000 in
theorem xc_characters (l : Launch) (D : va_G) (cI : ClassId) (dq : Nat) (dm : Nat) (d1 : Nat) (d2 : Nat) (d3 : Nat) (d4 : Nat) (dw : Nat) (den : Bool) (M : Nat → Nat) (p1 : Nat) (e1 : Nat → Nat) (s1 : Bool) (n : Int32) (a : Int32) (m : Int32) (b : Int32) (hM : ∀ j, M j < 256) : Ctr l D cI yD_characters cD_characters 7 (some .int) { frames := 5, cells := 0, slots := 0, locals := 111 } [.ref dq, .int n, .int a, .int m, .int b] [(dq, .inr (2, [.ref dm, .ref d1, .ref d2, .ref d3, .ref d4, .ref dw, .int (bI den)])), (dm, .inl (cI, 256, .inl (nf M))), (d1, .inr (0, [.ref p1, .int (bI s1)])), (p1, .inl (cI, 130, .inl (nf e1)))] (fun u : Int32 × (Nat → Nat) × (Nat → Nat) × Bool => match u with | (r, M2, e1_, s1_) => some (.int r)) (fun u : Int32 × (Nat → Nat) × (Nat → Nat) × Bool => match u with | (r, M2, e1_, s1_) => (r, M2) = charZ M n a m b) (fun u : Int32 × (Nat → Nat) × (Nat → Nat) × Bool => match u with | (r, M2, e1_, s1_) => [(dq, .inr (2, [.ref dm, .ref d1, .ref d2, .ref d3, .ref d4, .ref dw, .int (bI den)])), (dm, .inl (cI, 256, .inl (nf M2))), (d1, .inr (0, [.ref p1, .int (bI s1_)])), (p1, .inl (cI, 130, .inl (nf e1_)))]) 0 0 := by
  refine xc_mkI (by decide +kernel) (Nat.le_of_ble_eq_true rfl) (fun X hX hret => ?_)
  show GG D X 0 0 0 [(dq, .inr (2, [.ref dm, .ref d1, .ref d2, .ref d3, .ref d4, .ref dw, .int (bI den)])), (dm, .inl (cI, 256, .inl (nf M))), (d1, .inr (0, [.ref p1, .int (bI s1)])), (p1, .inl (cI, 130, .inl (nf e1)))] [(0, .ref dq), (1, .int n), (2, .int a), (3, .int m), (4, .int b)] []
  refine xg_iload_n hX 1 dD_characters_0 rfl rfl ?_
  refine xg_iload_n hX 2 dD_characters_1 rfl rfl ?_
  refine xg_cS hX [.int n, .int a] (hM := xc_dfits l D cI n a) (wr := [(dq, .inr (2, [.ref dm, .ref d1, .ref d2, .ref d3, .ref d4, .ref dw, .int (bI den)])), (dm, .inl (cI, 256, .inl (nf M))), (d1, .inr (0, [.ref p1, .int (bI s1)])), (p1, .inl (cI, 130, .inl (nf e1)))]) (ws' := fun _ => [(dq, .inr (2, [.ref dm, .ref d1, .ref d2, .ref d3, .ref d4, .ref dw, .int (bI den)])), (dm, .inl (cI, 256, .inl (nf M))), (d1, .inr (0, [.ref p1, .int (bI s1)])), (p1, .inl (cI, 130, .inl (nf e1)))]) (st' := fun _ => [.int (bI (dfits n a))]) [] [0, 1, 2, 3] [0, 1, 2, 3] [] rfl mt_108 mt_106 mt_1 mt_107 hdD_decimalFits (by decide) ⟨rfl, rfl⟩ (by decide) rfl rfl (by decide) rfl (by decide) (by decide) (by decide) (fun u => rfl) (fun u => rfl) (fun u => rfl) rfl rfl (by simp [Value.category]) dD_characters_2 (fun _ _ => ?_)
  refine xg_if_eqB hX 17 dD_characters_5 (by decide) (fun h5 => ?_) (fun h5 => ?_)
  ·
    refine xg_iconst hX ((-1)) dD_characters_17 (by decide) ?_
    exact hret ((-1), M, e1, s1) _ _ _ rfl (show ((-1), M) = charZ M n a m b from (by have hz : chO M n a m b = -1 := (by unfold chO; rw [if_neg (fun q => by simp only [Bool.and_eq_true] at q; first | exact absurd (h5.symm.trans q.1) (by decide) | exact absurd (h14.symm.trans q.2) (by decide))]); rw [charZ, hz]; exact (if_neg (by decide)).symm)) dD_characters_18
  ·
    refine xg_iload_n hX 3 dD_characters_8 rfl rfl ?_
    refine xg_iload hX 4 dD_characters_9 rfl ?_
    refine xg_cS hX [.int m, .int b] (hM := xc_cfits l D cI m b) (wr := [(dq, .inr (2, [.ref dm, .ref d1, .ref d2, .ref d3, .ref d4, .ref dw, .int (bI den)])), (dm, .inl (cI, 256, .inl (nf M))), (d1, .inr (0, [.ref p1, .int (bI s1)])), (p1, .inl (cI, 130, .inl (nf e1)))]) (ws' := fun _ => [(dq, .inr (2, [.ref dm, .ref d1, .ref d2, .ref d3, .ref d4, .ref dw, .int (bI den)])), (dm, .inl (cI, 256, .inl (nf M))), (d1, .inr (0, [.ref p1, .int (bI s1)])), (p1, .inl (cI, 130, .inl (nf e1)))]) (st' := fun _ => [.int (bI (cfits m b))]) [] [0, 1, 2, 3] [0, 1, 2, 3] [] rfl mt_252 mt_250 mt_1 mt_251 hdD_charactersFit (by decide) ⟨rfl, rfl⟩ (by decide) rfl rfl (by decide) rfl (by decide) (by decide) (by decide) (fun u => rfl) (fun u => rfl) (fun u => rfl) rfl rfl (by simp [Value.category]) dD_characters_11 (fun _ _ => ?_)
    refine xg_if_neB hX 19 dD_characters_14 (by decide) (fun h14 => ?_) (fun h14 => ?_)
    ·
      refine xg_aload_n hX 0 dD_characters_19 rfl rfl ?_
      refine xg_aload_n hX 0 dD_characters_20 rfl rfl ?_
      refine xg_get hX (ci := 2) rfl hinD 0 rfl 1 (by decide) mt_69 rfl dD_characters_21 ?_
      refine xg_iload_n hX 1 dD_characters_24 rfl rfl ?_
      refine xg_top (nI (tn n)) (df3 h5) ?_
      refine xg_iload_n hX 2 dD_characters_25 rfl rfl ?_
      refine xg_top (nI (tn a)) (df4 h5) ?_
      refine xg_cV hX dq [.ref d1, .int (nI (tn n)), .int (nI (tn a))] (hM := xc_readDecimal l D cI dq dm d1 d2 d3 d4 dw den M d1 p1 e1 s1 (tn n) (tn a) (df1 h5) (df2 h5) hM) (wr := []) (ws' := fun u => match u with | (okA, tA, sA) => [(dq, .inr (2, [.ref dm, .ref d1, .ref d2, .ref d3, .ref d4, .ref dw, .int (bI den)])), (dm, .inl (cI, 256, .inl (nf M))), (d1, .inr (0, [.ref p1, .int (bI sA)])), (p1, .inl (cI, 130, .inl (nf tA)))]) (st' := fun u => match u with | (okA, tA, sA) => [.int (bI okA)]) [0, 1, 2, 3] [] [0, 1, 2, 3] [] rfl mt_112 mt_109 mt_1 mt_111 mp_1 0 rfl rfl hdD_readDecimal (by decide) ⟨rfl, rfl⟩ (by decide) rfl rfl (by decide) rfl (by decide) (by decide) (by decide) (fun u => rfl) (fun u => rfl) (fun u => rfl) rfl rfl (by simp [Value.category]) dD_characters_26 (fun u hu => ?_)
      obtain ⟨okA, tA, sA⟩ := u
      have huA : okA = rdb M (tn n) (tn a) ∧ (okA = true → tA = rdD M (tn n) (tn a) ∧ sA = rdS M (tn n) (tn a)) := hu
      show GG D X 0 0 29 [(dq, .inr (2, [.ref dm, .ref d1, .ref d2, .ref d3, .ref d4, .ref dw, .int (bI den)])), (dm, .inl (cI, 256, .inl (nf M))), (d1, .inr (0, [.ref p1, .int (bI sA)])), (p1, .inl (cI, 130, .inl (nf tA)))] [(0, .ref dq), (1, .int n), (2, .int a), (3, .int m), (4, .int b)] [.int (bI okA)]
      refine xg_if_neB hX 35 dD_characters_29 (by decide) (fun h29 => ?_) (fun h29 => ?_)
      ·
        have g1 := huA.1.symm.trans h29
        have hx := rd_lt g1
        have hc0 : chO M n a m b = 0 := by unfold chO; rw [if_pos (by rw [h5, h14]; rfl), if_pos g1]
        obtain ⟨rfl, rfl⟩ := huA.2 h29
        have q1 := cf1 h14
        have q2 := cf2 h14
        refine xg_aload_n hX 0 dD_characters_35 rfl rfl ?_
        refine xg_get hX (ci := 2) rfl hinD 0 rfl 1 (by decide) mt_69 rfl dD_characters_36 ?_
        refine xg_iload_n hX 3 dD_characters_39 rfl rfl ?_
        refine xg_top (nI (tn m)) (cf3 h14) ?_
        refine xg_cV hX d1 [.int (nI (tn m))] (hM := xc_flags l D cI d1 p1 (rdD M (tn n) (tn a)) (rdS M (tn n) (tn a)) (tn m) (by omega) hx) (wr := [(dq, .inr (2, [.ref dm, .ref d1, .ref d2, .ref d3, .ref d4, .ref dw, .int (bI den)])), (dm, .inl (cI, 256, .inl (nf M)))]) (ws' := fun _ => [(dq, .inr (2, [.ref dm, .ref d1, .ref d2, .ref d3, .ref d4, .ref dw, .int (bI den)])), (dm, .inl (cI, 256, .inl (nf M))), (d1, .inr (0, [.ref p1, .int (bI (rdS M (tn n) (tn a)))])), (p1, .inl (cI, 130, .inl (nf (rdD M (tn n) (tn a)))))]) (st' := fun _ => [.int (nI (flg (rdD M (tn n) (tn a)) (rdS M (tn n) (tn a)) (tn m)))]) [2, 3] [0, 1] [0, 1, 2, 3] [] rfl mt_170 mt_167 mt_2 mt_168 mt_169 0 rfl rfl hdR_flagsOfLowest (by decide) ⟨rfl, rfl⟩ (by decide) rfl rfl (by decide) rfl (by decide) (by decide) (by decide) (fun u => rfl) (fun u => rfl) (fun u => rfl) rfl rfl (by simp [Value.category]) dD_characters_40 (fun _ _ => ?_)
        refine xg_istore hX (lv' := [(5, .int (nI (flg (rdD M (tn n) (tn a)) (rdS M (tn n) (tn a)) (tn m)))), (0, .ref dq), (1, .int n), (2, .int a), (3, .int m), (4, .int b)]) dD_characters_43 (by decide) rfl ?_
        refine xg_aload_n hX 1 dD_characters_45 rfl rfl ?_
        refine xg_iload hX 5 dD_characters_46 rfl ?_
        refine xg_top (nI (tn b)) (cf4 h14) ?_
        refine xg_iload hX 0 dD_characters_48 rfl ?_
        refine xg_bipush hX (nI 8) dD_characters_50 (by decide) ?_
        refine xg_iand hX dD_characters_52 ?_
        refine xg_top (nI (if ng (rdD M (tn n) (tn a)) (rdS M (tn n) (tn a)) (tn m) = true then 8 else 0)) (xn_f8 _ _ _) ?_
        refine xg_if_eqN hX 61 (by split <;> decide) dD_characters_53 (by decide) (fun h53 => ?_) (fun h53 => ?_)
        ·
          have hsg : (43 : Nat) = (if ng (rdD M (tn n) (tn a)) (rdS M (tn n) (tn a)) (tn m) = true then 45 else 43) := by cases hq : ng (rdD M (tn n) (tn a)) (rdS M (tn n) (tn a)) (tn m) with | false => rfl | true => rw [hq] at h53; cases h53
          refine xg_bipush hX (nI 43) dD_characters_61 (by decide) ?_
          refine xg_cV hX dq [.int (nI (tn b)), .int (nI 43)] (hM := xc_putN l D cI dq dm d1 d2 d3 d4 dw den M (tn b) 43 (by omega) (by decide)) (wr := [(d1, .inr (0, [.ref p1, .int (bI (rdS M (tn n) (tn a)))])), (p1, .inl (cI, 130, .inl (nf (rdD M (tn n) (tn a)))))]) (ws' := fun _ => [(dq, .inr (2, [.ref dm, .ref d1, .ref d2, .ref d3, .ref d4, .ref dw, .int (bI den)])), (dm, .inl (cI, 256, .inl (nf (up M (tn b) 43)))), (d1, .inr (0, [.ref p1, .int (bI (rdS M (tn n) (tn a)))])), (p1, .inl (cI, 130, .inl (nf (rdD M (tn n) (tn a)))))]) (st' := fun _ => [.int (bI true)]) [0, 1] [2, 3] [2, 3, 0, 1] [] rfl mt_93 mt_172 mt_1 mt_91 mt_92 0 rfl rfl hdD_put (by decide) ⟨rfl, rfl⟩ (by decide) rfl rfl (by decide) rfl (by decide) (by decide) (by decide) (fun u => rfl) (fun u => rfl) (fun u => rfl) rfl rfl (by simp [Value.category]) dD_characters_63 (fun _ _ => ?_)
          refine xg_pop hX dD_characters_66 rfl ?_
          refine xg_ext hX (g := chP M (rdD M (tn n) (tn a)) (if ng (rdD M (tn n) (tn a)) (rdS M (tn n) (tn a)) (tn m) = true then 45 else 43) (tn m) (tn b) 0) (ws' := [(dq, .inr (2, [.ref dm, .ref d1, .ref d2, .ref d3, .ref d4, .ref dw, .int (bI den)])), (dm, .inl (cI, 256, .inl (nf (chP M (rdD M (tn n) (tn a)) (if ng (rdD M (tn n) (tn a)) (rdS M (tn n) (tn a)) (tn m) = true then 45 else 43) (tn m) (tn b) 0)))), (d1, .inr (0, [.ref p1, .int (bI (rdS M (tn n) (tn a)))])), (p1, .inl (cI, 130, .inl (nf (rdD M (tn n) (tn a)))))]) 1 rfl (fun j hj => by rw [← hsg]; exact chP_0 j) rfl ?_
          refine xg_iconst hX (nI 0) dD_characters_67 (by decide) ?_
          refine xg_istore hX (lv' := [(6, .int (nI 0)), (5, .int (nI (flg (rdD M (tn n) (tn a)) (rdS M (tn n) (tn a)) (tn m)))), (0, .ref dq), (1, .int n), (2, .int a), (3, .int m), (4, .int b)]) dD_characters_68 (by decide) rfl ?_
          have lp1 : ∀ (fu2 : Nat) (i : Nat), (i ≤ tn m) → tn m - i < fu2 → GG D X 0 0 70 [(dq, .inr (2, [.ref dm, .ref d1, .ref d2, .ref d3, .ref d4, .ref dw, .int (bI den)])), (dm, .inl (cI, 256, .inl (nf (chP M (rdD M (tn n) (tn a)) (if ng (rdD M (tn n) (tn a)) (rdS M (tn n) (tn a)) (tn m) = true then 45 else 43) (tn m) (tn b) i)))), (d1, .inr (0, [.ref p1, .int (bI (rdS M (tn n) (tn a)))])), (p1, .inl (cI, 130, .inl (nf (rdD M (tn n) (tn a)))))] [(0, .ref dq), (3, .int m), (4, .int b), (5, .int (nI (flg (rdD M (tn n) (tn a)) (rdS M (tn n) (tn a)) (tn m)))), (6, .int (nI i))] [] := by
            intro fu2
            induction fu2 with
            | zero => intro i hi hm4; exact absurd hm4 (Nat.not_lt_zero _)
            | succ fu2 ih3 =>
              intro i hi hm4
              refine xg_iload hX 4 dD_characters_70 rfl ?_
              refine xg_iload_n hX 1 dD_characters_72 rfl rfl ?_
              refine xg_top (nI (tn m)) (cf3 h14) ?_
              refine xg_icmp_geN hX 106 (by omega) (by omega) dD_characters_73 (by decide) (fun h73 => ?_) (fun h73 => ?_)
              ·
                refine xg_iload hX 3 dD_characters_106 rfl ?_
                exact hret (nI (flg (rdD M (tn n) (tn a)) (rdS M (tn n) (tn a)) (tn m)), chP M (rdD M (tn n) (tn a)) (if ng (rdD M (tn n) (tn a)) (rdS M (tn n) (tn a)) (tn m) = true then 45 else 43) (tn m) (tn b) i, rdD M (tn n) (tn a), rdS M (tn n) (tn a)) _ _ _ rfl (show ((nI (flg (rdD M (tn n) (tn a)) (rdS M (tn n) (tn a)) (tn m))), (chP M (rdD M (tn n) (tn a)) (if ng (rdD M (tn n) (tn a)) (rdS M (tn n) (tn a)) (tn m) = true then 45 else 43) (tn m) (tn b) i)) = charZ M n a m b from (by unfold charZ; rw [if_pos hc0, show i = tn m by omega])) dD_characters_108
              ·
                refine xg_aload_n hX 0 dD_characters_76 rfl rfl ?_
                refine xg_iload hX 2 dD_characters_77 rfl ?_
                refine xg_top (nI (tn b)) (cf4 h14) ?_
                refine xg_iload_n hX 1 dD_characters_79 rfl rfl ?_
                refine xg_top (nI (tn m)) (cf3 h14) ?_
                refine xg_iaddN hX dD_characters_80 ?_
                refine xg_iload hX 4 dD_characters_81 rfl ?_
                refine xg_isubN hX (by omega) dD_characters_83 ?_
                refine xg_bipush hX (nI 48) dD_characters_84 (by decide) ?_
                refine xg_aload_n hX 0 dD_characters_86 rfl rfl ?_
                refine xg_get hX (ci := 2) rfl hinD 0 rfl 1 (by decide) mt_69 rfl dD_characters_87 ?_
                refine xg_iload hX 4 dD_characters_90 rfl ?_
                refine xg_cV hX d1 [.int (nI i)] (hM := xc_digitAt l D cI d1 p1 (rdD M (tn n) (tn a)) (rdS M (tn n) (tn a)) i (by omega)) (wr := [(dq, .inr (2, [.ref dm, .ref d1, .ref d2, .ref d3, .ref d4, .ref dw, .int (bI den)])), (dm, .inl (cI, 256, .inl (nf (chP M (rdD M (tn n) (tn a)) (if ng (rdD M (tn n) (tn a)) (rdS M (tn n) (tn a)) (tn m) = true then 45 else 43) (tn m) (tn b) i))))]) (ws' := fun _ => [(dq, .inr (2, [.ref dm, .ref d1, .ref d2, .ref d3, .ref d4, .ref dw, .int (bI den)])), (dm, .inl (cI, 256, .inl (nf (chP M (rdD M (tn n) (tn a)) (if ng (rdD M (tn n) (tn a)) (rdS M (tn n) (tn a)) (tn m) = true then 45 else 43) (tn m) (tn b) i)))), (d1, .inr (0, [.ref p1, .int (bI (rdS M (tn n) (tn a)))])), (p1, .inl (cI, 130, .inl (nf (rdD M (tn n) (tn a)))))]) (st' := fun _ => [.int (nI ((rdD M (tn n) (tn a)) i)), .int (nI 48), .int (nI (((tn b) + (tn m)) - i)), .ref dq]) [2, 3] [0, 1] [0, 1, 2, 3] [.int (nI 48), .int (nI (((tn b) + (tn m)) - i)), .ref dq] rfl mt_144 mt_171 mt_2 mt_142 mt_143 0 rfl rfl hdR_digitAt (by decide) ⟨rfl, rfl⟩ (by decide) rfl rfl (by decide) rfl (by decide) (by decide) (by decide) (fun u => rfl) (fun u => rfl) (fun u => rfl) rfl rfl (by simp [Value.category]) dD_characters_92 (fun _ _ => ?_)
                have e9 := hx i
                refine xg_iaddN hX dD_characters_95 ?_
                refine xg_cV hX dq [.int (nI (((tn b) + (tn m)) - i)), .int (nI (48 + ((rdD M (tn n) (tn a)) i)))] (hM := xc_putN l D cI dq dm d1 d2 d3 d4 dw den (chP M (rdD M (tn n) (tn a)) (if ng (rdD M (tn n) (tn a)) (rdS M (tn n) (tn a)) (tn m) = true then 45 else 43) (tn m) (tn b) i) (((tn b) + (tn m)) - i) (48 + ((rdD M (tn n) (tn a)) i)) (by omega) (by omega)) (wr := [(d1, .inr (0, [.ref p1, .int (bI (rdS M (tn n) (tn a)))])), (p1, .inl (cI, 130, .inl (nf (rdD M (tn n) (tn a)))))]) (ws' := fun _ => [(dq, .inr (2, [.ref dm, .ref d1, .ref d2, .ref d3, .ref d4, .ref dw, .int (bI den)])), (dm, .inl (cI, 256, .inl (nf (up (chP M (rdD M (tn n) (tn a)) (if ng (rdD M (tn n) (tn a)) (rdS M (tn n) (tn a)) (tn m) = true then 45 else 43) (tn m) (tn b) i) (((tn b) + (tn m)) - i) (48 + ((rdD M (tn n) (tn a)) i)))))), (d1, .inr (0, [.ref p1, .int (bI (rdS M (tn n) (tn a)))])), (p1, .inl (cI, 130, .inl (nf (rdD M (tn n) (tn a)))))]) (st' := fun _ => [.int (bI true)]) [0, 1] [2, 3] [2, 3, 0, 1] [] rfl mt_93 mt_172 mt_1 mt_91 mt_92 0 rfl rfl hdD_put (by decide) ⟨rfl, rfl⟩ (by decide) rfl rfl (by decide) rfl (by decide) (by decide) (by decide) (fun u => rfl) (fun u => rfl) (fun u => rfl) rfl rfl (by simp [Value.category]) dD_characters_96 (fun _ _ => ?_)
                refine xg_pop hX dD_characters_99 rfl ?_
                refine xg_iincN hX (lv' := [(6, .int (nI (i + 1))), (0, .ref dq), (3, .int m), (4, .int b), (5, .int (nI (flg (rdD M (tn n) (tn a)) (rdS M (tn n) (tn a)) (tn m))))]) (i + 1) 4 dD_characters_100 rfl (xn_inc _) (by decide) rfl ?_
                refine xg_goto hX 70 dD_characters_103 (by decide) ?_
                refine xg_ext hX (g := chP M (rdD M (tn n) (tn a)) (if ng (rdD M (tn n) (tn a)) (rdS M (tn n) (tn a)) (tn m) = true then 45 else 43) (tn m) (tn b) (i + 1)) (ws' := [(dq, .inr (2, [.ref dm, .ref d1, .ref d2, .ref d3, .ref d4, .ref dw, .int (bI den)])), (dm, .inl (cI, 256, .inl (nf (chP M (rdD M (tn n) (tn a)) (if ng (rdD M (tn n) (tn a)) (rdS M (tn n) (tn a)) (tn m) = true then 45 else 43) (tn m) (tn b) (i + 1))))), (d1, .inr (0, [.ref p1, .int (bI (rdS M (tn n) (tn a)))])), (p1, .inl (cI, 130, .inl (nf (rdD M (tn n) (tn a)))))]) 1 rfl (fun j hj => chP_s h73 j) rfl ?_
                refine xg_lv hX (lv' := [(0, .ref dq), (3, .int m), (4, .int b), (5, .int (nI (flg (rdD M (tn n) (tn a)) (rdS M (tn n) (tn a)) (tn m)))), (6, .int (nI (i + 1)))]) [1, 2, 3, 4, 0] rfl ?_
                exact ih3 (i + 1) (by omega) (by omega)
          refine xg_lv hX (lv' := [(0, .ref dq), (3, .int m), (4, .int b), (5, .int (nI (flg (rdD M (tn n) (tn a)) (rdS M (tn n) (tn a)) (tn m)))), (6, .int (nI 0))]) [2, 5, 6, 1, 0] rfl ?_
          exact lp1 (tn m - 0 + 1) 0 (by omega) (Nat.lt_succ_self _)
        ·
          have hsg : (45 : Nat) = (if ng (rdD M (tn n) (tn a)) (rdS M (tn n) (tn a)) (tn m) = true then 45 else 43) := by cases hq : ng (rdD M (tn n) (tn a)) (rdS M (tn n) (tn a)) (tn m) with | true => rfl | false => rw [hq] at h53; cases h53
          refine xg_bipush hX (nI 45) dD_characters_56 (by decide) ?_
          refine xg_goto hX 63 dD_characters_58 (by decide) ?_
          refine xg_cV hX dq [.int (nI (tn b)), .int (nI 45)] (hM := xc_putN l D cI dq dm d1 d2 d3 d4 dw den M (tn b) 45 (by omega) (by decide)) (wr := [(d1, .inr (0, [.ref p1, .int (bI (rdS M (tn n) (tn a)))])), (p1, .inl (cI, 130, .inl (nf (rdD M (tn n) (tn a)))))]) (ws' := fun _ => [(dq, .inr (2, [.ref dm, .ref d1, .ref d2, .ref d3, .ref d4, .ref dw, .int (bI den)])), (dm, .inl (cI, 256, .inl (nf (up M (tn b) 45)))), (d1, .inr (0, [.ref p1, .int (bI (rdS M (tn n) (tn a)))])), (p1, .inl (cI, 130, .inl (nf (rdD M (tn n) (tn a)))))]) (st' := fun _ => [.int (bI true)]) [0, 1] [2, 3] [2, 3, 0, 1] [] rfl mt_93 mt_172 mt_1 mt_91 mt_92 0 rfl rfl hdD_put (by decide) ⟨rfl, rfl⟩ (by decide) rfl rfl (by decide) rfl (by decide) (by decide) (by decide) (fun u => rfl) (fun u => rfl) (fun u => rfl) rfl rfl (by simp [Value.category]) dD_characters_63 (fun _ _ => ?_)
          refine xg_pop hX dD_characters_66 rfl ?_
          refine xg_ext hX (g := chP M (rdD M (tn n) (tn a)) (if ng (rdD M (tn n) (tn a)) (rdS M (tn n) (tn a)) (tn m) = true then 45 else 43) (tn m) (tn b) 0) (ws' := [(dq, .inr (2, [.ref dm, .ref d1, .ref d2, .ref d3, .ref d4, .ref dw, .int (bI den)])), (dm, .inl (cI, 256, .inl (nf (chP M (rdD M (tn n) (tn a)) (if ng (rdD M (tn n) (tn a)) (rdS M (tn n) (tn a)) (tn m) = true then 45 else 43) (tn m) (tn b) 0)))), (d1, .inr (0, [.ref p1, .int (bI (rdS M (tn n) (tn a)))])), (p1, .inl (cI, 130, .inl (nf (rdD M (tn n) (tn a)))))]) 1 rfl (fun j hj => by rw [← hsg]; exact chP_0 j) rfl ?_
          refine xg_iconst hX (nI 0) dD_characters_67 (by decide) ?_
          refine xg_istore hX (lv' := [(6, .int (nI 0)), (5, .int (nI (flg (rdD M (tn n) (tn a)) (rdS M (tn n) (tn a)) (tn m)))), (0, .ref dq), (1, .int n), (2, .int a), (3, .int m), (4, .int b)]) dD_characters_68 (by decide) rfl ?_
          have lp5 : ∀ (fu6 : Nat) (i : Nat), (i ≤ tn m) → tn m - i < fu6 → GG D X 0 0 70 [(dq, .inr (2, [.ref dm, .ref d1, .ref d2, .ref d3, .ref d4, .ref dw, .int (bI den)])), (dm, .inl (cI, 256, .inl (nf (chP M (rdD M (tn n) (tn a)) (if ng (rdD M (tn n) (tn a)) (rdS M (tn n) (tn a)) (tn m) = true then 45 else 43) (tn m) (tn b) i)))), (d1, .inr (0, [.ref p1, .int (bI (rdS M (tn n) (tn a)))])), (p1, .inl (cI, 130, .inl (nf (rdD M (tn n) (tn a)))))] [(0, .ref dq), (3, .int m), (4, .int b), (5, .int (nI (flg (rdD M (tn n) (tn a)) (rdS M (tn n) (tn a)) (tn m)))), (6, .int (nI i))] [] := by
            intro fu6
            induction fu6 with
            | zero => intro i hi hm8; exact absurd hm8 (Nat.not_lt_zero _)
            | succ fu6 ih7 =>
              intro i hi hm8
              refine xg_iload hX 4 dD_characters_70 rfl ?_
              refine xg_iload_n hX 1 dD_characters_72 rfl rfl ?_
              refine xg_top (nI (tn m)) (cf3 h14) ?_
              refine xg_icmp_geN hX 106 (by omega) (by omega) dD_characters_73 (by decide) (fun h73 => ?_) (fun h73 => ?_)
              ·
                refine xg_iload hX 3 dD_characters_106 rfl ?_
                exact hret (nI (flg (rdD M (tn n) (tn a)) (rdS M (tn n) (tn a)) (tn m)), chP M (rdD M (tn n) (tn a)) (if ng (rdD M (tn n) (tn a)) (rdS M (tn n) (tn a)) (tn m) = true then 45 else 43) (tn m) (tn b) i, rdD M (tn n) (tn a), rdS M (tn n) (tn a)) _ _ _ rfl (show ((nI (flg (rdD M (tn n) (tn a)) (rdS M (tn n) (tn a)) (tn m))), (chP M (rdD M (tn n) (tn a)) (if ng (rdD M (tn n) (tn a)) (rdS M (tn n) (tn a)) (tn m) = true then 45 else 43) (tn m) (tn b) i)) = charZ M n a m b from (by unfold charZ; rw [if_pos hc0, show i = tn m by omega])) dD_characters_108
              ·
                refine xg_aload_n hX 0 dD_characters_76 rfl rfl ?_
                refine xg_iload hX 2 dD_characters_77 rfl ?_
                refine xg_top (nI (tn b)) (cf4 h14) ?_
                refine xg_iload_n hX 1 dD_characters_79 rfl rfl ?_
                refine xg_top (nI (tn m)) (cf3 h14) ?_
                refine xg_iaddN hX dD_characters_80 ?_
                refine xg_iload hX 4 dD_characters_81 rfl ?_
                refine xg_isubN hX (by omega) dD_characters_83 ?_
                refine xg_bipush hX (nI 48) dD_characters_84 (by decide) ?_
                refine xg_aload_n hX 0 dD_characters_86 rfl rfl ?_
                refine xg_get hX (ci := 2) rfl hinD 0 rfl 1 (by decide) mt_69 rfl dD_characters_87 ?_
                refine xg_iload hX 4 dD_characters_90 rfl ?_
                refine xg_cV hX d1 [.int (nI i)] (hM := xc_digitAt l D cI d1 p1 (rdD M (tn n) (tn a)) (rdS M (tn n) (tn a)) i (by omega)) (wr := [(dq, .inr (2, [.ref dm, .ref d1, .ref d2, .ref d3, .ref d4, .ref dw, .int (bI den)])), (dm, .inl (cI, 256, .inl (nf (chP M (rdD M (tn n) (tn a)) (if ng (rdD M (tn n) (tn a)) (rdS M (tn n) (tn a)) (tn m) = true then 45 else 43) (tn m) (tn b) i))))]) (ws' := fun _ => [(dq, .inr (2, [.ref dm, .ref d1, .ref d2, .ref d3, .ref d4, .ref dw, .int (bI den)])), (dm, .inl (cI, 256, .inl (nf (chP M (rdD M (tn n) (tn a)) (if ng (rdD M (tn n) (tn a)) (rdS M (tn n) (tn a)) (tn m) = true then 45 else 43) (tn m) (tn b) i)))), (d1, .inr (0, [.ref p1, .int (bI (rdS M (tn n) (tn a)))])), (p1, .inl (cI, 130, .inl (nf (rdD M (tn n) (tn a)))))]) (st' := fun _ => [.int (nI ((rdD M (tn n) (tn a)) i)), .int (nI 48), .int (nI (((tn b) + (tn m)) - i)), .ref dq]) [2, 3] [0, 1] [0, 1, 2, 3] [.int (nI 48), .int (nI (((tn b) + (tn m)) - i)), .ref dq] rfl mt_144 mt_171 mt_2 mt_142 mt_143 0 rfl rfl hdR_digitAt (by decide) ⟨rfl, rfl⟩ (by decide) rfl rfl (by decide) rfl (by decide) (by decide) (by decide) (fun u => rfl) (fun u => rfl) (fun u => rfl) rfl rfl (by simp [Value.category]) dD_characters_92 (fun _ _ => ?_)
                have e9 := hx i
                refine xg_iaddN hX dD_characters_95 ?_
                refine xg_cV hX dq [.int (nI (((tn b) + (tn m)) - i)), .int (nI (48 + ((rdD M (tn n) (tn a)) i)))] (hM := xc_putN l D cI dq dm d1 d2 d3 d4 dw den (chP M (rdD M (tn n) (tn a)) (if ng (rdD M (tn n) (tn a)) (rdS M (tn n) (tn a)) (tn m) = true then 45 else 43) (tn m) (tn b) i) (((tn b) + (tn m)) - i) (48 + ((rdD M (tn n) (tn a)) i)) (by omega) (by omega)) (wr := [(d1, .inr (0, [.ref p1, .int (bI (rdS M (tn n) (tn a)))])), (p1, .inl (cI, 130, .inl (nf (rdD M (tn n) (tn a)))))]) (ws' := fun _ => [(dq, .inr (2, [.ref dm, .ref d1, .ref d2, .ref d3, .ref d4, .ref dw, .int (bI den)])), (dm, .inl (cI, 256, .inl (nf (up (chP M (rdD M (tn n) (tn a)) (if ng (rdD M (tn n) (tn a)) (rdS M (tn n) (tn a)) (tn m) = true then 45 else 43) (tn m) (tn b) i) (((tn b) + (tn m)) - i) (48 + ((rdD M (tn n) (tn a)) i)))))), (d1, .inr (0, [.ref p1, .int (bI (rdS M (tn n) (tn a)))])), (p1, .inl (cI, 130, .inl (nf (rdD M (tn n) (tn a)))))]) (st' := fun _ => [.int (bI true)]) [0, 1] [2, 3] [2, 3, 0, 1] [] rfl mt_93 mt_172 mt_1 mt_91 mt_92 0 rfl rfl hdD_put (by decide) ⟨rfl, rfl⟩ (by decide) rfl rfl (by decide) rfl (by decide) (by decide) (by decide) (fun u => rfl) (fun u => rfl) (fun u => rfl) rfl rfl (by simp [Value.category]) dD_characters_96 (fun _ _ => ?_)
                refine xg_pop hX dD_characters_99 rfl ?_
                refine xg_iincN hX (lv' := [(6, .int (nI (i + 1))), (0, .ref dq), (3, .int m), (4, .int b), (5, .int (nI (flg (rdD M (tn n) (tn a)) (rdS M (tn n) (tn a)) (tn m))))]) (i + 1) 4 dD_characters_100 rfl (xn_inc _) (by decide) rfl ?_
                refine xg_goto hX 70 dD_characters_103 (by decide) ?_
                refine xg_ext hX (g := chP M (rdD M (tn n) (tn a)) (if ng (rdD M (tn n) (tn a)) (rdS M (tn n) (tn a)) (tn m) = true then 45 else 43) (tn m) (tn b) (i + 1)) (ws' := [(dq, .inr (2, [.ref dm, .ref d1, .ref d2, .ref d3, .ref d4, .ref dw, .int (bI den)])), (dm, .inl (cI, 256, .inl (nf (chP M (rdD M (tn n) (tn a)) (if ng (rdD M (tn n) (tn a)) (rdS M (tn n) (tn a)) (tn m) = true then 45 else 43) (tn m) (tn b) (i + 1))))), (d1, .inr (0, [.ref p1, .int (bI (rdS M (tn n) (tn a)))])), (p1, .inl (cI, 130, .inl (nf (rdD M (tn n) (tn a)))))]) 1 rfl (fun j hj => chP_s h73 j) rfl ?_
                refine xg_lv hX (lv' := [(0, .ref dq), (3, .int m), (4, .int b), (5, .int (nI (flg (rdD M (tn n) (tn a)) (rdS M (tn n) (tn a)) (tn m)))), (6, .int (nI (i + 1)))]) [1, 2, 3, 4, 0] rfl ?_
                exact ih7 (i + 1) (by omega) (by omega)
          refine xg_lv hX (lv' := [(0, .ref dq), (3, .int m), (4, .int b), (5, .int (nI (flg (rdD M (tn n) (tn a)) (rdS M (tn n) (tn a)) (tn m)))), (6, .int (nI 0))]) [2, 5, 6, 1, 0] rfl ?_
          exact lp5 (tn m - 0 + 1) 0 (by omega) (Nat.lt_succ_self _)
      ·
        refine xg_bipush hX ((-2)) dD_characters_32 (by decide) ?_
        exact hret ((-2), M, tA, sA) _ _ _ rfl (show ((-2), M) = charZ M n a m b from (by have hz : chO M n a m b = -2 := (by unfold chO; rw [if_pos (by rw [h5, h14]; rfl), if_neg (fun q => absurd (h29.symm.trans (huA.1.trans q)) (by decide))]); rw [charZ, hz]; exact (if_neg (by decide)).symm)) dD_characters_34
    ·
      refine xg_iconst hX ((-1)) dD_characters_17 (by decide) ?_
      exact hret ((-1), M, e1, s1) _ _ _ rfl (show ((-1), M) = charZ M n a m b from (by have hz : chO M n a m b = -1 := (by unfold chO; rw [if_neg (fun q => by simp only [Bool.and_eq_true] at q; first | exact absurd (h5.symm.trans q.1) (by decide) | exact absurd (h14.symm.trans q.2) (by decide))]); rw [charZ, hz]; exact (if_neg (by decide)).symm)) dD_characters_18
set_option maxHeartbeats 4000000 in
set_option maxRecDepth 100000 in
theorem xc_digits (l : Launch) (D : va_G) (cI : ClassId) (dq : Nat) (dm : Nat) (d1 : Nat) (d2 : Nat) (d3 : Nat) (d4 : Nat) (dw : Nat) (den : Bool) (M : Nat → Nat) (p4 : Nat) (e4 : Nat → Nat) (s4 : Bool) (n : Int32) (a : Int32) (m : Int32) (b : Int32) (hM : ∀ j, M j < 256) : Ctr l D cI yD_digits cD_digits 5 (some .int) { frames := 5, cells := 0, slots := 0, locals := 111 } [.ref dq, .int n, .int a, .int m, .int b] [(dq, .inr (2, [.ref dm, .ref d1, .ref d2, .ref d3, .ref d4, .ref dw, .int (bI den)])), (dm, .inl (cI, 256, .inl (nf M))), (d4, .inr (0, [.ref p4, .int (bI s4)])), (p4, .inl (cI, 130, .inl (nf e4)))] (fun u : Int32 × (Nat → Nat) × (Nat → Nat) × Bool => match u with | (r, M2, e4_, s4_) => some (.int r)) (fun u : Int32 × (Nat → Nat) × (Nat → Nat) × Bool => match u with | (r, M2, e4_, s4_) => (r, M2) = digZ M n a m b) (fun u : Int32 × (Nat → Nat) × (Nat → Nat) × Bool => match u with | (r, M2, e4_, s4_) => [(dq, .inr (2, [.ref dm, .ref d1, .ref d2, .ref d3, .ref d4, .ref dw, .int (bI den)])), (dm, .inl (cI, 256, .inl (nf M2))), (d4, .inr (0, [.ref p4, .int (bI s4_)])), (p4, .inl (cI, 130, .inl (nf e4_)))]) 0 0 := by
  refine xc_mkI (by decide +kernel) (Nat.le_of_ble_eq_true rfl) (fun X hX hret => ?_)
  show GG D X 0 0 0 [(dq, .inr (2, [.ref dm, .ref d1, .ref d2, .ref d3, .ref d4, .ref dw, .int (bI den)])), (dm, .inl (cI, 256, .inl (nf M))), (d4, .inr (0, [.ref p4, .int (bI s4)])), (p4, .inl (cI, 130, .inl (nf e4)))] [(0, .ref dq), (1, .int n), (2, .int a), (3, .int m), (4, .int b)] []
  refine xg_iload_n hX 1 dD_digits_0 rfl rfl ?_
  refine xg_iload_n hX 2 dD_digits_1 rfl rfl ?_
  refine xg_cS hX [.int n, .int a] (hM := xc_cfits l D cI n a) (wr := [(dq, .inr (2, [.ref dm, .ref d1, .ref d2, .ref d3, .ref d4, .ref dw, .int (bI den)])), (dm, .inl (cI, 256, .inl (nf M))), (d4, .inr (0, [.ref p4, .int (bI s4)])), (p4, .inl (cI, 130, .inl (nf e4)))]) (ws' := fun _ => [(dq, .inr (2, [.ref dm, .ref d1, .ref d2, .ref d3, .ref d4, .ref dw, .int (bI den)])), (dm, .inl (cI, 256, .inl (nf M))), (d4, .inr (0, [.ref p4, .int (bI s4)])), (p4, .inl (cI, 130, .inl (nf e4)))]) (st' := fun _ => [.int (bI (cfits n a))]) [] [0, 1, 2, 3] [0, 1, 2, 3] [] rfl mt_252 mt_250 mt_1 mt_251 hdD_charactersFit (by decide) ⟨rfl, rfl⟩ (by decide) rfl rfl (by decide) rfl (by decide) (by decide) (by decide) (fun u => rfl) (fun u => rfl) (fun u => rfl) rfl rfl (by simp [Value.category]) dD_digits_2 (fun _ _ => ?_)
  refine xg_if_eqB hX 17 dD_digits_5 (by decide) (fun h5 => ?_) (fun h5 => ?_)
  ·
    refine xg_iconst hX ((-1)) dD_digits_17 (by decide) ?_
    exact hret ((-1), M, e4, s4) _ _ _ rfl (show ((-1), M) = digZ M n a m b from (by have hz : (if (cfits n a && dfits m b) = true then (if chb M (tn n) (tn a) = true then 0 else -2) else -1 : Int32) = -1 := (by rw [if_neg (fun q => by simp only [Bool.and_eq_true] at q; first | exact absurd (h5.symm.trans q.1) (by decide) | exact absurd (h14.symm.trans q.2) (by decide))]); rw [digZ, hz]; exact (arZ_no (by decide)).symm)) dD_digits_18
  ·
    refine xg_iload_n hX 3 dD_digits_8 rfl rfl ?_
    refine xg_iload hX 4 dD_digits_9 rfl ?_
    refine xg_cS hX [.int m, .int b] (hM := xc_dfits l D cI m b) (wr := [(dq, .inr (2, [.ref dm, .ref d1, .ref d2, .ref d3, .ref d4, .ref dw, .int (bI den)])), (dm, .inl (cI, 256, .inl (nf M))), (d4, .inr (0, [.ref p4, .int (bI s4)])), (p4, .inl (cI, 130, .inl (nf e4)))]) (ws' := fun _ => [(dq, .inr (2, [.ref dm, .ref d1, .ref d2, .ref d3, .ref d4, .ref dw, .int (bI den)])), (dm, .inl (cI, 256, .inl (nf M))), (d4, .inr (0, [.ref p4, .int (bI s4)])), (p4, .inl (cI, 130, .inl (nf e4)))]) (st' := fun _ => [.int (bI (dfits m b))]) [] [0, 1, 2, 3] [0, 1, 2, 3] [] rfl mt_108 mt_106 mt_1 mt_107 hdD_decimalFits (by decide) ⟨rfl, rfl⟩ (by decide) rfl rfl (by decide) rfl (by decide) (by decide) (by decide) (fun u => rfl) (fun u => rfl) (fun u => rfl) rfl rfl (by simp [Value.category]) dD_digits_11 (fun _ _ => ?_)
    refine xg_if_neB hX 19 dD_digits_14 (by decide) (fun h14 => ?_) (fun h14 => ?_)
    ·
      refine xg_aload_n hX 0 dD_digits_19 rfl rfl ?_
      refine xg_aload_n hX 0 dD_digits_20 rfl rfl ?_
      refine xg_get hX (ci := 2) rfl hinD 0 rfl 4 (by decide) mt_72 rfl dD_digits_21 ?_
      refine xg_iload_n hX 1 dD_digits_24 rfl rfl ?_
      refine xg_top (nI (tn n)) (cf3 h5) ?_
      refine xg_iload_n hX 2 dD_digits_25 rfl rfl ?_
      refine xg_top (nI (tn a)) (cf4 h5) ?_
      refine xg_cV hX dq [.ref d4, .int (nI (tn n)), .int (nI (tn a))] (hM := xc_readChars l D cI dq dm d1 d2 d3 d4 dw den M d4 p4 e4 s4 (tn n) (tn a) (cf1 h5) (cf2 h5) hM) (wr := []) (ws' := fun u => match u with | (okA, tA, sA) => [(dq, .inr (2, [.ref dm, .ref d1, .ref d2, .ref d3, .ref d4, .ref dw, .int (bI den)])), (dm, .inl (cI, 256, .inl (nf M))), (d4, .inr (0, [.ref p4, .int (bI sA)])), (p4, .inl (cI, 130, .inl (nf tA)))]) (st' := fun u => match u with | (okA, tA, sA) => [.int (bI okA)]) [0, 1, 2, 3] [] [0, 1, 2, 3] [] rfl mt_260 mt_257 mt_1 mt_259 mp_9 0 rfl rfl hdD_readCharacters (by decide) ⟨rfl, rfl⟩ (by decide) rfl rfl (by decide) rfl (by decide) (by decide) (by decide) (fun u => rfl) (fun u => rfl) (fun u => rfl) rfl rfl (by simp [Value.category]) dD_digits_26 (fun u hu => ?_)
      obtain ⟨okA, tA, sA⟩ := u
      have huA : okA = chb M (tn n) (tn a) ∧ (okA = true → tA = chD M (tn n) (tn a) ∧ sA = chS M (tn n) (tn a)) := hu
      show GG D X 0 0 29 [(dq, .inr (2, [.ref dm, .ref d1, .ref d2, .ref d3, .ref d4, .ref dw, .int (bI den)])), (dm, .inl (cI, 256, .inl (nf M))), (d4, .inr (0, [.ref p4, .int (bI sA)])), (p4, .inl (cI, 130, .inl (nf tA)))] [(0, .ref dq), (1, .int n), (2, .int a), (3, .int m), (4, .int b)] [.int (bI okA)]
      refine xg_if_neB hX 35 dD_digits_29 (by decide) (fun h29 => ?_) (fun h29 => ?_)
      ·
        have g1 := huA.1.symm.trans h29
        have hx := chD_lt (chb_iff.mp g1).2
        obtain ⟨rfl, rfl⟩ := huA.2 h29
        refine xg_aload_n hX 0 dD_digits_35 rfl rfl ?_
        refine xg_aload_n hX 0 dD_digits_36 rfl rfl ?_
        refine xg_get hX (ci := 2) rfl hinD 0 rfl 4 (by decide) mt_72 rfl dD_digits_37 ?_
        refine xg_iload_n hX 3 dD_digits_40 rfl rfl ?_
        refine xg_top (nI (tn m)) (df3 h14) ?_
        refine xg_iload hX 4 dD_digits_41 rfl ?_
        refine xg_top (nI (tn b)) (df4 h14) ?_
        refine xg_cV hX dq [.ref d4, .int (nI (tn m)), .int (nI (tn b))] (hM := xc_writeDecimal l D cI dq dm d1 d2 d3 d4 dw den M d4 p4 (chD M (tn n) (tn a)) (chS M (tn n) (tn a)) (tn m) (tn b) (df1 h14) (df2 h14) hx) (wr := []) (ws' := fun _ => [(dq, .inr (2, [.ref dm, .ref d1, .ref d2, .ref d3, .ref d4, .ref dw, .int (bI den)])), (dm, .inl (cI, 256, .inl (nf (wrM M (chD M (tn n) (tn a)) (chS M (tn n) (tn a)) (tn m) (tn b))))), (d4, .inr (0, [.ref p4, .int (bI (chS M (tn n) (tn a)))])), (p4, .inl (cI, 130, .inl (nf (chD M (tn n) (tn a)))))]) (st' := fun _ => [.int (nI (flg (chD M (tn n) (tn a)) (chS M (tn n) (tn a)) (tn m)))]) [0, 1, 2, 3] [] [0, 1, 2, 3] [] rfl mt_166 mt_163 mt_1 mt_165 mp_5 0 rfl rfl hdD_writeDecimal (by decide) ⟨rfl, rfl⟩ (by decide) rfl rfl (by decide) rfl (by decide) (by decide) (by decide) (fun u => rfl) (fun u => rfl) (fun u => rfl) rfl rfl (by simp [Value.category]) dD_digits_43 (fun _ _ => ?_)
        exact hret (nI (flg (chD M (tn n) (tn a)) (chS M (tn n) (tn a)) (tn m)), wrM M (chD M (tn n) (tn a)) (chS M (tn n) (tn a)) (tn m) (tn b), chD M (tn n) (tn a), chS M (tn n) (tn a)) _ _ _ rfl (show ((nI (flg (chD M (tn n) (tn a)) (chS M (tn n) (tn a)) (tn m))), (wrM M (chD M (tn n) (tn a)) (chS M (tn n) (tn a)) (tn m) (tn b))) = digZ M n a m b from (by have hz : (if (cfits n a && dfits m b) = true then (if chb M (tn n) (tn a) = true then 0 else -2) else -1 : Int32) = 0 := (by rw [if_pos (by rw [h5, h14]; rfl), if_pos g1]); rw [digZ, hz]; exact arZ_ys.symm)) dD_digits_46
      ·
        refine xg_bipush hX ((-2)) dD_digits_32 (by decide) ?_
        exact hret ((-2), M, tA, sA) _ _ _ rfl (show ((-2), M) = digZ M n a m b from (by have hz : (if (cfits n a && dfits m b) = true then (if chb M (tn n) (tn a) = true then 0 else -2) else -1 : Int32) = -2 := (by rw [if_pos (by rw [h5, h14]; rfl), if_neg (fun q => absurd (h29.symm.trans (huA.1.trans q)) (by decide))]); rw [digZ, hz]; exact (arZ_no (by decide)).symm)) dD_digits_34
    ·
      refine xg_iconst hX ((-1)) dD_digits_17 (by decide) ?_
      exact hret ((-1), M, e4, s4) _ _ _ rfl (show ((-1), M) = digZ M n a m b from (by have hz : (if (cfits n a && dfits m b) = true then (if chb M (tn n) (tn a) = true then 0 else -2) else -1 : Int32) = -1 := (by rw [if_neg (fun q => by simp only [Bool.and_eq_true] at q; first | exact absurd (h5.symm.trans q.1) (by decide) | exact absurd (h14.symm.trans q.2) (by decide))]); rw [digZ, hz]; exact (arZ_no (by decide)).symm)) dD_digits_18
set_option maxHeartbeats 4000000 in
set_option maxRecDepth 100000 in
theorem xc_signif (l : Launch) (D : va_G) (cI : ClassId) (dq : Nat) (dm : Nat) (d1 : Nat) (d2 : Nat) (d3 : Nat) (d4 : Nat) (dw : Nat) (den : Bool) (M : Nat → Nat) : Ctr l D cI yD_significant cD_significant 1 (some .boolean) { frames := 0, cells := 0, slots := 0, locals := 0 } [.ref dq] [(dq, .inr (2, [.ref dm, .ref d1, .ref d2, .ref d3, .ref d4, .ref dw, .int (bI den)])), (dm, .inl (cI, 256, .inl (nf M)))] (fun _ : Unit => some (.int (bI den))) (fun _ : Unit => True) (fun _ : Unit => [(dq, .inr (2, [.ref dm, .ref d1, .ref d2, .ref d3, .ref d4, .ref dw, .int (bI den)])), (dm, .inl (cI, 256, .inl (nf M)))]) 0 0 := by
  refine xc_mkZ (by decide +kernel) (Nat.le_of_ble_eq_true rfl) (fun X hX hret => ?_)
  show GG D X 0 0 0 [(dq, .inr (2, [.ref dm, .ref d1, .ref d2, .ref d3, .ref d4, .ref dw, .int (bI den)])), (dm, .inl (cI, 256, .inl (nf M)))] [(0, .ref dq)] []
  refine xg_aload_n hX 0 dD_significant_0 rfl rfl ?_
  refine xg_get hX (ci := 2) rfl hinD 0 rfl 6 (by decide) mt_74 rfl dD_significant_1 ?_
  exact hret () _ _ _ rfl (xn_narB _) trivial dD_significant_4
end
section
theorem pWr_le {c : Nat} {u v : PW} (h : pWr c u = some v) : v.2.1 ≤ 64 ∧ v.2.2.1 ≤ u.2.2.1 := by
  obtain ⟨rfl, q⟩ := pWr_cn h
  exact ⟨q, Nat.le_refl _⟩
theorem pFl_le (x : Nat) : ∀ {u v : PW}, pFl x u = some v → u.2.1 ≤ 64 → v.2.1 ≤ 64 ∧ v.2.2.1 ≤ u.2.2.1 := by
  induction x with
  | zero => intro u v h hu; cases h; exact ⟨hu, Nat.le_refl _⟩
  | succ x ih =>
    intro u v h hu
    unfold pFl at h
    cases h3 : pWr u.2.2.2.2.1 u with
    | none => rw [h3] at h; cases h
    | some w =>
      rw [h3] at h
      have h1 := pWr_le h3
      have h2 := ih (show pFl x w = some v from h) h1.1
      exact ⟨h2.1, Nat.le_trans h2.2 h1.2⟩
theorem pDs_le {T : Nat → Nat} {sd : Bool} (x : Nat) : ∀ {u v : PW}, pDs T sd x u = some v → u.2.1 ≤ 64 → v.2.1 ≤ 64 ∧ v.2.2.1 ≤ u.2.2.1 := by
  induction x with
  | zero => intro u v h hu; cases h; exact ⟨hu, Nat.le_refl _⟩
  | succ x ih =>
    intro u v h hu
    unfold pDs at h
    by_cases h0 : u.2.2.1 = 0
    · rw [if_pos h0] at h; cases h
    · rw [if_neg h0] at h
      cases h3 : pDg T sd u with
      | none => rw [h3] at h; cases h
      | some w =>
        rw [h3] at h
        have h1 := pDg_lf h3
        have h2 := ih (show pDs T sd x w = some v from h) h1.2
        exact ⟨h2.1, by omega⟩
theorem pL8_le {zr : Bool} {x : Nat} {u v : PW} (h : pL8 zr x u = some v) (hu : u.2.1 ≤ 64) : v.2.1 ≤ 64 ∧ v.2.2.1 ≤ u.2.2.1 := by
  obtain ⟨W, cn, lf, sg, fi, si⟩ := u
  simp only [pL8] at h
  by_cases h0 : cn < x
  · rw [if_pos h0] at h; cases h
  · rw [if_neg h0] at h; cases h; exact ⟨hu, Nat.le_refl _⟩
theorem pNx_le {bl zr : Bool} {k x : Nat} {u v : PW} (h : pNx bl zr k x u = some v) (hu : u.2.1 ≤ 64) : v.2.1 ≤ 64 ∧ v.2.2.1 ≤ u.2.2.1 := by
  obtain ⟨W, cn, lf, sg, fi, si⟩ := u
  simp only [pNx] at h
  by_cases h4 : k = 4
  · rw [if_pos h4] at h; cases h; exact ⟨hu, Nat.le_refl _⟩
  · rw [if_neg h4] at h
    by_cases h5 : k = 5
    · rw [if_pos h5] at h; cases h; exact ⟨hu, Nat.le_refl _⟩
    · rw [if_neg h5] at h
      by_cases h6 : k = 6
      · rw [if_pos h6] at h; cases h; exact ⟨hu, Nat.le_refl _⟩
      · rw [if_neg h6] at h
        by_cases h7 : k = 7
        · rw [if_pos h7] at h; exact pWr_le h
        · rw [if_neg h7] at h; exact pL8_le h hu
theorem pOb_le {T : Nat → Nat} {bl zr : Bool} {k : Nat} {nx : Option Nat} {u v : PW} (h : pOb T bl zr k nx u = some v) (hu : u.2.1 ≤ 64) : v.2.1 ≤ 64 ∧ v.2.2.1 ≤ u.2.2.1 := by
  unfold pOb at h
  by_cases h1 : 160 < k ∧ k ≤ 175
  · rw [if_pos h1] at h; exact pDs_le _ h hu
  · rw [if_neg h1] at h
    by_cases h2 : 144 < k ∧ k ≤ 159
    · rw [if_pos h2] at h; exact pDs_le _ h hu
    · rw [if_neg h2] at h
      by_cases h3 : 128 < k ∧ k ≤ 143
      · rw [if_pos h3] at h; exact pFl_le _ h hu
      · rw [if_neg h3] at h
        by_cases h4 : 4 ≤ k ∧ k ≤ 8
        · rw [if_pos h4] at h
          cases nx with
          | none => cases h
          | some x => exact pNx_le (show pNx bl zr k x u = some v from h) hu
        · rw [if_neg h4] at h
          by_cases h5 : k = 1 ∨ k = 2
          · rw [if_pos h5] at h; cases h; exact ⟨hu, Nat.le_refl _⟩
          · rw [if_neg h5] at h
            by_cases h6 : k = 3
            · rw [if_pos h6] at h; exact pWr_le h
            · rw [if_neg h6] at h; cases h
theorem nxO_in {M : Nat → Nat} {x : Int32} {k : Nat} (h : nxO M x = some k) : 0 ≤ x.toInt ∧ x.toInt < 256 ∧ k = M x.toInt.toNat := by
  unfold nxO at h
  by_cases q : 0 ≤ x.toInt ∧ x.toInt < 256
  · rw [if_pos q] at h; exact ⟨q.1, q.2, (Option.some.inj h).symm⟩
  · rw [if_neg q] at h; cases h
theorem nxO_lt {M : Nat → Nat} (hM : ∀ j, M j < 256) (x : Int32) : ∀ y, nxO M x = some y → y < 256 := fun y h => by rw [(nxO_in h).2.2]; exact hM _
theorem fol_none {M T : Nat → Nat} {bl zr : Bool} {n : Nat} {p : Int32} {u : PW} (h : nxO M p = none) : fol M T bl zr n p u = none := by
  cases n with
  | zero => rfl
  | succ n => unfold fol; rw [h]; rfl
theorem fol_0 {M T : Nat → Nat} {bl zr : Bool} {n : Nat} {p : Int32} {u : PW} (h : nxO M p = some 0) : fol M T bl zr (n + 1) p u = if u.2.2.1 = 0 then some u else none := by
  unfold fol; rw [h]; rfl
theorem fol_last {M T : Nat → Nat} {bl zr : Bool} {k : Nat} {p : Int32} {u : PW} (h : nxO M p = some k) (hk : 0 < k) : fol M T bl zr (0 + 1) p u = none := by
  unfold fol; rw [h]
  show (if k = 0 then _ else _) = _
  rw [if_neg (by omega)]; rfl
theorem fol_s {M T : Nat → Nat} {bl zr : Bool} {n k : Nat} {p : Int32} {u : PW} (h : nxO M p = some k) (hk : 0 < k) (hn : 0 < n) : fol M T bl zr (n + 1) p u = (pOb T bl zr k (nxO M (p + 1)) u).bind (fol M T bl zr n (p + nI (if takesN k = true then 2 else 1))) := by
  rw [fol, h]
  show (if k = 0 then _ else _) = _
  rw [if_neg (by omega), if_neg (by omega)]
theorem fol_le {M T : Nat → Nat} {bl zr : Bool} {n : Nat} : ∀ {p : Int32} {u v : PW}, fol M T bl zr n p u = some v → u.2.1 ≤ 64 → v.2.1 ≤ 64 := by
  induction n with
  | zero => intro p u v h; cases h
  | succ n ih =>
    intro p u v h hu
    cases hx : nxO M p with
    | none => rw [fol_none hx] at h; cases h
    | some k =>
      by_cases h0 : k = 0
      · subst h0
        rw [fol_0 hx] at h
        by_cases h1 : u.2.2.1 = 0
        · rw [if_pos h1] at h; cases h; exact hu
        · rw [if_neg h1] at h; cases h
      · by_cases hn : n = 0
        · subst hn; rw [fol_last hx (by omega)] at h; cases h
        · rw [fol_s hx (by omega) (by omega)] at h
          cases h3 : pOb T bl zr k (nxO M (p + 1)) u with
          | none => rw [h3] at h; cases h
          | some w =>
            rw [h3] at h
            exact ih (show fol M T bl zr n _ w = some v from h) (pOb_le h3 hu).1
/-- all that was written is a byte, and so are fill and sign -/
def pbO (u : PW) : Prop := (∀ j, j < u.2.1 → u.1 j < 256) ∧ u.2.2.2.2.1 < 256 ∧ u.2.2.2.2.2 < 256
theorem pbO_wr {c : Nat} {u v : PW} (h : pWr c u = some v) (hc : c < 256) (hu : pbO u) : pbO v := by
  obtain ⟨rfl, q⟩ := pWr_cn h
  refine ⟨fun j hj => ?_, hu.2.1, hu.2.2⟩
  show up u.1 u.2.1 c j < 256
  by_cases h1 : j = u.2.1
  · rw [h1, up_s]; exact hc
  · rw [up_n h1]; exact hu.1 j (by have h2 : j < u.2.1 + 1 := hj; omega)
theorem pbO_fl (x : Nat) : ∀ {u v : PW}, pFl x u = some v → pbO u → pbO v := by
  induction x with
  | zero => intro u v h hu; cases h; exact hu
  | succ x ih =>
    intro u v h hu
    unfold pFl at h
    cases h3 : pWr u.2.2.2.2.1 u with
    | none => rw [h3] at h; cases h
    | some w =>
      rw [h3] at h
      exact ih (show pFl x w = some v from h) (pbO_wr h3 hu.2.1 hu)
theorem pbO_dg {T : Nat → Nat} {sd : Bool} {u v : PW} (hT : ∀ j, T j < 10) (h : pDg T sd u = some v) (hu : pbO u) : pbO v := by
  obtain ⟨W, cn, lf, sg, fi, si⟩ := u
  have ht := hT (lf - 1)
  simp only [pDg] at h
  by_cases h1 : T (lf - 1) = 0 ∧ sg = false
  · rw [if_pos h1] at h
    exact pbO_wr h hu.2.1 hu
  · rw [if_neg h1] at h
    by_cases h2 : sd = true ∧ sg = false
    · rw [if_pos h2] at h
      cases h3 : pWr si (W, cn, lf - 1, true, fi, si) with
      | none => rw [h3] at h; cases h
      | some w =>
        rw [h3] at h
        have h4 : pbO w := pbO_wr h3 hu.2.2 hu
        exact pbO_wr (show pWr _ _ = some v from h) (by omega) h4
    · rw [if_neg h2] at h
      exact pbO_wr h (by omega) hu
theorem pbO_ds {T : Nat → Nat} {sd : Bool} (hT : ∀ j, T j < 10) (x : Nat) : ∀ {u v : PW}, pDs T sd x u = some v → pbO u → pbO v := by
  induction x with
  | zero => intro u v h hu; cases h; exact hu
  | succ x ih =>
    intro u v h hu
    unfold pDs at h
    by_cases h0 : u.2.2.1 = 0
    · rw [if_pos h0] at h; cases h
    · rw [if_neg h0] at h
      cases h3 : pDg T sd u with
      | none => rw [h3] at h; cases h
      | some w =>
        rw [h3] at h
        exact ih (show pDs T sd x w = some v from h) (pbO_dg hT h3 hu)
theorem pbO_l8 {zr : Bool} {x : Nat} {u v : PW} (h : pL8 zr x u = some v) (hu : pbO u) : pbO v := by
  obtain ⟨W, cn, lf, sg, fi, si⟩ := u
  simp only [pL8] at h
  by_cases h0 : cn < x
  · rw [if_pos h0] at h; cases h
  · rw [if_neg h0] at h; cases h
    refine ⟨fun j hj => ?_, hu.2.1, hu.2.2⟩
    have h1 := hu.1 j hj
    have h2 := hu.2.1
    cases zr with
    | false => exact h1
    | true =>
      show (if cn - x ≤ j ∧ j < cn then fi else W j) < 256
      by_cases q : cn - x ≤ j ∧ j < cn
      · rw [if_pos q]; exact h2
      · rw [if_neg q]; exact h1
theorem pbO_nx {bl zr : Bool} {k x : Nat} {u v : PW} (hx : x < 256) (h : pNx bl zr k x u = some v) (hu : pbO u) : pbO v := by
  obtain ⟨W, cn, lf, sg, fi, si⟩ := u
  obtain ⟨u1, u2, u3⟩ := hu
  simp only [pNx] at h
  by_cases h4 : k = 4
  · rw [if_pos h4] at h; cases h; exact ⟨u1, hx, u3⟩
  · rw [if_neg h4] at h
    by_cases h5 : k = 5
    · rw [if_pos h5] at h; cases h; refine ⟨u1, u2, ?_⟩
      show (if bl = true then si else x) < 256
      split
      · exact u3
      · exact hx
    · rw [if_neg h5] at h
      by_cases h6 : k = 6
      · rw [if_pos h6] at h; cases h; refine ⟨u1, u2, ?_⟩
        show (if bl = true then x else si) < 256
        split
        · exact hx
        · exact u3
      · rw [if_neg h6] at h
        by_cases h7 : k = 7
        · rw [if_pos h7] at h
          refine pbO_wr h ?_ ⟨u1, u2, u3⟩
          split
          · exact hx
          · exact u2
        · rw [if_neg h7] at h; exact pbO_l8 h ⟨u1, u2, u3⟩
theorem pbO_ob {T : Nat → Nat} {bl zr : Bool} {k : Nat} {nx : Option Nat} {u v : PW} (hT : ∀ j, T j < 10) (hnx : ∀ y, nx = some y → y < 256) (h : pOb T bl zr k nx u = some v) (hu : pbO u) : pbO v := by
  unfold pOb at h
  by_cases h1 : 160 < k ∧ k ≤ 175
  · rw [if_pos h1] at h; exact pbO_ds hT _ h hu
  · rw [if_neg h1] at h
    by_cases h2 : 144 < k ∧ k ≤ 159
    · rw [if_pos h2] at h; exact pbO_ds hT _ h hu
    · rw [if_neg h2] at h
      by_cases h3 : 128 < k ∧ k ≤ 143
      · rw [if_pos h3] at h; exact pbO_fl _ h hu
      · rw [if_neg h3] at h
        by_cases h4 : 4 ≤ k ∧ k ≤ 8
        · rw [if_pos h4] at h
          cases nx with
          | none => cases h
          | some x => exact pbO_nx (hnx x rfl) (show pNx bl zr k x u = some v from h) hu
        · rw [if_neg h4] at h
          by_cases h5 : k = 1 ∨ k = 2
          · rw [if_pos h5] at h; cases h; exact hu
          · rw [if_neg h5] at h
            by_cases h6 : k = 3
            · rw [if_pos h6] at h; exact pbO_wr h hu.2.2 hu
            · rw [if_neg h6] at h; cases h
theorem pbO_fol {M T : Nat → Nat} {bl zr : Bool} (hM : ∀ j, M j < 256) (hT : ∀ j, T j < 10) {n : Nat} : ∀ {p : Int32} {u v : PW}, fol M T bl zr n p u = some v → pbO u → pbO v := by
  induction n with
  | zero => intro p u v h; cases h
  | succ n ih =>
    intro p u v h hu
    cases hx : nxO M p with
    | none => rw [fol_none hx] at h; cases h
    | some k =>
      by_cases h0 : k = 0
      · subst h0
        rw [fol_0 hx] at h
        by_cases h1 : u.2.2.1 = 0
        · rw [if_pos h1] at h; cases h; exact hu
        · rw [if_neg h1] at h; cases h
      · by_cases hn : n = 0
        · subst hn; rw [fol_last hx (by omega)] at h; cases h
        · rw [fol_s hx (by omega) (by omega)] at h
          cases h3 : pOb T bl zr k (nxO M (p + 1)) u with
          | none => rw [h3] at h; cases h
          | some w =>
            rw [h3] at h
            exact ih (show fol M T bl zr n _ w = some v from h) (pbO_ob hT (nxO_lt hM _) h3 hu)
theorem fol_W {M W : Nat → Nat} {n a p : Int32} {v : PW} (hM : ∀ j, M j < 256) (hx : ∀ j, rdD M (tn n) (tn a) j < 10) (h : edP M W n a p = some v) : ∀ j, j < v.2.1 → v.1 j < 256 :=
  (pbO_fol hM hx h ⟨fun j hj => absurd hj (Nat.not_lt_zero _), (show 32 < 256 by decide), by show (if rdS M (tn n) (tn a) = true then 45 else 32) < 256; split <;> decide⟩).1
end
section
set_option maxHeartbeats 4000000 in
set_option maxRecDepth 100000 in
theorem xc_follow (l : Launch) (D : va_G) (cI : ClassId) (dq : Nat) (dm : Nat) (d1 : Nat) (d2 : Nat) (d3 : Nat) (d4 : Nat) (dw : Nat) (den : Bool) (M : Nat → Nat) (pw : Nat) (pt : Nat) (cn : Nat) (lf : Nat) (sg : Bool) (bl : Bool) (zr : Bool) (fi : Nat) (si : Nat) (W : Nat → Nat) (T : Nat → Nat) (p : Int32) (hM : ∀ j, M j < 256) (hT : ∀ j, T j < 10) (hcn : cn ≤ 64) (hlf : lf ≤ 31) : Ctr l D cI yD_followPattern cD_followPattern 5 (some .boolean) { frames := 4, cells := 0, slots := 0, locals := 90 } [.ref dq, .int p] [(dq, .inr (2, [.ref dm, .ref d1, .ref d2, .ref d3, .ref d4, .ref dw, .int (bI den)])), (dm, .inl (cI, 256, .inl (nf M))), (dw, .inr (1, [.ref pw, .ref pt, .int (nI cn), .int (nI lf), .int (bI sg), .int (bI bl), .int (bI zr), .int (nI fi), .int (nI si)])), (pw, .inl (cI, 64, .inl (nf W))), (pt, .inl (cI, 31, .inl (nf T)))] (fun u : Bool × (Nat → Nat) × Nat × Nat × Bool × Nat × Nat => match u with | (ok, W2, cn2, lf2, sg2, fi2, si2) => some (.int (bI ok))) (fun u : Bool × (Nat → Nat) × Nat × Nat × Bool × Nat × Nat => match u with | (ok, W2, cn2, lf2, sg2, fi2, si2) => pres ok (fol M T bl zr 64 p (W, cn, lf, sg, fi, si)) (W2, cn2, lf2, sg2, fi2, si2)) (fun u : Bool × (Nat → Nat) × Nat × Nat × Bool × Nat × Nat => match u with | (ok, W2, cn2, lf2, sg2, fi2, si2) => [(dq, .inr (2, [.ref dm, .ref d1, .ref d2, .ref d3, .ref d4, .ref dw, .int (bI den)])), (dm, .inl (cI, 256, .inl (nf M))), (dw, .inr (1, [.ref pw, .ref pt, .int (nI cn2), .int (nI lf2), .int (bI sg2), .int (bI bl), .int (bI zr), .int (nI fi2), .int (nI si2)])), (pw, .inl (cI, 64, .inl (nf W2))), (pt, .inl (cI, 31, .inl (nf T)))]) 0 0 := by
  refine xc_mkZ (by decide +kernel) (Nat.le_of_ble_eq_true rfl) (fun X hX hret => ?_)
  show GG D X 0 0 0 [(dq, .inr (2, [.ref dm, .ref d1, .ref d2, .ref d3, .ref d4, .ref dw, .int (bI den)])), (dm, .inl (cI, 256, .inl (nf M))), (dw, .inr (1, [.ref pw, .ref pt, .int (nI cn), .int (nI lf), .int (bI sg), .int (bI bl), .int (bI zr), .int (nI fi), .int (nI si)])), (pw, .inl (cI, 64, .inl (nf W))), (pt, .inl (cI, 31, .inl (nf T)))] [(0, .ref dq), (1, .int p)] []
  refine xg_iload_n hX 1 dD_followPattern_0 rfl rfl ?_
  refine xg_istore_n hX (lv' := [(2, .int p), (0, .ref dq), (1, .int p)]) dD_followPattern_1 rfl (by decide) rfl ?_
  refine xg_iconst hX (nI 1) dD_followPattern_2 (by decide) ?_
  refine xg_istore_n hX (lv' := [(3, .int (nI 1)), (2, .int p), (0, .ref dq), (1, .int p)]) dD_followPattern_3 rfl (by decide) rfl ?_
  have lp1 : ∀ (fu2 : Nat) (s_ : Nat) (z : Int32) (Vw : Nat → Nat) (vc : Nat) (vl : Nat) (vs : Bool) (vf : Nat) (vi : Nat), (1 ≤ s_) → (s_ ≤ 65) → (vc ≤ 64) → (vl ≤ 31) → (fol M T bl zr 64 p (W, cn, lf, sg, fi, si) = fol M T bl zr (65 - s_) z (Vw, vc, vl, vs, vf, vi)) → 65 - s_ < fu2 → GG D X 0 0 4 [(dq, .inr (2, [.ref dm, .ref d1, .ref d2, .ref d3, .ref d4, .ref dw, .int (bI den)])), (dm, .inl (cI, 256, .inl (nf M))), (dw, .inr (1, [.ref pw, .ref pt, .int (nI vc), .int (nI vl), .int (bI vs), .int (bI bl), .int (bI zr), .int (nI vf), .int (nI vi)])), (pw, .inl (cI, 64, .inl (nf Vw))), (pt, .inl (cI, 31, .inl (nf T)))] [(0, .ref dq), (1, .int p), (2, .int z), (3, .int (nI s_))] [] := by
    intro fu2
    induction fu2 with
    | zero => intro s_ z Vw vc vl vs vf vi hs1 hs2 hvc hvl hq hm4; exact absurd hm4 (Nat.not_lt_zero _)
    | succ fu2 ih3 =>
      intro s_ z Vw vc vl vs vf vi hs1 hs2 hvc hvl hq hm4
      refine xg_iload_n hX 3 dD_followPattern_4 rfl rfl ?_
      refine xg_bipush hX (nI 64) dD_followPattern_5 (by decide) ?_
      refine xg_icmp_gtN hX 94 (by omega) (by omega) dD_followPattern_7 (by decide) (fun h7 => ?_) (fun h7 => ?_)
      ·
        refine xg_iconst hX (nI 0) dD_followPattern_94 (by decide) ?_
        refine xg_top (bI false) rfl ?_
        exact hret (false, Vw, vc, vl, vs, vf, vi) _ _ _ rfl (xn_narB _) (show pres false (fol M T bl zr 64 p (W, cn, lf, sg, fi, si)) (Vw, vc, vl, vs, vf, vi) from (pres_f (by rw [hq, show 65 - s_ = 0 by omega]; rfl))) dD_followPattern_95
      ·
        refine xg_aload_n hX 0 dD_followPattern_10 rfl rfl ?_
        refine xg_iload_n hX 2 dD_followPattern_11 rfl rfl ?_
        refine xg_cV hX dq [.int z] (hM := xc_byteOf l D cI dq dm d1 d2 d3 d4 dw den M z) (wr := [(dw, .inr (1, [.ref pw, .ref pt, .int (nI vc), .int (nI vl), .int (bI vs), .int (bI bl), .int (bI zr), .int (nI vf), .int (nI vi)])), (pw, .inl (cI, 64, .inl (nf Vw))), (pt, .inl (cI, 31, .inl (nf T)))]) (ws' := fun _ => [(dq, .inr (2, [.ref dm, .ref d1, .ref d2, .ref d3, .ref d4, .ref dw, .int (bI den)])), (dm, .inl (cI, 256, .inl (nf M))), (dw, .inr (1, [.ref pw, .ref pt, .int (nI vc), .int (nI vl), .int (bI vs), .int (bI bl), .int (bI zr), .int (nI vf), .int (nI vi)])), (pw, .inl (cI, 64, .inl (nf Vw))), (pt, .inl (cI, 31, .inl (nf T)))]) (st' := fun _ => [.int (byt M z)]) [0, 1] [2, 3, 4] [3, 4, 0, 1, 2] [] rfl mt_97 mt_117 mt_1 mt_95 mt_96 0 rfl rfl hdD_byteOf (by decide) ⟨rfl, rfl⟩ (by decide) rfl rfl (by decide) rfl (by decide) (by decide) (by decide) (fun u => rfl) (fun u => rfl) (fun u => rfl) rfl rfl (by simp [Value.category]) dD_followPattern_12 (fun _ _ => ?_)
        refine xg_top (nxI (nxO M z)) (nxO_I M z) ?_
        cases hnx : nxO M z with
        | none =>
          show GG D X 0 0 15 [(dq, .inr (2, [.ref dm, .ref d1, .ref d2, .ref d3, .ref d4, .ref dw, .int (bI den)])), (dm, .inl (cI, 256, .inl (nf M))), (dw, .inr (1, [.ref pw, .ref pt, .int (nI vc), .int (nI vl), .int (bI vs), .int (bI bl), .int (bI zr), .int (nI vf), .int (nI vi)])), (pw, .inl (cI, 64, .inl (nf Vw))), (pt, .inl (cI, 31, .inl (nf T)))] [(0, .ref dq), (1, .int p), (2, .int z), (3, .int (nI s_))] [.int (-1)]
          refine xg_istore hX (lv' := [(4, .int (-1)), (0, .ref dq), (1, .int p), (2, .int z), (3, .int (nI s_))]) dD_followPattern_15 (by decide) rfl ?_
          refine xg_iload hX 0 dD_followPattern_17 rfl ?_
          refine xg_if_ne hX 38 dD_followPattern_19 (by decide) (fun _ => ?_) (fun h => absurd h (by decide))
          refine xg_iload hX 0 dD_followPattern_38 rfl ?_
          refine xg_if_lt hX 49 dD_followPattern_40 (by decide) (fun _ => ?_) (fun h => absurd (by decide) h)
          refine xg_iconst hX (nI 0) dD_followPattern_49 (by decide) ?_
          refine xg_top (bI false) rfl ?_
          exact hret (false, Vw, vc, vl, vs, vf, vi) _ _ _ rfl (xn_narB _) (show pres false (fol M T bl zr 64 p (W, cn, lf, sg, fi, si)) (Vw, vc, vl, vs, vf, vi) from (pres_f (by first | (rw [hq, fol_none hnx]; done) | (rw [hq, show 65 - s_ = 0 + 1 by omega]; exact fol_last hnx h19)))) dD_followPattern_50
        | some k =>
          have hk := nxO_lt hM z k hnx
          show GG D X 0 0 15 [(dq, .inr (2, [.ref dm, .ref d1, .ref d2, .ref d3, .ref d4, .ref dw, .int (bI den)])), (dm, .inl (cI, 256, .inl (nf M))), (dw, .inr (1, [.ref pw, .ref pt, .int (nI vc), .int (nI vl), .int (bI vs), .int (bI bl), .int (bI zr), .int (nI vf), .int (nI vi)])), (pw, .inl (cI, 64, .inl (nf Vw))), (pt, .inl (cI, 31, .inl (nf T)))] [(0, .ref dq), (1, .int p), (2, .int z), (3, .int (nI s_))] [.int (nI k)]
          refine xg_istore hX (lv' := [(4, .int (nI k)), (0, .ref dq), (1, .int p), (2, .int z), (3, .int (nI s_))]) dD_followPattern_15 (by decide) rfl ?_
          refine xg_iload hX 0 dD_followPattern_17 rfl ?_
          refine xg_if_neN hX 38 (by omega) dD_followPattern_19 (by decide) (fun h19 => ?_) (fun h19 => ?_)
          ·
            refine xg_iload hX 0 dD_followPattern_38 rfl ?_
            refine xg_if_ltN hX 49 (by omega) dD_followPattern_40 (by decide) ?_
            refine xg_iload_n hX 4 dD_followPattern_43 rfl rfl ?_
            refine xg_bipush hX (nI 64) dD_followPattern_44 (by decide) ?_
            refine xg_icmp_neN hX 51 (by omega) (by omega) dD_followPattern_46 (by decide) (fun h46 => ?_) (fun h46 => ?_)
            ·
              refine xg_aload_n hX 1 dD_followPattern_51 rfl rfl ?_
              refine xg_get hX (ci := 2) rfl hinD 0 rfl 5 (by decide) mt_73 rfl dD_followPattern_52 ?_
              refine xg_iload hX 0 dD_followPattern_55 rfl ?_
              refine xg_aload_n hX 1 dD_followPattern_57 rfl rfl ?_
              refine xg_iload_n hX 3 dD_followPattern_58 rfl rfl ?_
              refine xg_iconst hX (nI 1) dD_followPattern_59 (by decide) ?_
              refine xg_iadd hX dD_followPattern_60 ?_
              refine xg_cV hX dq [.int (z + (nI 1))] (hM := xc_byteOf l D cI dq dm d1 d2 d3 d4 dw den M (z + (nI 1))) (wr := [(dw, .inr (1, [.ref pw, .ref pt, .int (nI vc), .int (nI vl), .int (bI vs), .int (bI bl), .int (bI zr), .int (nI vf), .int (nI vi)])), (pw, .inl (cI, 64, .inl (nf Vw))), (pt, .inl (cI, 31, .inl (nf T)))]) (ws' := fun _ => [(dq, .inr (2, [.ref dm, .ref d1, .ref d2, .ref d3, .ref d4, .ref dw, .int (bI den)])), (dm, .inl (cI, 256, .inl (nf M))), (dw, .inr (1, [.ref pw, .ref pt, .int (nI vc), .int (nI vl), .int (bI vs), .int (bI bl), .int (bI zr), .int (nI vf), .int (nI vi)])), (pw, .inl (cI, 64, .inl (nf Vw))), (pt, .inl (cI, 31, .inl (nf T)))]) (st' := fun _ => [.int (byt M (z + (nI 1))), .int (nI k), .ref dw]) [0, 1] [2, 3, 4] [3, 4, 0, 1, 2] [.int (nI k), .ref dw] rfl mt_97 mt_117 mt_1 mt_95 mt_96 0 rfl rfl hdD_byteOf (by decide) ⟨rfl, rfl⟩ (by decide) rfl rfl (by decide) rfl (by decide) (by decide) (by decide) (fun u => rfl) (fun u => rfl) (fun u => rfl) rfl rfl (by simp [Value.category]) dD_followPattern_61 (fun _ _ => ?_)
              refine xg_top (nxI (nxO M (z + 1))) (nxO_I M (z + 1)) ?_
              refine xg_cV hX dw [.int (nI k), .int (nxI (nxO M (z + 1)))] (hM := xc_obey l D cI dw pw pt vc vl vs bl zr vf vi Vw T k (nxO M (z + 1)) (by omega) hk (nxO_lt hM (z + 1)) hvl hvc hT) (wr := [(dq, .inr (2, [.ref dm, .ref d1, .ref d2, .ref d3, .ref d4, .ref dw, .int (bI den)])), (dm, .inl (cI, 256, .inl (nf M)))]) (ws' := fun u => match u with | (okA, W2A, cn2A, lf2A, sg2A, fi2A, si2A) => [(dq, .inr (2, [.ref dm, .ref d1, .ref d2, .ref d3, .ref d4, .ref dw, .int (bI den)])), (dm, .inl (cI, 256, .inl (nf M))), (dw, .inr (1, [.ref pw, .ref pt, .int (nI cn2A), .int (nI lf2A), .int (bI sg2A), .int (bI bl), .int (bI zr), .int (nI fi2A), .int (nI si2A)])), (pw, .inl (cI, 64, .inl (nf W2A))), (pt, .inl (cI, 31, .inl (nf T)))]) (st' := fun u => match u with | (okA, W2A, cn2A, lf2A, sg2A, fi2A, si2A) => [.int (bI okA)]) [2, 3, 4] [0, 1] [0, 1, 2, 3, 4] [] rfl mt_278 mt_275 mt_3 mt_276 mt_277 0 rfl rfl hdW_obey (by decide) ⟨rfl, rfl⟩ (by decide) rfl rfl (by decide) rfl (by decide) (by decide) (by decide) (fun u => rfl) (fun u => rfl) (fun u => rfl) rfl rfl (by simp [Value.category]) dD_followPattern_64 (fun u hu => ?_)
              obtain ⟨okA, W2A, cn2A, lf2A, sg2A, fi2A, si2A⟩ := u
              have huA : pres okA (pOb T bl zr k (nxO M (z + 1)) (Vw, vc, vl, vs, vf, vi)) (W2A, cn2A, lf2A, sg2A, fi2A, si2A) := hu
              show GG D X 0 0 67 [(dq, .inr (2, [.ref dm, .ref d1, .ref d2, .ref d3, .ref d4, .ref dw, .int (bI den)])), (dm, .inl (cI, 256, .inl (nf M))), (dw, .inr (1, [.ref pw, .ref pt, .int (nI cn2A), .int (nI lf2A), .int (bI sg2A), .int (bI bl), .int (bI zr), .int (nI fi2A), .int (nI si2A)])), (pw, .inl (cI, 64, .inl (nf W2A))), (pt, .inl (cI, 31, .inl (nf T)))] [(4, .int (nI k)), (0, .ref dq), (1, .int p), (2, .int z), (3, .int (nI s_))] [.int (bI okA)]
              refine xg_if_neB hX 72 dD_followPattern_67 (by decide) (fun h67 => ?_) (fun h67 => ?_)
              ·
                have eA := pOb_le (pres_some huA h67) hvc
                refine xg_iload_n hX 3 dD_followPattern_72 rfl rfl ?_
                refine xg_iload hX 0 dD_followPattern_73 rfl ?_
                refine xg_cS hX [.int (nI k)] (hM := xc_takesNext l D cI k hk) (wr := [(dq, .inr (2, [.ref dm, .ref d1, .ref d2, .ref d3, .ref d4, .ref dw, .int (bI den)])), (dm, .inl (cI, 256, .inl (nf M))), (dw, .inr (1, [.ref pw, .ref pt, .int (nI cn2A), .int (nI lf2A), .int (bI sg2A), .int (bI bl), .int (bI zr), .int (nI fi2A), .int (nI si2A)])), (pw, .inl (cI, 64, .inl (nf W2A))), (pt, .inl (cI, 31, .inl (nf T)))]) (ws' := fun _ => [(dq, .inr (2, [.ref dm, .ref d1, .ref d2, .ref d3, .ref d4, .ref dw, .int (bI den)])), (dm, .inl (cI, 256, .inl (nf M))), (dw, .inr (1, [.ref pw, .ref pt, .int (nI cn2A), .int (nI lf2A), .int (bI sg2A), .int (bI bl), .int (bI zr), .int (nI fi2A), .int (nI si2A)])), (pw, .inl (cI, 64, .inl (nf W2A))), (pt, .inl (cI, 31, .inl (nf T)))]) (st' := fun _ => [.int (bI (takesN k)), .int z]) [] [0, 1, 2, 3, 4] [0, 1, 2, 3, 4] [.int z] rfl mt_300 mt_309 mt_3 mt_299 hdW_takesNext (by decide) ⟨rfl, rfl⟩ (by decide) rfl rfl (by decide) rfl (by decide) (by decide) (by decide) (fun u => rfl) (fun u => rfl) (fun u => rfl) rfl rfl (by simp [Value.category]) dD_followPattern_75 (fun _ _ => ?_)
                refine xg_if_eqB hX 85 dD_followPattern_78 (by decide) (fun h78 => ?_) (fun h78 => ?_)
                ·
                  refine xg_iconst hX (nI 1) dD_followPattern_85 (by decide) ?_
                  refine xg_iadd hX dD_followPattern_86 ?_
                  refine xg_istore_n hX (lv' := [(2, .int (z + (nI 1))), (4, .int (nI k)), (0, .ref dq), (1, .int p), (3, .int (nI s_))]) dD_followPattern_87 rfl (by decide) rfl ?_
                  refine xg_iincN hX (lv' := [(3, .int (nI (s_ + 1))), (2, .int (z + (nI 1))), (4, .int (nI k)), (0, .ref dq), (1, .int p)]) (s_ + 1) 4 dD_followPattern_88 rfl (xn_inc _) (by decide) rfl ?_
                  refine xg_goto hX 4 dD_followPattern_91 (by decide) ?_
                  refine xg_lv hX (lv' := [(0, .ref dq), (1, .int p), (2, .int (z + (nI 1))), (3, .int (nI (s_ + 1)))]) [3, 4, 1, 0] rfl ?_
                  exact ih3 (s_ + 1) (z + (nI 1)) W2A cn2A lf2A sg2A fi2A si2A (by omega) (by omega) eA.1 (Nat.le_trans eA.2 hvl) (by rw [hq, show 65 - s_ = (65 - (s_ + 1)) + 1 by omega, fol_s hnx h19 (by omega), pres_some huA h67, h78]; rfl) (by omega)
                ·
                  refine xg_iconst hX (nI 2) dD_followPattern_81 (by decide) ?_
                  refine xg_goto hX 86 dD_followPattern_82 (by decide) ?_
                  refine xg_iadd hX dD_followPattern_86 ?_
                  refine xg_istore_n hX (lv' := [(2, .int (z + (nI 2))), (4, .int (nI k)), (0, .ref dq), (1, .int p), (3, .int (nI s_))]) dD_followPattern_87 rfl (by decide) rfl ?_
                  refine xg_iincN hX (lv' := [(3, .int (nI (s_ + 1))), (2, .int (z + (nI 2))), (4, .int (nI k)), (0, .ref dq), (1, .int p)]) (s_ + 1) 4 dD_followPattern_88 rfl (xn_inc _) (by decide) rfl ?_
                  refine xg_goto hX 4 dD_followPattern_91 (by decide) ?_
                  refine xg_lv hX (lv' := [(0, .ref dq), (1, .int p), (2, .int (z + (nI 2))), (3, .int (nI (s_ + 1)))]) [3, 4, 1, 0] rfl ?_
                  exact ih3 (s_ + 1) (z + (nI 2)) W2A cn2A lf2A sg2A fi2A si2A (by omega) (by omega) eA.1 (Nat.le_trans eA.2 hvl) (by rw [hq, show 65 - s_ = (65 - (s_ + 1)) + 1 by omega, fol_s hnx h19 (by omega), pres_some huA h67, h78]; rfl) (by omega)
              ·
                refine xg_iconst hX (nI 0) dD_followPattern_70 (by decide) ?_
                refine xg_top (bI false) rfl ?_
                exact hret (false, W2A, cn2A, lf2A, sg2A, fi2A, si2A) _ _ _ rfl (xn_narB _) (show pres false (fol M T bl zr 64 p (W, cn, lf, sg, fi, si)) (W2A, cn2A, lf2A, sg2A, fi2A, si2A) from (pres_f (by rw [hq, show 65 - s_ = (64 - s_) + 1 by omega, fol_s hnx h19 (by omega), pres_none huA h67]; rfl))) dD_followPattern_71
            ·
              refine xg_iconst hX (nI 0) dD_followPattern_49 (by decide) ?_
              refine xg_top (bI false) rfl ?_
              exact hret (false, Vw, vc, vl, vs, vf, vi) _ _ _ rfl (xn_narB _) (show pres false (fol M T bl zr 64 p (W, cn, lf, sg, fi, si)) (Vw, vc, vl, vs, vf, vi) from (pres_f (by first | (rw [hq, fol_none hnx]; done) | (rw [hq, show 65 - s_ = 0 + 1 by omega]; exact fol_last hnx h19)))) dD_followPattern_50
          ·
            refine xg_aload_n hX 1 dD_followPattern_22 rfl rfl ?_
            refine xg_get hX (ci := 2) rfl hinD 0 rfl 5 (by decide) mt_73 rfl dD_followPattern_23 ?_
            refine xg_get hX (ci := 1) rfl hinW 2 rfl 3 (by decide) mt_42 rfl dD_followPattern_26 ?_
            refine xg_if_neN hX 36 (by omega) dD_followPattern_29 (by decide) (fun h29 => ?_) (fun h29 => ?_)
            ·
              refine xg_iconst hX (nI 0) dD_followPattern_36 (by decide) ?_
              refine xg_top (bI false) rfl ?_
              exact hret (false, Vw, vc, vl, vs, vf, vi) _ _ _ rfl (xn_narB _) (show pres false (fol M T bl zr 64 p (W, cn, lf, sg, fi, si)) (Vw, vc, vl, vs, vf, vi) from (by first | (apply pres_t; rw [hq, show 65 - s_ = (64 - s_) + 1 by omega, fol_0 (by rw [hnx, h19])]; exact if_pos h29) | (apply pres_f; rw [hq, show 65 - s_ = (64 - s_) + 1 by omega, fol_0 (by rw [hnx, h19])]; exact if_neg (show ¬ vl = 0 by omega)))) dD_followPattern_37
            ·
              refine xg_iconst hX (nI 1) dD_followPattern_32 (by decide) ?_
              refine xg_goto hX 37 dD_followPattern_33 (by decide) ?_
              refine xg_top (bI true) rfl ?_
              exact hret (true, Vw, vc, vl, vs, vf, vi) _ _ _ rfl (xn_narB _) (show pres true (fol M T bl zr 64 p (W, cn, lf, sg, fi, si)) (Vw, vc, vl, vs, vf, vi) from (by first | (apply pres_t; rw [hq, show 65 - s_ = (64 - s_) + 1 by omega, fol_0 (by rw [hnx, h19])]; exact if_pos h29) | (apply pres_f; rw [hq, show 65 - s_ = (64 - s_) + 1 by omega, fol_0 (by rw [hnx, h19])]; exact if_neg (show ¬ vl = 0 by omega)))) dD_followPattern_37
  refine xg_lv hX (lv' := [(0, .ref dq), (1, .int p), (2, .int p), (3, .int (nI 1))]) [2, 3, 1, 0] rfl ?_
  exact lp1 (65 - 1 + 1) 1 p W cn lf sg fi si (by omega) (by omega) (by omega) (by omega) rfl (Nat.lt_succ_self _)
set_option maxHeartbeats 4000000 in
set_option maxRecDepth 100000 in
theorem xc_edit (l : Launch) (D : va_G) (cI : ClassId) (dq : Nat) (dm : Nat) (d1 : Nat) (d2 : Nat) (d3 : Nat) (d4 : Nat) (dw : Nat) (den : Bool) (M : Nat → Nat) (p1 : Nat) (e1 : Nat → Nat) (s1 : Bool) (pw : Nat) (pt : Nat) (cn : Nat) (lf : Nat) (sg : Bool) (bl : Bool) (zr : Bool) (fi : Nat) (si : Nat) (W : Nat → Nat) (T : Nat → Nat) (n : Int32) (a : Int32) (p : Int32) (b : Int32) (hM : ∀ j, M j < 256) : Ctr l D cI yD_edit cD_edit 6 (some .int) { frames := 5, cells := 0, slots := 0, locals := 114 } [.ref dq, .int n, .int a, .int p, .int b] [(dq, .inr (2, [.ref dm, .ref d1, .ref d2, .ref d3, .ref d4, .ref dw, .int (bI den)])), (dm, .inl (cI, 256, .inl (nf M))), (d1, .inr (0, [.ref p1, .int (bI s1)])), (p1, .inl (cI, 130, .inl (nf e1))), (dw, .inr (1, [.ref pw, .ref pt, .int (nI cn), .int (nI lf), .int (bI sg), .int (bI bl), .int (bI zr), .int (nI fi), .int (nI si)])), (pw, .inl (cI, 64, .inl (nf W))), (pt, .inl (cI, 31, .inl (nf T)))] (fun u : Int32 × (Nat → Nat) × Bool × (Nat → Nat) × Bool × Nat × Nat × Bool × Bool × Bool × Nat × Nat × (Nat → Nat) × (Nat → Nat) => match u with | (r, M2, en2, e1_, s1_, cn2, lf2, sg2, bl2, zr2, fi2, si2, W2, T2) => some (.int r)) (fun u : Int32 × (Nat → Nat) × Bool × (Nat → Nat) × Bool × Nat × Nat × Bool × Bool × Bool × Nat × Nat × (Nat → Nat) × (Nat → Nat) => match u with | (r, M2, en2, e1_, s1_, cn2, lf2, sg2, bl2, zr2, fi2, si2, W2, T2) => (r, M2, en2) = editZ M den W n a p b) (fun u : Int32 × (Nat → Nat) × Bool × (Nat → Nat) × Bool × Nat × Nat × Bool × Bool × Bool × Nat × Nat × (Nat → Nat) × (Nat → Nat) => match u with | (r, M2, en2, e1_, s1_, cn2, lf2, sg2, bl2, zr2, fi2, si2, W2, T2) => [(dq, .inr (2, [.ref dm, .ref d1, .ref d2, .ref d3, .ref d4, .ref dw, .int (bI en2)])), (dm, .inl (cI, 256, .inl (nf M2))), (d1, .inr (0, [.ref p1, .int (bI s1_)])), (p1, .inl (cI, 130, .inl (nf e1_))), (dw, .inr (1, [.ref pw, .ref pt, .int (nI cn2), .int (nI lf2), .int (bI sg2), .int (bI bl2), .int (bI zr2), .int (nI fi2), .int (nI si2)])), (pw, .inl (cI, 64, .inl (nf W2))), (pt, .inl (cI, 31, .inl (nf T2)))]) 0 0 := by
  refine xc_mkI (by decide +kernel) (Nat.le_of_ble_eq_true rfl) (fun X hX hret => ?_)
  show GG D X 0 0 0 [(dq, .inr (2, [.ref dm, .ref d1, .ref d2, .ref d3, .ref d4, .ref dw, .int (bI den)])), (dm, .inl (cI, 256, .inl (nf M))), (d1, .inr (0, [.ref p1, .int (bI s1)])), (p1, .inl (cI, 130, .inl (nf e1))), (dw, .inr (1, [.ref pw, .ref pt, .int (nI cn), .int (nI lf), .int (bI sg), .int (bI bl), .int (bI zr), .int (nI fi), .int (nI si)])), (pw, .inl (cI, 64, .inl (nf W))), (pt, .inl (cI, 31, .inl (nf T)))] [(0, .ref dq), (1, .int n), (2, .int a), (3, .int p), (4, .int b)] []
  refine xg_iload_n hX 1 dD_edit_0 rfl rfl ?_
  refine xg_iload_n hX 2 dD_edit_1 rfl rfl ?_
  refine xg_cS hX [.int n, .int a] (hM := xc_dfits l D cI n a) (wr := [(dq, .inr (2, [.ref dm, .ref d1, .ref d2, .ref d3, .ref d4, .ref dw, .int (bI den)])), (dm, .inl (cI, 256, .inl (nf M))), (d1, .inr (0, [.ref p1, .int (bI s1)])), (p1, .inl (cI, 130, .inl (nf e1))), (dw, .inr (1, [.ref pw, .ref pt, .int (nI cn), .int (nI lf), .int (bI sg), .int (bI bl), .int (bI zr), .int (nI fi), .int (nI si)])), (pw, .inl (cI, 64, .inl (nf W))), (pt, .inl (cI, 31, .inl (nf T)))]) (ws' := fun _ => [(dq, .inr (2, [.ref dm, .ref d1, .ref d2, .ref d3, .ref d4, .ref dw, .int (bI den)])), (dm, .inl (cI, 256, .inl (nf M))), (d1, .inr (0, [.ref p1, .int (bI s1)])), (p1, .inl (cI, 130, .inl (nf e1))), (dw, .inr (1, [.ref pw, .ref pt, .int (nI cn), .int (nI lf), .int (bI sg), .int (bI bl), .int (bI zr), .int (nI fi), .int (nI si)])), (pw, .inl (cI, 64, .inl (nf W))), (pt, .inl (cI, 31, .inl (nf T)))]) (st' := fun _ => [.int (bI (dfits n a))]) [] [0, 1, 2, 3, 4, 5, 6] [0, 1, 2, 3, 4, 5, 6] [] rfl mt_108 mt_106 mt_1 mt_107 hdD_decimalFits (by decide) ⟨rfl, rfl⟩ (by decide) rfl rfl (by decide) rfl (by decide) (by decide) (by decide) (fun u => rfl) (fun u => rfl) (fun u => rfl) rfl rfl (by simp [Value.category]) dD_edit_2 (fun _ _ => ?_)
  refine xg_if_neB hX 10 dD_edit_5 (by decide) (fun h5 => ?_) (fun h5 => ?_)
  ·
    refine xg_aload_n hX 0 dD_edit_10 rfl rfl ?_
    refine xg_aload_n hX 0 dD_edit_11 rfl rfl ?_
    refine xg_get hX (ci := 2) rfl hinD 0 rfl 1 (by decide) mt_69 rfl dD_edit_12 ?_
    refine xg_iload_n hX 1 dD_edit_15 rfl rfl ?_
    refine xg_top (nI (tn n)) (df3 h5) ?_
    refine xg_iload_n hX 2 dD_edit_16 rfl rfl ?_
    refine xg_top (nI (tn a)) (df4 h5) ?_
    refine xg_cV hX dq [.ref d1, .int (nI (tn n)), .int (nI (tn a))] (hM := xc_readDecimal l D cI dq dm d1 d2 d3 d4 dw den M d1 p1 e1 s1 (tn n) (tn a) (df1 h5) (df2 h5) hM) (wr := [(dw, .inr (1, [.ref pw, .ref pt, .int (nI cn), .int (nI lf), .int (bI sg), .int (bI bl), .int (bI zr), .int (nI fi), .int (nI si)])), (pw, .inl (cI, 64, .inl (nf W))), (pt, .inl (cI, 31, .inl (nf T)))]) (ws' := fun u => match u with | (okA, tA, sA) => [(dq, .inr (2, [.ref dm, .ref d1, .ref d2, .ref d3, .ref d4, .ref dw, .int (bI den)])), (dm, .inl (cI, 256, .inl (nf M))), (d1, .inr (0, [.ref p1, .int (bI sA)])), (p1, .inl (cI, 130, .inl (nf tA))), (dw, .inr (1, [.ref pw, .ref pt, .int (nI cn), .int (nI lf), .int (bI sg), .int (bI bl), .int (bI zr), .int (nI fi), .int (nI si)])), (pw, .inl (cI, 64, .inl (nf W))), (pt, .inl (cI, 31, .inl (nf T)))]) (st' := fun u => match u with | (okA, tA, sA) => [.int (bI okA)]) [0, 1, 2, 3] [4, 5, 6] [3, 4, 5, 6, 0, 1, 2] [] rfl mt_112 mt_109 mt_1 mt_111 mp_1 0 rfl rfl hdD_readDecimal (by decide) ⟨rfl, rfl⟩ (by decide) rfl rfl (by decide) rfl (by decide) (by decide) (by decide) (fun u => rfl) (fun u => rfl) (fun u => rfl) rfl rfl (by simp [Value.category]) dD_edit_17 (fun u hu => ?_)
    obtain ⟨okA, tA, sA⟩ := u
    have huA : okA = rdb M (tn n) (tn a) ∧ (okA = true → tA = rdD M (tn n) (tn a) ∧ sA = rdS M (tn n) (tn a)) := hu
    show GG D X 0 0 20 [(dq, .inr (2, [.ref dm, .ref d1, .ref d2, .ref d3, .ref d4, .ref dw, .int (bI den)])), (dm, .inl (cI, 256, .inl (nf M))), (d1, .inr (0, [.ref p1, .int (bI sA)])), (p1, .inl (cI, 130, .inl (nf tA))), (dw, .inr (1, [.ref pw, .ref pt, .int (nI cn), .int (nI lf), .int (bI sg), .int (bI bl), .int (bI zr), .int (nI fi), .int (nI si)])), (pw, .inl (cI, 64, .inl (nf W))), (pt, .inl (cI, 31, .inl (nf T)))] [(0, .ref dq), (1, .int n), (2, .int a), (3, .int p), (4, .int b)] [.int (bI okA)]
    refine xg_if_neB hX 26 dD_edit_20 (by decide) (fun h20 => ?_) (fun h20 => ?_)
    ·
      have g1 := huA.1.symm.trans h20
      have hx := rd_lt g1
      obtain ⟨rfl, rfl⟩ := huA.2 h20
      refine xg_aload_n hX 0 dD_edit_26 rfl rfl ?_
      refine xg_get hX (ci := 2) rfl hinD 0 rfl 5 (by decide) mt_73 rfl dD_edit_27 ?_
      refine xg_aload_n hX 0 dD_edit_30 rfl rfl ?_
      refine xg_get hX (ci := 2) rfl hinD 0 rfl 1 (by decide) mt_69 rfl dD_edit_31 ?_
      refine xg_iload_n hX 1 dD_edit_34 rfl rfl ?_
      refine xg_top (nI (tn n)) (df3 h5) ?_
      refine xg_cV hX dw [.ref d1, .int (nI (tn n))] (hM := xc_begin l D cI dw pw pt cn lf sg bl zr fi si W T d1 p1 (rdD M (tn n) (tn a)) (rdS M (tn n) (tn a)) (tn n) hx) (wr := [(dq, .inr (2, [.ref dm, .ref d1, .ref d2, .ref d3, .ref d4, .ref dw, .int (bI den)])), (dm, .inl (cI, 256, .inl (nf M)))]) (ws' := fun _ => [(dq, .inr (2, [.ref dm, .ref d1, .ref d2, .ref d3, .ref d4, .ref dw, .int (bI den)])), (dm, .inl (cI, 256, .inl (nf M))), (d1, .inr (0, [.ref p1, .int (bI (rdS M (tn n) (tn a)))])), (p1, .inl (cI, 130, .inl (nf (rdD M (tn n) (tn a))))), (dw, .inr (1, [.ref pw, .ref pt, .int (nI 0), .int (nI (tn n)), .int (bI false), .int (bI (rdS M (tn n) (tn a))), .int (bI (!hasD (rdD M (tn n) (tn a)) 0 130)), .int (nI 32), .int (nI (if rdS M (tn n) (tn a) = true then 45 else 32))])), (pw, .inl (cI, 64, .inl (nf W))), (pt, .inl (cI, 31, .inl (nf (rdD M (tn n) (tn a)))))]) (st' := fun _ => []) [4, 5, 6, 2, 3] [0, 1] [0, 1, 5, 6, 2, 3, 4] [] rfl mt_268 mt_265 mt_3 mt_266 mt_267 0 rfl rfl hdW_begin (by decide) ⟨rfl, rfl⟩ (by decide) rfl rfl (by decide) rfl (by decide) (by decide) (by decide) (fun u => rfl) (fun u => rfl) (fun u => rfl) rfl rfl (by simp [Value.category]) dD_edit_35 (fun _ _ => ?_)
      refine xg_aload_n hX 0 dD_edit_38 rfl rfl ?_
      refine xg_iload_n hX 3 dD_edit_39 rfl rfl ?_
      refine xg_cV hX dq [.int p] (hM := xc_follow l D cI dq dm d1 d2 d3 d4 dw den M pw pt 0 (tn n) false (rdS M (tn n) (tn a)) (!hasD (rdD M (tn n) (tn a)) 0 130) 32 (if rdS M (tn n) (tn a) = true then 45 else 32) W (rdD M (tn n) (tn a)) p hM hx (Nat.zero_le _) (df1 h5)) (wr := [(d1, .inr (0, [.ref p1, .int (bI (rdS M (tn n) (tn a)))])), (p1, .inl (cI, 130, .inl (nf (rdD M (tn n) (tn a)))))]) (ws' := fun u => match u with | (okB, W2B, cn2B, lf2B, sg2B, fi2B, si2B) => [(dq, .inr (2, [.ref dm, .ref d1, .ref d2, .ref d3, .ref d4, .ref dw, .int (bI den)])), (dm, .inl (cI, 256, .inl (nf M))), (d1, .inr (0, [.ref p1, .int (bI (rdS M (tn n) (tn a)))])), (p1, .inl (cI, 130, .inl (nf (rdD M (tn n) (tn a))))), (dw, .inr (1, [.ref pw, .ref pt, .int (nI cn2B), .int (nI lf2B), .int (bI sg2B), .int (bI (rdS M (tn n) (tn a))), .int (bI (!hasD (rdD M (tn n) (tn a)) 0 130)), .int (nI fi2B), .int (nI si2B)])), (pw, .inl (cI, 64, .inl (nf W2B))), (pt, .inl (cI, 31, .inl (nf (rdD M (tn n) (tn a)))))]) (st' := fun u => match u with | (okB, W2B, cn2B, lf2B, sg2B, fi2B, si2B) => [.int (bI okB)]) [0, 1, 4, 5, 6] [2, 3] [2, 3, 0, 1, 4, 5, 6] [] rfl mt_274 mt_271 mt_1 mt_273 mp_10 0 rfl rfl hdD_followPattern (by decide) ⟨rfl, rfl⟩ (by decide) rfl rfl (by decide) rfl (by decide) (by decide) (by decide) (fun u => rfl) (fun u => rfl) (fun u => rfl) rfl rfl (by simp [Value.category]) dD_edit_40 (fun u hu => ?_)
      obtain ⟨okB, W2B, cn2B, lf2B, sg2B, fi2B, si2B⟩ := u
      have huB : pres okB (fol M (rdD M (tn n) (tn a)) (rdS M (tn n) (tn a)) (!hasD (rdD M (tn n) (tn a)) 0 130) 64 p (W, 0, tn n, false, 32, if rdS M (tn n) (tn a) = true then 45 else 32)) (W2B, cn2B, lf2B, sg2B, fi2B, si2B) := hu
      show GG D X 0 0 43 [(dq, .inr (2, [.ref dm, .ref d1, .ref d2, .ref d3, .ref d4, .ref dw, .int (bI den)])), (dm, .inl (cI, 256, .inl (nf M))), (d1, .inr (0, [.ref p1, .int (bI (rdS M (tn n) (tn a)))])), (p1, .inl (cI, 130, .inl (nf (rdD M (tn n) (tn a))))), (dw, .inr (1, [.ref pw, .ref pt, .int (nI cn2B), .int (nI lf2B), .int (bI sg2B), .int (bI (rdS M (tn n) (tn a))), .int (bI (!hasD (rdD M (tn n) (tn a)) 0 130)), .int (nI fi2B), .int (nI si2B)])), (pw, .inl (cI, 64, .inl (nf W2B))), (pt, .inl (cI, 31, .inl (nf (rdD M (tn n) (tn a)))))] [(0, .ref dq), (1, .int n), (2, .int a), (3, .int p), (4, .int b)] [.int (bI okB)]
      refine xg_if_neB hX 49 dD_edit_43 (by decide) (fun h43 => ?_) (fun h43 => ?_)
      ·
        have hp : edP M W n a p = some (W2B, cn2B, lf2B, sg2B, fi2B, si2B) := pres_some huB h43
        have eB : cn2B ≤ 64 := fol_le hp (Nat.zero_le _)
        have hW : ∀ j, j < cn2B → W2B j < 256 := fol_W hM hx hp
        refine xg_iload hX 4 dD_edit_49 rfl ?_
        refine xg_if_ltZ hX b.toInt rfl 78 dD_edit_51 (by decide) (fun h51 => ?_) (fun h51 => ?_)
        ·
          refine xg_iconst hX ((-1)) dD_edit_78 (by decide) ?_
          exact hret ((-1), M, den, rdD M (tn n) (tn a), rdS M (tn n) (tn a), cn2B, lf2B, sg2B, rdS M (tn n) (tn a), !hasD (rdD M (tn n) (tn a)) 0 130, fi2B, si2B, W2B, rdD M (tn n) (tn a)) _ _ _ rfl (show ((-1), M, den) = editZ M den W n a p b from (by unfold editZ; rw [if_pos h5, if_pos g1, hp]; show _ = if _ then _ else _; rw [if_neg (by unfold tn at *; show ¬ (0 ≤ b.toInt ∧ b.toInt ≤ 256 ∧ (cn2B : Int) ≤ 256 - b.toInt); omega)])) dD_edit_79
        ·
          refine xg_iload hX 4 dD_edit_54 rfl ?_
          refine xg_sipush hX (nI 256) dD_edit_56 (by decide) ?_
          refine xg_icmp_gtZ hX b.toInt (256 : Nat) rfl (xn_ti (by omega)) 78 dD_edit_59 (by decide) (fun h59 => ?_) (fun h59 => ?_)
          ·
            refine xg_iconst hX ((-1)) dD_edit_78 (by decide) ?_
            exact hret ((-1), M, den, rdD M (tn n) (tn a), rdS M (tn n) (tn a), cn2B, lf2B, sg2B, rdS M (tn n) (tn a), !hasD (rdD M (tn n) (tn a)) 0 130, fi2B, si2B, W2B, rdD M (tn n) (tn a)) _ _ _ rfl (show ((-1), M, den) = editZ M den W n a p b from (by unfold editZ; rw [if_pos h5, if_pos g1, hp]; show _ = if _ then _ else _; rw [if_neg (by unfold tn at *; show ¬ (0 ≤ b.toInt ∧ b.toInt ≤ 256 ∧ (cn2B : Int) ≤ 256 - b.toInt); omega)])) dD_edit_79
          ·
            refine xg_aload_n hX 0 dD_edit_62 rfl rfl ?_
            refine xg_get hX (ci := 2) rfl hinD 0 rfl 5 (by decide) mt_73 rfl dD_edit_63 ?_
            refine xg_get hX (ci := 1) rfl hinW 4 rfl 2 (by decide) mt_40 rfl dD_edit_66 ?_
            refine xg_sipush hX (nI 256) dD_edit_69 (by decide) ?_
            have e8 : tn b ≤ 256 := by unfold tn; omega
            refine xg_iload hX 4 dD_edit_72 rfl ?_
            refine xg_top (nI (tn b)) (xn_tn h51) ?_
            refine xg_isubN hX (by omega) dD_edit_74 ?_
            refine xg_icmp_leN hX 80 (by omega) (by omega) dD_edit_75 (by decide) (fun h75 => ?_) (fun h75 => ?_)
            ·
              refine xg_iconst hX (nI 0) dD_edit_80 (by decide) ?_
              refine xg_istore hX (lv' := [(5, .int (nI 0)), (0, .ref dq), (1, .int n), (2, .int a), (3, .int p), (4, .int b)]) dD_edit_81 (by decide) rfl ?_
              have lp1 : ∀ (fu2 : Nat) (i : Nat), (i ≤ cn2B) → cn2B - i < fu2 → GG D X 0 0 83 [(dq, .inr (2, [.ref dm, .ref d1, .ref d2, .ref d3, .ref d4, .ref dw, .int (bI den)])), (dm, .inl (cI, 256, .inl (nf (edM M W2B (tn b) i)))), (d1, .inr (0, [.ref p1, .int (bI (rdS M (tn n) (tn a)))])), (p1, .inl (cI, 130, .inl (nf (rdD M (tn n) (tn a))))), (dw, .inr (1, [.ref pw, .ref pt, .int (nI cn2B), .int (nI lf2B), .int (bI sg2B), .int (bI (rdS M (tn n) (tn a))), .int (bI (!hasD (rdD M (tn n) (tn a)) 0 130)), .int (nI fi2B), .int (nI si2B)])), (pw, .inl (cI, 64, .inl (nf W2B))), (pt, .inl (cI, 31, .inl (nf (rdD M (tn n) (tn a)))))] [(0, .ref dq), (4, .int b), (5, .int (nI i))] [] := by
                intro fu2
                induction fu2 with
                | zero => intro i hi hm4; exact absurd hm4 (Nat.not_lt_zero _)
                | succ fu2 ih3 =>
                  intro i hi hm4
                  refine xg_iload hX 2 dD_edit_83 rfl ?_
                  refine xg_aload_n hX 0 dD_edit_85 rfl rfl ?_
                  refine xg_get hX (ci := 2) rfl hinD 0 rfl 5 (by decide) mt_73 rfl dD_edit_86 ?_
                  refine xg_get hX (ci := 1) rfl hinW 4 rfl 2 (by decide) mt_40 rfl dD_edit_89 ?_
                  refine xg_icmp_geN hX 120 (by omega) (by omega) dD_edit_92 (by decide) (fun h92 => ?_) (fun h92 => ?_)
                  ·
                    refine xg_aload_n hX 0 dD_edit_120 rfl rfl ?_
                    refine xg_aload_n hX 0 dD_edit_121 rfl rfl ?_
                    refine xg_get hX (ci := 2) rfl hinD 0 rfl 5 (by decide) mt_73 rfl dD_edit_122 ?_
                    refine xg_get hX (ci := 1) rfl hinW 4 rfl 4 (by decide) mt_44 rfl dD_edit_125 ?_
                    refine xg_put hX tyD tyD_ok nmD (ci := 2) rfl hinD (ws' := [(dq, .inr (2, [.ref dm, .ref d1, .ref d2, .ref d3, .ref d4, .ref dw, .int (bI sg2B)])), (dm, .inl (cI, 256, .inl (nf (edM M W2B (tn b) i)))), (d1, .inr (0, [.ref p1, .int (bI (rdS M (tn n) (tn a)))])), (p1, .inl (cI, 130, .inl (nf (rdD M (tn n) (tn a))))), (dw, .inr (1, [.ref pw, .ref pt, .int (nI cn2B), .int (nI lf2B), .int (bI sg2B), .int (bI (rdS M (tn n) (tn a))), .int (bI (!hasD (rdD M (tn n) (tn a)) 0 130)), .int (nI fi2B), .int (nI si2B)])), (pw, .inl (cI, 64, .inl (nf W2B))), (pt, .inl (cI, 31, .inl (nf (rdD M (tn n) (tn a)))))]) 0 rfl 6 (by decide) mt_74 rfl (xn_narB _) (xn_fitB _) (Nat.le_of_ble_eq_true rfl) rfl dD_edit_128 ?_
                    refine xg_aload_n hX 0 dD_edit_131 rfl rfl ?_
                    refine xg_get hX (ci := 2) rfl hinD 0 rfl 5 (by decide) mt_73 rfl dD_edit_132 ?_
                    refine xg_get hX (ci := 1) rfl hinW 4 rfl 2 (by decide) mt_40 rfl dD_edit_135 ?_
                    exact hret (nI cn2B, edM M W2B (tn b) i, sg2B, rdD M (tn n) (tn a), rdS M (tn n) (tn a), cn2B, lf2B, sg2B, rdS M (tn n) (tn a), !hasD (rdD M (tn n) (tn a)) 0 130, fi2B, si2B, W2B, rdD M (tn n) (tn a)) _ _ _ rfl (show ((nI cn2B), (edM M W2B (tn b) i), sg2B) = editZ M den W n a p b from (by unfold editZ; rw [if_pos h5, if_pos g1, hp]; show _ = if _ then _ else _; rw [if_pos (by unfold tn at *; show 0 ≤ b.toInt ∧ b.toInt ≤ 256 ∧ (cn2B : Int) ≤ 256 - b.toInt; omega), show i = cn2B by omega])) dD_edit_138
                  ·
                    refine xg_aload_n hX 0 dD_edit_95 rfl rfl ?_
                    refine xg_iload hX 1 dD_edit_96 rfl ?_
                    refine xg_top (nI (tn b)) (xn_tn h51) ?_
                    refine xg_iload hX 2 dD_edit_98 rfl ?_
                    refine xg_iaddN hX dD_edit_100 ?_
                    refine xg_aload_n hX 0 dD_edit_101 rfl rfl ?_
                    refine xg_get hX (ci := 2) rfl hinD 0 rfl 5 (by decide) mt_73 rfl dD_edit_102 ?_
                    refine xg_iload hX 2 dD_edit_105 rfl ?_
                    refine xg_cV hX dw [.int (nI i)] (hM := xc_charAt l D cI dw pw pt cn2B lf2B sg2B (rdS M (tn n) (tn a)) (!hasD (rdD M (tn n) (tn a)) 0 130) fi2B si2B W2B (rdD M (tn n) (tn a)) i (by omega)) (wr := [(dq, .inr (2, [.ref dm, .ref d1, .ref d2, .ref d3, .ref d4, .ref dw, .int (bI den)])), (dm, .inl (cI, 256, .inl (nf (edM M W2B (tn b) i)))), (d1, .inr (0, [.ref p1, .int (bI (rdS M (tn n) (tn a)))])), (p1, .inl (cI, 130, .inl (nf (rdD M (tn n) (tn a)))))]) (ws' := fun _ => [(dq, .inr (2, [.ref dm, .ref d1, .ref d2, .ref d3, .ref d4, .ref dw, .int (bI den)])), (dm, .inl (cI, 256, .inl (nf (edM M W2B (tn b) i)))), (d1, .inr (0, [.ref p1, .int (bI (rdS M (tn n) (tn a)))])), (p1, .inl (cI, 130, .inl (nf (rdD M (tn n) (tn a))))), (dw, .inr (1, [.ref pw, .ref pt, .int (nI cn2B), .int (nI lf2B), .int (bI sg2B), .int (bI (rdS M (tn n) (tn a))), .int (bI (!hasD (rdD M (tn n) (tn a)) 0 130)), .int (nI fi2B), .int (nI si2B)])), (pw, .inl (cI, 64, .inl (nf W2B))), (pt, .inl (cI, 31, .inl (nf (rdD M (tn n) (tn a)))))]) (st' := fun _ => [.int (nI (W2B i)), .int (nI ((tn b) + i)), .ref dq]) [4, 5, 6] [0, 1, 2, 3] [0, 1, 2, 3, 4, 5, 6] [.int (nI ((tn b) + i)), .ref dq] rfl mt_313 mt_310 mt_3 mt_311 mt_312 0 rfl rfl hdW_characterAt (by decide) ⟨rfl, rfl⟩ (by decide) rfl rfl (by decide) rfl (by decide) (by decide) (by decide) (fun u => rfl) (fun u => rfl) (fun u => rfl) rfl rfl (by simp [Value.category]) dD_edit_107 (fun _ _ => ?_)
                    refine xg_cV hX dq [.int (nI ((tn b) + i)), .int (nI (W2B i))] (hM := xc_putN l D cI dq dm d1 d2 d3 d4 dw den (edM M W2B (tn b) i) ((tn b) + i) (W2B i) (by omega) (hW i h92)) (wr := [(d1, .inr (0, [.ref p1, .int (bI (rdS M (tn n) (tn a)))])), (p1, .inl (cI, 130, .inl (nf (rdD M (tn n) (tn a))))), (dw, .inr (1, [.ref pw, .ref pt, .int (nI cn2B), .int (nI lf2B), .int (bI sg2B), .int (bI (rdS M (tn n) (tn a))), .int (bI (!hasD (rdD M (tn n) (tn a)) 0 130)), .int (nI fi2B), .int (nI si2B)])), (pw, .inl (cI, 64, .inl (nf W2B))), (pt, .inl (cI, 31, .inl (nf (rdD M (tn n) (tn a)))))]) (ws' := fun _ => [(dq, .inr (2, [.ref dm, .ref d1, .ref d2, .ref d3, .ref d4, .ref dw, .int (bI den)])), (dm, .inl (cI, 256, .inl (nf (up (edM M W2B (tn b) i) ((tn b) + i) (W2B i))))), (d1, .inr (0, [.ref p1, .int (bI (rdS M (tn n) (tn a)))])), (p1, .inl (cI, 130, .inl (nf (rdD M (tn n) (tn a))))), (dw, .inr (1, [.ref pw, .ref pt, .int (nI cn2B), .int (nI lf2B), .int (bI sg2B), .int (bI (rdS M (tn n) (tn a))), .int (bI (!hasD (rdD M (tn n) (tn a)) 0 130)), .int (nI fi2B), .int (nI si2B)])), (pw, .inl (cI, 64, .inl (nf W2B))), (pt, .inl (cI, 31, .inl (nf (rdD M (tn n) (tn a)))))]) (st' := fun _ => [.int (bI true)]) [0, 1] [2, 3, 4, 5, 6] [5, 6, 0, 1, 2, 3, 4] [] rfl mt_93 mt_172 mt_1 mt_91 mt_92 0 rfl rfl hdD_put (by decide) ⟨rfl, rfl⟩ (by decide) rfl rfl (by decide) rfl (by decide) (by decide) (by decide) (fun u => rfl) (fun u => rfl) (fun u => rfl) rfl rfl (by simp [Value.category]) dD_edit_110 (fun _ _ => ?_)
                    refine xg_pop hX dD_edit_113 rfl ?_
                    refine xg_iincN hX (lv' := [(5, .int (nI (i + 1))), (0, .ref dq), (4, .int b)]) (i + 1) 2 dD_edit_114 rfl (xn_inc _) (by decide) rfl ?_
                    refine xg_goto hX 83 dD_edit_117 (by decide) ?_
                    refine xg_ext hX (g := edM M W2B (tn b) (i + 1)) (ws' := [(dq, .inr (2, [.ref dm, .ref d1, .ref d2, .ref d3, .ref d4, .ref dw, .int (bI den)])), (dm, .inl (cI, 256, .inl (nf (edM M W2B (tn b) (i + 1))))), (d1, .inr (0, [.ref p1, .int (bI (rdS M (tn n) (tn a)))])), (p1, .inl (cI, 130, .inl (nf (rdD M (tn n) (tn a))))), (dw, .inr (1, [.ref pw, .ref pt, .int (nI cn2B), .int (nI lf2B), .int (bI sg2B), .int (bI (rdS M (tn n) (tn a))), .int (bI (!hasD (rdD M (tn n) (tn a)) 0 130)), .int (nI fi2B), .int (nI si2B)])), (pw, .inl (cI, 64, .inl (nf W2B))), (pt, .inl (cI, 31, .inl (nf (rdD M (tn n) (tn a)))))]) 1 rfl (fun j hj => edM_s j) rfl ?_
                    refine xg_lv hX (lv' := [(0, .ref dq), (4, .int b), (5, .int (nI (i + 1)))]) [1, 2, 0] rfl ?_
                    exact ih3 (i + 1) (by omega) (by omega)
              refine xg_ext hX (g := edM M W2B (tn b) 0) (ws' := [(dq, .inr (2, [.ref dm, .ref d1, .ref d2, .ref d3, .ref d4, .ref dw, .int (bI den)])), (dm, .inl (cI, 256, .inl (nf (edM M W2B (tn b) 0)))), (d1, .inr (0, [.ref p1, .int (bI (rdS M (tn n) (tn a)))])), (p1, .inl (cI, 130, .inl (nf (rdD M (tn n) (tn a))))), (dw, .inr (1, [.ref pw, .ref pt, .int (nI cn2B), .int (nI lf2B), .int (bI sg2B), .int (bI (rdS M (tn n) (tn a))), .int (bI (!hasD (rdD M (tn n) (tn a)) 0 130)), .int (nI fi2B), .int (nI si2B)])), (pw, .inl (cI, 64, .inl (nf W2B))), (pt, .inl (cI, 31, .inl (nf (rdD M (tn n) (tn a)))))]) 1 rfl (fun j hj => edM_0 j) rfl ?_
              refine xg_lv hX (lv' := [(0, .ref dq), (4, .int b), (5, .int (nI 0))]) [1, 5, 0] rfl ?_
              exact lp1 (cn2B - 0 + 1) 0 (by omega) (Nat.lt_succ_self _)
            ·
              refine xg_iconst hX ((-1)) dD_edit_78 (by decide) ?_
              exact hret ((-1), M, den, rdD M (tn n) (tn a), rdS M (tn n) (tn a), cn2B, lf2B, sg2B, rdS M (tn n) (tn a), !hasD (rdD M (tn n) (tn a)) 0 130, fi2B, si2B, W2B, rdD M (tn n) (tn a)) _ _ _ rfl (show ((-1), M, den) = editZ M den W n a p b from (by unfold editZ; rw [if_pos h5, if_pos g1, hp]; show _ = if _ then _ else _; rw [if_neg (by unfold tn at *; show ¬ (0 ≤ b.toInt ∧ b.toInt ≤ 256 ∧ (cn2B : Int) ≤ 256 - b.toInt); omega)])) dD_edit_79
      ·
        refine xg_bipush hX ((-2)) dD_edit_46 (by decide) ?_
        exact hret ((-2), M, den, rdD M (tn n) (tn a), rdS M (tn n) (tn a), cn2B, lf2B, sg2B, rdS M (tn n) (tn a), !hasD (rdD M (tn n) (tn a)) 0 130, fi2B, si2B, W2B, rdD M (tn n) (tn a)) _ _ _ rfl (show ((-2), M, den) = editZ M den W n a p b from (by unfold editZ; rw [if_pos h5, if_pos g1, show edP M W n a p = none from pres_none huB h43])) dD_edit_48
    ·
      refine xg_bipush hX ((-2)) dD_edit_23 (by decide) ?_
      exact hret ((-2), M, den, tA, sA, cn, lf, sg, bl, zr, fi, si, W, T) _ _ _ rfl (show ((-2), M, den) = editZ M den W n a p b from (by unfold editZ; rw [if_pos h5, if_neg (fun q => absurd (h20.symm.trans (huA.1.trans q)) (by decide))])) dD_edit_25
  ·
    refine xg_iconst hX ((-1)) dD_edit_8 (by decide) ?_
    exact hret ((-1), M, den, e1, s1, cn, lf, sg, bl, zr, fi, si, W, T) _ _ _ rfl (show ((-1), M, den) = editZ M den W n a p b from (by unfold editZ; rw [if_neg (fun q => absurd (h5.symm.trans q) (by decide))])) dD_edit_9
end
