-- ===== PART A: goes FIRST, ahead of the names: the tables' words, and 'selects' of the private methods out of them =====
/-- a private method of a class that the tables say can be made, by its rows of tables_1 -/
def lw_okq (q : MethodName × Nat) : Prop := (q.1.cls ≠ "java/lang/invoke/MethodHandle" ∧ q.1.cls ≠ "java/lang/invoke/VarHandle") ∧ Cond.instantiable q.1.cls q.2 ∈ tables_1 ∧ Cond.privateMethod q.1 ∈ tables_1 ∧ Cond.instanceMethod q.1 ∈ tables_1
theorem lw_p0 : lw_okq (⟨"DigitRows", "readOperands", "(IIIIII)I"⟩, 7) := ⟨⟨by decide +kernel, by decide +kernel⟩, List.mem_of_getElem? (i := 8) (by decide +kernel), List.mem_of_getElem? (i := 103) (by decide +kernel), List.mem_of_getElem? (i := 104) (by decide +kernel)⟩
theorem lw_p1 : lw_okq (⟨"DigitRows", "readDecimal", "(LDigitRows$Row;II)Z"⟩, 7) := ⟨⟨by decide +kernel, by decide +kernel⟩, List.mem_of_getElem? (i := 8) (by decide +kernel), List.mem_of_getElem? (i := 110) (by decide +kernel), List.mem_of_getElem? (i := 111) (by decide +kernel)⟩
theorem lw_p2 : lw_okq (⟨"DigitRows", "halfFromEnd", "(III)I"⟩, 7) := ⟨⟨by decide +kernel, by decide +kernel⟩, List.mem_of_getElem? (i := 8) (by decide +kernel), List.mem_of_getElem? (i := 114) (by decide +kernel), List.mem_of_getElem? (i := 115) (by decide +kernel)⟩
theorem lw_p3 : lw_okq (⟨"DigitRows$Row", "addSizes", "(LDigitRows$Row;LDigitRows$Row;)V"⟩, 2) := ⟨⟨by decide +kernel, by decide +kernel⟩, List.mem_of_getElem? (i := 16) (by decide +kernel), List.mem_of_getElem? (i := 151) (by decide +kernel), List.mem_of_getElem? (i := 152) (by decide +kernel)⟩
theorem lw_p4 : lw_okq (⟨"DigitRows$Row", "subtractSizes", "(LDigitRows$Row;LDigitRows$Row;)V"⟩, 2) := ⟨⟨by decide +kernel, by decide +kernel⟩, List.mem_of_getElem? (i := 16) (by decide +kernel), List.mem_of_getElem? (i := 160) (by decide +kernel), List.mem_of_getElem? (i := 161) (by decide +kernel)⟩
theorem lw_p5 : lw_okq (⟨"DigitRows", "writeDecimal", "(LDigitRows$Row;II)I"⟩, 7) := ⟨⟨by decide +kernel, by decide +kernel⟩, List.mem_of_getElem? (i := 8) (by decide +kernel), List.mem_of_getElem? (i := 164) (by decide +kernel), List.mem_of_getElem? (i := 165) (by decide +kernel)⟩
theorem lw_p6 : lw_okq (⟨"DigitRows$Row", "addMultiple", "(LDigitRows$Row;II)V"⟩, 2) := ⟨⟨by decide +kernel, by decide +kernel⟩, List.mem_of_getElem? (i := 16) (by decide +kernel), List.mem_of_getElem? (i := 186) (by decide +kernel), List.mem_of_getElem? (i := 187) (by decide +kernel)⟩
theorem lw_p7 : lw_okq (⟨"DigitRows$Row", "bringDown", "(I)V"⟩, 2) := ⟨⟨by decide +kernel, by decide +kernel⟩, List.mem_of_getElem? (i := 16) (by decide +kernel), List.mem_of_getElem? (i := 199) (by decide +kernel), List.mem_of_getElem? (i := 200) (by decide +kernel)⟩
theorem lw_p8 : lw_okq (⟨"DigitRows$Row", "takeAway", "(LDigitRows$Row;)I"⟩, 2) := ⟨⟨by decide +kernel, by decide +kernel⟩, List.mem_of_getElem? (i := 16) (by decide +kernel), List.mem_of_getElem? (i := 203) (by decide +kernel), List.mem_of_getElem? (i := 204) (by decide +kernel)⟩
theorem lw_p9 : lw_okq (⟨"DigitRows", "readCharacters", "(LDigitRows$Row;II)Z"⟩, 7) := ⟨⟨by decide +kernel, by decide +kernel⟩, List.mem_of_getElem? (i := 8) (by decide +kernel), List.mem_of_getElem? (i := 258) (by decide +kernel), List.mem_of_getElem? (i := 259) (by decide +kernel)⟩
theorem lw_p10 : lw_okq (⟨"DigitRows", "followPattern", "(I)Z"⟩, 7) := ⟨⟨by decide +kernel, by decide +kernel⟩, List.mem_of_getElem? (i := 8) (by decide +kernel), List.mem_of_getElem? (i := 272) (by decide +kernel), List.mem_of_getElem? (i := 273) (by decide +kernel)⟩
theorem lw_p11 : lw_okq (⟨"DigitRows$Writing", "writeDigits", "(IZ)Z"⟩, 9) := ⟨⟨by decide +kernel, by decide +kernel⟩, List.mem_of_getElem? (i := 32) (by decide +kernel), List.mem_of_getElem? (i := 283) (by decide +kernel), List.mem_of_getElem? (i := 284) (by decide +kernel)⟩
theorem lw_p12 : lw_okq (⟨"DigitRows$Writing", "writeDigit", "(IZ)Z"⟩, 9) := ⟨⟨by decide +kernel, by decide +kernel⟩, List.mem_of_getElem? (i := 32) (by decide +kernel), List.mem_of_getElem? (i := 287) (by decide +kernel), List.mem_of_getElem? (i := 288) (by decide +kernel)⟩
theorem lw_p13 : lw_okq (⟨"DigitRows$Writing", "write", "(I)Z"⟩, 9) := ⟨⟨by decide +kernel, by decide +kernel⟩, List.mem_of_getElem? (i := 32) (by decide +kernel), List.mem_of_getElem? (i := 291) (by decide +kernel), List.mem_of_getElem? (i := 292) (by decide +kernel)⟩
theorem lw_p14 : lw_okq (⟨"DigitRows$Writing", "writeFills", "(I)Z"⟩, 9) := ⟨⟨by decide +kernel, by decide +kernel⟩, List.mem_of_getElem? (i := 32) (by decide +kernel), List.mem_of_getElem? (i := 295) (by decide +kernel), List.mem_of_getElem? (i := 296) (by decide +kernel)⟩
theorem lw_p15 : lw_okq (⟨"DigitRows$Writing", "obeyWithNext", "(II)Z"⟩, 9) := ⟨⟨by decide +kernel, by decide +kernel⟩, List.mem_of_getElem? (i := 32) (by decide +kernel), List.mem_of_getElem? (i := 302) (by decide +kernel), List.mem_of_getElem? (i := 303) (by decide +kernel)⟩
def lw_privs_1 : List (MethodName × Nat) := [(⟨"DigitRows", "readOperands", "(IIIIII)I"⟩, 7), (⟨"DigitRows", "readDecimal", "(LDigitRows$Row;II)Z"⟩, 7), (⟨"DigitRows", "halfFromEnd", "(III)I"⟩, 7), (⟨"DigitRows$Row", "addSizes", "(LDigitRows$Row;LDigitRows$Row;)V"⟩, 2), (⟨"DigitRows$Row", "subtractSizes", "(LDigitRows$Row;LDigitRows$Row;)V"⟩, 2), (⟨"DigitRows", "writeDecimal", "(LDigitRows$Row;II)I"⟩, 7), (⟨"DigitRows$Row", "addMultiple", "(LDigitRows$Row;II)V"⟩, 2), (⟨"DigitRows$Row", "bringDown", "(I)V"⟩, 2), (⟨"DigitRows$Row", "takeAway", "(LDigitRows$Row;)I"⟩, 2), (⟨"DigitRows", "readCharacters", "(LDigitRows$Row;II)Z"⟩, 7), (⟨"DigitRows", "followPattern", "(I)Z"⟩, 7), (⟨"DigitRows$Writing", "writeDigits", "(IZ)Z"⟩, 9), (⟨"DigitRows$Writing", "writeDigit", "(IZ)Z"⟩, 9), (⟨"DigitRows$Writing", "write", "(I)Z"⟩, 9), (⟨"DigitRows$Writing", "writeFills", "(I)Z"⟩, 9), (⟨"DigitRows$Writing", "obeyWithNext", "(II)Z"⟩, 9)]
theorem lw_r1 : ∀ q ∈ lw_privs_1, lw_okq q := List.forall_mem_cons.mpr ⟨lw_p0, List.forall_mem_cons.mpr ⟨lw_p1, List.forall_mem_cons.mpr ⟨lw_p2, List.forall_mem_cons.mpr ⟨lw_p3, List.forall_mem_cons.mpr ⟨lw_p4, List.forall_mem_cons.mpr ⟨lw_p5, List.forall_mem_cons.mpr ⟨lw_p6, List.forall_mem_cons.mpr ⟨lw_p7, List.forall_mem_cons.mpr ⟨lw_p8, List.forall_mem_cons.mpr ⟨lw_p9, List.forall_mem_cons.mpr ⟨lw_p10, List.forall_mem_cons.mpr ⟨lw_p11, List.forall_mem_cons.mpr ⟨lw_p12, List.forall_mem_cons.mpr ⟨lw_p13, List.forall_mem_cons.mpr ⟨lw_p14, List.forall_mem_cons.mpr ⟨lw_p15, fun _ h => absurd h List.not_mem_nil⟩⟩⟩⟩⟩⟩⟩⟩⟩⟩⟩⟩⟩⟩⟩⟩
theorem lw_p16 : lw_okq (⟨"DigitRows$Writing", "fillLast", "(I)Z"⟩, 9) := ⟨⟨by decide +kernel, by decide +kernel⟩, List.mem_of_getElem? (i := 32) (by decide +kernel), List.mem_of_getElem? (i := 306) (by decide +kernel), List.mem_of_getElem? (i := 307) (by decide +kernel)⟩
theorem lw_p17 : lw_okq (⟨"DigitRowsModel", "three", "(IIIIII)I"⟩, 10) := ⟨⟨by decide +kernel, by decide +kernel⟩, List.mem_of_getElem? (i := 319) (by decide +kernel), List.mem_of_getElem? (i := 368) (by decide +kernel), List.mem_of_getElem? (i := 369) (by decide +kernel)⟩
theorem lw_p18 : lw_okq (⟨"DigitRowsModel", "reads", "(IIII)I"⟩, 10) := ⟨⟨by decide +kernel, by decide +kernel⟩, List.mem_of_getElem? (i := 319) (by decide +kernel), List.mem_of_getElem? (i := 381) (by decide +kernel), List.mem_of_getElem? (i := 382) (by decide +kernel)⟩
theorem lw_p19 : lw_okq (⟨"DigitRowsModel", "read", "(II[I)I"⟩, 10) := ⟨⟨by decide +kernel, by decide +kernel⟩, List.mem_of_getElem? (i := 319) (by decide +kernel), List.mem_of_getElem? (i := 385) (by decide +kernel), List.mem_of_getElem? (i := 386) (by decide +kernel)⟩
theorem lw_p20 : lw_okq (⟨"DigitRowsModel", "adds", "()V"⟩, 10) := ⟨⟨by decide +kernel, by decide +kernel⟩, List.mem_of_getElem? (i := 319) (by decide +kernel), List.mem_of_getElem? (i := 389) (by decide +kernel), List.mem_of_getElem? (i := 390) (by decide +kernel)⟩
theorem lw_p21 : lw_okq (⟨"DigitRowsModel", "write", "(II)I"⟩, 10) := ⟨⟨by decide +kernel, by decide +kernel⟩, List.mem_of_getElem? (i := 319) (by decide +kernel), List.mem_of_getElem? (i := 396) (by decide +kernel), List.mem_of_getElem? (i := 397) (by decide +kernel)⟩
theorem lw_p22 : lw_okq (⟨"DigitRowsModel", "cuts", "(I)Z"⟩, 10) := ⟨⟨by decide +kernel, by decide +kernel⟩, List.mem_of_getElem? (i := 319) (by decide +kernel), List.mem_of_getElem? (i := 400) (by decide +kernel), List.mem_of_getElem? (i := 401) (by decide +kernel)⟩
theorem lw_p23 : lw_okq (⟨"DigitRowsModel", "flags", "(Z)I"⟩, 10) := ⟨⟨by decide +kernel, by decide +kernel⟩, List.mem_of_getElem? (i := 319) (by decide +kernel), List.mem_of_getElem? (i := 404) (by decide +kernel), List.mem_of_getElem? (i := 405) (by decide +kernel)⟩
def lw_privs_2 : List (MethodName × Nat) := [(⟨"DigitRows$Writing", "fillLast", "(I)Z"⟩, 9), (⟨"DigitRowsModel", "three", "(IIIIII)I"⟩, 10), (⟨"DigitRowsModel", "reads", "(IIII)I"⟩, 10), (⟨"DigitRowsModel", "read", "(II[I)I"⟩, 10), (⟨"DigitRowsModel", "adds", "()V"⟩, 10), (⟨"DigitRowsModel", "write", "(II)I"⟩, 10), (⟨"DigitRowsModel", "cuts", "(I)Z"⟩, 10), (⟨"DigitRowsModel", "flags", "(Z)I"⟩, 10)]
theorem lw_r2 : ∀ q ∈ lw_privs_2, lw_okq q := List.forall_mem_cons.mpr ⟨lw_p16, List.forall_mem_cons.mpr ⟨lw_p17, List.forall_mem_cons.mpr ⟨lw_p18, List.forall_mem_cons.mpr ⟨lw_p19, List.forall_mem_cons.mpr ⟨lw_p20, List.forall_mem_cons.mpr ⟨lw_p21, List.forall_mem_cons.mpr ⟨lw_p22, List.forall_mem_cons.mpr ⟨lw_p23, fun _ h => absurd h List.not_mem_nil⟩⟩⟩⟩⟩⟩⟩⟩
def lw_privs : List (MethodName × Nat) := lw_privs_1 ++ (lw_privs_2)
def lw_tbl : List Cond := k2_sels lw_privs ++ tables_1
theorem lw_privs_ok : ∀ q ∈ lw_privs, lw_okq q := by
  show ∀ q ∈ lw_privs_1 ++ (lw_privs_2), lw_okq q
  exact List.forall_mem_append.mpr ⟨lw_r1, lw_r2⟩
-- ===== end of PART A =====
def TB : List Cond := lw_tbl.filter goodWord
theorem tb_good : GoodIn TB TB := fun w hw => ⟨hw, good_of_word (List.mem_filter.mp hw).2⟩
theorem tb_in {w : Cond} (h : w ∈ tables_1) (hg : goodWord w = true) : w ∈ TB := List.mem_filter.mpr ⟨List.mem_append_right _ h, hg⟩
theorem tb_ip {w : Cond} (h : w ∈ k2_sels lw_privs) (hg : goodWord w = true) : w ∈ TB := List.mem_filter.mpr ⟨List.mem_append_left _ h, hg⟩
def TR : u_T := fun k => match k with
  | 0 => ("DigitRows$Row", "places", "[I", true)
  | _ => ("DigitRows$Row", "minus", "Z", false)
def tyR : Nat → FieldType := fun k => match k with
  | 0 => .array .int
  | _ => .boolean
theorem nmR : ∀ a, a < 2 → ∀ b, b < 2 → a ≠ b → (TR a).2.1 ≠ (TR b).2.1 := by decide +kernel
theorem tyR_ok : ∀ k, k < 2 → parseFieldDescriptor (TR k).2.2.1 = some (tyR k) := by decide +kernel
theorem hinR : ∀ w ∈ u_ws "DigitRows$Row" TR 2, w ∈ TB := by decide +kernel
def TW : u_T := fun k => match k with
  | 0 => ("DigitRows$Writing", "written", "[I", true)
  | 1 => ("DigitRows$Writing", "digitsToTake", "[I", true)
  | 2 => ("DigitRows$Writing", "count", "I", false)
  | 3 => ("DigitRows$Writing", "digitsLeft", "I", false)
  | 4 => ("DigitRows$Writing", "significance", "Z", false)
  | 5 => ("DigitRows$Writing", "below", "Z", false)
  | 6 => ("DigitRows$Writing", "zero", "Z", false)
  | 7 => ("DigitRows$Writing", "fill", "I", false)
  | _ => ("DigitRows$Writing", "sign", "I", false)
def tyW : Nat → FieldType := fun k => match k with
  | 0 => .array .int
  | 1 => .array .int
  | 2 => .int
  | 3 => .int
  | 4 => .boolean
  | 5 => .boolean
  | 6 => .boolean
  | 7 => .int
  | _ => .int
theorem nmW : ∀ a, a < 9 → ∀ b, b < 9 → a ≠ b → (TW a).2.1 ≠ (TW b).2.1 := by decide +kernel
theorem tyW_ok : ∀ k, k < 9 → parseFieldDescriptor (TW k).2.2.1 = some (tyW k) := by decide +kernel
theorem hinW : ∀ w ∈ u_ws "DigitRows$Writing" TW 9, w ∈ TB := by decide +kernel
def TD : u_T := fun k => match k with
  | 0 => ("DigitRows", "memory", "[I", true)
  | 1 => ("DigitRows", "first", "LDigitRows$Row;", true)
  | 2 => ("DigitRows", "second", "LDigitRows$Row;", true)
  | 3 => ("DigitRows", "rest", "LDigitRows$Row;", true)
  | 4 => ("DigitRows", "result", "LDigitRows$Row;", true)
  | 5 => ("DigitRows", "writing", "LDigitRows$Writing;", true)
  | _ => ("DigitRows", "endedSignificant", "Z", false)
def tyD : Nat → FieldType := fun k => match k with
  | 0 => .array .int
  | 1 => .object "DigitRows$Row"
  | 2 => .object "DigitRows$Row"
  | 3 => .object "DigitRows$Row"
  | 4 => .object "DigitRows$Row"
  | 5 => .object "DigitRows$Writing"
  | _ => .boolean
theorem nmD : ∀ a, a < 7 → ∀ b, b < 7 → a ≠ b → (TD a).2.1 ≠ (TD b).2.1 := by decide +kernel
theorem tyD_ok : ∀ k, k < 7 → parseFieldDescriptor (TD k).2.2.1 = some (tyD k) := by decide +kernel
theorem hinD : ∀ w ∈ u_ws "DigitRows" TD 7, w ∈ TB := by decide +kernel
def TM : u_T := fun k => match k with
  | 0 => ("DigitRowsModel", "memory", "[I", true)
  | 1 => ("DigitRowsModel", "one", "[I", true)
  | 2 => ("DigitRowsModel", "two", "[I", true)
  | 3 => ("DigitRowsModel", "out", "[I", true)
  | 4 => ("DigitRowsModel", "rest", "[I", true)
  | 5 => ("DigitRowsModel", "oneMinus", "Z", false)
  | 6 => ("DigitRowsModel", "twoMinus", "Z", false)
  | 7 => ("DigitRowsModel", "outMinus", "Z", false)
  | 8 => ("DigitRowsModel", "written", "[I", true)
  | _ => ("DigitRowsModel", "ended", "Z", false)
def tyM : Nat → FieldType := fun k => match k with
  | 0 => .array .int
  | 1 => .array .int
  | 2 => .array .int
  | 3 => .array .int
  | 4 => .array .int
  | 5 => .boolean
  | 6 => .boolean
  | 7 => .boolean
  | 8 => .array .int
  | _ => .boolean
theorem nmM : ∀ a, a < 10 → ∀ b, b < 10 → a ≠ b → (TM a).2.1 ≠ (TM b).2.1 := by decide +kernel
theorem tyM_ok : ∀ k, k < 10 → parseFieldDescriptor (TM k).2.2.1 = some (tyM k) := by decide +kernel
theorem hinM : ∀ w ∈ u_ws "DigitRowsModel" TM 10, w ∈ TB := by decide +kernel
abbrev vwCl : List vw_C := [("DigitRows$Row", TR, 2), ("DigitRows$Writing", TW, 9), ("DigitRows", TD, 7), ("DigitRowsModel", TM, 10)]
abbrev yD_init : MethodName := ⟨"DigitRows", "<init>", "()V"⟩
abbrev cD_init : ByteArray := prog_1_method_1_code
theorem hdD_init : yD_init.cls ≠ "java/lang/invoke/MethodHandle" ∧ yD_init.cls ≠ "java/lang/invoke/VarHandle" ∧ (parseMethodDescriptor yD_init.desc).map (fun d => d.parameters.length) = some 0 := by decide +kernel
abbrev yR_init : MethodName := ⟨"DigitRows$Row", "<init>", "()V"⟩
abbrev cR_init : ByteArray := prog_2_method_1_code
theorem hdR_init : yR_init.cls ≠ "java/lang/invoke/MethodHandle" ∧ yR_init.cls ≠ "java/lang/invoke/VarHandle" ∧ (parseMethodDescriptor yR_init.desc).map (fun d => d.parameters.length) = some 0 := by decide +kernel
abbrev yW_init : MethodName := ⟨"DigitRows$Writing", "<init>", "()V"⟩
abbrev cW_init : ByteArray := prog_3_method_1_code
theorem hdW_init : yW_init.cls ≠ "java/lang/invoke/MethodHandle" ∧ yW_init.cls ≠ "java/lang/invoke/VarHandle" ∧ (parseMethodDescriptor yW_init.desc).map (fun d => d.parameters.length) = some 0 := by decide +kernel
abbrev yD_put : MethodName := ⟨"DigitRows", "put", "(II)Z"⟩
abbrev cD_put : ByteArray := prog_1_method_2_code
theorem hdD_put : yD_put.cls ≠ "java/lang/invoke/MethodHandle" ∧ yD_put.cls ≠ "java/lang/invoke/VarHandle" ∧ (parseMethodDescriptor yD_put.desc).map (fun d => d.parameters.length) = some 2 := by decide +kernel
abbrev yD_byteOf : MethodName := ⟨"DigitRows", "byteOf", "(I)I"⟩
abbrev cD_byteOf : ByteArray := prog_1_method_3_code
theorem hdD_byteOf : yD_byteOf.cls ≠ "java/lang/invoke/MethodHandle" ∧ yD_byteOf.cls ≠ "java/lang/invoke/VarHandle" ∧ (parseMethodDescriptor yD_byteOf.desc).map (fun d => d.parameters.length) = some 1 := by decide +kernel
abbrev yD_sum : MethodName := ⟨"DigitRows", "sum", "(IIIIII)I"⟩
abbrev cD_sum : ByteArray := prog_1_method_4_code
theorem hdD_sum : yD_sum.cls ≠ "java/lang/invoke/MethodHandle" ∧ yD_sum.cls ≠ "java/lang/invoke/VarHandle" ∧ (parseMethodDescriptor yD_sum.desc).map (fun d => d.parameters.length) = some 6 := by decide +kernel
abbrev yD_readOperands : MethodName := ⟨"DigitRows", "readOperands", "(IIIIII)I"⟩
abbrev cD_readOperands : ByteArray := prog_1_method_18_code
theorem hdD_readOperands : yD_readOperands.cls ≠ "java/lang/invoke/MethodHandle" ∧ yD_readOperands.cls ≠ "java/lang/invoke/VarHandle" ∧ (parseMethodDescriptor yD_readOperands.desc).map (fun d => d.parameters.length) = some 6 := by decide +kernel
abbrev yD_decimalFits : MethodName := ⟨"DigitRows", "decimalFits", "(II)Z"⟩
abbrev cD_decimalFits : ByteArray := prog_1_method_16_code
theorem hdD_decimalFits : yD_decimalFits.cls ≠ "java/lang/invoke/MethodHandle" ∧ yD_decimalFits.cls ≠ "java/lang/invoke/VarHandle" ∧ (parseMethodDescriptor yD_decimalFits.desc).map (fun d => d.parameters.length) = some 2 := by decide +kernel
abbrev yD_readDecimal : MethodName := ⟨"DigitRows", "readDecimal", "(LDigitRows$Row;II)Z"⟩
abbrev cD_readDecimal : ByteArray := prog_1_method_20_code
theorem hdD_readDecimal : yD_readDecimal.cls ≠ "java/lang/invoke/MethodHandle" ∧ yD_readDecimal.cls ≠ "java/lang/invoke/VarHandle" ∧ (parseMethodDescriptor yD_readDecimal.desc).map (fun d => d.parameters.length) = some 3 := by decide +kernel
abbrev yD_halfFromEnd : MethodName := ⟨"DigitRows", "halfFromEnd", "(III)I"⟩
abbrev cD_halfFromEnd : ByteArray := prog_1_method_19_code
theorem hdD_halfFromEnd : yD_halfFromEnd.cls ≠ "java/lang/invoke/MethodHandle" ∧ yD_halfFromEnd.cls ≠ "java/lang/invoke/VarHandle" ∧ (parseMethodDescriptor yD_halfFromEnd.desc).map (fun d => d.parameters.length) = some 3 := by decide +kernel
abbrev yR_clear : MethodName := ⟨"DigitRows$Row", "clear", "()V"⟩
abbrev cR_clear : ByteArray := prog_2_method_4_code
theorem hdR_clear : yR_clear.cls ≠ "java/lang/invoke/MethodHandle" ∧ yR_clear.cls ≠ "java/lang/invoke/VarHandle" ∧ (parseMethodDescriptor yR_clear.desc).map (fun d => d.parameters.length) = some 0 := by decide +kernel
abbrev yJA_fill : MethodName := ⟨"java/util/Arrays", "fill", "([II)V"⟩
abbrev cJA_fill : ByteArray := prog_7_method_103_code
theorem hdJA_fill : yJA_fill.cls ≠ "java/lang/invoke/MethodHandle" ∧ yJA_fill.cls ≠ "java/lang/invoke/VarHandle" ∧ (parseMethodDescriptor yJA_fill.desc).map (fun d => d.parameters.length) = some 2 := by decide +kernel
abbrev yR_setDigit : MethodName := ⟨"DigitRows$Row", "setDigit", "(II)V"⟩
abbrev cR_setDigit : ByteArray := prog_2_method_3_code
theorem hdR_setDigit : yR_setDigit.cls ≠ "java/lang/invoke/MethodHandle" ∧ yR_setDigit.cls ≠ "java/lang/invoke/VarHandle" ∧ (parseMethodDescriptor yR_setDigit.desc).map (fun d => d.parameters.length) = some 2 := by decide +kernel
abbrev yR_setSign : MethodName := ⟨"DigitRows$Row", "setSign", "(Z)V"⟩
abbrev cR_setSign : ByteArray := prog_2_method_5_code
theorem hdR_setSign : yR_setSign.cls ≠ "java/lang/invoke/MethodHandle" ∧ yR_setSign.cls ≠ "java/lang/invoke/VarHandle" ∧ (parseMethodDescriptor yR_setSign.desc).map (fun d => d.parameters.length) = some 1 := by decide +kernel
abbrev yR_isZero : MethodName := ⟨"DigitRows$Row", "isZero", "()Z"⟩
abbrev cR_isZero : ByteArray := prog_2_method_6_code
theorem hdR_isZero : yR_isZero.cls ≠ "java/lang/invoke/MethodHandle" ∧ yR_isZero.cls ≠ "java/lang/invoke/VarHandle" ∧ (parseMethodDescriptor yR_isZero.desc).map (fun d => d.parameters.length) = some 0 := by decide +kernel
abbrev yR_hasDigit : MethodName := ⟨"DigitRows$Row", "hasDigit", "(II)Z"⟩
abbrev cR_hasDigit : ByteArray := prog_2_method_7_code
theorem hdR_hasDigit : yR_hasDigit.cls ≠ "java/lang/invoke/MethodHandle" ∧ yR_hasDigit.cls ≠ "java/lang/invoke/VarHandle" ∧ (parseMethodDescriptor yR_hasDigit.desc).map (fun d => d.parameters.length) = some 2 := by decide +kernel
abbrev yR_digitAt : MethodName := ⟨"DigitRows$Row", "digitAt", "(I)I"⟩
abbrev cR_digitAt : ByteArray := prog_2_method_2_code
theorem hdR_digitAt : yR_digitAt.cls ≠ "java/lang/invoke/MethodHandle" ∧ yR_digitAt.cls ≠ "java/lang/invoke/VarHandle" ∧ (parseMethodDescriptor yR_digitAt.desc).map (fun d => d.parameters.length) = some 1 := by decide +kernel
abbrev yR_addSigned : MethodName := ⟨"DigitRows$Row", "addSigned", "(LDigitRows$Row;LDigitRows$Row;)V"⟩
abbrev cR_addSigned : ByteArray := prog_2_method_13_code
theorem hdR_addSigned : yR_addSigned.cls ≠ "java/lang/invoke/MethodHandle" ∧ yR_addSigned.cls ≠ "java/lang/invoke/VarHandle" ∧ (parseMethodDescriptor yR_addSigned.desc).map (fun d => d.parameters.length) = some 2 := by decide +kernel
abbrev yR_addSizes : MethodName := ⟨"DigitRows$Row", "addSizes", "(LDigitRows$Row;LDigitRows$Row;)V"⟩
abbrev cR_addSizes : ByteArray := prog_2_method_14_code
theorem hdR_addSizes : yR_addSizes.cls ≠ "java/lang/invoke/MethodHandle" ∧ yR_addSizes.cls ≠ "java/lang/invoke/VarHandle" ∧ (parseMethodDescriptor yR_addSizes.desc).map (fun d => d.parameters.length) = some 2 := by decide +kernel
abbrev yR_orderOfSizes : MethodName := ⟨"DigitRows$Row", "orderOfSizes", "(LDigitRows$Row;)I"⟩
abbrev cR_orderOfSizes : ByteArray := prog_2_method_11_code
theorem hdR_orderOfSizes : yR_orderOfSizes.cls ≠ "java/lang/invoke/MethodHandle" ∧ yR_orderOfSizes.cls ≠ "java/lang/invoke/VarHandle" ∧ (parseMethodDescriptor yR_orderOfSizes.desc).map (fun d => d.parameters.length) = some 1 := by decide +kernel
abbrev yR_subtractSizes : MethodName := ⟨"DigitRows$Row", "subtractSizes", "(LDigitRows$Row;LDigitRows$Row;)V"⟩
abbrev cR_subtractSizes : ByteArray := prog_2_method_15_code
theorem hdR_subtractSizes : yR_subtractSizes.cls ≠ "java/lang/invoke/MethodHandle" ∧ yR_subtractSizes.cls ≠ "java/lang/invoke/VarHandle" ∧ (parseMethodDescriptor yR_subtractSizes.desc).map (fun d => d.parameters.length) = some 2 := by decide +kernel
abbrev yD_writeDecimal : MethodName := ⟨"DigitRows", "writeDecimal", "(LDigitRows$Row;II)I"⟩
abbrev cD_writeDecimal : ByteArray := prog_1_method_22_code
theorem hdD_writeDecimal : yD_writeDecimal.cls ≠ "java/lang/invoke/MethodHandle" ∧ yD_writeDecimal.cls ≠ "java/lang/invoke/VarHandle" ∧ (parseMethodDescriptor yD_writeDecimal.desc).map (fun d => d.parameters.length) = some 3 := by decide +kernel
abbrev yR_flagsOfLowest : MethodName := ⟨"DigitRows$Row", "flagsOfLowest", "(I)I"⟩
abbrev cR_flagsOfLowest : ByteArray := prog_2_method_8_code
theorem hdR_flagsOfLowest : yR_flagsOfLowest.cls ≠ "java/lang/invoke/MethodHandle" ∧ yR_flagsOfLowest.cls ≠ "java/lang/invoke/VarHandle" ∧ (parseMethodDescriptor yR_flagsOfLowest.desc).map (fun d => d.parameters.length) = some 1 := by decide +kernel
abbrev yD_less : MethodName := ⟨"DigitRows", "less", "(IIIIII)I"⟩
abbrev cD_less : ByteArray := prog_1_method_5_code
theorem hdD_less : yD_less.cls ≠ "java/lang/invoke/MethodHandle" ∧ yD_less.cls ≠ "java/lang/invoke/VarHandle" ∧ (parseMethodDescriptor yD_less.desc).map (fun d => d.parameters.length) = some 6 := by decide +kernel
abbrev yD_product : MethodName := ⟨"DigitRows", "product", "(IIIIII)I"⟩
abbrev cD_product : ByteArray := prog_1_method_6_code
theorem hdD_product : yD_product.cls ≠ "java/lang/invoke/MethodHandle" ∧ yD_product.cls ≠ "java/lang/invoke/VarHandle" ∧ (parseMethodDescriptor yD_product.desc).map (fun d => d.parameters.length) = some 6 := by decide +kernel
abbrev yR_multiply : MethodName := ⟨"DigitRows$Row", "multiply", "(LDigitRows$Row;LDigitRows$Row;)V"⟩
abbrev cR_multiply : ByteArray := prog_2_method_17_code
theorem hdR_multiply : yR_multiply.cls ≠ "java/lang/invoke/MethodHandle" ∧ yR_multiply.cls ≠ "java/lang/invoke/VarHandle" ∧ (parseMethodDescriptor yR_multiply.desc).map (fun d => d.parameters.length) = some 2 := by decide +kernel
abbrev yR_addMultiple : MethodName := ⟨"DigitRows$Row", "addMultiple", "(LDigitRows$Row;II)V"⟩
abbrev cR_addMultiple : ByteArray := prog_2_method_18_code
theorem hdR_addMultiple : yR_addMultiple.cls ≠ "java/lang/invoke/MethodHandle" ∧ yR_addMultiple.cls ≠ "java/lang/invoke/VarHandle" ∧ (parseMethodDescriptor yR_addMultiple.desc).map (fun d => d.parameters.length) = some 3 := by decide +kernel
abbrev yD_quotient : MethodName := ⟨"DigitRows", "quotient", "(IIIIII)I"⟩
abbrev cD_quotient : ByteArray := prog_1_method_7_code
theorem hdD_quotient : yD_quotient.cls ≠ "java/lang/invoke/MethodHandle" ∧ yD_quotient.cls ≠ "java/lang/invoke/VarHandle" ∧ (parseMethodDescriptor yD_quotient.desc).map (fun d => d.parameters.length) = some 6 := by decide +kernel
abbrev yR_divide : MethodName := ⟨"DigitRows$Row", "divide", "(LDigitRows$Row;LDigitRows$Row;LDigitRows$Row;)V"⟩
abbrev cR_divide : ByteArray := prog_2_method_19_code
theorem hdR_divide : yR_divide.cls ≠ "java/lang/invoke/MethodHandle" ∧ yR_divide.cls ≠ "java/lang/invoke/VarHandle" ∧ (parseMethodDescriptor yR_divide.desc).map (fun d => d.parameters.length) = some 3 := by decide +kernel
abbrev yR_bringDown : MethodName := ⟨"DigitRows$Row", "bringDown", "(I)V"⟩
abbrev cR_bringDown : ByteArray := prog_2_method_20_code
theorem hdR_bringDown : yR_bringDown.cls ≠ "java/lang/invoke/MethodHandle" ∧ yR_bringDown.cls ≠ "java/lang/invoke/VarHandle" ∧ (parseMethodDescriptor yR_bringDown.desc).map (fun d => d.parameters.length) = some 1 := by decide +kernel
abbrev yR_takeAway : MethodName := ⟨"DigitRows$Row", "takeAway", "(LDigitRows$Row;)I"⟩
abbrev cR_takeAway : ByteArray := prog_2_method_21_code
theorem hdR_takeAway : yR_takeAway.cls ≠ "java/lang/invoke/MethodHandle" ∧ yR_takeAway.cls ≠ "java/lang/invoke/VarHandle" ∧ (parseMethodDescriptor yR_takeAway.desc).map (fun d => d.parameters.length) = some 1 := by decide +kernel
abbrev yD_shift : MethodName := ⟨"DigitRows", "shift", "(IIIIII)I"⟩
abbrev cD_shift : ByteArray := prog_1_method_8_code
theorem hdD_shift : yD_shift.cls ≠ "java/lang/invoke/MethodHandle" ∧ yD_shift.cls ≠ "java/lang/invoke/VarHandle" ∧ (parseMethodDescriptor yD_shift.desc).map (fun d => d.parameters.length) = some 6 := by decide +kernel
abbrev yR_moveLeft : MethodName := ⟨"DigitRows$Row", "moveLeft", "(LDigitRows$Row;I)V"⟩
abbrev cR_moveLeft : ByteArray := prog_2_method_22_code
theorem hdR_moveLeft : yR_moveLeft.cls ≠ "java/lang/invoke/MethodHandle" ∧ yR_moveLeft.cls ≠ "java/lang/invoke/VarHandle" ∧ (parseMethodDescriptor yR_moveLeft.desc).map (fun d => d.parameters.length) = some 2 := by decide +kernel
abbrev yR_addOne : MethodName := ⟨"DigitRows$Row", "addOne", "()V"⟩
abbrev cR_addOne : ByteArray := prog_2_method_16_code
theorem hdR_addOne : yR_addOne.cls ≠ "java/lang/invoke/MethodHandle" ∧ yR_addOne.cls ≠ "java/lang/invoke/VarHandle" ∧ (parseMethodDescriptor yR_addOne.desc).map (fun d => d.parameters.length) = some 0 := by decide +kernel
abbrev yD_compare : MethodName := ⟨"DigitRows", "compare", "(IIII)I"⟩
abbrev cD_compare : ByteArray := prog_1_method_9_code
theorem hdD_compare : yD_compare.cls ≠ "java/lang/invoke/MethodHandle" ∧ yD_compare.cls ≠ "java/lang/invoke/VarHandle" ∧ (parseMethodDescriptor yD_compare.desc).map (fun d => d.parameters.length) = some 4 := by decide +kernel
abbrev yR_orderSigned : MethodName := ⟨"DigitRows$Row", "orderSigned", "(LDigitRows$Row;)I"⟩
abbrev cR_orderSigned : ByteArray := prog_2_method_12_code
theorem hdR_orderSigned : yR_orderSigned.cls ≠ "java/lang/invoke/MethodHandle" ∧ yR_orderSigned.cls ≠ "java/lang/invoke/VarHandle" ∧ (parseMethodDescriptor yR_orderSigned.desc).map (fun d => d.parameters.length) = some 1 := by decide +kernel
abbrev yD_number : MethodName := ⟨"DigitRows", "number", "(III)I"⟩
abbrev cD_number : ByteArray := prog_1_method_10_code
theorem hdD_number : yD_number.cls ≠ "java/lang/invoke/MethodHandle" ∧ yD_number.cls ≠ "java/lang/invoke/VarHandle" ∧ (parseMethodDescriptor yD_number.desc).map (fun d => d.parameters.length) = some 3 := by decide +kernel
abbrev yR_take : MethodName := ⟨"DigitRows$Row", "take", "(I)V"⟩
abbrev cR_take : ByteArray := prog_2_method_9_code
theorem hdR_take : yR_take.cls ≠ "java/lang/invoke/MethodHandle" ∧ yR_take.cls ≠ "java/lang/invoke/VarHandle" ∧ (parseMethodDescriptor yR_take.desc).map (fun d => d.parameters.length) = some 1 := by decide +kernel
abbrev yJM_abs : MethodName := ⟨"java/lang/Math", "abs", "(J)J"⟩
abbrev cJM_abs : ByteArray := prog_6_method_61_code
theorem hdJM_abs : yJM_abs.cls ≠ "java/lang/invoke/MethodHandle" ∧ yJM_abs.cls ≠ "java/lang/invoke/VarHandle" ∧ (parseMethodDescriptor yJM_abs.desc).map (fun d => d.parameters.length) = some 1 := by decide +kernel
abbrev yD_value : MethodName := ⟨"DigitRows", "value", "(II)J"⟩
abbrev cD_value : ByteArray := prog_1_method_11_code
theorem hdD_value : yD_value.cls ≠ "java/lang/invoke/MethodHandle" ∧ yD_value.cls ≠ "java/lang/invoke/VarHandle" ∧ (parseMethodDescriptor yD_value.desc).map (fun d => d.parameters.length) = some 2 := by decide +kernel
abbrev yR_lowestBits : MethodName := ⟨"DigitRows$Row", "lowestBits", "()J"⟩
abbrev cR_lowestBits : ByteArray := prog_2_method_10_code
theorem hdR_lowestBits : yR_lowestBits.cls ≠ "java/lang/invoke/MethodHandle" ∧ yR_lowestBits.cls ≠ "java/lang/invoke/VarHandle" ∧ (parseMethodDescriptor yR_lowestBits.desc).map (fun d => d.parameters.length) = some 0 := by decide +kernel
abbrev yD_characters : MethodName := ⟨"DigitRows", "characters", "(IIII)I"⟩
abbrev cD_characters : ByteArray := prog_1_method_12_code
theorem hdD_characters : yD_characters.cls ≠ "java/lang/invoke/MethodHandle" ∧ yD_characters.cls ≠ "java/lang/invoke/VarHandle" ∧ (parseMethodDescriptor yD_characters.desc).map (fun d => d.parameters.length) = some 4 := by decide +kernel
abbrev yD_charactersFit : MethodName := ⟨"DigitRows", "charactersFit", "(II)Z"⟩
abbrev cD_charactersFit : ByteArray := prog_1_method_17_code
theorem hdD_charactersFit : yD_charactersFit.cls ≠ "java/lang/invoke/MethodHandle" ∧ yD_charactersFit.cls ≠ "java/lang/invoke/VarHandle" ∧ (parseMethodDescriptor yD_charactersFit.desc).map (fun d => d.parameters.length) = some 2 := by decide +kernel
abbrev yD_digits : MethodName := ⟨"DigitRows", "digits", "(IIII)I"⟩
abbrev cD_digits : ByteArray := prog_1_method_13_code
theorem hdD_digits : yD_digits.cls ≠ "java/lang/invoke/MethodHandle" ∧ yD_digits.cls ≠ "java/lang/invoke/VarHandle" ∧ (parseMethodDescriptor yD_digits.desc).map (fun d => d.parameters.length) = some 4 := by decide +kernel
abbrev yD_readCharacters : MethodName := ⟨"DigitRows", "readCharacters", "(LDigitRows$Row;II)Z"⟩
abbrev cD_readCharacters : ByteArray := prog_1_method_21_code
theorem hdD_readCharacters : yD_readCharacters.cls ≠ "java/lang/invoke/MethodHandle" ∧ yD_readCharacters.cls ≠ "java/lang/invoke/VarHandle" ∧ (parseMethodDescriptor yD_readCharacters.desc).map (fun d => d.parameters.length) = some 3 := by decide +kernel
abbrev yD_edit : MethodName := ⟨"DigitRows", "edit", "(IIII)I"⟩
abbrev cD_edit : ByteArray := prog_1_method_14_code
theorem hdD_edit : yD_edit.cls ≠ "java/lang/invoke/MethodHandle" ∧ yD_edit.cls ≠ "java/lang/invoke/VarHandle" ∧ (parseMethodDescriptor yD_edit.desc).map (fun d => d.parameters.length) = some 4 := by decide +kernel
abbrev yW_begin : MethodName := ⟨"DigitRows$Writing", "begin", "(LDigitRows$Row;I)V"⟩
abbrev cW_begin : ByteArray := prog_3_method_2_code
theorem hdW_begin : yW_begin.cls ≠ "java/lang/invoke/MethodHandle" ∧ yW_begin.cls ≠ "java/lang/invoke/VarHandle" ∧ (parseMethodDescriptor yW_begin.desc).map (fun d => d.parameters.length) = some 2 := by decide +kernel
abbrev yD_followPattern : MethodName := ⟨"DigitRows", "followPattern", "(I)Z"⟩
abbrev cD_followPattern : ByteArray := prog_1_method_23_code
theorem hdD_followPattern : yD_followPattern.cls ≠ "java/lang/invoke/MethodHandle" ∧ yD_followPattern.cls ≠ "java/lang/invoke/VarHandle" ∧ (parseMethodDescriptor yD_followPattern.desc).map (fun d => d.parameters.length) = some 1 := by decide +kernel
abbrev yW_obey : MethodName := ⟨"DigitRows$Writing", "obey", "(II)Z"⟩
abbrev cW_obey : ByteArray := prog_3_method_5_code
theorem hdW_obey : yW_obey.cls ≠ "java/lang/invoke/MethodHandle" ∧ yW_obey.cls ≠ "java/lang/invoke/VarHandle" ∧ (parseMethodDescriptor yW_obey.desc).map (fun d => d.parameters.length) = some 2 := by decide +kernel
abbrev yW_isRun : MethodName := ⟨"DigitRows$Writing", "isRun", "(II)Z"⟩
abbrev cW_isRun : ByteArray := prog_3_method_6_code
theorem hdW_isRun : yW_isRun.cls ≠ "java/lang/invoke/MethodHandle" ∧ yW_isRun.cls ≠ "java/lang/invoke/VarHandle" ∧ (parseMethodDescriptor yW_isRun.desc).map (fun d => d.parameters.length) = some 2 := by decide +kernel
abbrev yW_writeDigits : MethodName := ⟨"DigitRows$Writing", "writeDigits", "(IZ)Z"⟩
abbrev cW_writeDigits : ByteArray := prog_3_method_10_code
theorem hdW_writeDigits : yW_writeDigits.cls ≠ "java/lang/invoke/MethodHandle" ∧ yW_writeDigits.cls ≠ "java/lang/invoke/VarHandle" ∧ (parseMethodDescriptor yW_writeDigits.desc).map (fun d => d.parameters.length) = some 2 := by decide +kernel
abbrev yW_writeDigit : MethodName := ⟨"DigitRows$Writing", "writeDigit", "(IZ)Z"⟩
abbrev cW_writeDigit : ByteArray := prog_3_method_11_code
theorem hdW_writeDigit : yW_writeDigit.cls ≠ "java/lang/invoke/MethodHandle" ∧ yW_writeDigit.cls ≠ "java/lang/invoke/VarHandle" ∧ (parseMethodDescriptor yW_writeDigit.desc).map (fun d => d.parameters.length) = some 2 := by decide +kernel
abbrev yW_write : MethodName := ⟨"DigitRows$Writing", "write", "(I)Z"⟩
abbrev cW_write : ByteArray := prog_3_method_8_code
theorem hdW_write : yW_write.cls ≠ "java/lang/invoke/MethodHandle" ∧ yW_write.cls ≠ "java/lang/invoke/VarHandle" ∧ (parseMethodDescriptor yW_write.desc).map (fun d => d.parameters.length) = some 1 := by decide +kernel
abbrev yW_writeFills : MethodName := ⟨"DigitRows$Writing", "writeFills", "(I)Z"⟩
abbrev cW_writeFills : ByteArray := prog_3_method_9_code
theorem hdW_writeFills : yW_writeFills.cls ≠ "java/lang/invoke/MethodHandle" ∧ yW_writeFills.cls ≠ "java/lang/invoke/VarHandle" ∧ (parseMethodDescriptor yW_writeFills.desc).map (fun d => d.parameters.length) = some 1 := by decide +kernel
abbrev yW_takesNext : MethodName := ⟨"DigitRows$Writing", "takesNext", "(I)Z"⟩
abbrev cW_takesNext : ByteArray := prog_3_method_3_code
theorem hdW_takesNext : yW_takesNext.cls ≠ "java/lang/invoke/MethodHandle" ∧ yW_takesNext.cls ≠ "java/lang/invoke/VarHandle" ∧ (parseMethodDescriptor yW_takesNext.desc).map (fun d => d.parameters.length) = some 1 := by decide +kernel
abbrev yW_obeyWithNext : MethodName := ⟨"DigitRows$Writing", "obeyWithNext", "(II)Z"⟩
abbrev cW_obeyWithNext : ByteArray := prog_3_method_7_code
theorem hdW_obeyWithNext : yW_obeyWithNext.cls ≠ "java/lang/invoke/MethodHandle" ∧ yW_obeyWithNext.cls ≠ "java/lang/invoke/VarHandle" ∧ (parseMethodDescriptor yW_obeyWithNext.desc).map (fun d => d.parameters.length) = some 2 := by decide +kernel
abbrev yW_fillLast : MethodName := ⟨"DigitRows$Writing", "fillLast", "(I)Z"⟩
abbrev cW_fillLast : ByteArray := prog_3_method_12_code
theorem hdW_fillLast : yW_fillLast.cls ≠ "java/lang/invoke/MethodHandle" ∧ yW_fillLast.cls ≠ "java/lang/invoke/VarHandle" ∧ (parseMethodDescriptor yW_fillLast.desc).map (fun d => d.parameters.length) = some 1 := by decide +kernel
abbrev yW_characterAt : MethodName := ⟨"DigitRows$Writing", "characterAt", "(I)I"⟩
abbrev cW_characterAt : ByteArray := prog_3_method_4_code
theorem hdW_characterAt : yW_characterAt.cls ≠ "java/lang/invoke/MethodHandle" ∧ yW_characterAt.cls ≠ "java/lang/invoke/VarHandle" ∧ (parseMethodDescriptor yW_characterAt.desc).map (fun d => d.parameters.length) = some 1 := by decide +kernel
abbrev yD_significant : MethodName := ⟨"DigitRows", "significant", "()Z"⟩
abbrev cD_significant : ByteArray := prog_1_method_15_code
theorem hdD_significant : yD_significant.cls ≠ "java/lang/invoke/MethodHandle" ∧ yD_significant.cls ≠ "java/lang/invoke/VarHandle" ∧ (parseMethodDescriptor yD_significant.desc).map (fun d => d.parameters.length) = some 0 := by decide +kernel
abbrev yM_init : MethodName := ⟨"DigitRowsModel", "<init>", "()V"⟩
abbrev cM_init : ByteArray := prog_5_method_1_code
theorem hdM_init : yM_init.cls ≠ "java/lang/invoke/MethodHandle" ∧ yM_init.cls ≠ "java/lang/invoke/VarHandle" ∧ (parseMethodDescriptor yM_init.desc).map (fun d => d.parameters.length) = some 0 := by decide +kernel
abbrev yM_put : MethodName := ⟨"DigitRowsModel", "put", "(II)Z"⟩
abbrev cM_put : ByteArray := prog_5_method_2_code
theorem hdM_put : yM_put.cls ≠ "java/lang/invoke/MethodHandle" ∧ yM_put.cls ≠ "java/lang/invoke/VarHandle" ∧ (parseMethodDescriptor yM_put.desc).map (fun d => d.parameters.length) = some 2 := by decide +kernel
abbrev yM_byteOf : MethodName := ⟨"DigitRowsModel", "byteOf", "(I)I"⟩
abbrev cM_byteOf : ByteArray := prog_5_method_3_code
theorem hdM_byteOf : yM_byteOf.cls ≠ "java/lang/invoke/MethodHandle" ∧ yM_byteOf.cls ≠ "java/lang/invoke/VarHandle" ∧ (parseMethodDescriptor yM_byteOf.desc).map (fun d => d.parameters.length) = some 1 := by decide +kernel
abbrev yM_sum : MethodName := ⟨"DigitRowsModel", "sum", "(IIIIII)I"⟩
abbrev cM_sum : ByteArray := prog_5_method_16_code
theorem hdM_sum : yM_sum.cls ≠ "java/lang/invoke/MethodHandle" ∧ yM_sum.cls ≠ "java/lang/invoke/VarHandle" ∧ (parseMethodDescriptor yM_sum.desc).map (fun d => d.parameters.length) = some 6 := by decide +kernel
abbrev yM_three : MethodName := ⟨"DigitRowsModel", "three", "(IIIIII)I"⟩
abbrev cM_three : ByteArray := prog_5_method_13_code
theorem hdM_three : yM_three.cls ≠ "java/lang/invoke/MethodHandle" ∧ yM_three.cls ≠ "java/lang/invoke/VarHandle" ∧ (parseMethodDescriptor yM_three.desc).map (fun d => d.parameters.length) = some 6 := by decide +kernel
abbrev yM_isThere : MethodName := ⟨"DigitRowsModel", "isThere", "(II)Z"⟩
abbrev cM_isThere : ByteArray := prog_5_method_6_code
theorem hdM_isThere : yM_isThere.cls ≠ "java/lang/invoke/MethodHandle" ∧ yM_isThere.cls ≠ "java/lang/invoke/VarHandle" ∧ (parseMethodDescriptor yM_isThere.desc).map (fun d => d.parameters.length) = some 2 := by decide +kernel
abbrev yM_isCount : MethodName := ⟨"DigitRowsModel", "isCount", "(I)Z"⟩
abbrev cM_isCount : ByteArray := prog_5_method_4_code
theorem hdM_isCount : yM_isCount.cls ≠ "java/lang/invoke/MethodHandle" ∧ yM_isCount.cls ≠ "java/lang/invoke/VarHandle" ∧ (parseMethodDescriptor yM_isCount.desc).map (fun d => d.parameters.length) = some 1 := by decide +kernel
abbrev yM_are : MethodName := ⟨"DigitRowsModel", "are", "(II)Z"⟩
abbrev cM_are : ByteArray := prog_5_method_5_code
theorem hdM_are : yM_are.cls ≠ "java/lang/invoke/MethodHandle" ∧ yM_are.cls ≠ "java/lang/invoke/VarHandle" ∧ (parseMethodDescriptor yM_are.desc).map (fun d => d.parameters.length) = some 2 := by decide +kernel
abbrev yM_reads : MethodName := ⟨"DigitRowsModel", "reads", "(IIII)I"⟩
abbrev cM_reads : ByteArray := prog_5_method_12_code
theorem hdM_reads : yM_reads.cls ≠ "java/lang/invoke/MethodHandle" ∧ yM_reads.cls ≠ "java/lang/invoke/VarHandle" ∧ (parseMethodDescriptor yM_reads.desc).map (fun d => d.parameters.length) = some 4 := by decide +kernel
abbrev yM_read : MethodName := ⟨"DigitRowsModel", "read", "(II[I)I"⟩
abbrev cM_read : ByteArray := prog_5_method_7_code
theorem hdM_read : yM_read.cls ≠ "java/lang/invoke/MethodHandle" ∧ yM_read.cls ≠ "java/lang/invoke/VarHandle" ∧ (parseMethodDescriptor yM_read.desc).map (fun d => d.parameters.length) = some 3 := by decide +kernel
abbrev yM_adds : MethodName := ⟨"DigitRowsModel", "adds", "()V"⟩
abbrev cM_adds : ByteArray := prog_5_method_15_code
theorem hdM_adds : yM_adds.cls ≠ "java/lang/invoke/MethodHandle" ∧ yM_adds.cls ≠ "java/lang/invoke/VarHandle" ∧ (parseMethodDescriptor yM_adds.desc).map (fun d => d.parameters.length) = some 0 := by decide +kernel
abbrev yM_than : MethodName := ⟨"DigitRowsModel", "than", "([I[I)I"⟩
abbrev cM_than : ByteArray := prog_5_method_14_code
theorem hdM_than : yM_than.cls ≠ "java/lang/invoke/MethodHandle" ∧ yM_than.cls ≠ "java/lang/invoke/VarHandle" ∧ (parseMethodDescriptor yM_than.desc).map (fun d => d.parameters.length) = some 2 := by decide +kernel
abbrev yM_write : MethodName := ⟨"DigitRowsModel", "write", "(II)I"⟩
abbrev cM_write : ByteArray := prog_5_method_11_code
theorem hdM_write : yM_write.cls ≠ "java/lang/invoke/MethodHandle" ∧ yM_write.cls ≠ "java/lang/invoke/VarHandle" ∧ (parseMethodDescriptor yM_write.desc).map (fun d => d.parameters.length) = some 2 := by decide +kernel
abbrev yM_cuts : MethodName := ⟨"DigitRowsModel", "cuts", "(I)Z"⟩
abbrev cM_cuts : ByteArray := prog_5_method_9_code
theorem hdM_cuts : yM_cuts.cls ≠ "java/lang/invoke/MethodHandle" ∧ yM_cuts.cls ≠ "java/lang/invoke/VarHandle" ∧ (parseMethodDescriptor yM_cuts.desc).map (fun d => d.parameters.length) = some 1 := by decide +kernel
abbrev yM_flags : MethodName := ⟨"DigitRowsModel", "flags", "(Z)I"⟩
abbrev cM_flags : ByteArray := prog_5_method_10_code
theorem hdM_flags : yM_flags.cls ≠ "java/lang/invoke/MethodHandle" ∧ yM_flags.cls ≠ "java/lang/invoke/VarHandle" ∧ (parseMethodDescriptor yM_flags.desc).map (fun d => d.parameters.length) = some 1 := by decide +kernel
abbrev yM_isZero : MethodName := ⟨"DigitRowsModel", "isZero", "([I)Z"⟩
abbrev cM_isZero : ByteArray := prog_5_method_8_code
theorem hdM_isZero : yM_isZero.cls ≠ "java/lang/invoke/MethodHandle" ∧ yM_isZero.cls ≠ "java/lang/invoke/VarHandle" ∧ (parseMethodDescriptor yM_isZero.desc).map (fun d => d.parameters.length) = some 1 := by decide +kernel
abbrev yM_less : MethodName := ⟨"DigitRowsModel", "less", "(IIIIII)I"⟩
abbrev cM_less : ByteArray := prog_5_method_17_code
theorem hdM_less : yM_less.cls ≠ "java/lang/invoke/MethodHandle" ∧ yM_less.cls ≠ "java/lang/invoke/VarHandle" ∧ (parseMethodDescriptor yM_less.desc).map (fun d => d.parameters.length) = some 6 := by decide +kernel
abbrev yM_product : MethodName := ⟨"DigitRowsModel", "product", "(IIIIII)I"⟩
abbrev cM_product : ByteArray := prog_5_method_18_code
theorem hdM_product : yM_product.cls ≠ "java/lang/invoke/MethodHandle" ∧ yM_product.cls ≠ "java/lang/invoke/VarHandle" ∧ (parseMethodDescriptor yM_product.desc).map (fun d => d.parameters.length) = some 6 := by decide +kernel
abbrev yM_quotient : MethodName := ⟨"DigitRowsModel", "quotient", "(IIIIII)I"⟩
abbrev cM_quotient : ByteArray := prog_5_method_19_code
theorem hdM_quotient : yM_quotient.cls ≠ "java/lang/invoke/MethodHandle" ∧ yM_quotient.cls ≠ "java/lang/invoke/VarHandle" ∧ (parseMethodDescriptor yM_quotient.desc).map (fun d => d.parameters.length) = some 6 := by decide +kernel
abbrev yM_shift : MethodName := ⟨"DigitRowsModel", "shift", "(IIIIII)I"⟩
abbrev cM_shift : ByteArray := prog_5_method_20_code
theorem hdM_shift : yM_shift.cls ≠ "java/lang/invoke/MethodHandle" ∧ yM_shift.cls ≠ "java/lang/invoke/VarHandle" ∧ (parseMethodDescriptor yM_shift.desc).map (fun d => d.parameters.length) = some 6 := by decide +kernel
abbrev yM_compare : MethodName := ⟨"DigitRowsModel", "compare", "(IIII)I"⟩
abbrev cM_compare : ByteArray := prog_5_method_21_code
theorem hdM_compare : yM_compare.cls ≠ "java/lang/invoke/MethodHandle" ∧ yM_compare.cls ≠ "java/lang/invoke/VarHandle" ∧ (parseMethodDescriptor yM_compare.desc).map (fun d => d.parameters.length) = some 4 := by decide +kernel
abbrev yM_number : MethodName := ⟨"DigitRowsModel", "number", "(III)I"⟩
abbrev cM_number : ByteArray := prog_5_method_22_code
theorem hdM_number : yM_number.cls ≠ "java/lang/invoke/MethodHandle" ∧ yM_number.cls ≠ "java/lang/invoke/VarHandle" ∧ (parseMethodDescriptor yM_number.desc).map (fun d => d.parameters.length) = some 3 := by decide +kernel
abbrev yM_value : MethodName := ⟨"DigitRowsModel", "value", "(II)J"⟩
abbrev cM_value : ByteArray := prog_5_method_23_code
theorem hdM_value : yM_value.cls ≠ "java/lang/invoke/MethodHandle" ∧ yM_value.cls ≠ "java/lang/invoke/VarHandle" ∧ (parseMethodDescriptor yM_value.desc).map (fun d => d.parameters.length) = some 2 := by decide +kernel
abbrev yM_characters : MethodName := ⟨"DigitRowsModel", "characters", "(IIII)I"⟩
abbrev cM_characters : ByteArray := prog_5_method_24_code
theorem hdM_characters : yM_characters.cls ≠ "java/lang/invoke/MethodHandle" ∧ yM_characters.cls ≠ "java/lang/invoke/VarHandle" ∧ (parseMethodDescriptor yM_characters.desc).map (fun d => d.parameters.length) = some 4 := by decide +kernel
abbrev yM_digits : MethodName := ⟨"DigitRowsModel", "digits", "(IIII)I"⟩
abbrev cM_digits : ByteArray := prog_5_method_25_code
theorem hdM_digits : yM_digits.cls ≠ "java/lang/invoke/MethodHandle" ∧ yM_digits.cls ≠ "java/lang/invoke/VarHandle" ∧ (parseMethodDescriptor yM_digits.desc).map (fun d => d.parameters.length) = some 4 := by decide +kernel
abbrev yM_edit : MethodName := ⟨"DigitRowsModel", "edit", "(IIII)I"⟩
abbrev cM_edit : ByteArray := prog_5_method_26_code
theorem hdM_edit : yM_edit.cls ≠ "java/lang/invoke/MethodHandle" ∧ yM_edit.cls ≠ "java/lang/invoke/VarHandle" ∧ (parseMethodDescriptor yM_edit.desc).map (fun d => d.parameters.length) = some 4 := by decide +kernel
abbrev yM_significant : MethodName := ⟨"DigitRowsModel", "significant", "()Z"⟩
abbrev cM_significant : ByteArray := prog_5_method_27_code
theorem hdM_significant : yM_significant.cls ≠ "java/lang/invoke/MethodHandle" ∧ yM_significant.cls ≠ "java/lang/invoke/VarHandle" ∧ (parseMethodDescriptor yM_significant.desc).map (fun d => d.parameters.length) = some 0 := by decide +kernel
