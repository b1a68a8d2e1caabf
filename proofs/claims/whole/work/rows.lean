section
-- ===== PART A: goes FIRST, ahead of the names: the tables' words, and 'selects' of the private methods out of them =====
/-- a private method of a class that the tables say can be made, by its rows of tables_1 -/
def lw_okq (q : MethodName × Nat) : Prop := (q.1.cls ≠ "java/lang/invoke/MethodHandle" ∧ q.1.cls ≠ "java/lang/invoke/VarHandle") ∧ Cond.instantiable q.1.cls q.2 ∈ tables_1 ∧ Cond.privateMethod q.1 ∈ tables_1 ∧ Cond.instanceMethod q.1 ∈ tables_1
theorem lw_p0 : lw_okq (⟨"BlockExecutor", "finish", "(IJ)I"⟩, 8) := ⟨⟨by decide +kernel, by decide +kernel⟩, List.mem_of_getElem? (i := 8) (by decide +kernel), List.mem_of_getElem? (i := 105) (by decide +kernel), List.mem_of_getElem? (i := 106) (by decide +kernel)⟩
theorem lw_p1 : lw_okq (⟨"BlockExecutor", "holdsTable", "(I)Z"⟩, 8) := ⟨⟨by decide +kernel, by decide +kernel⟩, List.mem_of_getElem? (i := 8) (by decide +kernel), List.mem_of_getElem? (i := 117) (by decide +kernel), List.mem_of_getElem? (i := 118) (by decide +kernel)⟩
theorem lw_p2 : lw_okq (⟨"BlockExecutor", "holdsRow", "(II)Z"⟩, 8) := ⟨⟨by decide +kernel, by decide +kernel⟩, List.mem_of_getElem? (i := 8) (by decide +kernel), List.mem_of_getElem? (i := 125) (by decide +kernel), List.mem_of_getElem? (i := 126) (by decide +kernel)⟩
theorem lw_p3 : lw_okq (⟨"BlockExecutor", "refusalOf", "(III)I"⟩, 8) := ⟨⟨by decide +kernel, by decide +kernel⟩, List.mem_of_getElem? (i := 8) (by decide +kernel), List.mem_of_getElem? (i := 137) (by decide +kernel), List.mem_of_getElem? (i := 138) (by decide +kernel)⟩
theorem lw_p4 : lw_okq (⟨"BlockExecutor", "sortCost", "(I)J"⟩, 8) := ⟨⟨by decide +kernel, by decide +kernel⟩, List.mem_of_getElem? (i := 8) (by decide +kernel), List.mem_of_getElem? (i := 151) (by decide +kernel), List.mem_of_getElem? (i := 152) (by decide +kernel)⟩
theorem lw_p5 : lw_okq (⟨"BlockExecutor", "groupOneRound", "(LBlockExecutor$Table;LBlockExecutor$Table;)V"⟩, 8) := ⟨⟨by decide +kernel, by decide +kernel⟩, List.mem_of_getElem? (i := 8) (by decide +kernel), List.mem_of_getElem? (i := 172) (by decide +kernel), List.mem_of_getElem? (i := 173) (by decide +kernel)⟩
theorem lw_p6 : lw_okq (⟨"BlockExecutor", "rowsInMemory", "()I"⟩, 8) := ⟨⟨by decide +kernel, by decide +kernel⟩, List.mem_of_getElem? (i := 8) (by decide +kernel), List.mem_of_getElem? (i := 180) (by decide +kernel), List.mem_of_getElem? (i := 181) (by decide +kernel)⟩
theorem lw_p7 : lw_okq (⟨"BlockExecutor", "mergeBags", "(ILBlockExecutor$Table;)V"⟩, 8) := ⟨⟨by decide +kernel, by decide +kernel⟩, List.mem_of_getElem? (i := 8) (by decide +kernel), List.mem_of_getElem? (i := 188) (by decide +kernel), List.mem_of_getElem? (i := 189) (by decide +kernel)⟩
theorem lw_p8 : lw_okq (⟨"BlockExecutor", "isNextFromA", "(II)Z"⟩, 8) := ⟨⟨by decide +kernel, by decide +kernel⟩, List.mem_of_getElem? (i := 8) (by decide +kernel), List.mem_of_getElem? (i := 192) (by decide +kernel), List.mem_of_getElem? (i := 193) (by decide +kernel)⟩
theorem lw_p9 : lw_okq (⟨"BlockExecutor", "joinRanges", "(IIIIILBlockExecutor$Table;)J"⟩, 8) := ⟨⟨by decide +kernel, by decide +kernel⟩, List.mem_of_getElem? (i := 8) (by decide +kernel), List.mem_of_getElem? (i := 208) (by decide +kernel), List.mem_of_getElem? (i := 209) (by decide +kernel)⟩
theorem lw_p10 : lw_okq (⟨"BlockExecutor", "joinByChunks", "(IIIILBlockExecutor$Table;)J"⟩, 8) := ⟨⟨by decide +kernel, by decide +kernel⟩, List.mem_of_getElem? (i := 8) (by decide +kernel), List.mem_of_getElem? (i := 212) (by decide +kernel), List.mem_of_getElem? (i := 213) (by decide +kernel)⟩
theorem lw_p11 : lw_okq (⟨"BlockExecutor", "joinWithChunk", "(IIIILBlockExecutor$Table;)V"⟩, 8) := ⟨⟨by decide +kernel, by decide +kernel⟩, List.mem_of_getElem? (i := 8) (by decide +kernel), List.mem_of_getElem? (i := 216) (by decide +kernel), List.mem_of_getElem? (i := 217) (by decide +kernel)⟩
theorem lw_p12 : lw_okq (⟨"BlockExecutor", "partition", "(LBlockExecutor$Table;[IIII)V"⟩, 8) := ⟨⟨by decide +kernel, by decide +kernel⟩, List.mem_of_getElem? (i := 8) (by decide +kernel), List.mem_of_getElem? (i := 220) (by decide +kernel), List.mem_of_getElem? (i := 221) (by decide +kernel)⟩
theorem lw_p13 : lw_okq (⟨"BlockExecutor", "digitOf", "(II)I"⟩, 8) := ⟨⟨by decide +kernel, by decide +kernel⟩, List.mem_of_getElem? (i := 8) (by decide +kernel), List.mem_of_getElem? (i := 224) (by decide +kernel), List.mem_of_getElem? (i := 225) (by decide +kernel)⟩
theorem lw_p14 : lw_okq (⟨"BlockExecutor", "endOfPart", "([IIIII)I"⟩, 8) := ⟨⟨by decide +kernel, by decide +kernel⟩, List.mem_of_getElem? (i := 8) (by decide +kernel), List.mem_of_getElem? (i := 232) (by decide +kernel), List.mem_of_getElem? (i := 233) (by decide +kernel)⟩
theorem lw_p15 : lw_okq (⟨"BlockExecutorModel", "refuse", "(ZIII)I"⟩, 14) := ⟨⟨by decide +kernel, by decide +kernel⟩, List.mem_of_getElem? (i := 247) (by decide +kernel), List.mem_of_getElem? (i := 330) (by decide +kernel), List.mem_of_getElem? (i := 331) (by decide +kernel)⟩
def lw_privs_1 : List (MethodName × Nat) := [(⟨"BlockExecutor", "finish", "(IJ)I"⟩, 8), (⟨"BlockExecutor", "holdsTable", "(I)Z"⟩, 8), (⟨"BlockExecutor", "holdsRow", "(II)Z"⟩, 8), (⟨"BlockExecutor", "refusalOf", "(III)I"⟩, 8), (⟨"BlockExecutor", "sortCost", "(I)J"⟩, 8), (⟨"BlockExecutor", "groupOneRound", "(LBlockExecutor$Table;LBlockExecutor$Table;)V"⟩, 8), (⟨"BlockExecutor", "rowsInMemory", "()I"⟩, 8), (⟨"BlockExecutor", "mergeBags", "(ILBlockExecutor$Table;)V"⟩, 8), (⟨"BlockExecutor", "isNextFromA", "(II)Z"⟩, 8), (⟨"BlockExecutor", "joinRanges", "(IIIIILBlockExecutor$Table;)J"⟩, 8), (⟨"BlockExecutor", "joinByChunks", "(IIIILBlockExecutor$Table;)J"⟩, 8), (⟨"BlockExecutor", "joinWithChunk", "(IIIILBlockExecutor$Table;)V"⟩, 8), (⟨"BlockExecutor", "partition", "(LBlockExecutor$Table;[IIII)V"⟩, 8), (⟨"BlockExecutor", "digitOf", "(II)I"⟩, 8), (⟨"BlockExecutor", "endOfPart", "([IIIII)I"⟩, 8), (⟨"BlockExecutorModel", "refuse", "(ZIII)I"⟩, 14)]
theorem lw_r1 : ∀ q ∈ lw_privs_1, lw_okq q := List.forall_mem_cons.mpr ⟨lw_p0, List.forall_mem_cons.mpr ⟨lw_p1, List.forall_mem_cons.mpr ⟨lw_p2, List.forall_mem_cons.mpr ⟨lw_p3, List.forall_mem_cons.mpr ⟨lw_p4, List.forall_mem_cons.mpr ⟨lw_p5, List.forall_mem_cons.mpr ⟨lw_p6, List.forall_mem_cons.mpr ⟨lw_p7, List.forall_mem_cons.mpr ⟨lw_p8, List.forall_mem_cons.mpr ⟨lw_p9, List.forall_mem_cons.mpr ⟨lw_p10, List.forall_mem_cons.mpr ⟨lw_p11, List.forall_mem_cons.mpr ⟨lw_p12, List.forall_mem_cons.mpr ⟨lw_p13, List.forall_mem_cons.mpr ⟨lw_p14, List.forall_mem_cons.mpr ⟨lw_p15, fun _ h => absurd h List.not_mem_nil⟩⟩⟩⟩⟩⟩⟩⟩⟩⟩⟩⟩⟩⟩⟩⟩
theorem lw_p16 : lw_okq (⟨"BlockExecutorModel", "before", "(IIII)Z"⟩, 14) := ⟨⟨by decide +kernel, by decide +kernel⟩, List.mem_of_getElem? (i := 247) (by decide +kernel), List.mem_of_getElem? (i := 334) (by decide +kernel), List.mem_of_getElem? (i := 335) (by decide +kernel)⟩
theorem lw_p17 : lw_okq (⟨"BlockExecutorModel", "sortCost", "(I)J"⟩, 14) := ⟨⟨by decide +kernel, by decide +kernel⟩, List.mem_of_getElem? (i := 247) (by decide +kernel), List.mem_of_getElem? (i := 341) (by decide +kernel), List.mem_of_getElem? (i := 342) (by decide +kernel)⟩
theorem lw_p18 : lw_okq (⟨"BlockExecutorModel", "finish", "(I)I"⟩, 14) := ⟨⟨by decide +kernel, by decide +kernel⟩, List.mem_of_getElem? (i := 247) (by decide +kernel), List.mem_of_getElem? (i := 346) (by decide +kernel), List.mem_of_getElem? (i := 347) (by decide +kernel)⟩
theorem lw_p19 : lw_okq (⟨"BlockExecutorModel", "make", "(II)V"⟩, 14) := ⟨⟨by decide +kernel, by decide +kernel⟩, List.mem_of_getElem? (i := 247) (by decide +kernel), List.mem_of_getElem? (i := 354) (by decide +kernel), List.mem_of_getElem? (i := 355) (by decide +kernel)⟩
theorem lw_p20 : lw_okq (⟨"BlockExecutorModel", "next", "(III)I"⟩, 14) := ⟨⟨by decide +kernel, by decide +kernel⟩, List.mem_of_getElem? (i := 247) (by decide +kernel), List.mem_of_getElem? (i := 362) (by decide +kernel), List.mem_of_getElem? (i := 363) (by decide +kernel)⟩
theorem lw_p21 : lw_okq (⟨"BlockExecutorModel", "times", "(III)I"⟩, 14) := ⟨⟨by decide +kernel, by decide +kernel⟩, List.mem_of_getElem? (i := 247) (by decide +kernel), List.mem_of_getElem? (i := 370) (by decide +kernel), List.mem_of_getElem? (i := 371) (by decide +kernel)⟩
theorem lw_p22 : lw_okq (⟨"BlockExecutorModel", "rank", "(II)I"⟩, 14) := ⟨⟨by decide +kernel, by decide +kernel⟩, List.mem_of_getElem? (i := 247) (by decide +kernel), List.mem_of_getElem? (i := 378) (by decide +kernel), List.mem_of_getElem? (i := 379) (by decide +kernel)⟩
theorem lw_p23 : lw_okq (⟨"BlockExecutorModel", "behind", "(II)I"⟩, 14) := ⟨⟨by decide +kernel, by decide +kernel⟩, List.mem_of_getElem? (i := 247) (by decide +kernel), List.mem_of_getElem? (i := 382) (by decide +kernel), List.mem_of_getElem? (i := 383) (by decide +kernel)⟩
theorem lw_p24 : lw_okq (⟨"BlockExecutorModel", "visit", "(II)Z"⟩, 14) := ⟨⟨by decide +kernel, by decide +kernel⟩, List.mem_of_getElem? (i := 247) (by decide +kernel), List.mem_of_getElem? (i := 390) (by decide +kernel), List.mem_of_getElem? (i := 391) (by decide +kernel)⟩
theorem lw_p25 : lw_okq (⟨"BlockExecutorModel", "many", "(IZI)I"⟩, 14) := ⟨⟨by decide +kernel, by decide +kernel⟩, List.mem_of_getElem? (i := 247) (by decide +kernel), List.mem_of_getElem? (i := 394) (by decide +kernel), List.mem_of_getElem? (i := 395) (by decide +kernel)⟩
theorem lw_p26 : lw_okq (⟨"BlockExecutorModel", "here", "(I)Z"⟩, 14) := ⟨⟨by decide +kernel, by decide +kernel⟩, List.mem_of_getElem? (i := 247) (by decide +kernel), List.mem_of_getElem? (i := 398) (by decide +kernel), List.mem_of_getElem? (i := 399) (by decide +kernel)⟩
theorem lw_p27 : lw_okq (⟨"BlockExecutorModel", "digit", "(II)I"⟩, 14) := ⟨⟨by decide +kernel, by decide +kernel⟩, List.mem_of_getElem? (i := 247) (by decide +kernel), List.mem_of_getElem? (i := 402) (by decide +kernel), List.mem_of_getElem? (i := 403) (by decide +kernel)⟩
theorem lw_p28 : lw_okq (⟨"BlockExecutorModel", "chunks", "(III)V"⟩, 14) := ⟨⟨by decide +kernel, by decide +kernel⟩, List.mem_of_getElem? (i := 247) (by decide +kernel), List.mem_of_getElem? (i := 406) (by decide +kernel), List.mem_of_getElem? (i := 407) (by decide +kernel)⟩
theorem lw_p29 : lw_okq (⟨"BlockExecutorModel", "chunk", "(IIII)V"⟩, 14) := ⟨⟨by decide +kernel, by decide +kernel⟩, List.mem_of_getElem? (i := 247) (by decide +kernel), List.mem_of_getElem? (i := 410) (by decide +kernel), List.mem_of_getElem? (i := 411) (by decide +kernel)⟩
def lw_privs_2 : List (MethodName × Nat) := [(⟨"BlockExecutorModel", "before", "(IIII)Z"⟩, 14), (⟨"BlockExecutorModel", "sortCost", "(I)J"⟩, 14), (⟨"BlockExecutorModel", "finish", "(I)I"⟩, 14), (⟨"BlockExecutorModel", "make", "(II)V"⟩, 14), (⟨"BlockExecutorModel", "next", "(III)I"⟩, 14), (⟨"BlockExecutorModel", "times", "(III)I"⟩, 14), (⟨"BlockExecutorModel", "rank", "(II)I"⟩, 14), (⟨"BlockExecutorModel", "behind", "(II)I"⟩, 14), (⟨"BlockExecutorModel", "visit", "(II)Z"⟩, 14), (⟨"BlockExecutorModel", "many", "(IZI)I"⟩, 14), (⟨"BlockExecutorModel", "here", "(I)Z"⟩, 14), (⟨"BlockExecutorModel", "digit", "(II)I"⟩, 14), (⟨"BlockExecutorModel", "chunks", "(III)V"⟩, 14), (⟨"BlockExecutorModel", "chunk", "(IIII)V"⟩, 14)]
theorem lw_r2 : ∀ q ∈ lw_privs_2, lw_okq q := List.forall_mem_cons.mpr ⟨lw_p16, List.forall_mem_cons.mpr ⟨lw_p17, List.forall_mem_cons.mpr ⟨lw_p18, List.forall_mem_cons.mpr ⟨lw_p19, List.forall_mem_cons.mpr ⟨lw_p20, List.forall_mem_cons.mpr ⟨lw_p21, List.forall_mem_cons.mpr ⟨lw_p22, List.forall_mem_cons.mpr ⟨lw_p23, List.forall_mem_cons.mpr ⟨lw_p24, List.forall_mem_cons.mpr ⟨lw_p25, List.forall_mem_cons.mpr ⟨lw_p26, List.forall_mem_cons.mpr ⟨lw_p27, List.forall_mem_cons.mpr ⟨lw_p28, List.forall_mem_cons.mpr ⟨lw_p29, fun _ h => absurd h List.not_mem_nil⟩⟩⟩⟩⟩⟩⟩⟩⟩⟩⟩⟩⟩⟩
def lw_privs : List (MethodName × Nat) := lw_privs_1 ++ (lw_privs_2)
def lw_tbl : List Cond := k2_sels lw_privs ++ tables_1
theorem lw_privs_ok : ∀ q ∈ lw_privs, lw_okq q := by
  show ∀ q ∈ lw_privs_1 ++ (lw_privs_2), lw_okq q
  exact List.forall_mem_append.mpr ⟨lw_r1, lw_r2⟩
end
section
def R_T : String := "BlockExecutor$Table"
def R_X : String := "BlockExecutor"
def R_M : String := "BlockExecutorModel"
def R_L : String := "BlockExecutorLaw"
def R_I : String := "java/lang/Integer"
def R_J : String := "java/lang/Math"
abbrev ze_RT : String := R_T
def F_T : u_T := fun k => match k with
  | 0 => ("BlockExecutor$Table", "keys", "[I", true)
  | 1 => ("BlockExecutor$Table", "values", "[I", true)
  | 2 => ("BlockExecutor$Table", "count", "I", false)
  | _ => ("BlockExecutor$Table", "overfull", "Z", false)
def zt_T : Nat → FieldType := fun k => match k with
  | 0 => .array .int
  | 1 => .array .int
  | 2 => .int
  | _ => .boolean
theorem zn_T : ∀ a, a < 4 → ∀ b, b < 4 → a ≠ b → (F_T a).2.1 ≠ (F_T b).2.1 := by decide +kernel
theorem zt_T_ok : ∀ k, k < 4 → parseFieldDescriptor (F_T k).2.2.1 = some (zt_T k) := by decide +kernel
def F_X : u_T := fun k => match k with
  | 0 => ("BlockExecutor", "frames", "I", true)
  | 1 => ("BlockExecutor", "tables", "[LBlockExecutor$Table;", true)
  | 2 => ("BlockExecutor", "held", "[Z", true)
  | 3 => ("BlockExecutor", "input", "LBlockExecutor$Table;", true)
  | 4 => ("BlockExecutor", "workA", "LBlockExecutor$Table;", true)
  | 5 => ("BlockExecutor", "workB", "LBlockExecutor$Table;", true)
  | 6 => ("BlockExecutor", "spare", "LBlockExecutor$Table;", true)
  | _ => ("BlockExecutor", "moved", "J", false)
def zt_X : Nat → FieldType := fun k => match k with
  | 0 => .int
  | 1 => .array (.object "BlockExecutor$Table")
  | 2 => .array .boolean
  | 3 => .object "BlockExecutor$Table"
  | 4 => .object "BlockExecutor$Table"
  | 5 => .object "BlockExecutor$Table"
  | 6 => .object "BlockExecutor$Table"
  | _ => .long
theorem zn_X : ∀ a, a < 8 → ∀ b, b < 8 → a ≠ b → (F_X a).2.1 ≠ (F_X b).2.1 := by decide +kernel
theorem zt_X_ok : ∀ k, k < 8 → parseFieldDescriptor (F_X k).2.2.1 = some (zt_X k) := by decide +kernel
def F_M : u_T := fun k => match k with
  | 0 => ("BlockExecutorModel", "memory", "I", true)
  | 1 => ("BlockExecutorModel", "moved", "J", false)
  | 2 => ("BlockExecutorModel", "typed", "I", false)
  | 3 => ("BlockExecutorModel", "typedKey", "[I", true)
  | 4 => ("BlockExecutorModel", "typedValue", "[I", true)
  | 5 => ("BlockExecutorModel", "count", "[I", true)
  | 6 => ("BlockExecutorModel", "keys", "[I", true)
  | 7 => ("BlockExecutorModel", "values", "[I", true)
  | 8 => ("BlockExecutorModel", "made", "I", false)
  | 9 => ("BlockExecutorModel", "madeKey", "[I", true)
  | 10 => ("BlockExecutorModel", "madeValue", "[I", true)
  | 11 => ("BlockExecutorModel", "cost", "J", false)
  | 12 => ("BlockExecutorModel", "level", "I", false)
  | _ => ("BlockExecutorModel", "path", "[I", true)
def zt_M : Nat → FieldType := fun k => match k with
  | 0 => .int
  | 1 => .long
  | 2 => .int
  | 3 => .array .int
  | 4 => .array .int
  | 5 => .array .int
  | 6 => .array .int
  | 7 => .array .int
  | 8 => .int
  | 9 => .array .int
  | 10 => .array .int
  | 11 => .long
  | 12 => .int
  | _ => .array .int
theorem zn_M : ∀ a, a < 14 → ∀ b, b < 14 → a ≠ b → (F_M a).2.1 ≠ (F_M b).2.1 := by decide +kernel
theorem zt_M_ok : ∀ k, k < 14 → parseFieldDescriptor (F_M k).2.2.1 = some (zt_M k) := by decide +kernel
abbrev vwCl : List vw_C := [(R_T, F_T, 4), (R_X, F_X, 8), (R_M, F_M, 14)]
abbrev ze_kT : Nat := 0
abbrev ze_kX : Nat := 1
abbrev ze_kM : Nat := 2
abbrev b_X_init : ByteArray := prog_1_method_1_code
def y_X_init : MethodName := ⟨R_X, "<init>", "(I)V"⟩
abbrev b_J_max : ByteArray := prog_6_method_65_code
def y_J_max : MethodName := ⟨R_J, "max", "(II)I"⟩
abbrev b_J_min : ByteArray := prog_6_method_69_code
def y_J_min : MethodName := ⟨R_J, "min", "(II)I"⟩
abbrev b_T_init : ByteArray := prog_2_method_1_code
def y_T_init : MethodName := ⟨R_T, "<init>", "()V"⟩
abbrev b_X_put : ByteArray := prog_1_method_2_code
def y_X_put : MethodName := ⟨R_X, "put", "(II)Z"⟩
abbrev b_T_append : ByteArray := prog_2_method_3_code
def y_T_append : MethodName := ⟨R_T, "append", "(II)V"⟩
abbrev b_X_store : ByteArray := prog_1_method_3_code
def y_X_store : MethodName := ⟨R_X, "store", "(I)I"⟩
abbrev b_X_isSlot : ByteArray := prog_1_method_16_code
def y_X_isSlot : MethodName := ⟨R_X, "isSlot", "(I)Z"⟩
abbrev b_T_copyFrom : ByteArray := prog_2_method_4_code
def y_T_copyFrom : MethodName := ⟨R_T, "copyFrom", "(LBlockExecutor$Table;)V"⟩
abbrev b_T_clear : ByteArray := prog_2_method_2_code
def y_T_clear : MethodName := ⟨R_T, "clear", "()V"⟩
abbrev b_X_sizeOf : ByteArray := prog_1_method_21_code
def y_X_sizeOf : MethodName := ⟨R_X, "sizeOf", "(I)I"⟩
abbrev b_X_dividedUp : ByteArray := prog_1_method_22_code
def y_X_dividedUp : MethodName := ⟨R_X, "dividedUp", "(II)I"⟩
abbrev b_X_finish : ByteArray := prog_1_method_20_code
def y_X_finish : MethodName := ⟨R_X, "finish", "(IJ)I"⟩
abbrev b_X_drop : ByteArray := prog_1_method_4_code
def y_X_drop : MethodName := ⟨R_X, "drop", "(I)I"⟩
abbrev b_X_rows : ByteArray := prog_1_method_5_code
def y_X_rows : MethodName := ⟨R_X, "rows", "(I)I"⟩
abbrev b_X_holdsTable : ByteArray := prog_1_method_17_code
def y_X_holdsTable : MethodName := ⟨R_X, "holdsTable", "(I)Z"⟩
abbrev b_X_key : ByteArray := prog_1_method_6_code
def y_X_key : MethodName := ⟨R_X, "key", "(II)I"⟩
abbrev b_X_holdsRow : ByteArray := prog_1_method_18_code
def y_X_holdsRow : MethodName := ⟨R_X, "holdsRow", "(II)Z"⟩
abbrev b_X_value : ByteArray := prog_1_method_7_code
def y_X_value : MethodName := ⟨R_X, "value", "(II)I"⟩
abbrev b_X_sort : ByteArray := prog_1_method_8_code
def y_X_sort : MethodName := ⟨R_X, "sort", "(III)I"⟩
abbrev b_X_refusalOf : ByteArray := prog_1_method_19_code
def y_X_refusalOf : MethodName := ⟨R_X, "refusalOf", "(III)I"⟩
abbrev b_T_arrange : ByteArray := prog_2_method_5_code
def y_T_arrange : MethodName := ⟨R_T, "arrange", "(I)V"⟩
abbrev b_X_compareRows : ByteArray := prog_1_method_35_code
def y_X_compareRows : MethodName := ⟨R_X, "compareRows", "(IIIII)I"⟩
abbrev b_I_compare : ByteArray := prog_5_method_40_code
def y_I_compare : MethodName := ⟨R_I, "compare", "(II)I"⟩
abbrev b_X_sortCost : ByteArray := prog_1_method_23_code
def y_X_sortCost : MethodName := ⟨R_X, "sortCost", "(I)J"⟩
abbrev b_X_select : ByteArray := prog_1_method_9_code
def y_X_select : MethodName := ⟨R_X, "select", "(IIII)I"⟩
abbrev b_X_distinct : ByteArray := prog_1_method_10_code
def y_X_distinct : MethodName := ⟨R_X, "distinct", "(II)I"⟩
abbrev b_T_dropRepeats : ByteArray := prog_2_method_6_code
def y_T_dropRepeats : MethodName := ⟨R_T, "dropRepeats", "()V"⟩
abbrev b_X_group : ByteArray := prog_1_method_11_code
def y_X_group : MethodName := ⟨R_X, "group", "(II)I"⟩
abbrev b_X_groupOneRound : ByteArray := prog_1_method_25_code
def y_X_groupOneRound : MethodName := ⟨R_X, "groupOneRound", "(LBlockExecutor$Table;LBlockExecutor$Table;)V"⟩
abbrev b_T_placeOfKey : ByteArray := prog_2_method_7_code
def y_T_placeOfKey : MethodName := ⟨R_T, "placeOfKey", "(II)I"⟩
abbrev b_X_rowsInMemory : ByteArray := prog_1_method_24_code
def y_X_rowsInMemory : MethodName := ⟨R_X, "rowsInMemory", "()I"⟩
abbrev b_X_combine : ByteArray := prog_1_method_12_code
def y_X_combine : MethodName := ⟨R_X, "combine", "(IIII)I"⟩
abbrev b_X_mergeBags : ByteArray := prog_1_method_26_code
def y_X_mergeBags : MethodName := ⟨R_X, "mergeBags", "(ILBlockExecutor$Table;)V"⟩
abbrev b_X_isNextFromA : ByteArray := prog_1_method_27_code
def y_X_isNextFromA : MethodName := ⟨R_X, "isNextFromA", "(II)Z"⟩
abbrev b_T_repeatsFrom : ByteArray := prog_2_method_8_code
def y_T_repeatsFrom : MethodName := ⟨R_T, "repeatsFrom", "(III)I"⟩
abbrev b_X_timesInResult : ByteArray := prog_1_method_28_code
def y_X_timesInResult : MethodName := ⟨R_X, "timesInResult", "(III)I"⟩
abbrev b_X_join : ByteArray := prog_1_method_13_code
def y_X_join : MethodName := ⟨R_X, "join", "(III)I"⟩
abbrev b_X_joinRanges : ByteArray := prog_1_method_29_code
def y_X_joinRanges : MethodName := ⟨R_X, "joinRanges", "(IIIIILBlockExecutor$Table;)J"⟩
abbrev b_X_joinByChunks : ByteArray := prog_1_method_30_code
def y_X_joinByChunks : MethodName := ⟨R_X, "joinByChunks", "(IIIILBlockExecutor$Table;)J"⟩
abbrev b_X_joinWithChunk : ByteArray := prog_1_method_31_code
def y_X_joinWithChunk : MethodName := ⟨R_X, "joinWithChunk", "(IIIILBlockExecutor$Table;)V"⟩
abbrev b_X_partition : ByteArray := prog_1_method_32_code
def y_X_partition : MethodName := ⟨R_X, "partition", "(LBlockExecutor$Table;[IIII)V"⟩
abbrev b_X_digitOf : ByteArray := prog_1_method_34_code
def y_X_digitOf : MethodName := ⟨R_X, "digitOf", "(II)I"⟩
abbrev b_J_floorMod : ByteArray := prog_6_method_50_code
def y_J_floorMod : MethodName := ⟨R_J, "floorMod", "(II)I"⟩
abbrev b_X_endOfPart : ByteArray := prog_1_method_33_code
def y_X_endOfPart : MethodName := ⟨R_X, "endOfPart", "([IIIII)I"⟩
abbrev b_X_transfers : ByteArray := prog_1_method_14_code
def y_X_transfers : MethodName := ⟨R_X, "transfers", "()J"⟩
abbrev b_X_blocks : ByteArray := prog_1_method_15_code
def y_X_blocks : MethodName := ⟨R_X, "blocks", "()I"⟩
abbrev b_L_cell : ByteArray := method_2_code
def y_L_cell : MethodName := ⟨R_L, "cell", "([II)I"⟩
abbrev b_M_init : ByteArray := prog_4_method_1_code
def y_M_init : MethodName := ⟨R_M, "<init>", "(I)V"⟩
abbrev b_M_put : ByteArray := prog_4_method_5_code
def y_M_put : MethodName := ⟨R_M, "put", "(II)Z"⟩
abbrev b_M_store : ByteArray := prog_4_method_6_code
def y_M_store : MethodName := ⟨R_M, "store", "(I)I"⟩
abbrev b_M_slot : ByteArray := prog_4_method_3_code
def y_M_slot : MethodName := ⟨R_M, "slot", "(I)Z"⟩
abbrev b_M_size : ByteArray := prog_4_method_2_code
def y_M_size : MethodName := ⟨R_M, "size", "(I)I"⟩
abbrev b_M_drop : ByteArray := prog_4_method_7_code
def y_M_drop : MethodName := ⟨R_M, "drop", "(I)I"⟩
abbrev b_M_rows : ByteArray := prog_4_method_8_code
def y_M_rows : MethodName := ⟨R_M, "rows", "(I)I"⟩
abbrev b_M_key : ByteArray := prog_4_method_9_code
def y_M_key : MethodName := ⟨R_M, "key", "(II)I"⟩
abbrev b_M_value : ByteArray := prog_4_method_10_code
def y_M_value : MethodName := ⟨R_M, "value", "(II)I"⟩
abbrev b_M_sort : ByteArray := prog_4_method_16_code
def y_M_sort : MethodName := ⟨R_M, "sort", "(III)I"⟩
abbrev b_M_refuse : ByteArray := prog_4_method_11_code
def y_M_refuse : MethodName := ⟨R_M, "refuse", "(ZIII)I"⟩
abbrev b_M_before : ByteArray := prog_4_method_15_code
def y_M_before : MethodName := ⟨R_M, "before", "(IIII)Z"⟩
abbrev b_M_compare : ByteArray := prog_4_method_14_code
def y_M_compare : MethodName := ⟨R_M, "compare", "(IIII)I"⟩
abbrev b_M_sortCost : ByteArray := prog_4_method_4_code
def y_M_sortCost : MethodName := ⟨R_M, "sortCost", "(I)J"⟩
abbrev b_M_finish : ByteArray := prog_4_method_13_code
def y_M_finish : MethodName := ⟨R_M, "finish", "(I)I"⟩
abbrev b_M_select : ByteArray := prog_4_method_17_code
def y_M_select : MethodName := ⟨R_M, "select", "(IIII)I"⟩
abbrev b_M_make : ByteArray := prog_4_method_12_code
def y_M_make : MethodName := ⟨R_M, "make", "(II)V"⟩
abbrev b_M_distinct : ByteArray := prog_4_method_20_code
def y_M_distinct : MethodName := ⟨R_M, "distinct", "(II)I"⟩
abbrev b_M_next : ByteArray := prog_4_method_19_code
def y_M_next : MethodName := ⟨R_M, "next", "(III)I"⟩
abbrev b_M_combine : ByteArray := prog_4_method_21_code
def y_M_combine : MethodName := ⟨R_M, "combine", "(IIII)I"⟩
abbrev b_M_times : ByteArray := prog_4_method_18_code
def y_M_times : MethodName := ⟨R_M, "times", "(III)I"⟩
abbrev b_M_group : ByteArray := prog_4_method_24_code
def y_M_group : MethodName := ⟨R_M, "group", "(II)I"⟩
abbrev b_M_rank : ByteArray := prog_4_method_22_code
def y_M_rank : MethodName := ⟨R_M, "rank", "(II)I"⟩
abbrev b_M_behind : ByteArray := prog_4_method_23_code
def y_M_behind : MethodName := ⟨R_M, "behind", "(II)I"⟩
abbrev b_M_join : ByteArray := prog_4_method_31_code
def y_M_join : MethodName := ⟨R_M, "join", "(III)I"⟩
abbrev b_M_visit : ByteArray := prog_4_method_30_code
def y_M_visit : MethodName := ⟨R_M, "visit", "(II)Z"⟩
abbrev b_M_many : ByteArray := prog_4_method_27_code
def y_M_many : MethodName := ⟨R_M, "many", "(IZI)I"⟩
abbrev b_M_here : ByteArray := prog_4_method_26_code
def y_M_here : MethodName := ⟨R_M, "here", "(I)Z"⟩
abbrev b_M_digit : ByteArray := prog_4_method_25_code
def y_M_digit : MethodName := ⟨R_M, "digit", "(II)I"⟩
abbrev b_M_chunks : ByteArray := prog_4_method_28_code
def y_M_chunks : MethodName := ⟨R_M, "chunks", "(III)V"⟩
abbrev b_M_chunk : ByteArray := prog_4_method_29_code
def y_M_chunk : MethodName := ⟨R_M, "chunk", "(IIII)V"⟩
abbrev b_M_transfers : ByteArray := prog_4_method_32_code
def y_M_transfers : MethodName := ⟨R_M, "transfers", "()J"⟩
abbrev b_M_blocks : ByteArray := prog_4_method_33_code
def y_M_blocks : MethodName := ⟨R_M, "blocks", "()I"⟩
abbrev b_L_law : ByteArray := code
/-- the words that every method may use: those of the tables that outlast a call -/
def ze_B : List Cond := lw_tbl.filter goodWord
theorem ze_Bt (i : Nat) {w : Cond} (h : tables_1[i]? = some w) (g : goodWord w = true) : w ∈ ze_B := List.mem_filter.mpr ⟨List.mem_append_right _ (List.mem_of_getElem? h), g⟩
theorem ze_Bs (i : Nat) {q : MethodName × Nat} (h : lw_privs[i]? = some q) : Cond.selects q.1.cls q.1 q.1 ∈ ze_B := List.mem_filter.mpr ⟨List.mem_append_left _ (List.mem_map.mpr ⟨q, List.mem_of_getElem? h, rfl⟩), rfl⟩
theorem ze_Bg {w : Cond} (h : w ∈ ze_B) : (w.onTables && w.keeps) = true ∨ ∃ ty, w = .arrayClass ty := good_of_word (List.mem_filter.mp h).2
abbrev ws_X_init : List Cond := .code y_X_init b_X_init 3 none :: ze_B
abbrev ws_J_max : List Cond := .code y_J_max b_J_max 2 (some .int) :: ze_B
abbrev ws_J_min : List Cond := .code y_J_min b_J_min 2 (some .int) :: ze_B
abbrev ws_T_init : List Cond := .code y_T_init b_T_init 1 none :: ze_B
abbrev ws_X_put : List Cond := .code y_X_put b_X_put 3 (some .boolean) :: ze_B
abbrev ws_T_append : List Cond := .code y_T_append b_T_append 3 none :: ze_B
abbrev ws_X_store : List Cond := .code y_X_store b_X_store 2 (some .int) :: ze_B
abbrev ws_X_isSlot : List Cond := .code y_X_isSlot b_X_isSlot 1 (some .boolean) :: ze_B
abbrev ws_T_copyFrom : List Cond := .code y_T_copyFrom b_T_copyFrom 2 none :: ze_B
abbrev ws_T_clear : List Cond := .code y_T_clear b_T_clear 1 none :: ze_B
abbrev ws_X_sizeOf : List Cond := .code y_X_sizeOf b_X_sizeOf 1 (some .int) :: ze_B
abbrev ws_X_dividedUp : List Cond := .code y_X_dividedUp b_X_dividedUp 2 (some .int) :: ze_B
abbrev ws_X_finish : List Cond := .code y_X_finish b_X_finish 5 (some .int) :: ze_B
abbrev ws_X_drop : List Cond := .code y_X_drop b_X_drop 2 (some .int) :: ze_B
abbrev ws_X_rows : List Cond := .code y_X_rows b_X_rows 2 (some .int) :: ze_B
abbrev ws_X_holdsTable : List Cond := .code y_X_holdsTable b_X_holdsTable 2 (some .boolean) :: ze_B
abbrev ws_X_key : List Cond := .code y_X_key b_X_key 3 (some .int) :: ze_B
abbrev ws_X_holdsRow : List Cond := .code y_X_holdsRow b_X_holdsRow 3 (some .boolean) :: ze_B
abbrev ws_X_value : List Cond := .code y_X_value b_X_value 3 (some .int) :: ze_B
abbrev ws_X_sort : List Cond := .code y_X_sort b_X_sort 6 (some .int) :: ze_B
abbrev ws_X_refusalOf : List Cond := .code y_X_refusalOf b_X_refusalOf 4 (some .int) :: ze_B
abbrev ws_T_arrange : List Cond := .code y_T_arrange b_T_arrange 6 none :: ze_B
abbrev ws_X_compareRows : List Cond := .code y_X_compareRows b_X_compareRows 6 (some .int) :: ze_B
abbrev ws_I_compare : List Cond := .code y_I_compare b_I_compare 2 (some .int) :: ze_B
abbrev ws_X_sortCost : List Cond := .code y_X_sortCost b_X_sortCost 5 (some .long) :: ze_B
abbrev ws_X_select : List Cond := .code y_X_select b_X_select 9 (some .int) :: ze_B
abbrev ws_X_distinct : List Cond := .code y_X_distinct b_X_distinct 6 (some .int) :: ze_B
abbrev ws_T_dropRepeats : List Cond := .code y_T_dropRepeats b_T_dropRepeats 3 none :: ze_B
abbrev ws_X_group : List Cond := .code y_X_group b_X_group 8 (some .int) :: ze_B
abbrev ws_X_groupOneRound : List Cond := .code y_X_groupOneRound b_X_groupOneRound 8 none :: ze_B
abbrev ws_T_placeOfKey : List Cond := .code y_T_placeOfKey b_T_placeOfKey 4 (some .int) :: ze_B
abbrev ws_X_rowsInMemory : List Cond := .code y_X_rowsInMemory b_X_rowsInMemory 1 (some .int) :: ze_B
abbrev ws_X_combine : List Cond := .code y_X_combine b_X_combine 9 (some .int) :: ze_B
abbrev ws_X_mergeBags : List Cond := .code y_X_mergeBags b_X_mergeBags 13 none :: ze_B
abbrev ws_X_isNextFromA : List Cond := .code y_X_isNextFromA b_X_isNextFromA 4 (some .boolean) :: ze_B
abbrev ws_T_repeatsFrom : List Cond := .code y_T_repeatsFrom b_T_repeatsFrom 5 (some .int) :: ze_B
abbrev ws_X_timesInResult : List Cond := .code y_X_timesInResult b_X_timesInResult 3 (some .int) :: ze_B
abbrev ws_X_join : List Cond := .code y_X_join b_X_join 8 (some .int) :: ze_B
abbrev ws_X_joinRanges : List Cond := .code y_X_joinRanges b_X_joinRanges 14 (some .long) :: ze_B
abbrev ws_X_joinByChunks : List Cond := .code y_X_joinByChunks b_X_joinByChunks 10 (some .long) :: ze_B
abbrev ws_X_joinWithChunk : List Cond := .code y_X_joinWithChunk b_X_joinWithChunk 8 none :: ze_B
abbrev ws_X_partition : List Cond := .code y_X_partition b_X_partition 8 none :: ze_B
abbrev ws_X_digitOf : List Cond := .code y_X_digitOf b_X_digitOf 6 (some .int) :: ze_B
abbrev ws_J_floorMod : List Cond := .code y_J_floorMod b_J_floorMod 3 (some .int) :: ze_B
abbrev ws_X_endOfPart : List Cond := .code y_X_endOfPart b_X_endOfPart 7 (some .int) :: ze_B
abbrev ws_X_transfers : List Cond := .code y_X_transfers b_X_transfers 1 (some .long) :: ze_B
abbrev ws_X_blocks : List Cond := .code y_X_blocks b_X_blocks 3 (some .int) :: ze_B
abbrev ws_L_cell : List Cond := .code y_L_cell b_L_cell 2 (some .int) :: ze_B
abbrev ws_M_init : List Cond := .code y_M_init b_M_init 3 none :: ze_B
abbrev ws_M_put : List Cond := .code y_M_put b_M_put 3 (some .boolean) :: ze_B
abbrev ws_M_store : List Cond := .code y_M_store b_M_store 3 (some .int) :: ze_B
abbrev ws_M_slot : List Cond := .code y_M_slot b_M_slot 1 (some .boolean) :: ze_B
abbrev ws_M_size : List Cond := .code y_M_size b_M_size 1 (some .int) :: ze_B
abbrev ws_M_drop : List Cond := .code y_M_drop b_M_drop 3 (some .int) :: ze_B
abbrev ws_M_rows : List Cond := .code y_M_rows b_M_rows 2 (some .int) :: ze_B
abbrev ws_M_key : List Cond := .code y_M_key b_M_key 3 (some .int) :: ze_B
abbrev ws_M_value : List Cond := .code y_M_value b_M_value 3 (some .int) :: ze_B
abbrev ws_M_sort : List Cond := .code y_M_sort b_M_sort 9 (some .int) :: ze_B
abbrev ws_M_refuse : List Cond := .code y_M_refuse b_M_refuse 5 (some .int) :: ze_B
abbrev ws_M_before : List Cond := .code y_M_before b_M_before 8 (some .boolean) :: ze_B
abbrev ws_M_compare : List Cond := .code y_M_compare b_M_compare 4 (some .int) :: ze_B
abbrev ws_M_sortCost : List Cond := .code y_M_sortCost b_M_sortCost 5 (some .long) :: ze_B
abbrev ws_M_finish : List Cond := .code y_M_finish b_M_finish 3 (some .int) :: ze_B
abbrev ws_M_select : List Cond := .code y_M_select b_M_select 8 (some .int) :: ze_B
abbrev ws_M_make : List Cond := .code y_M_make b_M_make 3 none :: ze_B
abbrev ws_M_distinct : List Cond := .code y_M_distinct b_M_distinct 5 (some .int) :: ze_B
abbrev ws_M_next : List Cond := .code y_M_next b_M_next 9 (some .int) :: ze_B
abbrev ws_M_combine : List Cond := .code y_M_combine b_M_combine 11 (some .int) :: ze_B
abbrev ws_M_times : List Cond := .code y_M_times b_M_times 6 (some .int) :: ze_B
abbrev ws_M_group : List Cond := .code y_M_group b_M_group 8 (some .int) :: ze_B
abbrev ws_M_rank : List Cond := .code y_M_rank b_M_rank 8 (some .int) :: ze_B
abbrev ws_M_behind : List Cond := .code y_M_behind b_M_behind 5 (some .int) :: ze_B
abbrev ws_M_join : List Cond := .code y_M_join b_M_join 6 (some .int) :: ze_B
abbrev ws_M_visit : List Cond := .code y_M_visit b_M_visit 9 (some .boolean) :: ze_B
abbrev ws_M_many : List Cond := .code y_M_many b_M_many 7 (some .int) :: ze_B
abbrev ws_M_here : List Cond := .code y_M_here b_M_here 3 (some .boolean) :: ze_B
abbrev ws_M_digit : List Cond := .code y_M_digit b_M_digit 6 (some .int) :: ze_B
abbrev ws_M_chunks : List Cond := .code y_M_chunks b_M_chunks 8 none :: ze_B
abbrev ws_M_chunk : List Cond := .code y_M_chunk b_M_chunk 7 none :: ze_B
abbrev ws_M_transfers : List Cond := .code y_M_transfers b_M_transfers 1 (some .long) :: ze_B
abbrev ws_M_blocks : List Cond := .code y_M_blocks b_M_blocks 3 (some .int) :: ze_B
theorem ze_gc_ {c0 : Cond} {ws : List Cond} (h : ∀ w ∈ ws, w ∈ ze_B) : GoodIn (c0 :: ze_B) ws := fun w hw => ⟨List.mem_cons_of_mem _ (h w hw), ze_Bg (h w hw)⟩
theorem ze_gcons {c1 : Cond} {ws : List Cond} (h1 : c1 ∈ ze_B) (h : ∀ w ∈ ws, w ∈ ze_B) : ∀ w ∈ c1 :: ws, w ∈ ze_B := List.forall_mem_cons.mpr ⟨h1, h⟩
theorem ze_gB : ∀ w ∈ ze_B, w ∈ ze_B := fun _ h => h
theorem zw_0 : (.initialized R_L : Cond) ∈ ze_B := ze_Bt 0 (by decide +kernel) rfl
theorem zw_1 : (.initialized R_X : Cond) ∈ ze_B := ze_Bt 1 (by decide +kernel) rfl
theorem zw_2 : (.initialized R_J : Cond) ∈ ze_B := ze_Bt 2 (by decide +kernel) rfl
theorem zw_3 : (.initialized R_T : Cond) ∈ ze_B := ze_Bt 3 (by decide +kernel) rfl
theorem zw_4 : (.initialized R_M : Cond) ∈ ze_B := ze_Bt 4 (by decide +kernel) rfl
theorem zw_5 : (.initialized "java/lang/System" : Cond) ∈ ze_B := ze_Bt 5 (by decide +kernel) rfl
theorem zw_6 : (.initialized R_I : Cond) ∈ ze_B := ze_Bt 6 (by decide +kernel) rfl
theorem zw_7 : (.classLink R_L 7 R_X : Cond) ∈ ze_B := ze_Bt 7 (by decide +kernel) rfl
theorem zw_8 : (.instantiable R_X 8 : Cond) ∈ ze_B := ze_Bt 8 (by decide +kernel) rfl
theorem zw_9 : (.methodLink R_L 15 y_X_init : Cond) ∈ ze_B := ze_Bt 9 (by decide +kernel) rfl
theorem zw_10 : (.instanceMethod y_X_init : Cond) ∈ ze_B := ze_Bt 10 (by decide +kernel) rfl
theorem zw_11 : (.code y_X_init b_X_init 3 none : Cond) ∈ ze_B := ze_Bt 11 rfl rfl
theorem zw_12 : (.methodLink R_X 1 objectInit : Cond) ∈ ze_B := ze_Bt 12 (by decide +kernel) rfl
theorem zw_13 : (.instanceMethod objectInit : Cond) ∈ ze_B := ze_Bt 13 (by decide +kernel) rfl
theorem zw_14 : (.code objectInit ⟨#[0xb1]⟩ 1 none : Cond) ∈ ze_B := ze_Bt 14 rfl rfl
theorem zw_15 : (.methodLink R_X 9 y_J_max : Cond) ∈ ze_B := ze_Bt 15 (by decide +kernel) rfl
theorem zw_16 : (.static y_J_max : Cond) ∈ ze_B := ze_Bt 16 (by decide +kernel) rfl
theorem zw_17 : (.code y_J_max b_J_max 2 (some .int) : Cond) ∈ ze_B := ze_Bt 17 rfl rfl
theorem zw_18 : (.methodLink R_X 15 y_J_min : Cond) ∈ ze_B := ze_Bt 18 (by decide +kernel) rfl
theorem zw_19 : (.static y_J_min : Cond) ∈ ze_B := ze_Bt 19 (by decide +kernel) rfl
theorem zw_20 : (.code y_J_min b_J_min 2 (some .int) : Cond) ∈ ze_B := ze_Bt 20 rfl rfl
theorem zw_21 : (.classLink R_X 22 R_T : Cond) ∈ ze_B := ze_Bt 21 (by decide +kernel) rfl
theorem zw_23 : (.instantiable R_T 4 : Cond) ∈ ze_B := ze_Bt 23 (by decide +kernel) rfl
theorem zw_25 : (.instanceMethod y_T_init : Cond) ∈ ze_B := ze_Bt 25 (by decide +kernel) rfl
theorem zw_26 : (.code y_T_init b_T_init 1 none : Cond) ∈ ze_B := ze_Bt 26 rfl rfl
theorem zw_27 : (.methodLink R_T 3 objectInit : Cond) ∈ ze_B := ze_Bt 27 (by decide +kernel) rfl
theorem zw_28 : (.fieldLink R_T 9 "BlockExecutor$Table" "keys" "[I" : Cond) ∈ ze_B := ze_Bt 28 (by decide +kernel) rfl
theorem zw_29 : (.fieldLink R_X 83 "BlockExecutor$Table" "keys" "[I" : Cond) ∈ ze_B := ze_Bt 29 (by decide +kernel) rfl
theorem zw_30 : (.fieldLink R_T 15 "BlockExecutor$Table" "values" "[I" : Cond) ∈ ze_B := ze_Bt 30 (by decide +kernel) rfl
theorem zw_31 : (.fieldLink R_X 87 "BlockExecutor$Table" "values" "[I" : Cond) ∈ ze_B := ze_Bt 31 (by decide +kernel) rfl
theorem zw_32 : (.fieldLink R_T 18 "BlockExecutor$Table" "count" "I" : Cond) ∈ ze_B := ze_Bt 32 (by decide +kernel) rfl
theorem zw_33 : (.fieldLink R_X 50 "BlockExecutor$Table" "count" "I" : Cond) ∈ ze_B := ze_Bt 33 (by decide +kernel) rfl
theorem zw_34 : (.fieldLink R_T 22 "BlockExecutor$Table" "overfull" "Z" : Cond) ∈ ze_B := ze_Bt 34 (by decide +kernel) rfl
theorem zw_35 : (.fieldLink R_X 117 "BlockExecutor$Table" "overfull" "Z" : Cond) ∈ ze_B := ze_Bt 35 (by decide +kernel) rfl
theorem zw_36 : (.laysFinal R_T "BlockExecutor$Table" "keys" "[I" : Cond) ∈ ze_B := ze_Bt 36 (by decide +kernel) rfl
theorem zw_38 : (.laysFinal R_T "BlockExecutor$Table" "values" "[I" : Cond) ∈ ze_B := ze_Bt 38 (by decide +kernel) rfl
theorem zw_40 : (.lays R_T "BlockExecutor$Table" "count" "I" : Cond) ∈ ze_B := ze_Bt 40 (by decide +kernel) rfl
theorem zw_42 : (.lays R_T "BlockExecutor$Table" "overfull" "Z" : Cond) ∈ ze_B := ze_Bt 42 (by decide +kernel) rfl
theorem zw_45 : (.arrayClass .int : Cond) ∈ ze_B := ze_Bt 45 (by decide +kernel) rfl
theorem zw_46 : (.fieldLink R_X 18 "BlockExecutor" "frames" "I" : Cond) ∈ ze_B := ze_Bt 46 (by decide +kernel) rfl
theorem zw_47 : (.fieldLink R_X 24 "BlockExecutor" "tables" "[LBlockExecutor$Table;" : Cond) ∈ ze_B := ze_Bt 47 (by decide +kernel) rfl
theorem zw_48 : (.fieldLink R_X 29 "BlockExecutor" "held" "[Z" : Cond) ∈ ze_B := ze_Bt 48 (by decide +kernel) rfl
theorem zw_49 : (.fieldLink R_X 33 "BlockExecutor" "input" "LBlockExecutor$Table;" : Cond) ∈ ze_B := ze_Bt 49 (by decide +kernel) rfl
theorem zw_50 : (.fieldLink R_X 37 "BlockExecutor" "workA" "LBlockExecutor$Table;" : Cond) ∈ ze_B := ze_Bt 50 (by decide +kernel) rfl
theorem zw_51 : (.fieldLink R_X 40 "BlockExecutor" "workB" "LBlockExecutor$Table;" : Cond) ∈ ze_B := ze_Bt 51 (by decide +kernel) rfl
theorem zw_52 : (.fieldLink R_X 43 "BlockExecutor" "spare" "LBlockExecutor$Table;" : Cond) ∈ ze_B := ze_Bt 52 (by decide +kernel) rfl
theorem zw_53 : (.fieldLink R_X 46 "BlockExecutor" "moved" "J" : Cond) ∈ ze_B := ze_Bt 53 (by decide +kernel) rfl
theorem zw_54 : (.laysFinal R_X "BlockExecutor" "frames" "I" : Cond) ∈ ze_B := ze_Bt 54 (by decide +kernel) rfl
theorem zw_56 : (.laysFinal R_X "BlockExecutor" "tables" "[LBlockExecutor$Table;" : Cond) ∈ ze_B := ze_Bt 56 (by decide +kernel) rfl
theorem zw_58 : (.laysFinal R_X "BlockExecutor" "held" "[Z" : Cond) ∈ ze_B := ze_Bt 58 (by decide +kernel) rfl
theorem zw_60 : (.laysFinal R_X "BlockExecutor" "input" "LBlockExecutor$Table;" : Cond) ∈ ze_B := ze_Bt 60 (by decide +kernel) rfl
theorem zw_62 : (.laysFinal R_X "BlockExecutor" "workA" "LBlockExecutor$Table;" : Cond) ∈ ze_B := ze_Bt 62 (by decide +kernel) rfl
theorem zw_64 : (.laysFinal R_X "BlockExecutor" "workB" "LBlockExecutor$Table;" : Cond) ∈ ze_B := ze_Bt 64 (by decide +kernel) rfl
theorem zw_66 : (.laysFinal R_X "BlockExecutor" "spare" "LBlockExecutor$Table;" : Cond) ∈ ze_B := ze_Bt 66 (by decide +kernel) rfl
theorem zw_68 : (.lays R_X "BlockExecutor" "moved" "J" : Cond) ∈ ze_B := ze_Bt 68 (by decide +kernel) rfl
theorem zw_71 : (.arrayClass .boolean : Cond) ∈ ze_B := ze_Bt 71 (by decide +kernel) rfl
theorem zw_72 : (.methodLink R_L 21 y_X_put : Cond) ∈ ze_B := ze_Bt 72 (by decide +kernel) rfl
theorem zw_73 : (.instanceMethod y_X_put : Cond) ∈ ze_B := ze_Bt 73 (by decide +kernel) rfl
theorem zw_74 : (.selects R_X y_X_put y_X_put : Cond) ∈ ze_B := ze_Bt 74 (by decide +kernel) rfl
theorem zw_75 : (.code y_X_put b_X_put 3 (some .boolean) : Cond) ∈ ze_B := ze_Bt 75 rfl rfl
theorem zw_76 : (.methodLink R_X 53 y_T_append : Cond) ∈ ze_B := ze_Bt 76 (by decide +kernel) rfl
theorem zw_77 : (.instanceMethod y_T_append : Cond) ∈ ze_B := ze_Bt 77 (by decide +kernel) rfl
theorem zw_78 : (.selects R_T y_T_append y_T_append : Cond) ∈ ze_B := ze_Bt 78 (by decide +kernel) rfl
theorem zw_79 : (.code y_T_append b_T_append 3 none : Cond) ∈ ze_B := ze_Bt 79 rfl rfl
theorem zw_80 : (.methodLink R_L 26 y_X_store : Cond) ∈ ze_B := ze_Bt 80 (by decide +kernel) rfl
theorem zw_81 : (.instanceMethod y_X_store : Cond) ∈ ze_B := ze_Bt 81 (by decide +kernel) rfl
theorem zw_82 : (.selects R_X y_X_store y_X_store : Cond) ∈ ze_B := ze_Bt 82 (by decide +kernel) rfl
theorem zw_83 : (.code y_X_store b_X_store 2 (some .int) : Cond) ∈ ze_B := ze_Bt 83 rfl rfl
theorem zw_84 : (.methodLink R_X 57 y_X_isSlot : Cond) ∈ ze_B := ze_Bt 84 (by decide +kernel) rfl
theorem zw_85 : (.static y_X_isSlot : Cond) ∈ ze_B := ze_Bt 85 (by decide +kernel) rfl
theorem zw_86 : (.code y_X_isSlot b_X_isSlot 1 (some .boolean) : Cond) ∈ ze_B := ze_Bt 86 rfl rfl
theorem zw_87 : (.methodLink R_X 61 y_T_copyFrom : Cond) ∈ ze_B := ze_Bt 87 (by decide +kernel) rfl
theorem zw_88 : (.instanceMethod y_T_copyFrom : Cond) ∈ ze_B := ze_Bt 88 (by decide +kernel) rfl
theorem zw_89 : (.selects R_T y_T_copyFrom y_T_copyFrom : Cond) ∈ ze_B := ze_Bt 89 (by decide +kernel) rfl
theorem zw_90 : (.code y_T_copyFrom b_T_copyFrom 2 none : Cond) ∈ ze_B := ze_Bt 90 rfl rfl
theorem zw_91 : (.methodLink R_T 26 arraycopyName : Cond) ∈ ze_B := ze_Bt 91 (by decide +kernel) rfl
theorem zw_92 : (.static arraycopyName : Cond) ∈ ze_B := ze_Bt 92 (by decide +kernel) rfl
theorem zw_93 : (.native arraycopyName : Cond) ∈ ze_B := ze_Bt 93 (by decide +kernel) rfl
theorem zw_94 : (.methodLink R_X 65 y_T_clear : Cond) ∈ ze_B := ze_Bt 94 (by decide +kernel) rfl
theorem zw_95 : (.instanceMethod y_T_clear : Cond) ∈ ze_B := ze_Bt 95 (by decide +kernel) rfl
theorem zw_96 : (.selects R_T y_T_clear y_T_clear : Cond) ∈ ze_B := ze_Bt 96 (by decide +kernel) rfl
theorem zw_97 : (.code y_T_clear b_T_clear 1 none : Cond) ∈ ze_B := ze_Bt 97 rfl rfl
theorem zw_98 : (.methodLink R_X 68 y_X_sizeOf : Cond) ∈ ze_B := ze_Bt 98 (by decide +kernel) rfl
theorem zw_99 : (.static y_X_sizeOf : Cond) ∈ ze_B := ze_Bt 99 (by decide +kernel) rfl
theorem zw_100 : (.code y_X_sizeOf b_X_sizeOf 1 (some .int) : Cond) ∈ ze_B := ze_Bt 100 rfl rfl
theorem zw_101 : (.methodLink R_X 121 y_X_dividedUp : Cond) ∈ ze_B := ze_Bt 101 (by decide +kernel) rfl
theorem zw_102 : (.static y_X_dividedUp : Cond) ∈ ze_B := ze_Bt 102 (by decide +kernel) rfl
theorem zw_103 : (.code y_X_dividedUp b_X_dividedUp 2 (some .int) : Cond) ∈ ze_B := ze_Bt 103 rfl rfl
theorem zw_104 : (.methodLink R_X 72 y_X_finish : Cond) ∈ ze_B := ze_Bt 104 (by decide +kernel) rfl
theorem zw_106 : (.instanceMethod y_X_finish : Cond) ∈ ze_B := ze_Bt 106 (by decide +kernel) rfl
theorem zw_107 : (.code y_X_finish b_X_finish 5 (some .int) : Cond) ∈ ze_B := ze_Bt 107 rfl rfl
theorem zw_108 : (.methodLink R_L 31 y_X_drop : Cond) ∈ ze_B := ze_Bt 108 (by decide +kernel) rfl
theorem zw_109 : (.instanceMethod y_X_drop : Cond) ∈ ze_B := ze_Bt 109 (by decide +kernel) rfl
theorem zw_110 : (.selects R_X y_X_drop y_X_drop : Cond) ∈ ze_B := ze_Bt 110 (by decide +kernel) rfl
theorem zw_111 : (.code y_X_drop b_X_drop 2 (some .int) : Cond) ∈ ze_B := ze_Bt 111 rfl rfl
theorem zw_112 : (.methodLink R_L 35 y_X_rows : Cond) ∈ ze_B := ze_Bt 112 (by decide +kernel) rfl
theorem zw_113 : (.instanceMethod y_X_rows : Cond) ∈ ze_B := ze_Bt 113 (by decide +kernel) rfl
theorem zw_114 : (.selects R_X y_X_rows y_X_rows : Cond) ∈ ze_B := ze_Bt 114 (by decide +kernel) rfl
theorem zw_115 : (.code y_X_rows b_X_rows 2 (some .int) : Cond) ∈ ze_B := ze_Bt 115 rfl rfl
theorem zw_116 : (.methodLink R_X 76 y_X_holdsTable : Cond) ∈ ze_B := ze_Bt 116 (by decide +kernel) rfl
theorem zw_118 : (.instanceMethod y_X_holdsTable : Cond) ∈ ze_B := ze_Bt 118 (by decide +kernel) rfl
theorem zw_119 : (.code y_X_holdsTable b_X_holdsTable 2 (some .boolean) : Cond) ∈ ze_B := ze_Bt 119 rfl rfl
theorem zw_120 : (.methodLink R_L 39 y_X_key : Cond) ∈ ze_B := ze_Bt 120 (by decide +kernel) rfl
theorem zw_121 : (.instanceMethod y_X_key : Cond) ∈ ze_B := ze_Bt 121 (by decide +kernel) rfl
theorem zw_122 : (.selects R_X y_X_key y_X_key : Cond) ∈ ze_B := ze_Bt 122 (by decide +kernel) rfl
theorem zw_123 : (.code y_X_key b_X_key 3 (some .int) : Cond) ∈ ze_B := ze_Bt 123 rfl rfl
theorem zw_124 : (.methodLink R_X 79 y_X_holdsRow : Cond) ∈ ze_B := ze_Bt 124 (by decide +kernel) rfl
theorem zw_126 : (.instanceMethod y_X_holdsRow : Cond) ∈ ze_B := ze_Bt 126 (by decide +kernel) rfl
theorem zw_127 : (.code y_X_holdsRow b_X_holdsRow 3 (some .boolean) : Cond) ∈ ze_B := ze_Bt 127 rfl rfl
theorem zw_128 : (.methodLink R_L 44 y_X_value : Cond) ∈ ze_B := ze_Bt 128 (by decide +kernel) rfl
theorem zw_129 : (.instanceMethod y_X_value : Cond) ∈ ze_B := ze_Bt 129 (by decide +kernel) rfl
theorem zw_130 : (.selects R_X y_X_value y_X_value : Cond) ∈ ze_B := ze_Bt 130 (by decide +kernel) rfl
theorem zw_131 : (.code y_X_value b_X_value 3 (some .int) : Cond) ∈ ze_B := ze_Bt 131 rfl rfl
theorem zw_132 : (.methodLink R_L 48 y_X_sort : Cond) ∈ ze_B := ze_Bt 132 (by decide +kernel) rfl
theorem zw_133 : (.instanceMethod y_X_sort : Cond) ∈ ze_B := ze_Bt 133 (by decide +kernel) rfl
theorem zw_134 : (.selects R_X y_X_sort y_X_sort : Cond) ∈ ze_B := ze_Bt 134 (by decide +kernel) rfl
theorem zw_135 : (.code y_X_sort b_X_sort 6 (some .int) : Cond) ∈ ze_B := ze_Bt 135 rfl rfl
theorem zw_136 : (.methodLink R_X 90 y_X_refusalOf : Cond) ∈ ze_B := ze_Bt 136 (by decide +kernel) rfl
theorem zw_138 : (.instanceMethod y_X_refusalOf : Cond) ∈ ze_B := ze_Bt 138 (by decide +kernel) rfl
theorem zw_139 : (.code y_X_refusalOf b_X_refusalOf 4 (some .int) : Cond) ∈ ze_B := ze_Bt 139 rfl rfl
theorem zw_140 : (.methodLink R_X 94 y_T_arrange : Cond) ∈ ze_B := ze_Bt 140 (by decide +kernel) rfl
theorem zw_141 : (.instanceMethod y_T_arrange : Cond) ∈ ze_B := ze_Bt 141 (by decide +kernel) rfl
theorem zw_142 : (.selects R_T y_T_arrange y_T_arrange : Cond) ∈ ze_B := ze_Bt 142 (by decide +kernel) rfl
theorem zw_143 : (.code y_T_arrange b_T_arrange 6 none : Cond) ∈ ze_B := ze_Bt 143 rfl rfl
theorem zw_145 : (.static y_X_compareRows : Cond) ∈ ze_B := ze_Bt 145 (by decide +kernel) rfl
theorem zw_146 : (.code y_X_compareRows b_X_compareRows 6 (some .int) : Cond) ∈ ze_B := ze_Bt 146 rfl rfl
theorem zw_147 : (.methodLink R_X 174 y_I_compare : Cond) ∈ ze_B := ze_Bt 147 (by decide +kernel) rfl
theorem zw_148 : (.static y_I_compare : Cond) ∈ ze_B := ze_Bt 148 (by decide +kernel) rfl
theorem zw_149 : (.code y_I_compare b_I_compare 2 (some .int) : Cond) ∈ ze_B := ze_Bt 149 rfl rfl
theorem zw_150 : (.methodLink R_X 98 y_X_sortCost : Cond) ∈ ze_B := ze_Bt 150 (by decide +kernel) rfl
theorem zw_152 : (.instanceMethod y_X_sortCost : Cond) ∈ ze_B := ze_Bt 152 (by decide +kernel) rfl
theorem zw_153 : (.code y_X_sortCost b_X_sortCost 5 (some .long) : Cond) ∈ ze_B := ze_Bt 153 rfl rfl
theorem zw_154 : (.constantLong R_X 124 2 : Cond) ∈ ze_B := ze_Bt 154 (by decide +kernel) rfl
theorem zw_155 : (.methodLink R_L 53 y_X_select : Cond) ∈ ze_B := ze_Bt 155 (by decide +kernel) rfl
theorem zw_156 : (.instanceMethod y_X_select : Cond) ∈ ze_B := ze_Bt 156 (by decide +kernel) rfl
theorem zw_157 : (.selects R_X y_X_select y_X_select : Cond) ∈ ze_B := ze_Bt 157 (by decide +kernel) rfl
theorem zw_158 : (.code y_X_select b_X_select 9 (some .int) : Cond) ∈ ze_B := ze_Bt 158 rfl rfl
theorem zw_159 : (.methodLink R_L 58 y_X_distinct : Cond) ∈ ze_B := ze_Bt 159 (by decide +kernel) rfl
theorem zw_160 : (.instanceMethod y_X_distinct : Cond) ∈ ze_B := ze_Bt 160 (by decide +kernel) rfl
theorem zw_161 : (.selects R_X y_X_distinct y_X_distinct : Cond) ∈ ze_B := ze_Bt 161 (by decide +kernel) rfl
theorem zw_162 : (.code y_X_distinct b_X_distinct 6 (some .int) : Cond) ∈ ze_B := ze_Bt 162 rfl rfl
theorem zw_163 : (.methodLink R_X 102 y_T_dropRepeats : Cond) ∈ ze_B := ze_Bt 163 (by decide +kernel) rfl
theorem zw_164 : (.instanceMethod y_T_dropRepeats : Cond) ∈ ze_B := ze_Bt 164 (by decide +kernel) rfl
theorem zw_165 : (.selects R_T y_T_dropRepeats y_T_dropRepeats : Cond) ∈ ze_B := ze_Bt 165 (by decide +kernel) rfl
theorem zw_166 : (.code y_T_dropRepeats b_T_dropRepeats 3 none : Cond) ∈ ze_B := ze_Bt 166 rfl rfl
theorem zw_167 : (.methodLink R_L 62 y_X_group : Cond) ∈ ze_B := ze_Bt 167 (by decide +kernel) rfl
theorem zw_168 : (.instanceMethod y_X_group : Cond) ∈ ze_B := ze_Bt 168 (by decide +kernel) rfl
theorem zw_169 : (.selects R_X y_X_group y_X_group : Cond) ∈ ze_B := ze_Bt 169 (by decide +kernel) rfl
theorem zw_170 : (.code y_X_group b_X_group 8 (some .int) : Cond) ∈ ze_B := ze_Bt 170 rfl rfl
theorem zw_171 : (.methodLink R_X 105 y_X_groupOneRound : Cond) ∈ ze_B := ze_Bt 171 (by decide +kernel) rfl
theorem zw_173 : (.instanceMethod y_X_groupOneRound : Cond) ∈ ze_B := ze_Bt 173 (by decide +kernel) rfl
theorem zw_174 : (.code y_X_groupOneRound b_X_groupOneRound 8 none : Cond) ∈ ze_B := ze_Bt 174 rfl rfl
theorem zw_175 : (.methodLink R_X 126 y_T_placeOfKey : Cond) ∈ ze_B := ze_Bt 175 (by decide +kernel) rfl
theorem zw_176 : (.instanceMethod y_T_placeOfKey : Cond) ∈ ze_B := ze_Bt 176 (by decide +kernel) rfl
theorem zw_177 : (.selects R_T y_T_placeOfKey y_T_placeOfKey : Cond) ∈ ze_B := ze_Bt 177 (by decide +kernel) rfl
theorem zw_178 : (.code y_T_placeOfKey b_T_placeOfKey 4 (some .int) : Cond) ∈ ze_B := ze_Bt 178 rfl rfl
theorem zw_179 : (.methodLink R_X 129 y_X_rowsInMemory : Cond) ∈ ze_B := ze_Bt 179 (by decide +kernel) rfl
theorem zw_181 : (.instanceMethod y_X_rowsInMemory : Cond) ∈ ze_B := ze_Bt 181 (by decide +kernel) rfl
theorem zw_182 : (.code y_X_rowsInMemory b_X_rowsInMemory 1 (some .int) : Cond) ∈ ze_B := ze_Bt 182 rfl rfl
theorem zw_183 : (.methodLink R_L 66 y_X_combine : Cond) ∈ ze_B := ze_Bt 183 (by decide +kernel) rfl
theorem zw_184 : (.instanceMethod y_X_combine : Cond) ∈ ze_B := ze_Bt 184 (by decide +kernel) rfl
theorem zw_185 : (.selects R_X y_X_combine y_X_combine : Cond) ∈ ze_B := ze_Bt 185 (by decide +kernel) rfl
theorem zw_186 : (.code y_X_combine b_X_combine 9 (some .int) : Cond) ∈ ze_B := ze_Bt 186 rfl rfl
theorem zw_187 : (.methodLink R_X 109 y_X_mergeBags : Cond) ∈ ze_B := ze_Bt 187 (by decide +kernel) rfl
theorem zw_189 : (.instanceMethod y_X_mergeBags : Cond) ∈ ze_B := ze_Bt 189 (by decide +kernel) rfl
theorem zw_190 : (.code y_X_mergeBags b_X_mergeBags 13 none : Cond) ∈ ze_B := ze_Bt 190 rfl rfl
theorem zw_191 : (.methodLink R_X 133 y_X_isNextFromA : Cond) ∈ ze_B := ze_Bt 191 (by decide +kernel) rfl
theorem zw_193 : (.instanceMethod y_X_isNextFromA : Cond) ∈ ze_B := ze_Bt 193 (by decide +kernel) rfl
theorem zw_194 : (.code y_X_isNextFromA b_X_isNextFromA 4 (some .boolean) : Cond) ∈ ze_B := ze_Bt 194 rfl rfl
theorem zw_195 : (.methodLink R_X 142 y_X_compareRows : Cond) ∈ ze_B := ze_Bt 195 (by decide +kernel) rfl
theorem zw_196 : (.methodLink R_X 136 y_T_repeatsFrom : Cond) ∈ ze_B := ze_Bt 196 (by decide +kernel) rfl
theorem zw_197 : (.instanceMethod y_T_repeatsFrom : Cond) ∈ ze_B := ze_Bt 197 (by decide +kernel) rfl
theorem zw_198 : (.selects R_T y_T_repeatsFrom y_T_repeatsFrom : Cond) ∈ ze_B := ze_Bt 198 (by decide +kernel) rfl
theorem zw_199 : (.code y_T_repeatsFrom b_T_repeatsFrom 5 (some .int) : Cond) ∈ ze_B := ze_Bt 199 rfl rfl
theorem zw_200 : (.methodLink R_X 139 y_X_timesInResult : Cond) ∈ ze_B := ze_Bt 200 (by decide +kernel) rfl
theorem zw_201 : (.static y_X_timesInResult : Cond) ∈ ze_B := ze_Bt 201 (by decide +kernel) rfl
theorem zw_202 : (.code y_X_timesInResult b_X_timesInResult 3 (some .int) : Cond) ∈ ze_B := ze_Bt 202 rfl rfl
theorem zw_203 : (.methodLink R_L 70 y_X_join : Cond) ∈ ze_B := ze_Bt 203 (by decide +kernel) rfl
theorem zw_204 : (.instanceMethod y_X_join : Cond) ∈ ze_B := ze_Bt 204 (by decide +kernel) rfl
theorem zw_205 : (.selects R_X y_X_join y_X_join : Cond) ∈ ze_B := ze_Bt 205 (by decide +kernel) rfl
theorem zw_206 : (.code y_X_join b_X_join 8 (some .int) : Cond) ∈ ze_B := ze_Bt 206 rfl rfl
theorem zw_207 : (.methodLink R_X 113 y_X_joinRanges : Cond) ∈ ze_B := ze_Bt 207 (by decide +kernel) rfl
theorem zw_209 : (.instanceMethod y_X_joinRanges : Cond) ∈ ze_B := ze_Bt 209 (by decide +kernel) rfl
theorem zw_210 : (.code y_X_joinRanges b_X_joinRanges 14 (some .long) : Cond) ∈ ze_B := ze_Bt 210 rfl rfl
theorem zw_211 : (.methodLink R_X 146 y_X_joinByChunks : Cond) ∈ ze_B := ze_Bt 211 (by decide +kernel) rfl
theorem zw_213 : (.instanceMethod y_X_joinByChunks : Cond) ∈ ze_B := ze_Bt 213 (by decide +kernel) rfl
theorem zw_214 : (.code y_X_joinByChunks b_X_joinByChunks 10 (some .long) : Cond) ∈ ze_B := ze_Bt 214 rfl rfl
theorem zw_215 : (.methodLink R_X 158 y_X_joinWithChunk : Cond) ∈ ze_B := ze_Bt 215 (by decide +kernel) rfl
theorem zw_217 : (.instanceMethod y_X_joinWithChunk : Cond) ∈ ze_B := ze_Bt 217 (by decide +kernel) rfl
theorem zw_218 : (.code y_X_joinWithChunk b_X_joinWithChunk 8 none : Cond) ∈ ze_B := ze_Bt 218 rfl rfl
theorem zw_219 : (.methodLink R_X 150 y_X_partition : Cond) ∈ ze_B := ze_Bt 219 (by decide +kernel) rfl
theorem zw_221 : (.instanceMethod y_X_partition : Cond) ∈ ze_B := ze_Bt 221 (by decide +kernel) rfl
theorem zw_222 : (.code y_X_partition b_X_partition 8 none : Cond) ∈ ze_B := ze_Bt 222 rfl rfl
theorem zw_223 : (.methodLink R_X 162 y_X_digitOf : Cond) ∈ ze_B := ze_Bt 223 (by decide +kernel) rfl
theorem zw_225 : (.instanceMethod y_X_digitOf : Cond) ∈ ze_B := ze_Bt 225 (by decide +kernel) rfl
theorem zw_226 : (.code y_X_digitOf b_X_digitOf 6 (some .int) : Cond) ∈ ze_B := ze_Bt 226 rfl rfl
theorem zw_227 : (.methodLink R_X 171 y_J_floorMod : Cond) ∈ ze_B := ze_Bt 227 (by decide +kernel) rfl
theorem zw_228 : (.static y_J_floorMod : Cond) ∈ ze_B := ze_Bt 228 (by decide +kernel) rfl
theorem zw_229 : (.code y_J_floorMod b_J_floorMod 3 (some .int) : Cond) ∈ ze_B := ze_Bt 229 rfl rfl
theorem zw_230 : (.methodLink R_X 165 arraycopyName : Cond) ∈ ze_B := ze_Bt 230 (by decide +kernel) rfl
theorem zw_231 : (.methodLink R_X 154 y_X_endOfPart : Cond) ∈ ze_B := ze_Bt 231 (by decide +kernel) rfl
theorem zw_233 : (.instanceMethod y_X_endOfPart : Cond) ∈ ze_B := ze_Bt 233 (by decide +kernel) rfl
theorem zw_234 : (.code y_X_endOfPart b_X_endOfPart 7 (some .int) : Cond) ∈ ze_B := ze_Bt 234 rfl rfl
theorem zw_235 : (.methodLink R_L 74 y_X_transfers : Cond) ∈ ze_B := ze_Bt 235 (by decide +kernel) rfl
theorem zw_236 : (.instanceMethod y_X_transfers : Cond) ∈ ze_B := ze_Bt 236 (by decide +kernel) rfl
theorem zw_237 : (.selects R_X y_X_transfers y_X_transfers : Cond) ∈ ze_B := ze_Bt 237 (by decide +kernel) rfl
theorem zw_238 : (.code y_X_transfers b_X_transfers 1 (some .long) : Cond) ∈ ze_B := ze_Bt 238 rfl rfl
theorem zw_239 : (.methodLink R_L 79 y_X_blocks : Cond) ∈ ze_B := ze_Bt 239 (by decide +kernel) rfl
theorem zw_240 : (.instanceMethod y_X_blocks : Cond) ∈ ze_B := ze_Bt 240 (by decide +kernel) rfl
theorem zw_241 : (.selects R_X y_X_blocks y_X_blocks : Cond) ∈ ze_B := ze_Bt 241 (by decide +kernel) rfl
theorem zw_242 : (.code y_X_blocks b_X_blocks 3 (some .int) : Cond) ∈ ze_B := ze_Bt 242 rfl rfl
theorem zw_243 : (.methodLink R_L 9 y_L_cell : Cond) ∈ ze_B := ze_Bt 243 (by decide +kernel) rfl
theorem zw_244 : (.static y_L_cell : Cond) ∈ ze_B := ze_Bt 244 (by decide +kernel) rfl
theorem zw_245 : (.code y_L_cell b_L_cell 2 (some .int) : Cond) ∈ ze_B := ze_Bt 245 rfl rfl
theorem zw_246 : (.classLink R_L 18 R_M : Cond) ∈ ze_B := ze_Bt 246 (by decide +kernel) rfl
theorem zw_247 : (.instantiable R_M 14 : Cond) ∈ ze_B := ze_Bt 247 (by decide +kernel) rfl
theorem zw_248 : (.methodLink R_L 20 y_M_init : Cond) ∈ ze_B := ze_Bt 248 (by decide +kernel) rfl
theorem zw_249 : (.instanceMethod y_M_init : Cond) ∈ ze_B := ze_Bt 249 (by decide +kernel) rfl
theorem zw_250 : (.code y_M_init b_M_init 3 none : Cond) ∈ ze_B := ze_Bt 250 rfl rfl
theorem zw_251 : (.methodLink R_M 1 objectInit : Cond) ∈ ze_B := ze_Bt 251 (by decide +kernel) rfl
theorem zw_252 : (.fieldLink R_M 34 "BlockExecutorModel" "memory" "I" : Cond) ∈ ze_B := ze_Bt 252 (by decide +kernel) rfl
theorem zw_253 : (.fieldLink R_M 51 "BlockExecutorModel" "moved" "J" : Cond) ∈ ze_B := ze_Bt 253 (by decide +kernel) rfl
theorem zw_254 : (.fieldLink R_M 44 "BlockExecutorModel" "typed" "I" : Cond) ∈ ze_B := ze_Bt 254 (by decide +kernel) rfl
theorem zw_255 : (.fieldLink R_M 7 "BlockExecutorModel" "typedKey" "[I" : Cond) ∈ ze_B := ze_Bt 255 (by decide +kernel) rfl
theorem zw_256 : (.fieldLink R_M 13 "BlockExecutorModel" "typedValue" "[I" : Cond) ∈ ze_B := ze_Bt 256 (by decide +kernel) rfl
theorem zw_257 : (.fieldLink R_M 16 "BlockExecutorModel" "count" "[I" : Cond) ∈ ze_B := ze_Bt 257 (by decide +kernel) rfl
theorem zw_258 : (.fieldLink R_M 19 "BlockExecutorModel" "keys" "[I" : Cond) ∈ ze_B := ze_Bt 258 (by decide +kernel) rfl
theorem zw_259 : (.fieldLink R_M 22 "BlockExecutorModel" "values" "[I" : Cond) ∈ ze_B := ze_Bt 259 (by decide +kernel) rfl
theorem zw_260 : (.fieldLink R_M 55 "BlockExecutorModel" "made" "I" : Cond) ∈ ze_B := ze_Bt 260 (by decide +kernel) rfl
theorem zw_261 : (.fieldLink R_M 25 "BlockExecutorModel" "madeKey" "[I" : Cond) ∈ ze_B := ze_Bt 261 (by decide +kernel) rfl
theorem zw_262 : (.fieldLink R_M 28 "BlockExecutorModel" "madeValue" "[I" : Cond) ∈ ze_B := ze_Bt 262 (by decide +kernel) rfl
theorem zw_263 : (.fieldLink R_M 58 "BlockExecutorModel" "cost" "J" : Cond) ∈ ze_B := ze_Bt 263 (by decide +kernel) rfl
theorem zw_264 : (.fieldLink R_M 98 "BlockExecutorModel" "level" "I" : Cond) ∈ ze_B := ze_Bt 264 (by decide +kernel) rfl
theorem zw_265 : (.fieldLink R_M 31 "BlockExecutorModel" "path" "[I" : Cond) ∈ ze_B := ze_Bt 265 (by decide +kernel) rfl
theorem zw_266 : (.laysFinal R_M "BlockExecutorModel" "memory" "I" : Cond) ∈ ze_B := ze_Bt 266 (by decide +kernel) rfl
theorem zw_268 : (.lays R_M "BlockExecutorModel" "moved" "J" : Cond) ∈ ze_B := ze_Bt 268 (by decide +kernel) rfl
theorem zw_270 : (.lays R_M "BlockExecutorModel" "typed" "I" : Cond) ∈ ze_B := ze_Bt 270 (by decide +kernel) rfl
theorem zw_272 : (.laysFinal R_M "BlockExecutorModel" "typedKey" "[I" : Cond) ∈ ze_B := ze_Bt 272 (by decide +kernel) rfl
theorem zw_274 : (.laysFinal R_M "BlockExecutorModel" "typedValue" "[I" : Cond) ∈ ze_B := ze_Bt 274 (by decide +kernel) rfl
theorem zw_276 : (.laysFinal R_M "BlockExecutorModel" "count" "[I" : Cond) ∈ ze_B := ze_Bt 276 (by decide +kernel) rfl
theorem zw_278 : (.laysFinal R_M "BlockExecutorModel" "keys" "[I" : Cond) ∈ ze_B := ze_Bt 278 (by decide +kernel) rfl
theorem zw_280 : (.laysFinal R_M "BlockExecutorModel" "values" "[I" : Cond) ∈ ze_B := ze_Bt 280 (by decide +kernel) rfl
theorem zw_282 : (.lays R_M "BlockExecutorModel" "made" "I" : Cond) ∈ ze_B := ze_Bt 282 (by decide +kernel) rfl
theorem zw_284 : (.laysFinal R_M "BlockExecutorModel" "madeKey" "[I" : Cond) ∈ ze_B := ze_Bt 284 (by decide +kernel) rfl
theorem zw_286 : (.laysFinal R_M "BlockExecutorModel" "madeValue" "[I" : Cond) ∈ ze_B := ze_Bt 286 (by decide +kernel) rfl
theorem zw_288 : (.lays R_M "BlockExecutorModel" "cost" "J" : Cond) ∈ ze_B := ze_Bt 288 (by decide +kernel) rfl
theorem zw_290 : (.lays R_M "BlockExecutorModel" "level" "I" : Cond) ∈ ze_B := ze_Bt 290 (by decide +kernel) rfl
theorem zw_292 : (.laysFinal R_M "BlockExecutorModel" "path" "[I" : Cond) ∈ ze_B := ze_Bt 292 (by decide +kernel) rfl
theorem zw_295 : (.methodLink R_L 25 y_M_put : Cond) ∈ ze_B := ze_Bt 295 (by decide +kernel) rfl
theorem zw_296 : (.instanceMethod y_M_put : Cond) ∈ ze_B := ze_Bt 296 (by decide +kernel) rfl
theorem zw_297 : (.selects R_M y_M_put y_M_put : Cond) ∈ ze_B := ze_Bt 297 (by decide +kernel) rfl
theorem zw_298 : (.code y_M_put b_M_put 3 (some .boolean) : Cond) ∈ ze_B := ze_Bt 298 rfl rfl
theorem zw_299 : (.methodLink R_L 30 y_M_store : Cond) ∈ ze_B := ze_Bt 299 (by decide +kernel) rfl
theorem zw_300 : (.instanceMethod y_M_store : Cond) ∈ ze_B := ze_Bt 300 (by decide +kernel) rfl
theorem zw_301 : (.selects R_M y_M_store y_M_store : Cond) ∈ ze_B := ze_Bt 301 (by decide +kernel) rfl
theorem zw_302 : (.code y_M_store b_M_store 3 (some .int) : Cond) ∈ ze_B := ze_Bt 302 rfl rfl
theorem zw_303 : (.methodLink R_M 47 y_M_slot : Cond) ∈ ze_B := ze_Bt 303 (by decide +kernel) rfl
theorem zw_304 : (.static y_M_slot : Cond) ∈ ze_B := ze_Bt 304 (by decide +kernel) rfl
theorem zw_305 : (.code y_M_slot b_M_slot 1 (some .boolean) : Cond) ∈ ze_B := ze_Bt 305 rfl rfl
theorem zw_306 : (.methodLink R_M 38 y_M_size : Cond) ∈ ze_B := ze_Bt 306 (by decide +kernel) rfl
theorem zw_307 : (.static y_M_size : Cond) ∈ ze_B := ze_Bt 307 (by decide +kernel) rfl
theorem zw_308 : (.code y_M_size b_M_size 1 (some .int) : Cond) ∈ ze_B := ze_Bt 308 rfl rfl
theorem zw_309 : (.methodLink R_L 34 y_M_drop : Cond) ∈ ze_B := ze_Bt 309 (by decide +kernel) rfl
theorem zw_310 : (.instanceMethod y_M_drop : Cond) ∈ ze_B := ze_Bt 310 (by decide +kernel) rfl
theorem zw_311 : (.selects R_M y_M_drop y_M_drop : Cond) ∈ ze_B := ze_Bt 311 (by decide +kernel) rfl
theorem zw_312 : (.code y_M_drop b_M_drop 3 (some .int) : Cond) ∈ ze_B := ze_Bt 312 rfl rfl
theorem zw_313 : (.methodLink R_L 38 y_M_rows : Cond) ∈ ze_B := ze_Bt 313 (by decide +kernel) rfl
theorem zw_314 : (.instanceMethod y_M_rows : Cond) ∈ ze_B := ze_Bt 314 (by decide +kernel) rfl
theorem zw_315 : (.selects R_M y_M_rows y_M_rows : Cond) ∈ ze_B := ze_Bt 315 (by decide +kernel) rfl
theorem zw_316 : (.code y_M_rows b_M_rows 2 (some .int) : Cond) ∈ ze_B := ze_Bt 316 rfl rfl
theorem zw_317 : (.methodLink R_L 43 y_M_key : Cond) ∈ ze_B := ze_Bt 317 (by decide +kernel) rfl
theorem zw_318 : (.instanceMethod y_M_key : Cond) ∈ ze_B := ze_Bt 318 (by decide +kernel) rfl
theorem zw_319 : (.selects R_M y_M_key y_M_key : Cond) ∈ ze_B := ze_Bt 319 (by decide +kernel) rfl
theorem zw_320 : (.code y_M_key b_M_key 3 (some .int) : Cond) ∈ ze_B := ze_Bt 320 rfl rfl
theorem zw_321 : (.methodLink R_L 47 y_M_value : Cond) ∈ ze_B := ze_Bt 321 (by decide +kernel) rfl
theorem zw_322 : (.instanceMethod y_M_value : Cond) ∈ ze_B := ze_Bt 322 (by decide +kernel) rfl
theorem zw_323 : (.selects R_M y_M_value y_M_value : Cond) ∈ ze_B := ze_Bt 323 (by decide +kernel) rfl
theorem zw_324 : (.code y_M_value b_M_value 3 (some .int) : Cond) ∈ ze_B := ze_Bt 324 rfl rfl
theorem zw_325 : (.methodLink R_L 52 y_M_sort : Cond) ∈ ze_B := ze_Bt 325 (by decide +kernel) rfl
theorem zw_326 : (.instanceMethod y_M_sort : Cond) ∈ ze_B := ze_Bt 326 (by decide +kernel) rfl
theorem zw_327 : (.selects R_M y_M_sort y_M_sort : Cond) ∈ ze_B := ze_Bt 327 (by decide +kernel) rfl
theorem zw_328 : (.code y_M_sort b_M_sort 9 (some .int) : Cond) ∈ ze_B := ze_Bt 328 rfl rfl
theorem zw_329 : (.methodLink R_M 65 y_M_refuse : Cond) ∈ ze_B := ze_Bt 329 (by decide +kernel) rfl
theorem zw_331 : (.instanceMethod y_M_refuse : Cond) ∈ ze_B := ze_Bt 331 (by decide +kernel) rfl
theorem zw_332 : (.code y_M_refuse b_M_refuse 5 (some .int) : Cond) ∈ ze_B := ze_Bt 332 rfl rfl
theorem zw_333 : (.methodLink R_M 69 y_M_before : Cond) ∈ ze_B := ze_Bt 333 (by decide +kernel) rfl
theorem zw_335 : (.instanceMethod y_M_before : Cond) ∈ ze_B := ze_Bt 335 (by decide +kernel) rfl
theorem zw_336 : (.code y_M_before b_M_before 8 (some .boolean) : Cond) ∈ ze_B := ze_Bt 336 rfl rfl
theorem zw_337 : (.methodLink R_M 61 y_M_compare : Cond) ∈ ze_B := ze_Bt 337 (by decide +kernel) rfl
theorem zw_338 : (.static y_M_compare : Cond) ∈ ze_B := ze_Bt 338 (by decide +kernel) rfl
theorem zw_339 : (.code y_M_compare b_M_compare 4 (some .int) : Cond) ∈ ze_B := ze_Bt 339 rfl rfl
theorem zw_340 : (.methodLink R_M 73 y_M_sortCost : Cond) ∈ ze_B := ze_Bt 340 (by decide +kernel) rfl
theorem zw_342 : (.instanceMethod y_M_sortCost : Cond) ∈ ze_B := ze_Bt 342 (by decide +kernel) rfl
theorem zw_343 : (.code y_M_sortCost b_M_sortCost 5 (some .long) : Cond) ∈ ze_B := ze_Bt 343 rfl rfl
theorem zw_344 : (.constantLong R_M 42 2 : Cond) ∈ ze_B := ze_Bt 344 (by decide +kernel) rfl
theorem zw_345 : (.methodLink R_M 77 y_M_finish : Cond) ∈ ze_B := ze_Bt 345 (by decide +kernel) rfl
theorem zw_347 : (.instanceMethod y_M_finish : Cond) ∈ ze_B := ze_Bt 347 (by decide +kernel) rfl
theorem zw_348 : (.code y_M_finish b_M_finish 3 (some .int) : Cond) ∈ ze_B := ze_Bt 348 rfl rfl
theorem zw_349 : (.methodLink R_L 57 y_M_select : Cond) ∈ ze_B := ze_Bt 349 (by decide +kernel) rfl
theorem zw_350 : (.instanceMethod y_M_select : Cond) ∈ ze_B := ze_Bt 350 (by decide +kernel) rfl
theorem zw_351 : (.selects R_M y_M_select y_M_select : Cond) ∈ ze_B := ze_Bt 351 (by decide +kernel) rfl
theorem zw_352 : (.code y_M_select b_M_select 8 (some .int) : Cond) ∈ ze_B := ze_Bt 352 rfl rfl
theorem zw_353 : (.methodLink R_M 80 y_M_make : Cond) ∈ ze_B := ze_Bt 353 (by decide +kernel) rfl
theorem zw_355 : (.instanceMethod y_M_make : Cond) ∈ ze_B := ze_Bt 355 (by decide +kernel) rfl
theorem zw_356 : (.code y_M_make b_M_make 3 none : Cond) ∈ ze_B := ze_Bt 356 rfl rfl
theorem zw_357 : (.methodLink R_L 61 y_M_distinct : Cond) ∈ ze_B := ze_Bt 357 (by decide +kernel) rfl
theorem zw_358 : (.instanceMethod y_M_distinct : Cond) ∈ ze_B := ze_Bt 358 (by decide +kernel) rfl
theorem zw_359 : (.selects R_M y_M_distinct y_M_distinct : Cond) ∈ ze_B := ze_Bt 359 (by decide +kernel) rfl
theorem zw_360 : (.code y_M_distinct b_M_distinct 5 (some .int) : Cond) ∈ ze_B := ze_Bt 360 rfl rfl
theorem zw_361 : (.methodLink R_M 84 y_M_next : Cond) ∈ ze_B := ze_Bt 361 (by decide +kernel) rfl
theorem zw_363 : (.instanceMethod y_M_next : Cond) ∈ ze_B := ze_Bt 363 (by decide +kernel) rfl
theorem zw_364 : (.code y_M_next b_M_next 9 (some .int) : Cond) ∈ ze_B := ze_Bt 364 rfl rfl
theorem zw_365 : (.methodLink R_L 69 y_M_combine : Cond) ∈ ze_B := ze_Bt 365 (by decide +kernel) rfl
theorem zw_366 : (.instanceMethod y_M_combine : Cond) ∈ ze_B := ze_Bt 366 (by decide +kernel) rfl
theorem zw_367 : (.selects R_M y_M_combine y_M_combine : Cond) ∈ ze_B := ze_Bt 367 (by decide +kernel) rfl
theorem zw_368 : (.code y_M_combine b_M_combine 11 (some .int) : Cond) ∈ ze_B := ze_Bt 368 rfl rfl
theorem zw_369 : (.methodLink R_M 88 y_M_times : Cond) ∈ ze_B := ze_Bt 369 (by decide +kernel) rfl
theorem zw_371 : (.instanceMethod y_M_times : Cond) ∈ ze_B := ze_Bt 371 (by decide +kernel) rfl
theorem zw_372 : (.code y_M_times b_M_times 6 (some .int) : Cond) ∈ ze_B := ze_Bt 372 rfl rfl
theorem zw_373 : (.methodLink R_L 65 y_M_group : Cond) ∈ ze_B := ze_Bt 373 (by decide +kernel) rfl
theorem zw_374 : (.instanceMethod y_M_group : Cond) ∈ ze_B := ze_Bt 374 (by decide +kernel) rfl
theorem zw_375 : (.selects R_M y_M_group y_M_group : Cond) ∈ ze_B := ze_Bt 375 (by decide +kernel) rfl
theorem zw_376 : (.code y_M_group b_M_group 8 (some .int) : Cond) ∈ ze_B := ze_Bt 376 rfl rfl
theorem zw_377 : (.methodLink R_M 91 y_M_rank : Cond) ∈ ze_B := ze_Bt 377 (by decide +kernel) rfl
theorem zw_379 : (.instanceMethod y_M_rank : Cond) ∈ ze_B := ze_Bt 379 (by decide +kernel) rfl
theorem zw_380 : (.code y_M_rank b_M_rank 8 (some .int) : Cond) ∈ ze_B := ze_Bt 380 rfl rfl
theorem zw_381 : (.methodLink R_M 95 y_M_behind : Cond) ∈ ze_B := ze_Bt 381 (by decide +kernel) rfl
theorem zw_383 : (.instanceMethod y_M_behind : Cond) ∈ ze_B := ze_Bt 383 (by decide +kernel) rfl
theorem zw_384 : (.code y_M_behind b_M_behind 5 (some .int) : Cond) ∈ ze_B := ze_Bt 384 rfl rfl
theorem zw_385 : (.methodLink R_L 73 y_M_join : Cond) ∈ ze_B := ze_Bt 385 (by decide +kernel) rfl
theorem zw_386 : (.instanceMethod y_M_join : Cond) ∈ ze_B := ze_Bt 386 (by decide +kernel) rfl
theorem zw_387 : (.selects R_M y_M_join y_M_join : Cond) ∈ ze_B := ze_Bt 387 (by decide +kernel) rfl
theorem zw_388 : (.code y_M_join b_M_join 6 (some .int) : Cond) ∈ ze_B := ze_Bt 388 rfl rfl
theorem zw_389 : (.methodLink R_M 119 y_M_visit : Cond) ∈ ze_B := ze_Bt 389 (by decide +kernel) rfl
theorem zw_391 : (.instanceMethod y_M_visit : Cond) ∈ ze_B := ze_Bt 391 (by decide +kernel) rfl
theorem zw_392 : (.code y_M_visit b_M_visit 9 (some .boolean) : Cond) ∈ ze_B := ze_Bt 392 rfl rfl
theorem zw_393 : (.methodLink R_M 107 y_M_many : Cond) ∈ ze_B := ze_Bt 393 (by decide +kernel) rfl
theorem zw_395 : (.instanceMethod y_M_many : Cond) ∈ ze_B := ze_Bt 395 (by decide +kernel) rfl
theorem zw_396 : (.code y_M_many b_M_many 7 (some .int) : Cond) ∈ ze_B := ze_Bt 396 rfl rfl
theorem zw_397 : (.methodLink R_M 104 y_M_here : Cond) ∈ ze_B := ze_Bt 397 (by decide +kernel) rfl
theorem zw_399 : (.instanceMethod y_M_here : Cond) ∈ ze_B := ze_Bt 399 (by decide +kernel) rfl
theorem zw_400 : (.code y_M_here b_M_here 3 (some .boolean) : Cond) ∈ ze_B := ze_Bt 400 rfl rfl
theorem zw_401 : (.methodLink R_M 101 y_M_digit : Cond) ∈ ze_B := ze_Bt 401 (by decide +kernel) rfl
theorem zw_403 : (.instanceMethod y_M_digit : Cond) ∈ ze_B := ze_Bt 403 (by decide +kernel) rfl
theorem zw_404 : (.code y_M_digit b_M_digit 6 (some .int) : Cond) ∈ ze_B := ze_Bt 404 rfl rfl
theorem zw_405 : (.methodLink R_M 115 y_M_chunks : Cond) ∈ ze_B := ze_Bt 405 (by decide +kernel) rfl
theorem zw_407 : (.instanceMethod y_M_chunks : Cond) ∈ ze_B := ze_Bt 407 (by decide +kernel) rfl
theorem zw_408 : (.code y_M_chunks b_M_chunks 8 none : Cond) ∈ ze_B := ze_Bt 408 rfl rfl
theorem zw_409 : (.methodLink R_M 111 y_M_chunk : Cond) ∈ ze_B := ze_Bt 409 (by decide +kernel) rfl
theorem zw_411 : (.instanceMethod y_M_chunk : Cond) ∈ ze_B := ze_Bt 411 (by decide +kernel) rfl
theorem zw_412 : (.code y_M_chunk b_M_chunk 7 none : Cond) ∈ ze_B := ze_Bt 412 rfl rfl
theorem zw_413 : (.methodLink R_L 78 y_M_transfers : Cond) ∈ ze_B := ze_Bt 413 (by decide +kernel) rfl
theorem zw_414 : (.instanceMethod y_M_transfers : Cond) ∈ ze_B := ze_Bt 414 (by decide +kernel) rfl
theorem zw_415 : (.selects R_M y_M_transfers y_M_transfers : Cond) ∈ ze_B := ze_Bt 415 (by decide +kernel) rfl
theorem zw_416 : (.code y_M_transfers b_M_transfers 1 (some .long) : Cond) ∈ ze_B := ze_Bt 416 rfl rfl
theorem zw_417 : (.methodLink R_L 83 y_M_blocks : Cond) ∈ ze_B := ze_Bt 417 (by decide +kernel) rfl
theorem zw_418 : (.instanceMethod y_M_blocks : Cond) ∈ ze_B := ze_Bt 418 (by decide +kernel) rfl
theorem zw_419 : (.selects R_M y_M_blocks y_M_blocks : Cond) ∈ ze_B := ze_Bt 419 (by decide +kernel) rfl
theorem zw_420 : (.code y_M_blocks b_M_blocks 3 (some .int) : Cond) ∈ ze_B := ze_Bt 420 rfl rfl
theorem zs_0 : (.selects R_X y_X_finish y_X_finish : Cond) ∈ ze_B := ze_Bs (q := (y_X_finish, 8)) 0 (by decide +kernel)
theorem zs_1 : (.selects R_X y_X_holdsTable y_X_holdsTable : Cond) ∈ ze_B := ze_Bs (q := (y_X_holdsTable, 8)) 1 (by decide +kernel)
theorem zs_2 : (.selects R_X y_X_holdsRow y_X_holdsRow : Cond) ∈ ze_B := ze_Bs (q := (y_X_holdsRow, 8)) 2 (by decide +kernel)
theorem zs_3 : (.selects R_X y_X_refusalOf y_X_refusalOf : Cond) ∈ ze_B := ze_Bs (q := (y_X_refusalOf, 8)) 3 (by decide +kernel)
theorem zs_4 : (.selects R_X y_X_sortCost y_X_sortCost : Cond) ∈ ze_B := ze_Bs (q := (y_X_sortCost, 8)) 4 (by decide +kernel)
theorem zs_5 : (.selects R_X y_X_groupOneRound y_X_groupOneRound : Cond) ∈ ze_B := ze_Bs (q := (y_X_groupOneRound, 8)) 5 (by decide +kernel)
theorem zs_6 : (.selects R_X y_X_rowsInMemory y_X_rowsInMemory : Cond) ∈ ze_B := ze_Bs (q := (y_X_rowsInMemory, 8)) 6 (by decide +kernel)
theorem zs_7 : (.selects R_X y_X_mergeBags y_X_mergeBags : Cond) ∈ ze_B := ze_Bs (q := (y_X_mergeBags, 8)) 7 (by decide +kernel)
theorem zs_8 : (.selects R_X y_X_isNextFromA y_X_isNextFromA : Cond) ∈ ze_B := ze_Bs (q := (y_X_isNextFromA, 8)) 8 (by decide +kernel)
theorem zs_9 : (.selects R_X y_X_joinRanges y_X_joinRanges : Cond) ∈ ze_B := ze_Bs (q := (y_X_joinRanges, 8)) 9 (by decide +kernel)
theorem zs_10 : (.selects R_X y_X_joinByChunks y_X_joinByChunks : Cond) ∈ ze_B := ze_Bs (q := (y_X_joinByChunks, 8)) 10 (by decide +kernel)
theorem zs_11 : (.selects R_X y_X_joinWithChunk y_X_joinWithChunk : Cond) ∈ ze_B := ze_Bs (q := (y_X_joinWithChunk, 8)) 11 (by decide +kernel)
theorem zs_12 : (.selects R_X y_X_partition y_X_partition : Cond) ∈ ze_B := ze_Bs (q := (y_X_partition, 8)) 12 (by decide +kernel)
theorem zs_13 : (.selects R_X y_X_digitOf y_X_digitOf : Cond) ∈ ze_B := ze_Bs (q := (y_X_digitOf, 8)) 13 (by decide +kernel)
theorem zs_14 : (.selects R_X y_X_endOfPart y_X_endOfPart : Cond) ∈ ze_B := ze_Bs (q := (y_X_endOfPart, 8)) 14 (by decide +kernel)
theorem zs_15 : (.selects R_M y_M_refuse y_M_refuse : Cond) ∈ ze_B := ze_Bs (q := (y_M_refuse, 14)) 15 (by decide +kernel)
theorem zs_16 : (.selects R_M y_M_before y_M_before : Cond) ∈ ze_B := ze_Bs (q := (y_M_before, 14)) 16 (by decide +kernel)
theorem zs_17 : (.selects R_M y_M_sortCost y_M_sortCost : Cond) ∈ ze_B := ze_Bs (q := (y_M_sortCost, 14)) 17 (by decide +kernel)
theorem zs_18 : (.selects R_M y_M_finish y_M_finish : Cond) ∈ ze_B := ze_Bs (q := (y_M_finish, 14)) 18 (by decide +kernel)
theorem zs_19 : (.selects R_M y_M_make y_M_make : Cond) ∈ ze_B := ze_Bs (q := (y_M_make, 14)) 19 (by decide +kernel)
theorem zs_20 : (.selects R_M y_M_next y_M_next : Cond) ∈ ze_B := ze_Bs (q := (y_M_next, 14)) 20 (by decide +kernel)
theorem zs_21 : (.selects R_M y_M_times y_M_times : Cond) ∈ ze_B := ze_Bs (q := (y_M_times, 14)) 21 (by decide +kernel)
theorem zs_22 : (.selects R_M y_M_rank y_M_rank : Cond) ∈ ze_B := ze_Bs (q := (y_M_rank, 14)) 22 (by decide +kernel)
theorem zs_23 : (.selects R_M y_M_behind y_M_behind : Cond) ∈ ze_B := ze_Bs (q := (y_M_behind, 14)) 23 (by decide +kernel)
theorem zs_24 : (.selects R_M y_M_visit y_M_visit : Cond) ∈ ze_B := ze_Bs (q := (y_M_visit, 14)) 24 (by decide +kernel)
theorem zs_25 : (.selects R_M y_M_many y_M_many : Cond) ∈ ze_B := ze_Bs (q := (y_M_many, 14)) 25 (by decide +kernel)
theorem zs_26 : (.selects R_M y_M_here y_M_here : Cond) ∈ ze_B := ze_Bs (q := (y_M_here, 14)) 26 (by decide +kernel)
theorem zs_27 : (.selects R_M y_M_digit y_M_digit : Cond) ∈ ze_B := ze_Bs (q := (y_M_digit, 14)) 27 (by decide +kernel)
theorem zs_28 : (.selects R_M y_M_chunks y_M_chunks : Cond) ∈ ze_B := ze_Bs (q := (y_M_chunks, 14)) 28 (by decide +kernel)
theorem zs_29 : (.selects R_M y_M_chunk y_M_chunk : Cond) ∈ ze_B := ze_Bs (q := (y_M_chunk, 14)) 29 (by decide +kernel)
theorem in_T : ∀ w ∈ u_ws R_T F_T 4, w ∈ ze_B := (ze_gcons zw_36 ( ze_gcons zw_38 ( ze_gcons zw_40 ( ze_gcons zw_42 (fun _ h => absurd h List.not_mem_nil)))) : ∀ w ∈ ([.laysFinal R_T "BlockExecutor$Table" "keys" "[I", .laysFinal R_T "BlockExecutor$Table" "values" "[I", .lays R_T "BlockExecutor$Table" "count" "I", .lays R_T "BlockExecutor$Table" "overfull" "Z"] : List Cond), w ∈ ze_B)
theorem in_X : ∀ w ∈ u_ws R_X F_X 8, w ∈ ze_B := (ze_gcons zw_54 ( ze_gcons zw_56 ( ze_gcons zw_58 ( ze_gcons zw_60 ( ze_gcons zw_62 ( ze_gcons zw_64 ( ze_gcons zw_66 ( ze_gcons zw_68 (fun _ h => absurd h List.not_mem_nil)))))))) : ∀ w ∈ ([.laysFinal R_X "BlockExecutor" "frames" "I", .laysFinal R_X "BlockExecutor" "tables" "[LBlockExecutor$Table;", .laysFinal R_X "BlockExecutor" "held" "[Z", .laysFinal R_X "BlockExecutor" "input" "LBlockExecutor$Table;", .laysFinal R_X "BlockExecutor" "workA" "LBlockExecutor$Table;", .laysFinal R_X "BlockExecutor" "workB" "LBlockExecutor$Table;", .laysFinal R_X "BlockExecutor" "spare" "LBlockExecutor$Table;", .lays R_X "BlockExecutor" "moved" "J"] : List Cond), w ∈ ze_B)
theorem in_M : ∀ w ∈ u_ws R_M F_M 14, w ∈ ze_B := (ze_gcons zw_266 ( ze_gcons zw_268 ( ze_gcons zw_270 ( ze_gcons zw_272 ( ze_gcons zw_274 ( ze_gcons zw_276 ( ze_gcons zw_278 ( ze_gcons zw_280 ( ze_gcons zw_282 ( ze_gcons zw_284 ( ze_gcons zw_286 ( ze_gcons zw_288 ( ze_gcons zw_290 ( ze_gcons zw_292 (fun _ h => absurd h List.not_mem_nil)))))))))))))) : ∀ w ∈ ([.laysFinal R_M "BlockExecutorModel" "memory" "I", .lays R_M "BlockExecutorModel" "moved" "J", .lays R_M "BlockExecutorModel" "typed" "I", .laysFinal R_M "BlockExecutorModel" "typedKey" "[I", .laysFinal R_M "BlockExecutorModel" "typedValue" "[I", .laysFinal R_M "BlockExecutorModel" "count" "[I", .laysFinal R_M "BlockExecutorModel" "keys" "[I", .laysFinal R_M "BlockExecutorModel" "values" "[I", .lays R_M "BlockExecutorModel" "made" "I", .laysFinal R_M "BlockExecutorModel" "madeKey" "[I", .laysFinal R_M "BlockExecutorModel" "madeValue" "[I", .lays R_M "BlockExecutorModel" "cost" "J", .lays R_M "BlockExecutorModel" "level" "I", .laysFinal R_M "BlockExecutorModel" "path" "[I"] : List Cond), w ∈ ze_B)
/-- what the tables say beside the words: the two links of nest mates, the array over tables -/
def ze_N (U : State) : Prop := va_Nw (.methodLinkNest R_X 28 y_T_init "BlockExecutor") U ∧ va_Nw (.methodLinkNest R_T 32 y_X_compareRows "BlockExecutor") U ∧ va_AO R_T U
theorem ze_N.same {u U : State} (h : u.vm = U.vm) (hN : ze_N u) : ze_N U := ⟨va_Nw.same rfl h hN.1, va_Nw.same rfl h hN.2.1, va_AO.moved (by rw [← h]; exact Vm.Alike.refl _) hN.2.2⟩
theorem ze_N.warm {s U : State} (hN : ze_N s) (hW : s.WarmedH U.vm) : ze_N U := ⟨va_Nw.warmM hW hN.1, va_Nw.warmM hW hN.2.1, va_AO.moved hW.alike hN.2.2⟩
end
section
theorem d_T_init_0 : decode b_T_init 0 = .ok (.aload_n 0, 1) := by decide +kernel
theorem d_T_init_1 : decode b_T_init 1 = .ok (.invokespecial 3, 3) := by decide +kernel
theorem d_T_init_4 : decode b_T_init 4 = .ok (.aload_n 0, 1) := by decide +kernel
theorem d_T_init_5 : decode b_T_init 5 = .ok (.bipush 60, 2) := by decide +kernel
theorem d_T_init_7 : decode b_T_init 7 = .ok (.newarray .int, 2) := by decide +kernel
theorem d_T_init_9 : decode b_T_init 9 = .ok (.putfield 9, 3) := by decide +kernel
theorem d_T_init_12 : decode b_T_init 12 = .ok (.aload_n 0, 1) := by decide +kernel
theorem d_T_init_13 : decode b_T_init 13 = .ok (.bipush 60, 2) := by decide +kernel
theorem d_T_init_15 : decode b_T_init 15 = .ok (.newarray .int, 2) := by decide +kernel
theorem d_T_init_17 : decode b_T_init 17 = .ok (.putfield 15, 3) := by decide +kernel
theorem d_T_init_20 : decode b_T_init 20 = .ok (.return_, 1) := by decide +kernel
theorem d_T_clear_0 : decode b_T_clear 0 = .ok (.aload_n 0, 1) := by decide +kernel
theorem d_T_clear_1 : decode b_T_clear 1 = .ok (.iconst 0, 1) := by decide +kernel
theorem d_T_clear_2 : decode b_T_clear 2 = .ok (.putfield 18, 3) := by decide +kernel
theorem d_T_clear_5 : decode b_T_clear 5 = .ok (.aload_n 0, 1) := by decide +kernel
theorem d_T_clear_6 : decode b_T_clear 6 = .ok (.iconst 0, 1) := by decide +kernel
theorem d_T_clear_7 : decode b_T_clear 7 = .ok (.putfield 22, 3) := by decide +kernel
theorem d_T_clear_10 : decode b_T_clear 10 = .ok (.return_, 1) := by decide +kernel
theorem d_T_append_0 : decode b_T_append 0 = .ok (.aload_n 0, 1) := by decide +kernel
theorem d_T_append_1 : decode b_T_append 1 = .ok (.getfield 18, 3) := by decide +kernel
theorem d_T_append_4 : decode b_T_append 4 = .ok (.bipush 60, 2) := by decide +kernel
theorem d_T_append_6 : decode b_T_append 6 = .ok (.if_icmp .lt 9, 3) := by decide +kernel
theorem d_T_append_9 : decode b_T_append 9 = .ok (.aload_n 0, 1) := by decide +kernel
theorem d_T_append_10 : decode b_T_append 10 = .ok (.iconst 1, 1) := by decide +kernel
theorem d_T_append_11 : decode b_T_append 11 = .ok (.putfield 22, 3) := by decide +kernel
theorem d_T_append_14 : decode b_T_append 14 = .ok (.return_, 1) := by decide +kernel
theorem d_T_append_15 : decode b_T_append 15 = .ok (.aload_n 0, 1) := by decide +kernel
theorem d_T_append_16 : decode b_T_append 16 = .ok (.getfield 9, 3) := by decide +kernel
theorem d_T_append_19 : decode b_T_append 19 = .ok (.aload_n 0, 1) := by decide +kernel
theorem d_T_append_20 : decode b_T_append 20 = .ok (.getfield 18, 3) := by decide +kernel
theorem d_T_append_23 : decode b_T_append 23 = .ok (.iload_n 1, 1) := by decide +kernel
theorem d_T_append_24 : decode b_T_append 24 = .ok (.iastore, 1) := by decide +kernel
theorem d_T_append_25 : decode b_T_append 25 = .ok (.aload_n 0, 1) := by decide +kernel
theorem d_T_append_26 : decode b_T_append 26 = .ok (.getfield 15, 3) := by decide +kernel
theorem d_T_append_29 : decode b_T_append 29 = .ok (.aload_n 0, 1) := by decide +kernel
theorem d_T_append_30 : decode b_T_append 30 = .ok (.getfield 18, 3) := by decide +kernel
theorem d_T_append_33 : decode b_T_append 33 = .ok (.iload_n 2, 1) := by decide +kernel
theorem d_T_append_34 : decode b_T_append 34 = .ok (.iastore, 1) := by decide +kernel
theorem d_T_append_35 : decode b_T_append 35 = .ok (.aload_n 0, 1) := by decide +kernel
theorem d_T_append_36 : decode b_T_append 36 = .ok (.dup, 1) := by decide +kernel
theorem d_T_append_37 : decode b_T_append 37 = .ok (.getfield 18, 3) := by decide +kernel
theorem d_T_append_40 : decode b_T_append 40 = .ok (.iconst 1, 1) := by decide +kernel
theorem d_T_append_41 : decode b_T_append 41 = .ok (.iadd, 1) := by decide +kernel
theorem d_T_append_42 : decode b_T_append 42 = .ok (.putfield 18, 3) := by decide +kernel
theorem d_T_append_45 : decode b_T_append 45 = .ok (.return_, 1) := by decide +kernel
theorem d_T_copyFrom_0 : decode b_T_copyFrom 0 = .ok (.aload_n 1, 1) := by decide +kernel
theorem d_T_copyFrom_1 : decode b_T_copyFrom 1 = .ok (.getfield 9, 3) := by decide +kernel
theorem d_T_copyFrom_4 : decode b_T_copyFrom 4 = .ok (.iconst 0, 1) := by decide +kernel
theorem d_T_copyFrom_5 : decode b_T_copyFrom 5 = .ok (.aload_n 0, 1) := by decide +kernel
theorem d_T_copyFrom_6 : decode b_T_copyFrom 6 = .ok (.getfield 9, 3) := by decide +kernel
theorem d_T_copyFrom_9 : decode b_T_copyFrom 9 = .ok (.iconst 0, 1) := by decide +kernel
theorem d_T_copyFrom_10 : decode b_T_copyFrom 10 = .ok (.aload_n 1, 1) := by decide +kernel
theorem d_T_copyFrom_11 : decode b_T_copyFrom 11 = .ok (.getfield 18, 3) := by decide +kernel
theorem d_T_copyFrom_14 : decode b_T_copyFrom 14 = .ok (.invokestatic 26, 3) := by decide +kernel
theorem d_T_copyFrom_17 : decode b_T_copyFrom 17 = .ok (.aload_n 1, 1) := by decide +kernel
theorem d_T_copyFrom_18 : decode b_T_copyFrom 18 = .ok (.getfield 15, 3) := by decide +kernel
theorem d_T_copyFrom_21 : decode b_T_copyFrom 21 = .ok (.iconst 0, 1) := by decide +kernel
theorem d_T_copyFrom_22 : decode b_T_copyFrom 22 = .ok (.aload_n 0, 1) := by decide +kernel
theorem d_T_copyFrom_23 : decode b_T_copyFrom 23 = .ok (.getfield 15, 3) := by decide +kernel
theorem d_T_copyFrom_26 : decode b_T_copyFrom 26 = .ok (.iconst 0, 1) := by decide +kernel
theorem d_T_copyFrom_27 : decode b_T_copyFrom 27 = .ok (.aload_n 1, 1) := by decide +kernel
theorem d_T_copyFrom_28 : decode b_T_copyFrom 28 = .ok (.getfield 18, 3) := by decide +kernel
theorem d_T_copyFrom_31 : decode b_T_copyFrom 31 = .ok (.invokestatic 26, 3) := by decide +kernel
theorem d_T_copyFrom_34 : decode b_T_copyFrom 34 = .ok (.aload_n 0, 1) := by decide +kernel
theorem d_T_copyFrom_35 : decode b_T_copyFrom 35 = .ok (.aload_n 1, 1) := by decide +kernel
theorem d_T_copyFrom_36 : decode b_T_copyFrom 36 = .ok (.getfield 18, 3) := by decide +kernel
theorem d_T_copyFrom_39 : decode b_T_copyFrom 39 = .ok (.putfield 18, 3) := by decide +kernel
theorem d_T_copyFrom_42 : decode b_T_copyFrom 42 = .ok (.aload_n 0, 1) := by decide +kernel
theorem d_T_copyFrom_43 : decode b_T_copyFrom 43 = .ok (.iconst 0, 1) := by decide +kernel
theorem d_T_copyFrom_44 : decode b_T_copyFrom 44 = .ok (.putfield 22, 3) := by decide +kernel
theorem d_T_copyFrom_47 : decode b_T_copyFrom 47 = .ok (.return_, 1) := by decide +kernel
theorem d_T_arrange_0 : decode b_T_arrange 0 = .ok (.iconst 1, 1) := by decide +kernel
theorem d_T_arrange_1 : decode b_T_arrange 1 = .ok (.istore_n 2, 1) := by decide +kernel
theorem d_T_arrange_2 : decode b_T_arrange 2 = .ok (.iload_n 2, 1) := by decide +kernel
theorem d_T_arrange_3 : decode b_T_arrange 3 = .ok (.aload_n 0, 1) := by decide +kernel
theorem d_T_arrange_4 : decode b_T_arrange 4 = .ok (.getfield 18, 3) := by decide +kernel
theorem d_T_arrange_7 : decode b_T_arrange 7 = .ok (.if_icmp .ge 115, 3) := by decide +kernel
theorem d_T_arrange_10 : decode b_T_arrange 10 = .ok (.aload_n 0, 1) := by decide +kernel
theorem d_T_arrange_11 : decode b_T_arrange 11 = .ok (.getfield 9, 3) := by decide +kernel
theorem d_T_arrange_14 : decode b_T_arrange 14 = .ok (.iload_n 2, 1) := by decide +kernel
theorem d_T_arrange_15 : decode b_T_arrange 15 = .ok (.iaload, 1) := by decide +kernel
theorem d_T_arrange_16 : decode b_T_arrange 16 = .ok (.istore_n 3, 1) := by decide +kernel
theorem d_T_arrange_17 : decode b_T_arrange 17 = .ok (.aload_n 0, 1) := by decide +kernel
theorem d_T_arrange_18 : decode b_T_arrange 18 = .ok (.getfield 15, 3) := by decide +kernel
theorem d_T_arrange_21 : decode b_T_arrange 21 = .ok (.iload_n 2, 1) := by decide +kernel
theorem d_T_arrange_22 : decode b_T_arrange 22 = .ok (.iaload, 1) := by decide +kernel
theorem d_T_arrange_23 : decode b_T_arrange 23 = .ok (.istore 4, 2) := by decide +kernel
theorem d_T_arrange_25 : decode b_T_arrange 25 = .ok (.iload_n 2, 1) := by decide +kernel
theorem d_T_arrange_26 : decode b_T_arrange 26 = .ok (.istore 5, 2) := by decide +kernel
theorem d_T_arrange_28 : decode b_T_arrange 28 = .ok (.iload 5, 2) := by decide +kernel
theorem d_T_arrange_30 : decode b_T_arrange 30 = .ok (.ifCond .le 69, 3) := by decide +kernel
theorem d_T_arrange_33 : decode b_T_arrange 33 = .ok (.iload_n 1, 1) := by decide +kernel
theorem d_T_arrange_34 : decode b_T_arrange 34 = .ok (.iload_n 3, 1) := by decide +kernel
theorem d_T_arrange_35 : decode b_T_arrange 35 = .ok (.iload 4, 2) := by decide +kernel
theorem d_T_arrange_37 : decode b_T_arrange 37 = .ok (.aload_n 0, 1) := by decide +kernel
theorem d_T_arrange_38 : decode b_T_arrange 38 = .ok (.getfield 9, 3) := by decide +kernel
theorem d_T_arrange_41 : decode b_T_arrange 41 = .ok (.iload 5, 2) := by decide +kernel
theorem d_T_arrange_43 : decode b_T_arrange 43 = .ok (.iconst 1, 1) := by decide +kernel
theorem d_T_arrange_44 : decode b_T_arrange 44 = .ok (.isub, 1) := by decide +kernel
theorem d_T_arrange_45 : decode b_T_arrange 45 = .ok (.iaload, 1) := by decide +kernel
theorem d_T_arrange_46 : decode b_T_arrange 46 = .ok (.aload_n 0, 1) := by decide +kernel
theorem d_T_arrange_47 : decode b_T_arrange 47 = .ok (.getfield 15, 3) := by decide +kernel
theorem d_T_arrange_50 : decode b_T_arrange 50 = .ok (.iload 5, 2) := by decide +kernel
theorem d_T_arrange_52 : decode b_T_arrange 52 = .ok (.iconst 1, 1) := by decide +kernel
theorem d_T_arrange_53 : decode b_T_arrange 53 = .ok (.isub, 1) := by decide +kernel
theorem d_T_arrange_54 : decode b_T_arrange 54 = .ok (.iaload, 1) := by decide +kernel
theorem d_T_arrange_55 : decode b_T_arrange 55 = .ok (.invokestatic 32, 3) := by decide +kernel
theorem d_T_arrange_58 : decode b_T_arrange 58 = .ok (.ifCond .ge 41, 3) := by decide +kernel
theorem d_T_arrange_61 : decode b_T_arrange 61 = .ok (.aload_n 0, 1) := by decide +kernel
theorem d_T_arrange_62 : decode b_T_arrange 62 = .ok (.getfield 9, 3) := by decide +kernel
theorem d_T_arrange_65 : decode b_T_arrange 65 = .ok (.iload 5, 2) := by decide +kernel
theorem d_T_arrange_67 : decode b_T_arrange 67 = .ok (.aload_n 0, 1) := by decide +kernel
theorem d_T_arrange_68 : decode b_T_arrange 68 = .ok (.getfield 9, 3) := by decide +kernel
theorem d_T_arrange_71 : decode b_T_arrange 71 = .ok (.iload 5, 2) := by decide +kernel
theorem d_T_arrange_73 : decode b_T_arrange 73 = .ok (.iconst 1, 1) := by decide +kernel
theorem d_T_arrange_74 : decode b_T_arrange 74 = .ok (.isub, 1) := by decide +kernel
theorem d_T_arrange_75 : decode b_T_arrange 75 = .ok (.iaload, 1) := by decide +kernel
theorem d_T_arrange_76 : decode b_T_arrange 76 = .ok (.iastore, 1) := by decide +kernel
theorem d_T_arrange_77 : decode b_T_arrange 77 = .ok (.aload_n 0, 1) := by decide +kernel
theorem d_T_arrange_78 : decode b_T_arrange 78 = .ok (.getfield 15, 3) := by decide +kernel
theorem d_T_arrange_81 : decode b_T_arrange 81 = .ok (.iload 5, 2) := by decide +kernel
theorem d_T_arrange_83 : decode b_T_arrange 83 = .ok (.aload_n 0, 1) := by decide +kernel
theorem d_T_arrange_84 : decode b_T_arrange 84 = .ok (.getfield 15, 3) := by decide +kernel
theorem d_T_arrange_87 : decode b_T_arrange 87 = .ok (.iload 5, 2) := by decide +kernel
theorem d_T_arrange_89 : decode b_T_arrange 89 = .ok (.iconst 1, 1) := by decide +kernel
theorem d_T_arrange_90 : decode b_T_arrange 90 = .ok (.isub, 1) := by decide +kernel
theorem d_T_arrange_91 : decode b_T_arrange 91 = .ok (.iaload, 1) := by decide +kernel
theorem d_T_arrange_92 : decode b_T_arrange 92 = .ok (.iastore, 1) := by decide +kernel
theorem d_T_arrange_93 : decode b_T_arrange 93 = .ok (.iinc 5 (-1), 3) := by decide +kernel
theorem d_T_arrange_96 : decode b_T_arrange 96 = .ok (.goto (-68), 3) := by decide +kernel
theorem d_T_arrange_99 : decode b_T_arrange 99 = .ok (.aload_n 0, 1) := by decide +kernel
theorem d_T_arrange_100 : decode b_T_arrange 100 = .ok (.getfield 9, 3) := by decide +kernel
theorem d_T_arrange_103 : decode b_T_arrange 103 = .ok (.iload 5, 2) := by decide +kernel
theorem d_T_arrange_105 : decode b_T_arrange 105 = .ok (.iload_n 3, 1) := by decide +kernel
theorem d_T_arrange_106 : decode b_T_arrange 106 = .ok (.iastore, 1) := by decide +kernel
theorem d_T_arrange_107 : decode b_T_arrange 107 = .ok (.aload_n 0, 1) := by decide +kernel
theorem d_T_arrange_108 : decode b_T_arrange 108 = .ok (.getfield 15, 3) := by decide +kernel
theorem d_T_arrange_111 : decode b_T_arrange 111 = .ok (.iload 5, 2) := by decide +kernel
theorem d_T_arrange_113 : decode b_T_arrange 113 = .ok (.iload 4, 2) := by decide +kernel
theorem d_T_arrange_115 : decode b_T_arrange 115 = .ok (.iastore, 1) := by decide +kernel
theorem d_T_arrange_116 : decode b_T_arrange 116 = .ok (.iinc 2 1, 3) := by decide +kernel
theorem d_T_arrange_119 : decode b_T_arrange 119 = .ok (.goto (-117), 3) := by decide +kernel
theorem d_T_arrange_122 : decode b_T_arrange 122 = .ok (.return_, 1) := by decide +kernel
theorem d_T_dropRepeats_0 : decode b_T_dropRepeats 0 = .ok (.iconst 0, 1) := by decide +kernel
theorem d_T_dropRepeats_1 : decode b_T_dropRepeats 1 = .ok (.istore_n 1, 1) := by decide +kernel
theorem d_T_dropRepeats_2 : decode b_T_dropRepeats 2 = .ok (.iconst 0, 1) := by decide +kernel
theorem d_T_dropRepeats_3 : decode b_T_dropRepeats 3 = .ok (.istore_n 2, 1) := by decide +kernel
theorem d_T_dropRepeats_4 : decode b_T_dropRepeats 4 = .ok (.iload_n 2, 1) := by decide +kernel
theorem d_T_dropRepeats_5 : decode b_T_dropRepeats 5 = .ok (.aload_n 0, 1) := by decide +kernel
theorem d_T_dropRepeats_6 : decode b_T_dropRepeats 6 = .ok (.getfield 18, 3) := by decide +kernel
theorem d_T_dropRepeats_9 : decode b_T_dropRepeats 9 = .ok (.if_icmp .ge 74, 3) := by decide +kernel
theorem d_T_dropRepeats_12 : decode b_T_dropRepeats 12 = .ok (.iload_n 1, 1) := by decide +kernel
theorem d_T_dropRepeats_13 : decode b_T_dropRepeats 13 = .ok (.ifCond .eq 37, 3) := by decide +kernel
theorem d_T_dropRepeats_16 : decode b_T_dropRepeats 16 = .ok (.aload_n 0, 1) := by decide +kernel
theorem d_T_dropRepeats_17 : decode b_T_dropRepeats 17 = .ok (.getfield 9, 3) := by decide +kernel
theorem d_T_dropRepeats_20 : decode b_T_dropRepeats 20 = .ok (.iload_n 2, 1) := by decide +kernel
theorem d_T_dropRepeats_21 : decode b_T_dropRepeats 21 = .ok (.iaload, 1) := by decide +kernel
theorem d_T_dropRepeats_22 : decode b_T_dropRepeats 22 = .ok (.aload_n 0, 1) := by decide +kernel
theorem d_T_dropRepeats_23 : decode b_T_dropRepeats 23 = .ok (.getfield 9, 3) := by decide +kernel
theorem d_T_dropRepeats_26 : decode b_T_dropRepeats 26 = .ok (.iload_n 1, 1) := by decide +kernel
theorem d_T_dropRepeats_27 : decode b_T_dropRepeats 27 = .ok (.iconst 1, 1) := by decide +kernel
theorem d_T_dropRepeats_28 : decode b_T_dropRepeats 28 = .ok (.isub, 1) := by decide +kernel
theorem d_T_dropRepeats_29 : decode b_T_dropRepeats 29 = .ok (.iaload, 1) := by decide +kernel
theorem d_T_dropRepeats_30 : decode b_T_dropRepeats 30 = .ok (.if_icmp .ne 20, 3) := by decide +kernel
theorem d_T_dropRepeats_33 : decode b_T_dropRepeats 33 = .ok (.aload_n 0, 1) := by decide +kernel
theorem d_T_dropRepeats_34 : decode b_T_dropRepeats 34 = .ok (.getfield 15, 3) := by decide +kernel
theorem d_T_dropRepeats_37 : decode b_T_dropRepeats 37 = .ok (.iload_n 2, 1) := by decide +kernel
theorem d_T_dropRepeats_38 : decode b_T_dropRepeats 38 = .ok (.iaload, 1) := by decide +kernel
theorem d_T_dropRepeats_39 : decode b_T_dropRepeats 39 = .ok (.aload_n 0, 1) := by decide +kernel
theorem d_T_dropRepeats_40 : decode b_T_dropRepeats 40 = .ok (.getfield 15, 3) := by decide +kernel
theorem d_T_dropRepeats_43 : decode b_T_dropRepeats 43 = .ok (.iload_n 1, 1) := by decide +kernel
theorem d_T_dropRepeats_44 : decode b_T_dropRepeats 44 = .ok (.iconst 1, 1) := by decide +kernel
theorem d_T_dropRepeats_45 : decode b_T_dropRepeats 45 = .ok (.isub, 1) := by decide +kernel
theorem d_T_dropRepeats_46 : decode b_T_dropRepeats 46 = .ok (.iaload, 1) := by decide +kernel
theorem d_T_dropRepeats_47 : decode b_T_dropRepeats 47 = .ok (.if_icmp .eq 30, 3) := by decide +kernel
theorem d_T_dropRepeats_50 : decode b_T_dropRepeats 50 = .ok (.aload_n 0, 1) := by decide +kernel
theorem d_T_dropRepeats_51 : decode b_T_dropRepeats 51 = .ok (.getfield 9, 3) := by decide +kernel
theorem d_T_dropRepeats_54 : decode b_T_dropRepeats 54 = .ok (.iload_n 1, 1) := by decide +kernel
theorem d_T_dropRepeats_55 : decode b_T_dropRepeats 55 = .ok (.aload_n 0, 1) := by decide +kernel
theorem d_T_dropRepeats_56 : decode b_T_dropRepeats 56 = .ok (.getfield 9, 3) := by decide +kernel
theorem d_T_dropRepeats_59 : decode b_T_dropRepeats 59 = .ok (.iload_n 2, 1) := by decide +kernel
theorem d_T_dropRepeats_60 : decode b_T_dropRepeats 60 = .ok (.iaload, 1) := by decide +kernel
theorem d_T_dropRepeats_61 : decode b_T_dropRepeats 61 = .ok (.iastore, 1) := by decide +kernel
theorem d_T_dropRepeats_62 : decode b_T_dropRepeats 62 = .ok (.aload_n 0, 1) := by decide +kernel
theorem d_T_dropRepeats_63 : decode b_T_dropRepeats 63 = .ok (.getfield 15, 3) := by decide +kernel
theorem d_T_dropRepeats_66 : decode b_T_dropRepeats 66 = .ok (.iload_n 1, 1) := by decide +kernel
theorem d_T_dropRepeats_67 : decode b_T_dropRepeats 67 = .ok (.aload_n 0, 1) := by decide +kernel
theorem d_T_dropRepeats_68 : decode b_T_dropRepeats 68 = .ok (.getfield 15, 3) := by decide +kernel
theorem d_T_dropRepeats_71 : decode b_T_dropRepeats 71 = .ok (.iload_n 2, 1) := by decide +kernel
theorem d_T_dropRepeats_72 : decode b_T_dropRepeats 72 = .ok (.iaload, 1) := by decide +kernel
theorem d_T_dropRepeats_73 : decode b_T_dropRepeats 73 = .ok (.iastore, 1) := by decide +kernel
theorem d_T_dropRepeats_74 : decode b_T_dropRepeats 74 = .ok (.iinc 1 1, 3) := by decide +kernel
theorem d_T_dropRepeats_77 : decode b_T_dropRepeats 77 = .ok (.iinc 2 1, 3) := by decide +kernel
theorem d_T_dropRepeats_80 : decode b_T_dropRepeats 80 = .ok (.goto (-76), 3) := by decide +kernel
theorem d_T_dropRepeats_83 : decode b_T_dropRepeats 83 = .ok (.aload_n 0, 1) := by decide +kernel
theorem d_T_dropRepeats_84 : decode b_T_dropRepeats 84 = .ok (.iload_n 1, 1) := by decide +kernel
theorem d_T_dropRepeats_85 : decode b_T_dropRepeats 85 = .ok (.putfield 18, 3) := by decide +kernel
theorem d_T_dropRepeats_88 : decode b_T_dropRepeats 88 = .ok (.return_, 1) := by decide +kernel
theorem d_T_placeOfKey_0 : decode b_T_placeOfKey 0 = .ok (.iload_n 2, 1) := by decide +kernel
theorem d_T_placeOfKey_1 : decode b_T_placeOfKey 1 = .ok (.istore_n 3, 1) := by decide +kernel
theorem d_T_placeOfKey_2 : decode b_T_placeOfKey 2 = .ok (.iload_n 3, 1) := by decide +kernel
theorem d_T_placeOfKey_3 : decode b_T_placeOfKey 3 = .ok (.aload_n 0, 1) := by decide +kernel
theorem d_T_placeOfKey_4 : decode b_T_placeOfKey 4 = .ok (.getfield 18, 3) := by decide +kernel
theorem d_T_placeOfKey_7 : decode b_T_placeOfKey 7 = .ok (.if_icmp .ge 19, 3) := by decide +kernel
theorem d_T_placeOfKey_10 : decode b_T_placeOfKey 10 = .ok (.aload_n 0, 1) := by decide +kernel
theorem d_T_placeOfKey_11 : decode b_T_placeOfKey 11 = .ok (.getfield 9, 3) := by decide +kernel
theorem d_T_placeOfKey_14 : decode b_T_placeOfKey 14 = .ok (.iload_n 3, 1) := by decide +kernel
theorem d_T_placeOfKey_15 : decode b_T_placeOfKey 15 = .ok (.iaload, 1) := by decide +kernel
theorem d_T_placeOfKey_16 : decode b_T_placeOfKey 16 = .ok (.iload_n 1, 1) := by decide +kernel
theorem d_T_placeOfKey_17 : decode b_T_placeOfKey 17 = .ok (.if_icmp .eq 9, 3) := by decide +kernel
theorem d_T_placeOfKey_20 : decode b_T_placeOfKey 20 = .ok (.iinc 3 1, 3) := by decide +kernel
theorem d_T_placeOfKey_23 : decode b_T_placeOfKey 23 = .ok (.goto (-21), 3) := by decide +kernel
theorem d_T_placeOfKey_26 : decode b_T_placeOfKey 26 = .ok (.iload_n 3, 1) := by decide +kernel
theorem d_T_placeOfKey_27 : decode b_T_placeOfKey 27 = .ok (.ireturn, 1) := by decide +kernel
theorem d_T_repeatsFrom_0 : decode b_T_repeatsFrom 0 = .ok (.iload_n 1, 1) := by decide +kernel
theorem d_T_repeatsFrom_1 : decode b_T_repeatsFrom 1 = .ok (.istore 4, 2) := by decide +kernel
theorem d_T_repeatsFrom_3 : decode b_T_repeatsFrom 3 = .ok (.iload 4, 2) := by decide +kernel
theorem d_T_repeatsFrom_5 : decode b_T_repeatsFrom 5 = .ok (.aload_n 0, 1) := by decide +kernel
theorem d_T_repeatsFrom_6 : decode b_T_repeatsFrom 6 = .ok (.getfield 18, 3) := by decide +kernel
theorem d_T_repeatsFrom_9 : decode b_T_repeatsFrom 9 = .ok (.if_icmp .ge 31, 3) := by decide +kernel
theorem d_T_repeatsFrom_12 : decode b_T_repeatsFrom 12 = .ok (.aload_n 0, 1) := by decide +kernel
theorem d_T_repeatsFrom_13 : decode b_T_repeatsFrom 13 = .ok (.getfield 9, 3) := by decide +kernel
theorem d_T_repeatsFrom_16 : decode b_T_repeatsFrom 16 = .ok (.iload 4, 2) := by decide +kernel
theorem d_T_repeatsFrom_18 : decode b_T_repeatsFrom 18 = .ok (.iaload, 1) := by decide +kernel
theorem d_T_repeatsFrom_19 : decode b_T_repeatsFrom 19 = .ok (.iload_n 2, 1) := by decide +kernel
theorem d_T_repeatsFrom_20 : decode b_T_repeatsFrom 20 = .ok (.if_icmp .ne 20, 3) := by decide +kernel
theorem d_T_repeatsFrom_23 : decode b_T_repeatsFrom 23 = .ok (.aload_n 0, 1) := by decide +kernel
theorem d_T_repeatsFrom_24 : decode b_T_repeatsFrom 24 = .ok (.getfield 15, 3) := by decide +kernel
theorem d_T_repeatsFrom_27 : decode b_T_repeatsFrom 27 = .ok (.iload 4, 2) := by decide +kernel
theorem d_T_repeatsFrom_29 : decode b_T_repeatsFrom 29 = .ok (.iaload, 1) := by decide +kernel
theorem d_T_repeatsFrom_30 : decode b_T_repeatsFrom 30 = .ok (.iload_n 3, 1) := by decide +kernel
theorem d_T_repeatsFrom_31 : decode b_T_repeatsFrom 31 = .ok (.if_icmp .ne 9, 3) := by decide +kernel
theorem d_T_repeatsFrom_34 : decode b_T_repeatsFrom 34 = .ok (.iinc 4 1, 3) := by decide +kernel
theorem d_T_repeatsFrom_37 : decode b_T_repeatsFrom 37 = .ok (.goto (-34), 3) := by decide +kernel
theorem d_T_repeatsFrom_40 : decode b_T_repeatsFrom 40 = .ok (.iload 4, 2) := by decide +kernel
theorem d_T_repeatsFrom_42 : decode b_T_repeatsFrom 42 = .ok (.iload_n 1, 1) := by decide +kernel
theorem d_T_repeatsFrom_43 : decode b_T_repeatsFrom 43 = .ok (.isub, 1) := by decide +kernel
theorem d_T_repeatsFrom_44 : decode b_T_repeatsFrom 44 = .ok (.ireturn, 1) := by decide +kernel
theorem d_I_compare_0 : decode b_I_compare 0 = .ok (.iload_n 0, 1) := by decide +kernel
theorem d_I_compare_1 : decode b_I_compare 1 = .ok (.iload_n 1, 1) := by decide +kernel
theorem d_I_compare_2 : decode b_I_compare 2 = .ok (.if_icmp .ge 7, 3) := by decide +kernel
theorem d_I_compare_5 : decode b_I_compare 5 = .ok (.iconst (-1), 1) := by decide +kernel
theorem d_I_compare_6 : decode b_I_compare 6 = .ok (.goto 13, 3) := by decide +kernel
theorem d_I_compare_9 : decode b_I_compare 9 = .ok (.iload_n 0, 1) := by decide +kernel
theorem d_I_compare_10 : decode b_I_compare 10 = .ok (.iload_n 1, 1) := by decide +kernel
theorem d_I_compare_11 : decode b_I_compare 11 = .ok (.if_icmp .ne 7, 3) := by decide +kernel
theorem d_I_compare_14 : decode b_I_compare 14 = .ok (.iconst 0, 1) := by decide +kernel
theorem d_I_compare_15 : decode b_I_compare 15 = .ok (.goto 4, 3) := by decide +kernel
theorem d_I_compare_18 : decode b_I_compare 18 = .ok (.iconst 1, 1) := by decide +kernel
theorem d_I_compare_19 : decode b_I_compare 19 = .ok (.ireturn, 1) := by decide +kernel
theorem d_J_floorMod_0 : decode b_J_floorMod 0 = .ok (.iload_n 0, 1) := by decide +kernel
theorem d_J_floorMod_1 : decode b_J_floorMod 1 = .ok (.iload_n 1, 1) := by decide +kernel
theorem d_J_floorMod_2 : decode b_J_floorMod 2 = .ok (.irem, 1) := by decide +kernel
theorem d_J_floorMod_3 : decode b_J_floorMod 3 = .ok (.istore_n 2, 1) := by decide +kernel
theorem d_J_floorMod_4 : decode b_J_floorMod 4 = .ok (.iload_n 0, 1) := by decide +kernel
theorem d_J_floorMod_5 : decode b_J_floorMod 5 = .ok (.iload_n 1, 1) := by decide +kernel
theorem d_J_floorMod_6 : decode b_J_floorMod 6 = .ok (.ixor, 1) := by decide +kernel
theorem d_J_floorMod_7 : decode b_J_floorMod 7 = .ok (.ifCond .ge 11, 3) := by decide +kernel
theorem d_J_floorMod_10 : decode b_J_floorMod 10 = .ok (.iload_n 2, 1) := by decide +kernel
theorem d_J_floorMod_11 : decode b_J_floorMod 11 = .ok (.ifCond .eq 7, 3) := by decide +kernel
theorem d_J_floorMod_14 : decode b_J_floorMod 14 = .ok (.iload_n 2, 1) := by decide +kernel
theorem d_J_floorMod_15 : decode b_J_floorMod 15 = .ok (.iload_n 1, 1) := by decide +kernel
theorem d_J_floorMod_16 : decode b_J_floorMod 16 = .ok (.iadd, 1) := by decide +kernel
theorem d_J_floorMod_17 : decode b_J_floorMod 17 = .ok (.ireturn, 1) := by decide +kernel
theorem d_J_floorMod_18 : decode b_J_floorMod 18 = .ok (.iload_n 2, 1) := by decide +kernel
theorem d_J_floorMod_19 : decode b_J_floorMod 19 = .ok (.ireturn, 1) := by decide +kernel
theorem d_J_max_0 : decode b_J_max 0 = .ok (.iload_n 0, 1) := by decide +kernel
theorem d_J_max_1 : decode b_J_max 1 = .ok (.iload_n 1, 1) := by decide +kernel
theorem d_J_max_2 : decode b_J_max 2 = .ok (.if_icmp .lt 7, 3) := by decide +kernel
theorem d_J_max_5 : decode b_J_max 5 = .ok (.iload_n 0, 1) := by decide +kernel
theorem d_J_max_6 : decode b_J_max 6 = .ok (.goto 4, 3) := by decide +kernel
theorem d_J_max_9 : decode b_J_max 9 = .ok (.iload_n 1, 1) := by decide +kernel
theorem d_J_max_10 : decode b_J_max 10 = .ok (.ireturn, 1) := by decide +kernel
theorem d_J_min_0 : decode b_J_min 0 = .ok (.iload_n 0, 1) := by decide +kernel
theorem d_J_min_1 : decode b_J_min 1 = .ok (.iload_n 1, 1) := by decide +kernel
theorem d_J_min_2 : decode b_J_min 2 = .ok (.if_icmp .gt 7, 3) := by decide +kernel
theorem d_J_min_5 : decode b_J_min 5 = .ok (.iload_n 0, 1) := by decide +kernel
theorem d_J_min_6 : decode b_J_min 6 = .ok (.goto 4, 3) := by decide +kernel
theorem d_J_min_9 : decode b_J_min 9 = .ok (.iload_n 1, 1) := by decide +kernel
theorem d_J_min_10 : decode b_J_min 10 = .ok (.ireturn, 1) := by decide +kernel
end
section
theorem d_X_init_0 : decode b_X_init 0 = .ok (.aload_n 0, 1) := by decide +kernel
theorem d_X_init_1 : decode b_X_init 1 = .ok (.invokespecial 1, 3) := by decide +kernel
theorem d_X_init_4 : decode b_X_init 4 = .ok (.aload_n 0, 1) := by decide +kernel
theorem d_X_init_5 : decode b_X_init 5 = .ok (.iload_n 1, 1) := by decide +kernel
theorem d_X_init_6 : decode b_X_init 6 = .ok (.iconst 3, 1) := by decide +kernel
theorem d_X_init_7 : decode b_X_init 7 = .ok (.invokestatic 9, 3) := by decide +kernel
theorem d_X_init_10 : decode b_X_init 10 = .ok (.bipush 6, 2) := by decide +kernel
theorem d_X_init_12 : decode b_X_init 12 = .ok (.invokestatic 15, 3) := by decide +kernel
theorem d_X_init_15 : decode b_X_init 15 = .ok (.putfield 18, 3) := by decide +kernel
theorem d_X_init_18 : decode b_X_init 18 = .ok (.aload_n 0, 1) := by decide +kernel
theorem d_X_init_19 : decode b_X_init 19 = .ok (.bipush 8, 2) := by decide +kernel
theorem d_X_init_21 : decode b_X_init 21 = .ok (.anewarray 22, 3) := by decide +kernel
theorem d_X_init_24 : decode b_X_init 24 = .ok (.putfield 24, 3) := by decide +kernel
theorem d_X_init_27 : decode b_X_init 27 = .ok (.iconst 0, 1) := by decide +kernel
theorem d_X_init_28 : decode b_X_init 28 = .ok (.istore_n 2, 1) := by decide +kernel
theorem d_X_init_29 : decode b_X_init 29 = .ok (.iload_n 2, 1) := by decide +kernel
theorem d_X_init_30 : decode b_X_init 30 = .ok (.bipush 8, 2) := by decide +kernel
theorem d_X_init_32 : decode b_X_init 32 = .ok (.if_icmp .ge 22, 3) := by decide +kernel
theorem d_X_init_35 : decode b_X_init 35 = .ok (.aload_n 0, 1) := by decide +kernel
theorem d_X_init_36 : decode b_X_init 36 = .ok (.getfield 24, 3) := by decide +kernel
theorem d_X_init_39 : decode b_X_init 39 = .ok (.iload_n 2, 1) := by decide +kernel
theorem d_X_init_40 : decode b_X_init 40 = .ok (.new 22, 3) := by decide +kernel
theorem d_X_init_43 : decode b_X_init 43 = .ok (.dup, 1) := by decide +kernel
theorem d_X_init_44 : decode b_X_init 44 = .ok (.invokespecial 28, 3) := by decide +kernel
theorem d_X_init_47 : decode b_X_init 47 = .ok (.aastore, 1) := by decide +kernel
theorem d_X_init_48 : decode b_X_init 48 = .ok (.iinc 2 1, 3) := by decide +kernel
theorem d_X_init_51 : decode b_X_init 51 = .ok (.goto (-22), 3) := by decide +kernel
theorem d_X_init_54 : decode b_X_init 54 = .ok (.aload_n 0, 1) := by decide +kernel
theorem d_X_init_55 : decode b_X_init 55 = .ok (.bipush 8, 2) := by decide +kernel
theorem d_X_init_57 : decode b_X_init 57 = .ok (.newarray .boolean, 2) := by decide +kernel
theorem d_X_init_59 : decode b_X_init 59 = .ok (.putfield 29, 3) := by decide +kernel
theorem d_X_init_62 : decode b_X_init 62 = .ok (.aload_n 0, 1) := by decide +kernel
theorem d_X_init_63 : decode b_X_init 63 = .ok (.new 22, 3) := by decide +kernel
theorem d_X_init_66 : decode b_X_init 66 = .ok (.dup, 1) := by decide +kernel
theorem d_X_init_67 : decode b_X_init 67 = .ok (.invokespecial 28, 3) := by decide +kernel
theorem d_X_init_70 : decode b_X_init 70 = .ok (.putfield 33, 3) := by decide +kernel
theorem d_X_init_73 : decode b_X_init 73 = .ok (.aload_n 0, 1) := by decide +kernel
theorem d_X_init_74 : decode b_X_init 74 = .ok (.new 22, 3) := by decide +kernel
theorem d_X_init_77 : decode b_X_init 77 = .ok (.dup, 1) := by decide +kernel
theorem d_X_init_78 : decode b_X_init 78 = .ok (.invokespecial 28, 3) := by decide +kernel
theorem d_X_init_81 : decode b_X_init 81 = .ok (.putfield 37, 3) := by decide +kernel
theorem d_X_init_84 : decode b_X_init 84 = .ok (.aload_n 0, 1) := by decide +kernel
theorem d_X_init_85 : decode b_X_init 85 = .ok (.new 22, 3) := by decide +kernel
theorem d_X_init_88 : decode b_X_init 88 = .ok (.dup, 1) := by decide +kernel
theorem d_X_init_89 : decode b_X_init 89 = .ok (.invokespecial 28, 3) := by decide +kernel
theorem d_X_init_92 : decode b_X_init 92 = .ok (.putfield 40, 3) := by decide +kernel
theorem d_X_init_95 : decode b_X_init 95 = .ok (.aload_n 0, 1) := by decide +kernel
theorem d_X_init_96 : decode b_X_init 96 = .ok (.new 22, 3) := by decide +kernel
theorem d_X_init_99 : decode b_X_init 99 = .ok (.dup, 1) := by decide +kernel
theorem d_X_init_100 : decode b_X_init 100 = .ok (.invokespecial 28, 3) := by decide +kernel
theorem d_X_init_103 : decode b_X_init 103 = .ok (.putfield 43, 3) := by decide +kernel
theorem d_X_init_106 : decode b_X_init 106 = .ok (.aload_n 0, 1) := by decide +kernel
theorem d_X_init_107 : decode b_X_init 107 = .ok (.lconst 0, 1) := by decide +kernel
theorem d_X_init_108 : decode b_X_init 108 = .ok (.putfield 46, 3) := by decide +kernel
theorem d_X_init_111 : decode b_X_init 111 = .ok (.return_, 1) := by decide +kernel
theorem d_X_put_0 : decode b_X_put 0 = .ok (.aload_n 0, 1) := by decide +kernel
theorem d_X_put_1 : decode b_X_put 1 = .ok (.getfield 33, 3) := by decide +kernel
theorem d_X_put_4 : decode b_X_put 4 = .ok (.getfield 50, 3) := by decide +kernel
theorem d_X_put_7 : decode b_X_put 7 = .ok (.bipush 60, 2) := by decide +kernel
theorem d_X_put_9 : decode b_X_put 9 = .ok (.if_icmp .lt 5, 3) := by decide +kernel
theorem d_X_put_12 : decode b_X_put 12 = .ok (.iconst 0, 1) := by decide +kernel
theorem d_X_put_13 : decode b_X_put 13 = .ok (.ireturn, 1) := by decide +kernel
theorem d_X_put_14 : decode b_X_put 14 = .ok (.aload_n 0, 1) := by decide +kernel
theorem d_X_put_15 : decode b_X_put 15 = .ok (.getfield 33, 3) := by decide +kernel
theorem d_X_put_18 : decode b_X_put 18 = .ok (.iload_n 1, 1) := by decide +kernel
theorem d_X_put_19 : decode b_X_put 19 = .ok (.iload_n 2, 1) := by decide +kernel
theorem d_X_put_20 : decode b_X_put 20 = .ok (.invokevirtual 53, 3) := by decide +kernel
theorem d_X_put_23 : decode b_X_put 23 = .ok (.iconst 1, 1) := by decide +kernel
theorem d_X_put_24 : decode b_X_put 24 = .ok (.ireturn, 1) := by decide +kernel
theorem d_X_store_0 : decode b_X_store 0 = .ok (.iload_n 1, 1) := by decide +kernel
theorem d_X_store_1 : decode b_X_store 1 = .ok (.invokestatic 57, 3) := by decide +kernel
theorem d_X_store_4 : decode b_X_store 4 = .ok (.ifCond .ne 5, 3) := by decide +kernel
theorem d_X_store_7 : decode b_X_store 7 = .ok (.iconst (-1), 1) := by decide +kernel
theorem d_X_store_8 : decode b_X_store 8 = .ok (.ireturn, 1) := by decide +kernel
theorem d_X_store_9 : decode b_X_store 9 = .ok (.aload_n 0, 1) := by decide +kernel
theorem d_X_store_10 : decode b_X_store 10 = .ok (.getfield 29, 3) := by decide +kernel
theorem d_X_store_13 : decode b_X_store 13 = .ok (.iload_n 1, 1) := by decide +kernel
theorem d_X_store_14 : decode b_X_store 14 = .ok (.baload, 1) := by decide +kernel
theorem d_X_store_15 : decode b_X_store 15 = .ok (.ifCond .eq 6, 3) := by decide +kernel
theorem d_X_store_18 : decode b_X_store 18 = .ok (.bipush (-3), 2) := by decide +kernel
theorem d_X_store_20 : decode b_X_store 20 = .ok (.ireturn, 1) := by decide +kernel
theorem d_X_store_21 : decode b_X_store 21 = .ok (.aload_n 0, 1) := by decide +kernel
theorem d_X_store_22 : decode b_X_store 22 = .ok (.getfield 24, 3) := by decide +kernel
theorem d_X_store_25 : decode b_X_store 25 = .ok (.iload_n 1, 1) := by decide +kernel
theorem d_X_store_26 : decode b_X_store 26 = .ok (.aaload, 1) := by decide +kernel
theorem d_X_store_27 : decode b_X_store 27 = .ok (.aload_n 0, 1) := by decide +kernel
theorem d_X_store_28 : decode b_X_store 28 = .ok (.getfield 33, 3) := by decide +kernel
theorem d_X_store_31 : decode b_X_store 31 = .ok (.invokevirtual 61, 3) := by decide +kernel
theorem d_X_store_34 : decode b_X_store 34 = .ok (.aload_n 0, 1) := by decide +kernel
theorem d_X_store_35 : decode b_X_store 35 = .ok (.getfield 33, 3) := by decide +kernel
theorem d_X_store_38 : decode b_X_store 38 = .ok (.invokevirtual 65, 3) := by decide +kernel
theorem d_X_store_41 : decode b_X_store 41 = .ok (.aload_n 0, 1) := by decide +kernel
theorem d_X_store_42 : decode b_X_store 42 = .ok (.iload_n 1, 1) := by decide +kernel
theorem d_X_store_43 : decode b_X_store 43 = .ok (.aload_n 0, 1) := by decide +kernel
theorem d_X_store_44 : decode b_X_store 44 = .ok (.getfield 24, 3) := by decide +kernel
theorem d_X_store_47 : decode b_X_store 47 = .ok (.iload_n 1, 1) := by decide +kernel
theorem d_X_store_48 : decode b_X_store 48 = .ok (.aaload, 1) := by decide +kernel
theorem d_X_store_49 : decode b_X_store 49 = .ok (.getfield 50, 3) := by decide +kernel
theorem d_X_store_52 : decode b_X_store 52 = .ok (.invokestatic 68, 3) := by decide +kernel
theorem d_X_store_55 : decode b_X_store 55 = .ok (.i2l, 1) := by decide +kernel
theorem d_X_store_56 : decode b_X_store 56 = .ok (.invokevirtual 72, 3) := by decide +kernel
theorem d_X_store_59 : decode b_X_store 59 = .ok (.ireturn, 1) := by decide +kernel
theorem d_X_drop_0 : decode b_X_drop 0 = .ok (.iload_n 1, 1) := by decide +kernel
theorem d_X_drop_1 : decode b_X_drop 1 = .ok (.invokestatic 57, 3) := by decide +kernel
theorem d_X_drop_4 : decode b_X_drop 4 = .ok (.ifCond .ne 5, 3) := by decide +kernel
theorem d_X_drop_7 : decode b_X_drop 7 = .ok (.iconst (-1), 1) := by decide +kernel
theorem d_X_drop_8 : decode b_X_drop 8 = .ok (.ireturn, 1) := by decide +kernel
theorem d_X_drop_9 : decode b_X_drop 9 = .ok (.aload_n 0, 1) := by decide +kernel
theorem d_X_drop_10 : decode b_X_drop 10 = .ok (.getfield 29, 3) := by decide +kernel
theorem d_X_drop_13 : decode b_X_drop 13 = .ok (.iload_n 1, 1) := by decide +kernel
theorem d_X_drop_14 : decode b_X_drop 14 = .ok (.baload, 1) := by decide +kernel
theorem d_X_drop_15 : decode b_X_drop 15 = .ok (.ifCond .ne 6, 3) := by decide +kernel
theorem d_X_drop_18 : decode b_X_drop 18 = .ok (.bipush (-2), 2) := by decide +kernel
theorem d_X_drop_20 : decode b_X_drop 20 = .ok (.ireturn, 1) := by decide +kernel
theorem d_X_drop_21 : decode b_X_drop 21 = .ok (.aload_n 0, 1) := by decide +kernel
theorem d_X_drop_22 : decode b_X_drop 22 = .ok (.getfield 29, 3) := by decide +kernel
theorem d_X_drop_25 : decode b_X_drop 25 = .ok (.iload_n 1, 1) := by decide +kernel
theorem d_X_drop_26 : decode b_X_drop 26 = .ok (.iconst 0, 1) := by decide +kernel
theorem d_X_drop_27 : decode b_X_drop 27 = .ok (.bastore, 1) := by decide +kernel
theorem d_X_drop_28 : decode b_X_drop 28 = .ok (.aload_n 0, 1) := by decide +kernel
theorem d_X_drop_29 : decode b_X_drop 29 = .ok (.getfield 24, 3) := by decide +kernel
theorem d_X_drop_32 : decode b_X_drop 32 = .ok (.iload_n 1, 1) := by decide +kernel
theorem d_X_drop_33 : decode b_X_drop 33 = .ok (.aaload, 1) := by decide +kernel
theorem d_X_drop_34 : decode b_X_drop 34 = .ok (.getfield 50, 3) := by decide +kernel
theorem d_X_drop_37 : decode b_X_drop 37 = .ok (.ireturn, 1) := by decide +kernel
theorem d_X_rows_0 : decode b_X_rows 0 = .ok (.aload_n 0, 1) := by decide +kernel
theorem d_X_rows_1 : decode b_X_rows 1 = .ok (.iload_n 1, 1) := by decide +kernel
theorem d_X_rows_2 : decode b_X_rows 2 = .ok (.invokevirtual 76, 3) := by decide +kernel
theorem d_X_rows_5 : decode b_X_rows 5 = .ok (.ifCond .eq 15, 3) := by decide +kernel
theorem d_X_rows_8 : decode b_X_rows 8 = .ok (.aload_n 0, 1) := by decide +kernel
theorem d_X_rows_9 : decode b_X_rows 9 = .ok (.getfield 24, 3) := by decide +kernel
theorem d_X_rows_12 : decode b_X_rows 12 = .ok (.iload_n 1, 1) := by decide +kernel
theorem d_X_rows_13 : decode b_X_rows 13 = .ok (.aaload, 1) := by decide +kernel
theorem d_X_rows_14 : decode b_X_rows 14 = .ok (.getfield 50, 3) := by decide +kernel
theorem d_X_rows_17 : decode b_X_rows 17 = .ok (.goto 4, 3) := by decide +kernel
theorem d_X_rows_20 : decode b_X_rows 20 = .ok (.iconst (-1), 1) := by decide +kernel
theorem d_X_rows_21 : decode b_X_rows 21 = .ok (.ireturn, 1) := by decide +kernel
theorem d_X_key_0 : decode b_X_key 0 = .ok (.aload_n 0, 1) := by decide +kernel
theorem d_X_key_1 : decode b_X_key 1 = .ok (.iload_n 1, 1) := by decide +kernel
theorem d_X_key_2 : decode b_X_key 2 = .ok (.iload_n 2, 1) := by decide +kernel
theorem d_X_key_3 : decode b_X_key 3 = .ok (.invokevirtual 79, 3) := by decide +kernel
theorem d_X_key_6 : decode b_X_key 6 = .ok (.ifCond .eq 17, 3) := by decide +kernel
theorem d_X_key_9 : decode b_X_key 9 = .ok (.aload_n 0, 1) := by decide +kernel
theorem d_X_key_10 : decode b_X_key 10 = .ok (.getfield 24, 3) := by decide +kernel
theorem d_X_key_13 : decode b_X_key 13 = .ok (.iload_n 1, 1) := by decide +kernel
theorem d_X_key_14 : decode b_X_key 14 = .ok (.aaload, 1) := by decide +kernel
theorem d_X_key_15 : decode b_X_key 15 = .ok (.getfield 83, 3) := by decide +kernel
theorem d_X_key_18 : decode b_X_key 18 = .ok (.iload_n 2, 1) := by decide +kernel
theorem d_X_key_19 : decode b_X_key 19 = .ok (.iaload, 1) := by decide +kernel
theorem d_X_key_20 : decode b_X_key 20 = .ok (.goto 4, 3) := by decide +kernel
theorem d_X_key_23 : decode b_X_key 23 = .ok (.iconst 0, 1) := by decide +kernel
theorem d_X_key_24 : decode b_X_key 24 = .ok (.ireturn, 1) := by decide +kernel
theorem d_X_value_0 : decode b_X_value 0 = .ok (.aload_n 0, 1) := by decide +kernel
theorem d_X_value_1 : decode b_X_value 1 = .ok (.iload_n 1, 1) := by decide +kernel
theorem d_X_value_2 : decode b_X_value 2 = .ok (.iload_n 2, 1) := by decide +kernel
theorem d_X_value_3 : decode b_X_value 3 = .ok (.invokevirtual 79, 3) := by decide +kernel
theorem d_X_value_6 : decode b_X_value 6 = .ok (.ifCond .eq 17, 3) := by decide +kernel
theorem d_X_value_9 : decode b_X_value 9 = .ok (.aload_n 0, 1) := by decide +kernel
theorem d_X_value_10 : decode b_X_value 10 = .ok (.getfield 24, 3) := by decide +kernel
theorem d_X_value_13 : decode b_X_value 13 = .ok (.iload_n 1, 1) := by decide +kernel
theorem d_X_value_14 : decode b_X_value 14 = .ok (.aaload, 1) := by decide +kernel
theorem d_X_value_15 : decode b_X_value 15 = .ok (.getfield 87, 3) := by decide +kernel
theorem d_X_value_18 : decode b_X_value 18 = .ok (.iload_n 2, 1) := by decide +kernel
theorem d_X_value_19 : decode b_X_value 19 = .ok (.iaload, 1) := by decide +kernel
theorem d_X_value_20 : decode b_X_value 20 = .ok (.goto 4, 3) := by decide +kernel
theorem d_X_value_23 : decode b_X_value 23 = .ok (.iconst 0, 1) := by decide +kernel
theorem d_X_value_24 : decode b_X_value 24 = .ok (.ireturn, 1) := by decide +kernel
theorem d_X_sort_0 : decode b_X_sort 0 = .ok (.iload_n 2, 1) := by decide +kernel
theorem d_X_sort_1 : decode b_X_sort 1 = .ok (.ifCond .lt 8, 3) := by decide +kernel
theorem d_X_sort_4 : decode b_X_sort 4 = .ok (.iload_n 2, 1) := by decide +kernel
theorem d_X_sort_5 : decode b_X_sort 5 = .ok (.iconst 2, 1) := by decide +kernel
theorem d_X_sort_6 : decode b_X_sort 6 = .ok (.if_icmp .le 5, 3) := by decide +kernel
theorem d_X_sort_9 : decode b_X_sort 9 = .ok (.iconst (-1), 1) := by decide +kernel
theorem d_X_sort_10 : decode b_X_sort 10 = .ok (.ireturn, 1) := by decide +kernel
theorem d_X_sort_11 : decode b_X_sort 11 = .ok (.aload_n 0, 1) := by decide +kernel
theorem d_X_sort_12 : decode b_X_sort 12 = .ok (.iload_n 1, 1) := by decide +kernel
theorem d_X_sort_13 : decode b_X_sort 13 = .ok (.iload_n 1, 1) := by decide +kernel
theorem d_X_sort_14 : decode b_X_sort 14 = .ok (.iload_n 3, 1) := by decide +kernel
theorem d_X_sort_15 : decode b_X_sort 15 = .ok (.invokevirtual 90, 3) := by decide +kernel
theorem d_X_sort_18 : decode b_X_sort 18 = .ok (.istore 4, 2) := by decide +kernel
theorem d_X_sort_20 : decode b_X_sort 20 = .ok (.iload 4, 2) := by decide +kernel
theorem d_X_sort_22 : decode b_X_sort 22 = .ok (.ifCond .eq 6, 3) := by decide +kernel
theorem d_X_sort_25 : decode b_X_sort 25 = .ok (.iload 4, 2) := by decide +kernel
theorem d_X_sort_27 : decode b_X_sort 27 = .ok (.ireturn, 1) := by decide +kernel
theorem d_X_sort_28 : decode b_X_sort 28 = .ok (.aload_n 0, 1) := by decide +kernel
theorem d_X_sort_29 : decode b_X_sort 29 = .ok (.getfield 24, 3) := by decide +kernel
theorem d_X_sort_32 : decode b_X_sort 32 = .ok (.iload_n 3, 1) := by decide +kernel
theorem d_X_sort_33 : decode b_X_sort 33 = .ok (.aaload, 1) := by decide +kernel
theorem d_X_sort_34 : decode b_X_sort 34 = .ok (.astore 5, 2) := by decide +kernel
theorem d_X_sort_36 : decode b_X_sort 36 = .ok (.aload 5, 2) := by decide +kernel
theorem d_X_sort_38 : decode b_X_sort 38 = .ok (.aload_n 0, 1) := by decide +kernel
theorem d_X_sort_39 : decode b_X_sort 39 = .ok (.getfield 24, 3) := by decide +kernel
theorem d_X_sort_42 : decode b_X_sort 42 = .ok (.iload_n 1, 1) := by decide +kernel
theorem d_X_sort_43 : decode b_X_sort 43 = .ok (.aaload, 1) := by decide +kernel
theorem d_X_sort_44 : decode b_X_sort 44 = .ok (.invokevirtual 61, 3) := by decide +kernel
theorem d_X_sort_47 : decode b_X_sort 47 = .ok (.aload 5, 2) := by decide +kernel
theorem d_X_sort_49 : decode b_X_sort 49 = .ok (.iload_n 2, 1) := by decide +kernel
theorem d_X_sort_50 : decode b_X_sort 50 = .ok (.invokevirtual 94, 3) := by decide +kernel
theorem d_X_sort_53 : decode b_X_sort 53 = .ok (.aload_n 0, 1) := by decide +kernel
theorem d_X_sort_54 : decode b_X_sort 54 = .ok (.iload_n 3, 1) := by decide +kernel
theorem d_X_sort_55 : decode b_X_sort 55 = .ok (.aload_n 0, 1) := by decide +kernel
theorem d_X_sort_56 : decode b_X_sort 56 = .ok (.aload 5, 2) := by decide +kernel
theorem d_X_sort_58 : decode b_X_sort 58 = .ok (.getfield 50, 3) := by decide +kernel
theorem d_X_sort_61 : decode b_X_sort 61 = .ok (.invokevirtual 98, 3) := by decide +kernel
theorem d_X_sort_64 : decode b_X_sort 64 = .ok (.invokevirtual 72, 3) := by decide +kernel
theorem d_X_sort_67 : decode b_X_sort 67 = .ok (.ireturn, 1) := by decide +kernel
theorem d_X_select_0 : decode b_X_select 0 = .ok (.aload_n 0, 1) := by decide +kernel
theorem d_X_select_1 : decode b_X_select 1 = .ok (.iload_n 1, 1) := by decide +kernel
theorem d_X_select_2 : decode b_X_select 2 = .ok (.iload_n 1, 1) := by decide +kernel
theorem d_X_select_3 : decode b_X_select 3 = .ok (.iload 4, 2) := by decide +kernel
theorem d_X_select_5 : decode b_X_select 5 = .ok (.invokevirtual 90, 3) := by decide +kernel
theorem d_X_select_8 : decode b_X_select 8 = .ok (.istore 5, 2) := by decide +kernel
theorem d_X_select_10 : decode b_X_select 10 = .ok (.iload 5, 2) := by decide +kernel
theorem d_X_select_12 : decode b_X_select 12 = .ok (.ifCond .eq 6, 3) := by decide +kernel
theorem d_X_select_15 : decode b_X_select 15 = .ok (.iload 5, 2) := by decide +kernel
theorem d_X_select_17 : decode b_X_select 17 = .ok (.ireturn, 1) := by decide +kernel
theorem d_X_select_18 : decode b_X_select 18 = .ok (.aload_n 0, 1) := by decide +kernel
theorem d_X_select_19 : decode b_X_select 19 = .ok (.getfield 24, 3) := by decide +kernel
theorem d_X_select_22 : decode b_X_select 22 = .ok (.iload_n 1, 1) := by decide +kernel
theorem d_X_select_23 : decode b_X_select 23 = .ok (.aaload, 1) := by decide +kernel
theorem d_X_select_24 : decode b_X_select 24 = .ok (.astore 6, 2) := by decide +kernel
theorem d_X_select_26 : decode b_X_select 26 = .ok (.aload_n 0, 1) := by decide +kernel
theorem d_X_select_27 : decode b_X_select 27 = .ok (.getfield 24, 3) := by decide +kernel
theorem d_X_select_30 : decode b_X_select 30 = .ok (.iload 4, 2) := by decide +kernel
theorem d_X_select_32 : decode b_X_select 32 = .ok (.aaload, 1) := by decide +kernel
theorem d_X_select_33 : decode b_X_select 33 = .ok (.astore 7, 2) := by decide +kernel
theorem d_X_select_35 : decode b_X_select 35 = .ok (.aload 7, 2) := by decide +kernel
theorem d_X_select_37 : decode b_X_select 37 = .ok (.invokevirtual 65, 3) := by decide +kernel
theorem d_X_select_40 : decode b_X_select 40 = .ok (.iconst 0, 1) := by decide +kernel
theorem d_X_select_41 : decode b_X_select 41 = .ok (.istore 8, 2) := by decide +kernel
theorem d_X_select_43 : decode b_X_select 43 = .ok (.iload 8, 2) := by decide +kernel
theorem d_X_select_45 : decode b_X_select 45 = .ok (.aload 6, 2) := by decide +kernel
theorem d_X_select_47 : decode b_X_select 47 = .ok (.getfield 50, 3) := by decide +kernel
theorem d_X_select_50 : decode b_X_select 50 = .ok (.if_icmp .ge 54, 3) := by decide +kernel
theorem d_X_select_53 : decode b_X_select 53 = .ok (.iload_n 2, 1) := by decide +kernel
theorem d_X_select_54 : decode b_X_select 54 = .ok (.aload 6, 2) := by decide +kernel
theorem d_X_select_56 : decode b_X_select 56 = .ok (.getfield 83, 3) := by decide +kernel
theorem d_X_select_59 : decode b_X_select 59 = .ok (.iload 8, 2) := by decide +kernel
theorem d_X_select_61 : decode b_X_select 61 = .ok (.iaload, 1) := by decide +kernel
theorem d_X_select_62 : decode b_X_select 62 = .ok (.if_icmp .gt 36, 3) := by decide +kernel
theorem d_X_select_65 : decode b_X_select 65 = .ok (.aload 6, 2) := by decide +kernel
theorem d_X_select_67 : decode b_X_select 67 = .ok (.getfield 83, 3) := by decide +kernel
theorem d_X_select_70 : decode b_X_select 70 = .ok (.iload 8, 2) := by decide +kernel
theorem d_X_select_72 : decode b_X_select 72 = .ok (.iaload, 1) := by decide +kernel
theorem d_X_select_73 : decode b_X_select 73 = .ok (.iload_n 3, 1) := by decide +kernel
theorem d_X_select_74 : decode b_X_select 74 = .ok (.if_icmp .gt 24, 3) := by decide +kernel
theorem d_X_select_77 : decode b_X_select 77 = .ok (.aload 7, 2) := by decide +kernel
theorem d_X_select_79 : decode b_X_select 79 = .ok (.aload 6, 2) := by decide +kernel
theorem d_X_select_81 : decode b_X_select 81 = .ok (.getfield 83, 3) := by decide +kernel
theorem d_X_select_84 : decode b_X_select 84 = .ok (.iload 8, 2) := by decide +kernel
theorem d_X_select_86 : decode b_X_select 86 = .ok (.iaload, 1) := by decide +kernel
theorem d_X_select_87 : decode b_X_select 87 = .ok (.aload 6, 2) := by decide +kernel
theorem d_X_select_89 : decode b_X_select 89 = .ok (.getfield 87, 3) := by decide +kernel
theorem d_X_select_92 : decode b_X_select 92 = .ok (.iload 8, 2) := by decide +kernel
theorem d_X_select_94 : decode b_X_select 94 = .ok (.iaload, 1) := by decide +kernel
theorem d_X_select_95 : decode b_X_select 95 = .ok (.invokevirtual 53, 3) := by decide +kernel
theorem d_X_select_98 : decode b_X_select 98 = .ok (.iinc 8 1, 3) := by decide +kernel
theorem d_X_select_101 : decode b_X_select 101 = .ok (.goto (-58), 3) := by decide +kernel
theorem d_X_select_104 : decode b_X_select 104 = .ok (.aload_n 0, 1) := by decide +kernel
theorem d_X_select_105 : decode b_X_select 105 = .ok (.iload 4, 2) := by decide +kernel
theorem d_X_select_107 : decode b_X_select 107 = .ok (.aload 6, 2) := by decide +kernel
theorem d_X_select_109 : decode b_X_select 109 = .ok (.getfield 50, 3) := by decide +kernel
theorem d_X_select_112 : decode b_X_select 112 = .ok (.invokestatic 68, 3) := by decide +kernel
theorem d_X_select_115 : decode b_X_select 115 = .ok (.aload 7, 2) := by decide +kernel
theorem d_X_select_117 : decode b_X_select 117 = .ok (.getfield 50, 3) := by decide +kernel
theorem d_X_select_120 : decode b_X_select 120 = .ok (.invokestatic 68, 3) := by decide +kernel
theorem d_X_select_123 : decode b_X_select 123 = .ok (.iadd, 1) := by decide +kernel
theorem d_X_select_124 : decode b_X_select 124 = .ok (.i2l, 1) := by decide +kernel
theorem d_X_select_125 : decode b_X_select 125 = .ok (.invokevirtual 72, 3) := by decide +kernel
theorem d_X_select_128 : decode b_X_select 128 = .ok (.ireturn, 1) := by decide +kernel
theorem d_X_distinct_0 : decode b_X_distinct 0 = .ok (.aload_n 0, 1) := by decide +kernel
theorem d_X_distinct_1 : decode b_X_distinct 1 = .ok (.iload_n 1, 1) := by decide +kernel
theorem d_X_distinct_2 : decode b_X_distinct 2 = .ok (.iload_n 1, 1) := by decide +kernel
theorem d_X_distinct_3 : decode b_X_distinct 3 = .ok (.iload_n 2, 1) := by decide +kernel
theorem d_X_distinct_4 : decode b_X_distinct 4 = .ok (.invokevirtual 90, 3) := by decide +kernel
theorem d_X_distinct_7 : decode b_X_distinct 7 = .ok (.istore_n 3, 1) := by decide +kernel
theorem d_X_distinct_8 : decode b_X_distinct 8 = .ok (.iload_n 3, 1) := by decide +kernel
theorem d_X_distinct_9 : decode b_X_distinct 9 = .ok (.ifCond .eq 5, 3) := by decide +kernel
theorem d_X_distinct_12 : decode b_X_distinct 12 = .ok (.iload_n 3, 1) := by decide +kernel
theorem d_X_distinct_13 : decode b_X_distinct 13 = .ok (.ireturn, 1) := by decide +kernel
theorem d_X_distinct_14 : decode b_X_distinct 14 = .ok (.aload_n 0, 1) := by decide +kernel
theorem d_X_distinct_15 : decode b_X_distinct 15 = .ok (.getfield 24, 3) := by decide +kernel
theorem d_X_distinct_18 : decode b_X_distinct 18 = .ok (.iload_n 2, 1) := by decide +kernel
theorem d_X_distinct_19 : decode b_X_distinct 19 = .ok (.aaload, 1) := by decide +kernel
theorem d_X_distinct_20 : decode b_X_distinct 20 = .ok (.astore 4, 2) := by decide +kernel
theorem d_X_distinct_22 : decode b_X_distinct 22 = .ok (.aload 4, 2) := by decide +kernel
theorem d_X_distinct_24 : decode b_X_distinct 24 = .ok (.aload_n 0, 1) := by decide +kernel
theorem d_X_distinct_25 : decode b_X_distinct 25 = .ok (.getfield 24, 3) := by decide +kernel
theorem d_X_distinct_28 : decode b_X_distinct 28 = .ok (.iload_n 1, 1) := by decide +kernel
theorem d_X_distinct_29 : decode b_X_distinct 29 = .ok (.aaload, 1) := by decide +kernel
theorem d_X_distinct_30 : decode b_X_distinct 30 = .ok (.invokevirtual 61, 3) := by decide +kernel
theorem d_X_distinct_33 : decode b_X_distinct 33 = .ok (.aload 4, 2) := by decide +kernel
theorem d_X_distinct_35 : decode b_X_distinct 35 = .ok (.iconst 2, 1) := by decide +kernel
theorem d_X_distinct_36 : decode b_X_distinct 36 = .ok (.invokevirtual 94, 3) := by decide +kernel
theorem d_X_distinct_39 : decode b_X_distinct 39 = .ok (.aload 4, 2) := by decide +kernel
theorem d_X_distinct_41 : decode b_X_distinct 41 = .ok (.invokevirtual 102, 3) := by decide +kernel
theorem d_X_distinct_44 : decode b_X_distinct 44 = .ok (.aload_n 0, 1) := by decide +kernel
theorem d_X_distinct_45 : decode b_X_distinct 45 = .ok (.getfield 24, 3) := by decide +kernel
theorem d_X_distinct_48 : decode b_X_distinct 48 = .ok (.iload_n 1, 1) := by decide +kernel
theorem d_X_distinct_49 : decode b_X_distinct 49 = .ok (.aaload, 1) := by decide +kernel
theorem d_X_distinct_50 : decode b_X_distinct 50 = .ok (.getfield 50, 3) := by decide +kernel
theorem d_X_distinct_53 : decode b_X_distinct 53 = .ok (.istore 5, 2) := by decide +kernel
theorem d_X_distinct_55 : decode b_X_distinct 55 = .ok (.aload_n 0, 1) := by decide +kernel
theorem d_X_distinct_56 : decode b_X_distinct 56 = .ok (.iload_n 2, 1) := by decide +kernel
theorem d_X_distinct_57 : decode b_X_distinct 57 = .ok (.aload_n 0, 1) := by decide +kernel
theorem d_X_distinct_58 : decode b_X_distinct 58 = .ok (.iload 5, 2) := by decide +kernel
theorem d_X_distinct_60 : decode b_X_distinct 60 = .ok (.invokevirtual 98, 3) := by decide +kernel
theorem d_X_distinct_63 : decode b_X_distinct 63 = .ok (.iload 5, 2) := by decide +kernel
theorem d_X_distinct_65 : decode b_X_distinct 65 = .ok (.invokestatic 68, 3) := by decide +kernel
theorem d_X_distinct_68 : decode b_X_distinct 68 = .ok (.i2l, 1) := by decide +kernel
theorem d_X_distinct_69 : decode b_X_distinct 69 = .ok (.ladd, 1) := by decide +kernel
theorem d_X_distinct_70 : decode b_X_distinct 70 = .ok (.aload 4, 2) := by decide +kernel
theorem d_X_distinct_72 : decode b_X_distinct 72 = .ok (.getfield 50, 3) := by decide +kernel
theorem d_X_distinct_75 : decode b_X_distinct 75 = .ok (.invokestatic 68, 3) := by decide +kernel
theorem d_X_distinct_78 : decode b_X_distinct 78 = .ok (.i2l, 1) := by decide +kernel
theorem d_X_distinct_79 : decode b_X_distinct 79 = .ok (.ladd, 1) := by decide +kernel
theorem d_X_distinct_80 : decode b_X_distinct 80 = .ok (.invokevirtual 72, 3) := by decide +kernel
theorem d_X_distinct_83 : decode b_X_distinct 83 = .ok (.ireturn, 1) := by decide +kernel
theorem d_X_group_0 : decode b_X_group 0 = .ok (.aload_n 0, 1) := by decide +kernel
theorem d_X_group_1 : decode b_X_group 1 = .ok (.iload_n 1, 1) := by decide +kernel
theorem d_X_group_2 : decode b_X_group 2 = .ok (.iload_n 1, 1) := by decide +kernel
theorem d_X_group_3 : decode b_X_group 3 = .ok (.iload_n 2, 1) := by decide +kernel
theorem d_X_group_4 : decode b_X_group 4 = .ok (.invokevirtual 90, 3) := by decide +kernel
theorem d_X_group_7 : decode b_X_group 7 = .ok (.istore_n 3, 1) := by decide +kernel
theorem d_X_group_8 : decode b_X_group 8 = .ok (.iload_n 3, 1) := by decide +kernel
theorem d_X_group_9 : decode b_X_group 9 = .ok (.ifCond .eq 5, 3) := by decide +kernel
theorem d_X_group_12 : decode b_X_group 12 = .ok (.iload_n 3, 1) := by decide +kernel
theorem d_X_group_13 : decode b_X_group 13 = .ok (.ireturn, 1) := by decide +kernel
theorem d_X_group_14 : decode b_X_group 14 = .ok (.aload_n 0, 1) := by decide +kernel
theorem d_X_group_15 : decode b_X_group 15 = .ok (.getfield 24, 3) := by decide +kernel
theorem d_X_group_18 : decode b_X_group 18 = .ok (.iload_n 2, 1) := by decide +kernel
theorem d_X_group_19 : decode b_X_group 19 = .ok (.aaload, 1) := by decide +kernel
theorem d_X_group_20 : decode b_X_group 20 = .ok (.astore 4, 2) := by decide +kernel
theorem d_X_group_22 : decode b_X_group 22 = .ok (.aload 4, 2) := by decide +kernel
theorem d_X_group_24 : decode b_X_group 24 = .ok (.invokevirtual 65, 3) := by decide +kernel
theorem d_X_group_27 : decode b_X_group 27 = .ok (.aload_n 0, 1) := by decide +kernel
theorem d_X_group_28 : decode b_X_group 28 = .ok (.getfield 37, 3) := by decide +kernel
theorem d_X_group_31 : decode b_X_group 31 = .ok (.aload_n 0, 1) := by decide +kernel
theorem d_X_group_32 : decode b_X_group 32 = .ok (.getfield 24, 3) := by decide +kernel
theorem d_X_group_35 : decode b_X_group 35 = .ok (.iload_n 1, 1) := by decide +kernel
theorem d_X_group_36 : decode b_X_group 36 = .ok (.aaload, 1) := by decide +kernel
theorem d_X_group_37 : decode b_X_group 37 = .ok (.invokevirtual 61, 3) := by decide +kernel
theorem d_X_group_40 : decode b_X_group 40 = .ok (.lconst 0, 1) := by decide +kernel
theorem d_X_group_41 : decode b_X_group 41 = .ok (.lstore 5, 2) := by decide +kernel
theorem d_X_group_43 : decode b_X_group 43 = .ok (.iconst 0, 1) := by decide +kernel
theorem d_X_group_44 : decode b_X_group 44 = .ok (.istore 7, 2) := by decide +kernel
theorem d_X_group_46 : decode b_X_group 46 = .ok (.iload 7, 2) := by decide +kernel
theorem d_X_group_48 : decode b_X_group 48 = .ok (.bipush 60, 2) := by decide +kernel
theorem d_X_group_50 : decode b_X_group 50 = .ok (.if_icmp .ge 61, 3) := by decide +kernel
theorem d_X_group_53 : decode b_X_group 53 = .ok (.aload_n 0, 1) := by decide +kernel
theorem d_X_group_54 : decode b_X_group 54 = .ok (.getfield 37, 3) := by decide +kernel
theorem d_X_group_57 : decode b_X_group 57 = .ok (.getfield 50, 3) := by decide +kernel
theorem d_X_group_60 : decode b_X_group 60 = .ok (.ifCond .le 51, 3) := by decide +kernel
theorem d_X_group_63 : decode b_X_group 63 = .ok (.lload 5, 2) := by decide +kernel
theorem d_X_group_65 : decode b_X_group 65 = .ok (.aload_n 0, 1) := by decide +kernel
theorem d_X_group_66 : decode b_X_group 66 = .ok (.getfield 37, 3) := by decide +kernel
theorem d_X_group_69 : decode b_X_group 69 = .ok (.getfield 50, 3) := by decide +kernel
theorem d_X_group_72 : decode b_X_group 72 = .ok (.invokestatic 68, 3) := by decide +kernel
theorem d_X_group_75 : decode b_X_group 75 = .ok (.i2l, 1) := by decide +kernel
theorem d_X_group_76 : decode b_X_group 76 = .ok (.ladd, 1) := by decide +kernel
theorem d_X_group_77 : decode b_X_group 77 = .ok (.lstore 5, 2) := by decide +kernel
theorem d_X_group_79 : decode b_X_group 79 = .ok (.aload_n 0, 1) := by decide +kernel
theorem d_X_group_80 : decode b_X_group 80 = .ok (.aload_n 0, 1) := by decide +kernel
theorem d_X_group_81 : decode b_X_group 81 = .ok (.getfield 37, 3) := by decide +kernel
theorem d_X_group_84 : decode b_X_group 84 = .ok (.aload 4, 2) := by decide +kernel
theorem d_X_group_86 : decode b_X_group 86 = .ok (.invokevirtual 105, 3) := by decide +kernel
theorem d_X_group_89 : decode b_X_group 89 = .ok (.lload 5, 2) := by decide +kernel
theorem d_X_group_91 : decode b_X_group 91 = .ok (.aload_n 0, 1) := by decide +kernel
theorem d_X_group_92 : decode b_X_group 92 = .ok (.getfield 37, 3) := by decide +kernel
theorem d_X_group_95 : decode b_X_group 95 = .ok (.getfield 50, 3) := by decide +kernel
theorem d_X_group_98 : decode b_X_group 98 = .ok (.invokestatic 68, 3) := by decide +kernel
theorem d_X_group_101 : decode b_X_group 101 = .ok (.i2l, 1) := by decide +kernel
theorem d_X_group_102 : decode b_X_group 102 = .ok (.ladd, 1) := by decide +kernel
theorem d_X_group_103 : decode b_X_group 103 = .ok (.lstore 5, 2) := by decide +kernel
theorem d_X_group_105 : decode b_X_group 105 = .ok (.iinc 7 1, 3) := by decide +kernel
theorem d_X_group_108 : decode b_X_group 108 = .ok (.goto (-62), 3) := by decide +kernel
theorem d_X_group_111 : decode b_X_group 111 = .ok (.aload_n 0, 1) := by decide +kernel
theorem d_X_group_112 : decode b_X_group 112 = .ok (.iload_n 2, 1) := by decide +kernel
theorem d_X_group_113 : decode b_X_group 113 = .ok (.lload 5, 2) := by decide +kernel
theorem d_X_group_115 : decode b_X_group 115 = .ok (.aload 4, 2) := by decide +kernel
theorem d_X_group_117 : decode b_X_group 117 = .ok (.getfield 50, 3) := by decide +kernel
theorem d_X_group_120 : decode b_X_group 120 = .ok (.invokestatic 68, 3) := by decide +kernel
theorem d_X_group_123 : decode b_X_group 123 = .ok (.i2l, 1) := by decide +kernel
theorem d_X_group_124 : decode b_X_group 124 = .ok (.ladd, 1) := by decide +kernel
theorem d_X_group_125 : decode b_X_group 125 = .ok (.invokevirtual 72, 3) := by decide +kernel
theorem d_X_group_128 : decode b_X_group 128 = .ok (.ireturn, 1) := by decide +kernel
theorem d_X_combine_0 : decode b_X_combine 0 = .ok (.iload_n 1, 1) := by decide +kernel
theorem d_X_combine_1 : decode b_X_combine 1 = .ok (.ifCond .lt 8, 3) := by decide +kernel
theorem d_X_combine_4 : decode b_X_combine 4 = .ok (.iload_n 1, 1) := by decide +kernel
theorem d_X_combine_5 : decode b_X_combine 5 = .ok (.iconst 3, 1) := by decide +kernel
theorem d_X_combine_6 : decode b_X_combine 6 = .ok (.if_icmp .le 5, 3) := by decide +kernel
theorem d_X_combine_9 : decode b_X_combine 9 = .ok (.iconst (-1), 1) := by decide +kernel
theorem d_X_combine_10 : decode b_X_combine 10 = .ok (.ireturn, 1) := by decide +kernel
theorem d_X_combine_11 : decode b_X_combine 11 = .ok (.aload_n 0, 1) := by decide +kernel
theorem d_X_combine_12 : decode b_X_combine 12 = .ok (.iload_n 2, 1) := by decide +kernel
theorem d_X_combine_13 : decode b_X_combine 13 = .ok (.iload_n 3, 1) := by decide +kernel
theorem d_X_combine_14 : decode b_X_combine 14 = .ok (.iload 4, 2) := by decide +kernel
theorem d_X_combine_16 : decode b_X_combine 16 = .ok (.invokevirtual 90, 3) := by decide +kernel
theorem d_X_combine_19 : decode b_X_combine 19 = .ok (.istore 5, 2) := by decide +kernel
theorem d_X_combine_21 : decode b_X_combine 21 = .ok (.iload 5, 2) := by decide +kernel
theorem d_X_combine_23 : decode b_X_combine 23 = .ok (.ifCond .eq 6, 3) := by decide +kernel
theorem d_X_combine_26 : decode b_X_combine 26 = .ok (.iload 5, 2) := by decide +kernel
theorem d_X_combine_28 : decode b_X_combine 28 = .ok (.ireturn, 1) := by decide +kernel
theorem d_X_combine_29 : decode b_X_combine 29 = .ok (.aload_n 0, 1) := by decide +kernel
theorem d_X_combine_30 : decode b_X_combine 30 = .ok (.getfield 37, 3) := by decide +kernel
theorem d_X_combine_33 : decode b_X_combine 33 = .ok (.aload_n 0, 1) := by decide +kernel
theorem d_X_combine_34 : decode b_X_combine 34 = .ok (.getfield 24, 3) := by decide +kernel
theorem d_X_combine_37 : decode b_X_combine 37 = .ok (.iload_n 2, 1) := by decide +kernel
theorem d_X_combine_38 : decode b_X_combine 38 = .ok (.aaload, 1) := by decide +kernel
theorem d_X_combine_39 : decode b_X_combine 39 = .ok (.invokevirtual 61, 3) := by decide +kernel
theorem d_X_combine_42 : decode b_X_combine 42 = .ok (.aload_n 0, 1) := by decide +kernel
theorem d_X_combine_43 : decode b_X_combine 43 = .ok (.getfield 37, 3) := by decide +kernel
theorem d_X_combine_46 : decode b_X_combine 46 = .ok (.iconst 2, 1) := by decide +kernel
theorem d_X_combine_47 : decode b_X_combine 47 = .ok (.invokevirtual 94, 3) := by decide +kernel
theorem d_X_combine_50 : decode b_X_combine 50 = .ok (.aload_n 0, 1) := by decide +kernel
theorem d_X_combine_51 : decode b_X_combine 51 = .ok (.getfield 40, 3) := by decide +kernel
theorem d_X_combine_54 : decode b_X_combine 54 = .ok (.aload_n 0, 1) := by decide +kernel
theorem d_X_combine_55 : decode b_X_combine 55 = .ok (.getfield 24, 3) := by decide +kernel
theorem d_X_combine_58 : decode b_X_combine 58 = .ok (.iload_n 3, 1) := by decide +kernel
theorem d_X_combine_59 : decode b_X_combine 59 = .ok (.aaload, 1) := by decide +kernel
theorem d_X_combine_60 : decode b_X_combine 60 = .ok (.invokevirtual 61, 3) := by decide +kernel
theorem d_X_combine_63 : decode b_X_combine 63 = .ok (.aload_n 0, 1) := by decide +kernel
theorem d_X_combine_64 : decode b_X_combine 64 = .ok (.getfield 40, 3) := by decide +kernel
theorem d_X_combine_67 : decode b_X_combine 67 = .ok (.iconst 2, 1) := by decide +kernel
theorem d_X_combine_68 : decode b_X_combine 68 = .ok (.invokevirtual 94, 3) := by decide +kernel
theorem d_X_combine_71 : decode b_X_combine 71 = .ok (.aload_n 0, 1) := by decide +kernel
theorem d_X_combine_72 : decode b_X_combine 72 = .ok (.getfield 24, 3) := by decide +kernel
theorem d_X_combine_75 : decode b_X_combine 75 = .ok (.iload 4, 2) := by decide +kernel
theorem d_X_combine_77 : decode b_X_combine 77 = .ok (.aaload, 1) := by decide +kernel
theorem d_X_combine_78 : decode b_X_combine 78 = .ok (.astore 6, 2) := by decide +kernel
theorem d_X_combine_80 : decode b_X_combine 80 = .ok (.aload 6, 2) := by decide +kernel
theorem d_X_combine_82 : decode b_X_combine 82 = .ok (.invokevirtual 65, 3) := by decide +kernel
theorem d_X_combine_85 : decode b_X_combine 85 = .ok (.aload_n 0, 1) := by decide +kernel
theorem d_X_combine_86 : decode b_X_combine 86 = .ok (.iload_n 1, 1) := by decide +kernel
theorem d_X_combine_87 : decode b_X_combine 87 = .ok (.aload 6, 2) := by decide +kernel
theorem d_X_combine_89 : decode b_X_combine 89 = .ok (.invokevirtual 109, 3) := by decide +kernel
theorem d_X_combine_92 : decode b_X_combine 92 = .ok (.aload_n 0, 1) := by decide +kernel
theorem d_X_combine_93 : decode b_X_combine 93 = .ok (.aload_n 0, 1) := by decide +kernel
theorem d_X_combine_94 : decode b_X_combine 94 = .ok (.getfield 37, 3) := by decide +kernel
theorem d_X_combine_97 : decode b_X_combine 97 = .ok (.getfield 50, 3) := by decide +kernel
theorem d_X_combine_100 : decode b_X_combine 100 = .ok (.invokevirtual 98, 3) := by decide +kernel
theorem d_X_combine_103 : decode b_X_combine 103 = .ok (.aload_n 0, 1) := by decide +kernel
theorem d_X_combine_104 : decode b_X_combine 104 = .ok (.aload_n 0, 1) := by decide +kernel
theorem d_X_combine_105 : decode b_X_combine 105 = .ok (.getfield 40, 3) := by decide +kernel
theorem d_X_combine_108 : decode b_X_combine 108 = .ok (.getfield 50, 3) := by decide +kernel
theorem d_X_combine_111 : decode b_X_combine 111 = .ok (.invokevirtual 98, 3) := by decide +kernel
theorem d_X_combine_114 : decode b_X_combine 114 = .ok (.ladd, 1) := by decide +kernel
theorem d_X_combine_115 : decode b_X_combine 115 = .ok (.lstore 7, 2) := by decide +kernel
theorem d_X_combine_117 : decode b_X_combine 117 = .ok (.lload 7, 2) := by decide +kernel
theorem d_X_combine_119 : decode b_X_combine 119 = .ok (.aload_n 0, 1) := by decide +kernel
theorem d_X_combine_120 : decode b_X_combine 120 = .ok (.getfield 37, 3) := by decide +kernel
theorem d_X_combine_123 : decode b_X_combine 123 = .ok (.getfield 50, 3) := by decide +kernel
theorem d_X_combine_126 : decode b_X_combine 126 = .ok (.invokestatic 68, 3) := by decide +kernel
theorem d_X_combine_129 : decode b_X_combine 129 = .ok (.aload_n 0, 1) := by decide +kernel
theorem d_X_combine_130 : decode b_X_combine 130 = .ok (.getfield 40, 3) := by decide +kernel
theorem d_X_combine_133 : decode b_X_combine 133 = .ok (.getfield 50, 3) := by decide +kernel
theorem d_X_combine_136 : decode b_X_combine 136 = .ok (.invokestatic 68, 3) := by decide +kernel
theorem d_X_combine_139 : decode b_X_combine 139 = .ok (.iadd, 1) := by decide +kernel
theorem d_X_combine_140 : decode b_X_combine 140 = .ok (.i2l, 1) := by decide +kernel
theorem d_X_combine_141 : decode b_X_combine 141 = .ok (.ladd, 1) := by decide +kernel
theorem d_X_combine_142 : decode b_X_combine 142 = .ok (.lstore 7, 2) := by decide +kernel
theorem d_X_combine_144 : decode b_X_combine 144 = .ok (.aload_n 0, 1) := by decide +kernel
theorem d_X_combine_145 : decode b_X_combine 145 = .ok (.iload 4, 2) := by decide +kernel
theorem d_X_combine_147 : decode b_X_combine 147 = .ok (.lload 7, 2) := by decide +kernel
theorem d_X_combine_149 : decode b_X_combine 149 = .ok (.aload 6, 2) := by decide +kernel
theorem d_X_combine_151 : decode b_X_combine 151 = .ok (.getfield 50, 3) := by decide +kernel
theorem d_X_combine_154 : decode b_X_combine 154 = .ok (.invokestatic 68, 3) := by decide +kernel
theorem d_X_combine_157 : decode b_X_combine 157 = .ok (.i2l, 1) := by decide +kernel
theorem d_X_combine_158 : decode b_X_combine 158 = .ok (.ladd, 1) := by decide +kernel
theorem d_X_combine_159 : decode b_X_combine 159 = .ok (.invokevirtual 72, 3) := by decide +kernel
theorem d_X_combine_162 : decode b_X_combine 162 = .ok (.ireturn, 1) := by decide +kernel
theorem d_X_join_0 : decode b_X_join 0 = .ok (.aload_n 0, 1) := by decide +kernel
theorem d_X_join_1 : decode b_X_join 1 = .ok (.iload_n 1, 1) := by decide +kernel
theorem d_X_join_2 : decode b_X_join 2 = .ok (.iload_n 2, 1) := by decide +kernel
theorem d_X_join_3 : decode b_X_join 3 = .ok (.iload_n 3, 1) := by decide +kernel
theorem d_X_join_4 : decode b_X_join 4 = .ok (.invokevirtual 90, 3) := by decide +kernel
theorem d_X_join_7 : decode b_X_join 7 = .ok (.istore 4, 2) := by decide +kernel
theorem d_X_join_9 : decode b_X_join 9 = .ok (.iload 4, 2) := by decide +kernel
theorem d_X_join_11 : decode b_X_join 11 = .ok (.ifCond .eq 6, 3) := by decide +kernel
theorem d_X_join_14 : decode b_X_join 14 = .ok (.iload 4, 2) := by decide +kernel
theorem d_X_join_16 : decode b_X_join 16 = .ok (.ireturn, 1) := by decide +kernel
theorem d_X_join_17 : decode b_X_join 17 = .ok (.aload_n 0, 1) := by decide +kernel
theorem d_X_join_18 : decode b_X_join 18 = .ok (.getfield 37, 3) := by decide +kernel
theorem d_X_join_21 : decode b_X_join 21 = .ok (.aload_n 0, 1) := by decide +kernel
theorem d_X_join_22 : decode b_X_join 22 = .ok (.getfield 24, 3) := by decide +kernel
theorem d_X_join_25 : decode b_X_join 25 = .ok (.iload_n 1, 1) := by decide +kernel
theorem d_X_join_26 : decode b_X_join 26 = .ok (.aaload, 1) := by decide +kernel
theorem d_X_join_27 : decode b_X_join 27 = .ok (.invokevirtual 61, 3) := by decide +kernel
theorem d_X_join_30 : decode b_X_join 30 = .ok (.aload_n 0, 1) := by decide +kernel
theorem d_X_join_31 : decode b_X_join 31 = .ok (.getfield 40, 3) := by decide +kernel
theorem d_X_join_34 : decode b_X_join 34 = .ok (.aload_n 0, 1) := by decide +kernel
theorem d_X_join_35 : decode b_X_join 35 = .ok (.getfield 24, 3) := by decide +kernel
theorem d_X_join_38 : decode b_X_join 38 = .ok (.iload_n 2, 1) := by decide +kernel
theorem d_X_join_39 : decode b_X_join 39 = .ok (.aaload, 1) := by decide +kernel
theorem d_X_join_40 : decode b_X_join 40 = .ok (.invokevirtual 61, 3) := by decide +kernel
theorem d_X_join_43 : decode b_X_join 43 = .ok (.aload_n 0, 1) := by decide +kernel
theorem d_X_join_44 : decode b_X_join 44 = .ok (.getfield 24, 3) := by decide +kernel
theorem d_X_join_47 : decode b_X_join 47 = .ok (.iload_n 3, 1) := by decide +kernel
theorem d_X_join_48 : decode b_X_join 48 = .ok (.aaload, 1) := by decide +kernel
theorem d_X_join_49 : decode b_X_join 49 = .ok (.astore 5, 2) := by decide +kernel
theorem d_X_join_51 : decode b_X_join 51 = .ok (.aload 5, 2) := by decide +kernel
theorem d_X_join_53 : decode b_X_join 53 = .ok (.invokevirtual 65, 3) := by decide +kernel
theorem d_X_join_56 : decode b_X_join 56 = .ok (.aload_n 0, 1) := by decide +kernel
theorem d_X_join_57 : decode b_X_join 57 = .ok (.iconst 0, 1) := by decide +kernel
theorem d_X_join_58 : decode b_X_join 58 = .ok (.aload_n 0, 1) := by decide +kernel
theorem d_X_join_59 : decode b_X_join 59 = .ok (.getfield 37, 3) := by decide +kernel
theorem d_X_join_62 : decode b_X_join 62 = .ok (.getfield 50, 3) := by decide +kernel
theorem d_X_join_65 : decode b_X_join 65 = .ok (.iconst 0, 1) := by decide +kernel
theorem d_X_join_66 : decode b_X_join 66 = .ok (.aload_n 0, 1) := by decide +kernel
theorem d_X_join_67 : decode b_X_join 67 = .ok (.getfield 40, 3) := by decide +kernel
theorem d_X_join_70 : decode b_X_join 70 = .ok (.getfield 50, 3) := by decide +kernel
theorem d_X_join_73 : decode b_X_join 73 = .ok (.iconst 0, 1) := by decide +kernel
theorem d_X_join_74 : decode b_X_join 74 = .ok (.aload 5, 2) := by decide +kernel
theorem d_X_join_76 : decode b_X_join 76 = .ok (.invokevirtual 113, 3) := by decide +kernel
theorem d_X_join_79 : decode b_X_join 79 = .ok (.lstore 6, 2) := by decide +kernel
theorem d_X_join_81 : decode b_X_join 81 = .ok (.aload_n 0, 1) := by decide +kernel
theorem d_X_join_82 : decode b_X_join 82 = .ok (.iload_n 3, 1) := by decide +kernel
theorem d_X_join_83 : decode b_X_join 83 = .ok (.lload 6, 2) := by decide +kernel
theorem d_X_join_85 : decode b_X_join 85 = .ok (.aload 5, 2) := by decide +kernel
theorem d_X_join_87 : decode b_X_join 87 = .ok (.getfield 50, 3) := by decide +kernel
theorem d_X_join_90 : decode b_X_join 90 = .ok (.invokestatic 68, 3) := by decide +kernel
theorem d_X_join_93 : decode b_X_join 93 = .ok (.i2l, 1) := by decide +kernel
theorem d_X_join_94 : decode b_X_join 94 = .ok (.ladd, 1) := by decide +kernel
theorem d_X_join_95 : decode b_X_join 95 = .ok (.invokevirtual 72, 3) := by decide +kernel
theorem d_X_join_98 : decode b_X_join 98 = .ok (.ireturn, 1) := by decide +kernel
theorem d_X_transfers_0 : decode b_X_transfers 0 = .ok (.aload_n 0, 1) := by decide +kernel
theorem d_X_transfers_1 : decode b_X_transfers 1 = .ok (.getfield 46, 3) := by decide +kernel
theorem d_X_transfers_4 : decode b_X_transfers 4 = .ok (.lreturn, 1) := by decide +kernel
theorem d_X_blocks_0 : decode b_X_blocks 0 = .ok (.iconst 0, 1) := by decide +kernel
theorem d_X_blocks_1 : decode b_X_blocks 1 = .ok (.istore_n 1, 1) := by decide +kernel
theorem d_X_blocks_2 : decode b_X_blocks 2 = .ok (.iconst 0, 1) := by decide +kernel
theorem d_X_blocks_3 : decode b_X_blocks 3 = .ok (.istore_n 2, 1) := by decide +kernel
theorem d_X_blocks_4 : decode b_X_blocks 4 = .ok (.iload_n 2, 1) := by decide +kernel
theorem d_X_blocks_5 : decode b_X_blocks 5 = .ok (.bipush 8, 2) := by decide +kernel
theorem d_X_blocks_7 : decode b_X_blocks 7 = .ok (.if_icmp .ge 33, 3) := by decide +kernel
theorem d_X_blocks_10 : decode b_X_blocks 10 = .ok (.aload_n 0, 1) := by decide +kernel
theorem d_X_blocks_11 : decode b_X_blocks 11 = .ok (.getfield 29, 3) := by decide +kernel
theorem d_X_blocks_14 : decode b_X_blocks 14 = .ok (.iload_n 2, 1) := by decide +kernel
theorem d_X_blocks_15 : decode b_X_blocks 15 = .ok (.baload, 1) := by decide +kernel
theorem d_X_blocks_16 : decode b_X_blocks 16 = .ok (.ifCond .eq 18, 3) := by decide +kernel
theorem d_X_blocks_19 : decode b_X_blocks 19 = .ok (.iload_n 1, 1) := by decide +kernel
theorem d_X_blocks_20 : decode b_X_blocks 20 = .ok (.aload_n 0, 1) := by decide +kernel
theorem d_X_blocks_21 : decode b_X_blocks 21 = .ok (.getfield 24, 3) := by decide +kernel
theorem d_X_blocks_24 : decode b_X_blocks 24 = .ok (.iload_n 2, 1) := by decide +kernel
theorem d_X_blocks_25 : decode b_X_blocks 25 = .ok (.aaload, 1) := by decide +kernel
theorem d_X_blocks_26 : decode b_X_blocks 26 = .ok (.getfield 50, 3) := by decide +kernel
theorem d_X_blocks_29 : decode b_X_blocks 29 = .ok (.invokestatic 68, 3) := by decide +kernel
theorem d_X_blocks_32 : decode b_X_blocks 32 = .ok (.iadd, 1) := by decide +kernel
theorem d_X_blocks_33 : decode b_X_blocks 33 = .ok (.istore_n 1, 1) := by decide +kernel
theorem d_X_blocks_34 : decode b_X_blocks 34 = .ok (.iinc 2 1, 3) := by decide +kernel
theorem d_X_blocks_37 : decode b_X_blocks 37 = .ok (.goto (-33), 3) := by decide +kernel
theorem d_X_blocks_40 : decode b_X_blocks 40 = .ok (.iload_n 1, 1) := by decide +kernel
theorem d_X_blocks_41 : decode b_X_blocks 41 = .ok (.ireturn, 1) := by decide +kernel
theorem d_X_isSlot_0 : decode b_X_isSlot 0 = .ok (.iload_n 0, 1) := by decide +kernel
theorem d_X_isSlot_1 : decode b_X_isSlot 1 = .ok (.ifCond .lt 13, 3) := by decide +kernel
theorem d_X_isSlot_4 : decode b_X_isSlot 4 = .ok (.iload_n 0, 1) := by decide +kernel
theorem d_X_isSlot_5 : decode b_X_isSlot 5 = .ok (.bipush 8, 2) := by decide +kernel
theorem d_X_isSlot_7 : decode b_X_isSlot 7 = .ok (.if_icmp .ge 7, 3) := by decide +kernel
theorem d_X_isSlot_10 : decode b_X_isSlot 10 = .ok (.iconst 1, 1) := by decide +kernel
theorem d_X_isSlot_11 : decode b_X_isSlot 11 = .ok (.goto 4, 3) := by decide +kernel
theorem d_X_isSlot_14 : decode b_X_isSlot 14 = .ok (.iconst 0, 1) := by decide +kernel
theorem d_X_isSlot_15 : decode b_X_isSlot 15 = .ok (.ireturn, 1) := by decide +kernel
theorem d_X_holdsTable_0 : decode b_X_holdsTable 0 = .ok (.iload_n 1, 1) := by decide +kernel
theorem d_X_holdsTable_1 : decode b_X_holdsTable 1 = .ok (.invokestatic 57, 3) := by decide +kernel
theorem d_X_holdsTable_4 : decode b_X_holdsTable 4 = .ok (.ifCond .eq 16, 3) := by decide +kernel
theorem d_X_holdsTable_7 : decode b_X_holdsTable 7 = .ok (.aload_n 0, 1) := by decide +kernel
theorem d_X_holdsTable_8 : decode b_X_holdsTable 8 = .ok (.getfield 29, 3) := by decide +kernel
theorem d_X_holdsTable_11 : decode b_X_holdsTable 11 = .ok (.iload_n 1, 1) := by decide +kernel
theorem d_X_holdsTable_12 : decode b_X_holdsTable 12 = .ok (.baload, 1) := by decide +kernel
theorem d_X_holdsTable_13 : decode b_X_holdsTable 13 = .ok (.ifCond .eq 7, 3) := by decide +kernel
theorem d_X_holdsTable_16 : decode b_X_holdsTable 16 = .ok (.iconst 1, 1) := by decide +kernel
theorem d_X_holdsTable_17 : decode b_X_holdsTable 17 = .ok (.goto 4, 3) := by decide +kernel
theorem d_X_holdsTable_20 : decode b_X_holdsTable 20 = .ok (.iconst 0, 1) := by decide +kernel
theorem d_X_holdsTable_21 : decode b_X_holdsTable 21 = .ok (.ireturn, 1) := by decide +kernel
theorem d_X_holdsRow_0 : decode b_X_holdsRow 0 = .ok (.aload_n 0, 1) := by decide +kernel
theorem d_X_holdsRow_1 : decode b_X_holdsRow 1 = .ok (.iload_n 1, 1) := by decide +kernel
theorem d_X_holdsRow_2 : decode b_X_holdsRow 2 = .ok (.invokevirtual 76, 3) := by decide +kernel
theorem d_X_holdsRow_5 : decode b_X_holdsRow 5 = .ok (.ifCond .eq 24, 3) := by decide +kernel
theorem d_X_holdsRow_8 : decode b_X_holdsRow 8 = .ok (.iload_n 2, 1) := by decide +kernel
theorem d_X_holdsRow_9 : decode b_X_holdsRow 9 = .ok (.ifCond .lt 20, 3) := by decide +kernel
theorem d_X_holdsRow_12 : decode b_X_holdsRow 12 = .ok (.iload_n 2, 1) := by decide +kernel
theorem d_X_holdsRow_13 : decode b_X_holdsRow 13 = .ok (.aload_n 0, 1) := by decide +kernel
theorem d_X_holdsRow_14 : decode b_X_holdsRow 14 = .ok (.getfield 24, 3) := by decide +kernel
theorem d_X_holdsRow_17 : decode b_X_holdsRow 17 = .ok (.iload_n 1, 1) := by decide +kernel
theorem d_X_holdsRow_18 : decode b_X_holdsRow 18 = .ok (.aaload, 1) := by decide +kernel
theorem d_X_holdsRow_19 : decode b_X_holdsRow 19 = .ok (.getfield 50, 3) := by decide +kernel
theorem d_X_holdsRow_22 : decode b_X_holdsRow 22 = .ok (.if_icmp .ge 7, 3) := by decide +kernel
theorem d_X_holdsRow_25 : decode b_X_holdsRow 25 = .ok (.iconst 1, 1) := by decide +kernel
theorem d_X_holdsRow_26 : decode b_X_holdsRow 26 = .ok (.goto 4, 3) := by decide +kernel
theorem d_X_holdsRow_29 : decode b_X_holdsRow 29 = .ok (.iconst 0, 1) := by decide +kernel
theorem d_X_holdsRow_30 : decode b_X_holdsRow 30 = .ok (.ireturn, 1) := by decide +kernel
end
section
theorem d_X_refusalOf_0 : decode b_X_refusalOf 0 = .ok (.iload_n 1, 1) := by decide +kernel
theorem d_X_refusalOf_1 : decode b_X_refusalOf 1 = .ok (.invokestatic 57, 3) := by decide +kernel
theorem d_X_refusalOf_4 : decode b_X_refusalOf 4 = .ok (.ifCond .eq 17, 3) := by decide +kernel
theorem d_X_refusalOf_7 : decode b_X_refusalOf 7 = .ok (.iload_n 2, 1) := by decide +kernel
theorem d_X_refusalOf_8 : decode b_X_refusalOf 8 = .ok (.invokestatic 57, 3) := by decide +kernel
theorem d_X_refusalOf_11 : decode b_X_refusalOf 11 = .ok (.ifCond .eq 10, 3) := by decide +kernel
theorem d_X_refusalOf_14 : decode b_X_refusalOf 14 = .ok (.iload_n 3, 1) := by decide +kernel
theorem d_X_refusalOf_15 : decode b_X_refusalOf 15 = .ok (.invokestatic 57, 3) := by decide +kernel
theorem d_X_refusalOf_18 : decode b_X_refusalOf 18 = .ok (.ifCond .ne 5, 3) := by decide +kernel
theorem d_X_refusalOf_21 : decode b_X_refusalOf 21 = .ok (.iconst (-1), 1) := by decide +kernel
theorem d_X_refusalOf_22 : decode b_X_refusalOf 22 = .ok (.ireturn, 1) := by decide +kernel
theorem d_X_refusalOf_23 : decode b_X_refusalOf 23 = .ok (.aload_n 0, 1) := by decide +kernel
theorem d_X_refusalOf_24 : decode b_X_refusalOf 24 = .ok (.getfield 29, 3) := by decide +kernel
theorem d_X_refusalOf_27 : decode b_X_refusalOf 27 = .ok (.iload_n 1, 1) := by decide +kernel
theorem d_X_refusalOf_28 : decode b_X_refusalOf 28 = .ok (.baload, 1) := by decide +kernel
theorem d_X_refusalOf_29 : decode b_X_refusalOf 29 = .ok (.ifCond .eq 12, 3) := by decide +kernel
theorem d_X_refusalOf_32 : decode b_X_refusalOf 32 = .ok (.aload_n 0, 1) := by decide +kernel
theorem d_X_refusalOf_33 : decode b_X_refusalOf 33 = .ok (.getfield 29, 3) := by decide +kernel
theorem d_X_refusalOf_36 : decode b_X_refusalOf 36 = .ok (.iload_n 2, 1) := by decide +kernel
theorem d_X_refusalOf_37 : decode b_X_refusalOf 37 = .ok (.baload, 1) := by decide +kernel
theorem d_X_refusalOf_38 : decode b_X_refusalOf 38 = .ok (.ifCond .ne 6, 3) := by decide +kernel
theorem d_X_refusalOf_41 : decode b_X_refusalOf 41 = .ok (.bipush (-2), 2) := by decide +kernel
theorem d_X_refusalOf_43 : decode b_X_refusalOf 43 = .ok (.ireturn, 1) := by decide +kernel
theorem d_X_refusalOf_44 : decode b_X_refusalOf 44 = .ok (.aload_n 0, 1) := by decide +kernel
theorem d_X_refusalOf_45 : decode b_X_refusalOf 45 = .ok (.getfield 29, 3) := by decide +kernel
theorem d_X_refusalOf_48 : decode b_X_refusalOf 48 = .ok (.iload_n 3, 1) := by decide +kernel
theorem d_X_refusalOf_49 : decode b_X_refusalOf 49 = .ok (.baload, 1) := by decide +kernel
theorem d_X_refusalOf_50 : decode b_X_refusalOf 50 = .ok (.ifCond .eq 6, 3) := by decide +kernel
theorem d_X_refusalOf_53 : decode b_X_refusalOf 53 = .ok (.bipush (-3), 2) := by decide +kernel
theorem d_X_refusalOf_55 : decode b_X_refusalOf 55 = .ok (.ireturn, 1) := by decide +kernel
theorem d_X_refusalOf_56 : decode b_X_refusalOf 56 = .ok (.iconst 0, 1) := by decide +kernel
theorem d_X_refusalOf_57 : decode b_X_refusalOf 57 = .ok (.ireturn, 1) := by decide +kernel
theorem d_X_finish_0 : decode b_X_finish 0 = .ok (.aload_n 0, 1) := by decide +kernel
theorem d_X_finish_1 : decode b_X_finish 1 = .ok (.getfield 24, 3) := by decide +kernel
theorem d_X_finish_4 : decode b_X_finish 4 = .ok (.iload_n 1, 1) := by decide +kernel
theorem d_X_finish_5 : decode b_X_finish 5 = .ok (.aaload, 1) := by decide +kernel
theorem d_X_finish_6 : decode b_X_finish 6 = .ok (.astore 4, 2) := by decide +kernel
theorem d_X_finish_8 : decode b_X_finish 8 = .ok (.aload 4, 2) := by decide +kernel
theorem d_X_finish_10 : decode b_X_finish 10 = .ok (.getfield 117, 3) := by decide +kernel
theorem d_X_finish_13 : decode b_X_finish 13 = .ok (.ifCond .eq 6, 3) := by decide +kernel
theorem d_X_finish_16 : decode b_X_finish 16 = .ok (.bipush (-4), 2) := by decide +kernel
theorem d_X_finish_18 : decode b_X_finish 18 = .ok (.ireturn, 1) := by decide +kernel
theorem d_X_finish_19 : decode b_X_finish 19 = .ok (.aload_n 0, 1) := by decide +kernel
theorem d_X_finish_20 : decode b_X_finish 20 = .ok (.getfield 29, 3) := by decide +kernel
theorem d_X_finish_23 : decode b_X_finish 23 = .ok (.iload_n 1, 1) := by decide +kernel
theorem d_X_finish_24 : decode b_X_finish 24 = .ok (.iconst 1, 1) := by decide +kernel
theorem d_X_finish_25 : decode b_X_finish 25 = .ok (.bastore, 1) := by decide +kernel
theorem d_X_finish_26 : decode b_X_finish 26 = .ok (.aload_n 0, 1) := by decide +kernel
theorem d_X_finish_27 : decode b_X_finish 27 = .ok (.dup, 1) := by decide +kernel
theorem d_X_finish_28 : decode b_X_finish 28 = .ok (.getfield 46, 3) := by decide +kernel
theorem d_X_finish_31 : decode b_X_finish 31 = .ok (.lload_n 2, 1) := by decide +kernel
theorem d_X_finish_32 : decode b_X_finish 32 = .ok (.ladd, 1) := by decide +kernel
theorem d_X_finish_33 : decode b_X_finish 33 = .ok (.putfield 46, 3) := by decide +kernel
theorem d_X_finish_36 : decode b_X_finish 36 = .ok (.aload 4, 2) := by decide +kernel
theorem d_X_finish_38 : decode b_X_finish 38 = .ok (.getfield 50, 3) := by decide +kernel
theorem d_X_finish_41 : decode b_X_finish 41 = .ok (.ireturn, 1) := by decide +kernel
theorem d_X_sizeOf_0 : decode b_X_sizeOf 0 = .ok (.iload_n 0, 1) := by decide +kernel
theorem d_X_sizeOf_1 : decode b_X_sizeOf 1 = .ok (.iconst 4, 1) := by decide +kernel
theorem d_X_sizeOf_2 : decode b_X_sizeOf 2 = .ok (.invokestatic 121, 3) := by decide +kernel
theorem d_X_sizeOf_5 : decode b_X_sizeOf 5 = .ok (.ireturn, 1) := by decide +kernel
theorem d_X_dividedUp_0 : decode b_X_dividedUp 0 = .ok (.iload_n 0, 1) := by decide +kernel
theorem d_X_dividedUp_1 : decode b_X_dividedUp 1 = .ok (.iload_n 1, 1) := by decide +kernel
theorem d_X_dividedUp_2 : decode b_X_dividedUp 2 = .ok (.iadd, 1) := by decide +kernel
theorem d_X_dividedUp_3 : decode b_X_dividedUp 3 = .ok (.iconst 1, 1) := by decide +kernel
theorem d_X_dividedUp_4 : decode b_X_dividedUp 4 = .ok (.isub, 1) := by decide +kernel
theorem d_X_dividedUp_5 : decode b_X_dividedUp 5 = .ok (.iload_n 1, 1) := by decide +kernel
theorem d_X_dividedUp_6 : decode b_X_dividedUp 6 = .ok (.idiv, 1) := by decide +kernel
theorem d_X_dividedUp_7 : decode b_X_dividedUp 7 = .ok (.ireturn, 1) := by decide +kernel
theorem d_X_sortCost_0 : decode b_X_sortCost 0 = .ok (.iload_n 1, 1) := by decide +kernel
theorem d_X_sortCost_1 : decode b_X_sortCost 1 = .ok (.invokestatic 68, 3) := by decide +kernel
theorem d_X_sortCost_4 : decode b_X_sortCost 4 = .ok (.istore_n 2, 1) := by decide +kernel
theorem d_X_sortCost_5 : decode b_X_sortCost 5 = .ok (.iload_n 2, 1) := by decide +kernel
theorem d_X_sortCost_6 : decode b_X_sortCost 6 = .ok (.aload_n 0, 1) := by decide +kernel
theorem d_X_sortCost_7 : decode b_X_sortCost 7 = .ok (.getfield 18, 3) := by decide +kernel
theorem d_X_sortCost_10 : decode b_X_sortCost 10 = .ok (.invokestatic 121, 3) := by decide +kernel
theorem d_X_sortCost_13 : decode b_X_sortCost 13 = .ok (.istore_n 3, 1) := by decide +kernel
theorem d_X_sortCost_14 : decode b_X_sortCost 14 = .ok (.iconst 0, 1) := by decide +kernel
theorem d_X_sortCost_15 : decode b_X_sortCost 15 = .ok (.istore 4, 2) := by decide +kernel
theorem d_X_sortCost_17 : decode b_X_sortCost 17 = .ok (.iload_n 3, 1) := by decide +kernel
theorem d_X_sortCost_18 : decode b_X_sortCost 18 = .ok (.iconst 1, 1) := by decide +kernel
theorem d_X_sortCost_19 : decode b_X_sortCost 19 = .ok (.if_icmp .le 27, 3) := by decide +kernel
theorem d_X_sortCost_22 : decode b_X_sortCost 22 = .ok (.iload 4, 2) := by decide +kernel
theorem d_X_sortCost_24 : decode b_X_sortCost 24 = .ok (.bipush 60, 2) := by decide +kernel
theorem d_X_sortCost_26 : decode b_X_sortCost 26 = .ok (.if_icmp .ge 20, 3) := by decide +kernel
theorem d_X_sortCost_29 : decode b_X_sortCost 29 = .ok (.iload_n 3, 1) := by decide +kernel
theorem d_X_sortCost_30 : decode b_X_sortCost 30 = .ok (.aload_n 0, 1) := by decide +kernel
theorem d_X_sortCost_31 : decode b_X_sortCost 31 = .ok (.getfield 18, 3) := by decide +kernel
theorem d_X_sortCost_34 : decode b_X_sortCost 34 = .ok (.iconst 1, 1) := by decide +kernel
theorem d_X_sortCost_35 : decode b_X_sortCost 35 = .ok (.isub, 1) := by decide +kernel
theorem d_X_sortCost_36 : decode b_X_sortCost 36 = .ok (.invokestatic 121, 3) := by decide +kernel
theorem d_X_sortCost_39 : decode b_X_sortCost 39 = .ok (.istore_n 3, 1) := by decide +kernel
theorem d_X_sortCost_40 : decode b_X_sortCost 40 = .ok (.iinc 4 1, 3) := by decide +kernel
theorem d_X_sortCost_43 : decode b_X_sortCost 43 = .ok (.goto (-26), 3) := by decide +kernel
theorem d_X_sortCost_46 : decode b_X_sortCost 46 = .ok (.ldc2_w 124, 3) := by decide +kernel
theorem d_X_sortCost_49 : decode b_X_sortCost 49 = .ok (.iload_n 2, 1) := by decide +kernel
theorem d_X_sortCost_50 : decode b_X_sortCost 50 = .ok (.i2l, 1) := by decide +kernel
theorem d_X_sortCost_51 : decode b_X_sortCost 51 = .ok (.lmul, 1) := by decide +kernel
theorem d_X_sortCost_52 : decode b_X_sortCost 52 = .ok (.iconst 1, 1) := by decide +kernel
theorem d_X_sortCost_53 : decode b_X_sortCost 53 = .ok (.iload 4, 2) := by decide +kernel
theorem d_X_sortCost_55 : decode b_X_sortCost 55 = .ok (.iadd, 1) := by decide +kernel
theorem d_X_sortCost_56 : decode b_X_sortCost 56 = .ok (.i2l, 1) := by decide +kernel
theorem d_X_sortCost_57 : decode b_X_sortCost 57 = .ok (.lmul, 1) := by decide +kernel
theorem d_X_sortCost_58 : decode b_X_sortCost 58 = .ok (.lreturn, 1) := by decide +kernel
theorem d_X_rowsInMemory_0 : decode b_X_rowsInMemory 0 = .ok (.iconst 4, 1) := by decide +kernel
theorem d_X_rowsInMemory_1 : decode b_X_rowsInMemory 1 = .ok (.aload_n 0, 1) := by decide +kernel
theorem d_X_rowsInMemory_2 : decode b_X_rowsInMemory 2 = .ok (.getfield 18, 3) := by decide +kernel
theorem d_X_rowsInMemory_5 : decode b_X_rowsInMemory 5 = .ok (.iconst 2, 1) := by decide +kernel
theorem d_X_rowsInMemory_6 : decode b_X_rowsInMemory 6 = .ok (.isub, 1) := by decide +kernel
theorem d_X_rowsInMemory_7 : decode b_X_rowsInMemory 7 = .ok (.imul, 1) := by decide +kernel
theorem d_X_rowsInMemory_8 : decode b_X_rowsInMemory 8 = .ok (.ireturn, 1) := by decide +kernel
theorem d_X_groupOneRound_0 : decode b_X_groupOneRound 0 = .ok (.aload_n 2, 1) := by decide +kernel
theorem d_X_groupOneRound_1 : decode b_X_groupOneRound 1 = .ok (.getfield 50, 3) := by decide +kernel
theorem d_X_groupOneRound_4 : decode b_X_groupOneRound 4 = .ok (.istore_n 3, 1) := by decide +kernel
theorem d_X_groupOneRound_5 : decode b_X_groupOneRound 5 = .ok (.iconst 0, 1) := by decide +kernel
theorem d_X_groupOneRound_6 : decode b_X_groupOneRound 6 = .ok (.istore 4, 2) := by decide +kernel
theorem d_X_groupOneRound_8 : decode b_X_groupOneRound 8 = .ok (.iconst 0, 1) := by decide +kernel
theorem d_X_groupOneRound_9 : decode b_X_groupOneRound 9 = .ok (.istore 5, 2) := by decide +kernel
theorem d_X_groupOneRound_11 : decode b_X_groupOneRound 11 = .ok (.iload 5, 2) := by decide +kernel
theorem d_X_groupOneRound_13 : decode b_X_groupOneRound 13 = .ok (.aload_n 1, 1) := by decide +kernel
theorem d_X_groupOneRound_14 : decode b_X_groupOneRound 14 = .ok (.getfield 50, 3) := by decide +kernel
theorem d_X_groupOneRound_17 : decode b_X_groupOneRound 17 = .ok (.if_icmp .ge 111, 3) := by decide +kernel
theorem d_X_groupOneRound_20 : decode b_X_groupOneRound 20 = .ok (.aload_n 1, 1) := by decide +kernel
theorem d_X_groupOneRound_21 : decode b_X_groupOneRound 21 = .ok (.getfield 83, 3) := by decide +kernel
theorem d_X_groupOneRound_24 : decode b_X_groupOneRound 24 = .ok (.iload 5, 2) := by decide +kernel
theorem d_X_groupOneRound_26 : decode b_X_groupOneRound 26 = .ok (.iaload, 1) := by decide +kernel
theorem d_X_groupOneRound_27 : decode b_X_groupOneRound 27 = .ok (.istore 6, 2) := by decide +kernel
theorem d_X_groupOneRound_29 : decode b_X_groupOneRound 29 = .ok (.aload_n 2, 1) := by decide +kernel
theorem d_X_groupOneRound_30 : decode b_X_groupOneRound 30 = .ok (.iload 6, 2) := by decide +kernel
theorem d_X_groupOneRound_32 : decode b_X_groupOneRound 32 = .ok (.iload_n 3, 1) := by decide +kernel
theorem d_X_groupOneRound_33 : decode b_X_groupOneRound 33 = .ok (.invokevirtual 126, 3) := by decide +kernel
theorem d_X_groupOneRound_36 : decode b_X_groupOneRound 36 = .ok (.istore 7, 2) := by decide +kernel
theorem d_X_groupOneRound_38 : decode b_X_groupOneRound 38 = .ok (.iload 7, 2) := by decide +kernel
theorem d_X_groupOneRound_40 : decode b_X_groupOneRound 40 = .ok (.aload_n 2, 1) := by decide +kernel
theorem d_X_groupOneRound_41 : decode b_X_groupOneRound 41 = .ok (.getfield 50, 3) := by decide +kernel
theorem d_X_groupOneRound_44 : decode b_X_groupOneRound 44 = .ok (.if_icmp .ge 23, 3) := by decide +kernel
theorem d_X_groupOneRound_47 : decode b_X_groupOneRound 47 = .ok (.aload_n 2, 1) := by decide +kernel
theorem d_X_groupOneRound_48 : decode b_X_groupOneRound 48 = .ok (.getfield 87, 3) := by decide +kernel
theorem d_X_groupOneRound_51 : decode b_X_groupOneRound 51 = .ok (.iload 7, 2) := by decide +kernel
theorem d_X_groupOneRound_53 : decode b_X_groupOneRound 53 = .ok (.dup2, 1) := by decide +kernel
theorem d_X_groupOneRound_54 : decode b_X_groupOneRound 54 = .ok (.iaload, 1) := by decide +kernel
theorem d_X_groupOneRound_55 : decode b_X_groupOneRound 55 = .ok (.aload_n 1, 1) := by decide +kernel
theorem d_X_groupOneRound_56 : decode b_X_groupOneRound 56 = .ok (.getfield 87, 3) := by decide +kernel
theorem d_X_groupOneRound_59 : decode b_X_groupOneRound 59 = .ok (.iload 5, 2) := by decide +kernel
theorem d_X_groupOneRound_61 : decode b_X_groupOneRound 61 = .ok (.iaload, 1) := by decide +kernel
theorem d_X_groupOneRound_62 : decode b_X_groupOneRound 62 = .ok (.iadd, 1) := by decide +kernel
theorem d_X_groupOneRound_63 : decode b_X_groupOneRound 63 = .ok (.iastore, 1) := by decide +kernel
theorem d_X_groupOneRound_64 : decode b_X_groupOneRound 64 = .ok (.goto 58, 3) := by decide +kernel
theorem d_X_groupOneRound_67 : decode b_X_groupOneRound 67 = .ok (.aload_n 2, 1) := by decide +kernel
theorem d_X_groupOneRound_68 : decode b_X_groupOneRound 68 = .ok (.getfield 50, 3) := by decide +kernel
theorem d_X_groupOneRound_71 : decode b_X_groupOneRound 71 = .ok (.iload_n 3, 1) := by decide +kernel
theorem d_X_groupOneRound_72 : decode b_X_groupOneRound 72 = .ok (.isub, 1) := by decide +kernel
theorem d_X_groupOneRound_73 : decode b_X_groupOneRound 73 = .ok (.aload_n 0, 1) := by decide +kernel
theorem d_X_groupOneRound_74 : decode b_X_groupOneRound 74 = .ok (.invokevirtual 129, 3) := by decide +kernel
theorem d_X_groupOneRound_77 : decode b_X_groupOneRound 77 = .ok (.if_icmp .ge 19, 3) := by decide +kernel
theorem d_X_groupOneRound_80 : decode b_X_groupOneRound 80 = .ok (.aload_n 2, 1) := by decide +kernel
theorem d_X_groupOneRound_81 : decode b_X_groupOneRound 81 = .ok (.iload 6, 2) := by decide +kernel
theorem d_X_groupOneRound_83 : decode b_X_groupOneRound 83 = .ok (.aload_n 1, 1) := by decide +kernel
theorem d_X_groupOneRound_84 : decode b_X_groupOneRound 84 = .ok (.getfield 87, 3) := by decide +kernel
theorem d_X_groupOneRound_87 : decode b_X_groupOneRound 87 = .ok (.iload 5, 2) := by decide +kernel
theorem d_X_groupOneRound_89 : decode b_X_groupOneRound 89 = .ok (.iaload, 1) := by decide +kernel
theorem d_X_groupOneRound_90 : decode b_X_groupOneRound 90 = .ok (.invokevirtual 53, 3) := by decide +kernel
theorem d_X_groupOneRound_93 : decode b_X_groupOneRound 93 = .ok (.goto 29, 3) := by decide +kernel
theorem d_X_groupOneRound_96 : decode b_X_groupOneRound 96 = .ok (.aload_n 1, 1) := by decide +kernel
theorem d_X_groupOneRound_97 : decode b_X_groupOneRound 97 = .ok (.getfield 83, 3) := by decide +kernel
theorem d_X_groupOneRound_100 : decode b_X_groupOneRound 100 = .ok (.iload 4, 2) := by decide +kernel
theorem d_X_groupOneRound_102 : decode b_X_groupOneRound 102 = .ok (.iload 6, 2) := by decide +kernel
theorem d_X_groupOneRound_104 : decode b_X_groupOneRound 104 = .ok (.iastore, 1) := by decide +kernel
theorem d_X_groupOneRound_105 : decode b_X_groupOneRound 105 = .ok (.aload_n 1, 1) := by decide +kernel
theorem d_X_groupOneRound_106 : decode b_X_groupOneRound 106 = .ok (.getfield 87, 3) := by decide +kernel
theorem d_X_groupOneRound_109 : decode b_X_groupOneRound 109 = .ok (.iload 4, 2) := by decide +kernel
theorem d_X_groupOneRound_111 : decode b_X_groupOneRound 111 = .ok (.aload_n 1, 1) := by decide +kernel
theorem d_X_groupOneRound_112 : decode b_X_groupOneRound 112 = .ok (.getfield 87, 3) := by decide +kernel
theorem d_X_groupOneRound_115 : decode b_X_groupOneRound 115 = .ok (.iload 5, 2) := by decide +kernel
theorem d_X_groupOneRound_117 : decode b_X_groupOneRound 117 = .ok (.iaload, 1) := by decide +kernel
theorem d_X_groupOneRound_118 : decode b_X_groupOneRound 118 = .ok (.iastore, 1) := by decide +kernel
theorem d_X_groupOneRound_119 : decode b_X_groupOneRound 119 = .ok (.iinc 4 1, 3) := by decide +kernel
theorem d_X_groupOneRound_122 : decode b_X_groupOneRound 122 = .ok (.iinc 5 1, 3) := by decide +kernel
theorem d_X_groupOneRound_125 : decode b_X_groupOneRound 125 = .ok (.goto (-114), 3) := by decide +kernel
theorem d_X_groupOneRound_128 : decode b_X_groupOneRound 128 = .ok (.aload_n 1, 1) := by decide +kernel
theorem d_X_groupOneRound_129 : decode b_X_groupOneRound 129 = .ok (.iload 4, 2) := by decide +kernel
theorem d_X_groupOneRound_131 : decode b_X_groupOneRound 131 = .ok (.putfield 50, 3) := by decide +kernel
theorem d_X_groupOneRound_134 : decode b_X_groupOneRound 134 = .ok (.return_, 1) := by decide +kernel
theorem d_X_mergeBags_0 : decode b_X_mergeBags 0 = .ok (.iconst 0, 1) := by decide +kernel
theorem d_X_mergeBags_1 : decode b_X_mergeBags 1 = .ok (.istore_n 3, 1) := by decide +kernel
theorem d_X_mergeBags_2 : decode b_X_mergeBags 2 = .ok (.iconst 0, 1) := by decide +kernel
theorem d_X_mergeBags_3 : decode b_X_mergeBags 3 = .ok (.istore 4, 2) := by decide +kernel
theorem d_X_mergeBags_5 : decode b_X_mergeBags 5 = .ok (.iconst 0, 1) := by decide +kernel
theorem d_X_mergeBags_6 : decode b_X_mergeBags 6 = .ok (.istore 5, 2) := by decide +kernel
theorem d_X_mergeBags_8 : decode b_X_mergeBags 8 = .ok (.iload 5, 2) := by decide +kernel
theorem d_X_mergeBags_10 : decode b_X_mergeBags 10 = .ok (.bipush 120, 2) := by decide +kernel
theorem d_X_mergeBags_12 : decode b_X_mergeBags 12 = .ok (.if_icmp .ge 177, 3) := by decide +kernel
theorem d_X_mergeBags_15 : decode b_X_mergeBags 15 = .ok (.iload_n 3, 1) := by decide +kernel
theorem d_X_mergeBags_16 : decode b_X_mergeBags 16 = .ok (.aload_n 0, 1) := by decide +kernel
theorem d_X_mergeBags_17 : decode b_X_mergeBags 17 = .ok (.getfield 37, 3) := by decide +kernel
theorem d_X_mergeBags_20 : decode b_X_mergeBags 20 = .ok (.getfield 50, 3) := by decide +kernel
theorem d_X_mergeBags_23 : decode b_X_mergeBags 23 = .ok (.if_icmp .lt 18, 3) := by decide +kernel
theorem d_X_mergeBags_26 : decode b_X_mergeBags 26 = .ok (.iload 4, 2) := by decide +kernel
theorem d_X_mergeBags_28 : decode b_X_mergeBags 28 = .ok (.aload_n 0, 1) := by decide +kernel
theorem d_X_mergeBags_29 : decode b_X_mergeBags 29 = .ok (.getfield 40, 3) := by decide +kernel
theorem d_X_mergeBags_32 : decode b_X_mergeBags 32 = .ok (.getfield 50, 3) := by decide +kernel
theorem d_X_mergeBags_35 : decode b_X_mergeBags 35 = .ok (.if_icmp .lt 6, 3) := by decide +kernel
theorem d_X_mergeBags_38 : decode b_X_mergeBags 38 = .ok (.goto 151, 3) := by decide +kernel
theorem d_X_mergeBags_41 : decode b_X_mergeBags 41 = .ok (.aload_n 0, 1) := by decide +kernel
theorem d_X_mergeBags_42 : decode b_X_mergeBags 42 = .ok (.iload_n 3, 1) := by decide +kernel
theorem d_X_mergeBags_43 : decode b_X_mergeBags 43 = .ok (.iload 4, 2) := by decide +kernel
theorem d_X_mergeBags_45 : decode b_X_mergeBags 45 = .ok (.invokevirtual 133, 3) := by decide +kernel
theorem d_X_mergeBags_48 : decode b_X_mergeBags 48 = .ok (.istore 6, 2) := by decide +kernel
theorem d_X_mergeBags_50 : decode b_X_mergeBags 50 = .ok (.iload 6, 2) := by decide +kernel
theorem d_X_mergeBags_52 : decode b_X_mergeBags 52 = .ok (.ifCond .eq 15, 3) := by decide +kernel
theorem d_X_mergeBags_55 : decode b_X_mergeBags 55 = .ok (.aload_n 0, 1) := by decide +kernel
theorem d_X_mergeBags_56 : decode b_X_mergeBags 56 = .ok (.getfield 37, 3) := by decide +kernel
theorem d_X_mergeBags_59 : decode b_X_mergeBags 59 = .ok (.getfield 83, 3) := by decide +kernel
theorem d_X_mergeBags_62 : decode b_X_mergeBags 62 = .ok (.iload_n 3, 1) := by decide +kernel
theorem d_X_mergeBags_63 : decode b_X_mergeBags 63 = .ok (.iaload, 1) := by decide +kernel
theorem d_X_mergeBags_64 : decode b_X_mergeBags 64 = .ok (.goto 13, 3) := by decide +kernel
theorem d_X_mergeBags_67 : decode b_X_mergeBags 67 = .ok (.aload_n 0, 1) := by decide +kernel
theorem d_X_mergeBags_68 : decode b_X_mergeBags 68 = .ok (.getfield 40, 3) := by decide +kernel
theorem d_X_mergeBags_71 : decode b_X_mergeBags 71 = .ok (.getfield 83, 3) := by decide +kernel
theorem d_X_mergeBags_74 : decode b_X_mergeBags 74 = .ok (.iload 4, 2) := by decide +kernel
theorem d_X_mergeBags_76 : decode b_X_mergeBags 76 = .ok (.iaload, 1) := by decide +kernel
theorem d_X_mergeBags_77 : decode b_X_mergeBags 77 = .ok (.istore 7, 2) := by decide +kernel
theorem d_X_mergeBags_79 : decode b_X_mergeBags 79 = .ok (.iload 6, 2) := by decide +kernel
theorem d_X_mergeBags_81 : decode b_X_mergeBags 81 = .ok (.ifCond .eq 15, 3) := by decide +kernel
theorem d_X_mergeBags_84 : decode b_X_mergeBags 84 = .ok (.aload_n 0, 1) := by decide +kernel
theorem d_X_mergeBags_85 : decode b_X_mergeBags 85 = .ok (.getfield 37, 3) := by decide +kernel
theorem d_X_mergeBags_88 : decode b_X_mergeBags 88 = .ok (.getfield 87, 3) := by decide +kernel
theorem d_X_mergeBags_91 : decode b_X_mergeBags 91 = .ok (.iload_n 3, 1) := by decide +kernel
theorem d_X_mergeBags_92 : decode b_X_mergeBags 92 = .ok (.iaload, 1) := by decide +kernel
theorem d_X_mergeBags_93 : decode b_X_mergeBags 93 = .ok (.goto 13, 3) := by decide +kernel
theorem d_X_mergeBags_96 : decode b_X_mergeBags 96 = .ok (.aload_n 0, 1) := by decide +kernel
theorem d_X_mergeBags_97 : decode b_X_mergeBags 97 = .ok (.getfield 40, 3) := by decide +kernel
theorem d_X_mergeBags_100 : decode b_X_mergeBags 100 = .ok (.getfield 87, 3) := by decide +kernel
theorem d_X_mergeBags_103 : decode b_X_mergeBags 103 = .ok (.iload 4, 2) := by decide +kernel
theorem d_X_mergeBags_105 : decode b_X_mergeBags 105 = .ok (.iaload, 1) := by decide +kernel
theorem d_X_mergeBags_106 : decode b_X_mergeBags 106 = .ok (.istore 8, 2) := by decide +kernel
theorem d_X_mergeBags_108 : decode b_X_mergeBags 108 = .ok (.aload_n 0, 1) := by decide +kernel
theorem d_X_mergeBags_109 : decode b_X_mergeBags 109 = .ok (.getfield 37, 3) := by decide +kernel
theorem d_X_mergeBags_112 : decode b_X_mergeBags 112 = .ok (.iload_n 3, 1) := by decide +kernel
theorem d_X_mergeBags_113 : decode b_X_mergeBags 113 = .ok (.iload 7, 2) := by decide +kernel
theorem d_X_mergeBags_115 : decode b_X_mergeBags 115 = .ok (.iload 8, 2) := by decide +kernel
theorem d_X_mergeBags_117 : decode b_X_mergeBags 117 = .ok (.invokevirtual 136, 3) := by decide +kernel
theorem d_X_mergeBags_120 : decode b_X_mergeBags 120 = .ok (.istore 9, 2) := by decide +kernel
theorem d_X_mergeBags_122 : decode b_X_mergeBags 122 = .ok (.aload_n 0, 1) := by decide +kernel
theorem d_X_mergeBags_123 : decode b_X_mergeBags 123 = .ok (.getfield 40, 3) := by decide +kernel
theorem d_X_mergeBags_126 : decode b_X_mergeBags 126 = .ok (.iload 4, 2) := by decide +kernel
theorem d_X_mergeBags_128 : decode b_X_mergeBags 128 = .ok (.iload 7, 2) := by decide +kernel
theorem d_X_mergeBags_130 : decode b_X_mergeBags 130 = .ok (.iload 8, 2) := by decide +kernel
theorem d_X_mergeBags_132 : decode b_X_mergeBags 132 = .ok (.invokevirtual 136, 3) := by decide +kernel
theorem d_X_mergeBags_135 : decode b_X_mergeBags 135 = .ok (.istore 10, 2) := by decide +kernel
theorem d_X_mergeBags_137 : decode b_X_mergeBags 137 = .ok (.iload_n 1, 1) := by decide +kernel
theorem d_X_mergeBags_138 : decode b_X_mergeBags 138 = .ok (.iload 9, 2) := by decide +kernel
theorem d_X_mergeBags_140 : decode b_X_mergeBags 140 = .ok (.iload 10, 2) := by decide +kernel
theorem d_X_mergeBags_142 : decode b_X_mergeBags 142 = .ok (.invokestatic 139, 3) := by decide +kernel
theorem d_X_mergeBags_145 : decode b_X_mergeBags 145 = .ok (.istore 11, 2) := by decide +kernel
theorem d_X_mergeBags_147 : decode b_X_mergeBags 147 = .ok (.iconst 0, 1) := by decide +kernel
theorem d_X_mergeBags_148 : decode b_X_mergeBags 148 = .ok (.istore 12, 2) := by decide +kernel
theorem d_X_mergeBags_150 : decode b_X_mergeBags 150 = .ok (.iload 12, 2) := by decide +kernel
theorem d_X_mergeBags_152 : decode b_X_mergeBags 152 = .ok (.iload 11, 2) := by decide +kernel
theorem d_X_mergeBags_154 : decode b_X_mergeBags 154 = .ok (.if_icmp .ge 17, 3) := by decide +kernel
theorem d_X_mergeBags_157 : decode b_X_mergeBags 157 = .ok (.aload_n 2, 1) := by decide +kernel
theorem d_X_mergeBags_158 : decode b_X_mergeBags 158 = .ok (.iload 7, 2) := by decide +kernel
theorem d_X_mergeBags_160 : decode b_X_mergeBags 160 = .ok (.iload 8, 2) := by decide +kernel
theorem d_X_mergeBags_162 : decode b_X_mergeBags 162 = .ok (.invokevirtual 53, 3) := by decide +kernel
theorem d_X_mergeBags_165 : decode b_X_mergeBags 165 = .ok (.iinc 12 1, 3) := by decide +kernel
theorem d_X_mergeBags_168 : decode b_X_mergeBags 168 = .ok (.goto (-18), 3) := by decide +kernel
theorem d_X_mergeBags_171 : decode b_X_mergeBags 171 = .ok (.iload_n 3, 1) := by decide +kernel
theorem d_X_mergeBags_172 : decode b_X_mergeBags 172 = .ok (.iload 9, 2) := by decide +kernel
theorem d_X_mergeBags_174 : decode b_X_mergeBags 174 = .ok (.iadd, 1) := by decide +kernel
theorem d_X_mergeBags_175 : decode b_X_mergeBags 175 = .ok (.istore_n 3, 1) := by decide +kernel
theorem d_X_mergeBags_176 : decode b_X_mergeBags 176 = .ok (.iload 4, 2) := by decide +kernel
theorem d_X_mergeBags_178 : decode b_X_mergeBags 178 = .ok (.iload 10, 2) := by decide +kernel
theorem d_X_mergeBags_180 : decode b_X_mergeBags 180 = .ok (.iadd, 1) := by decide +kernel
theorem d_X_mergeBags_181 : decode b_X_mergeBags 181 = .ok (.istore 4, 2) := by decide +kernel
theorem d_X_mergeBags_183 : decode b_X_mergeBags 183 = .ok (.iinc 5 1, 3) := by decide +kernel
theorem d_X_mergeBags_186 : decode b_X_mergeBags 186 = .ok (.goto (-178), 3) := by decide +kernel
theorem d_X_mergeBags_189 : decode b_X_mergeBags 189 = .ok (.return_, 1) := by decide +kernel
theorem d_X_isNextFromA_0 : decode b_X_isNextFromA 0 = .ok (.iload_n 1, 1) := by decide +kernel
theorem d_X_isNextFromA_1 : decode b_X_isNextFromA 1 = .ok (.aload_n 0, 1) := by decide +kernel
theorem d_X_isNextFromA_2 : decode b_X_isNextFromA 2 = .ok (.getfield 37, 3) := by decide +kernel
theorem d_X_isNextFromA_5 : decode b_X_isNextFromA 5 = .ok (.getfield 50, 3) := by decide +kernel
theorem d_X_isNextFromA_8 : decode b_X_isNextFromA 8 = .ok (.if_icmp .lt 5, 3) := by decide +kernel
theorem d_X_isNextFromA_11 : decode b_X_isNextFromA 11 = .ok (.iconst 0, 1) := by decide +kernel
theorem d_X_isNextFromA_12 : decode b_X_isNextFromA 12 = .ok (.ireturn, 1) := by decide +kernel
theorem d_X_isNextFromA_13 : decode b_X_isNextFromA 13 = .ok (.iload_n 2, 1) := by decide +kernel
theorem d_X_isNextFromA_14 : decode b_X_isNextFromA 14 = .ok (.aload_n 0, 1) := by decide +kernel
theorem d_X_isNextFromA_15 : decode b_X_isNextFromA 15 = .ok (.getfield 40, 3) := by decide +kernel
theorem d_X_isNextFromA_18 : decode b_X_isNextFromA 18 = .ok (.getfield 50, 3) := by decide +kernel
theorem d_X_isNextFromA_21 : decode b_X_isNextFromA 21 = .ok (.if_icmp .lt 5, 3) := by decide +kernel
theorem d_X_isNextFromA_24 : decode b_X_isNextFromA 24 = .ok (.iconst 1, 1) := by decide +kernel
theorem d_X_isNextFromA_25 : decode b_X_isNextFromA 25 = .ok (.ireturn, 1) := by decide +kernel
theorem d_X_isNextFromA_26 : decode b_X_isNextFromA 26 = .ok (.iconst 2, 1) := by decide +kernel
theorem d_X_isNextFromA_27 : decode b_X_isNextFromA 27 = .ok (.aload_n 0, 1) := by decide +kernel
theorem d_X_isNextFromA_28 : decode b_X_isNextFromA 28 = .ok (.getfield 37, 3) := by decide +kernel
theorem d_X_isNextFromA_31 : decode b_X_isNextFromA 31 = .ok (.getfield 83, 3) := by decide +kernel
theorem d_X_isNextFromA_34 : decode b_X_isNextFromA 34 = .ok (.iload_n 1, 1) := by decide +kernel
theorem d_X_isNextFromA_35 : decode b_X_isNextFromA 35 = .ok (.iaload, 1) := by decide +kernel
theorem d_X_isNextFromA_36 : decode b_X_isNextFromA 36 = .ok (.aload_n 0, 1) := by decide +kernel
theorem d_X_isNextFromA_37 : decode b_X_isNextFromA 37 = .ok (.getfield 37, 3) := by decide +kernel
theorem d_X_isNextFromA_40 : decode b_X_isNextFromA 40 = .ok (.getfield 87, 3) := by decide +kernel
theorem d_X_isNextFromA_43 : decode b_X_isNextFromA 43 = .ok (.iload_n 1, 1) := by decide +kernel
theorem d_X_isNextFromA_44 : decode b_X_isNextFromA 44 = .ok (.iaload, 1) := by decide +kernel
theorem d_X_isNextFromA_45 : decode b_X_isNextFromA 45 = .ok (.aload_n 0, 1) := by decide +kernel
theorem d_X_isNextFromA_46 : decode b_X_isNextFromA 46 = .ok (.getfield 40, 3) := by decide +kernel
theorem d_X_isNextFromA_49 : decode b_X_isNextFromA 49 = .ok (.getfield 83, 3) := by decide +kernel
theorem d_X_isNextFromA_52 : decode b_X_isNextFromA 52 = .ok (.iload_n 2, 1) := by decide +kernel
theorem d_X_isNextFromA_53 : decode b_X_isNextFromA 53 = .ok (.iaload, 1) := by decide +kernel
theorem d_X_isNextFromA_54 : decode b_X_isNextFromA 54 = .ok (.aload_n 0, 1) := by decide +kernel
theorem d_X_isNextFromA_55 : decode b_X_isNextFromA 55 = .ok (.getfield 40, 3) := by decide +kernel
theorem d_X_isNextFromA_58 : decode b_X_isNextFromA 58 = .ok (.getfield 87, 3) := by decide +kernel
theorem d_X_isNextFromA_61 : decode b_X_isNextFromA 61 = .ok (.iload_n 2, 1) := by decide +kernel
theorem d_X_isNextFromA_62 : decode b_X_isNextFromA 62 = .ok (.iaload, 1) := by decide +kernel
theorem d_X_isNextFromA_63 : decode b_X_isNextFromA 63 = .ok (.invokestatic 142, 3) := by decide +kernel
theorem d_X_isNextFromA_66 : decode b_X_isNextFromA 66 = .ok (.istore_n 3, 1) := by decide +kernel
theorem d_X_isNextFromA_67 : decode b_X_isNextFromA 67 = .ok (.iload_n 3, 1) := by decide +kernel
theorem d_X_isNextFromA_68 : decode b_X_isNextFromA 68 = .ok (.ifCond .gt 7, 3) := by decide +kernel
theorem d_X_isNextFromA_71 : decode b_X_isNextFromA 71 = .ok (.iconst 1, 1) := by decide +kernel
theorem d_X_isNextFromA_72 : decode b_X_isNextFromA 72 = .ok (.goto 4, 3) := by decide +kernel
theorem d_X_isNextFromA_75 : decode b_X_isNextFromA 75 = .ok (.iconst 0, 1) := by decide +kernel
theorem d_X_isNextFromA_76 : decode b_X_isNextFromA 76 = .ok (.ireturn, 1) := by decide +kernel
theorem d_X_timesInResult_0 : decode b_X_timesInResult 0 = .ok (.iload_n 0, 1) := by decide +kernel
theorem d_X_timesInResult_1 : decode b_X_timesInResult 1 = .ok (.tableswitch 47 0 2 #[27, 33, 39], 27) := by decide +kernel
theorem d_X_timesInResult_28 : decode b_X_timesInResult 28 = .ok (.iload_n 1, 1) := by decide +kernel
theorem d_X_timesInResult_29 : decode b_X_timesInResult 29 = .ok (.iload_n 2, 1) := by decide +kernel
theorem d_X_timesInResult_30 : decode b_X_timesInResult 30 = .ok (.invokestatic 9, 3) := by decide +kernel
theorem d_X_timesInResult_33 : decode b_X_timesInResult 33 = .ok (.ireturn, 1) := by decide +kernel
theorem d_X_timesInResult_34 : decode b_X_timesInResult 34 = .ok (.iload_n 1, 1) := by decide +kernel
theorem d_X_timesInResult_35 : decode b_X_timesInResult 35 = .ok (.iload_n 2, 1) := by decide +kernel
theorem d_X_timesInResult_36 : decode b_X_timesInResult 36 = .ok (.invokestatic 15, 3) := by decide +kernel
theorem d_X_timesInResult_39 : decode b_X_timesInResult 39 = .ok (.ireturn, 1) := by decide +kernel
theorem d_X_timesInResult_40 : decode b_X_timesInResult 40 = .ok (.iload_n 1, 1) := by decide +kernel
theorem d_X_timesInResult_41 : decode b_X_timesInResult 41 = .ok (.iload_n 2, 1) := by decide +kernel
theorem d_X_timesInResult_42 : decode b_X_timesInResult 42 = .ok (.isub, 1) := by decide +kernel
theorem d_X_timesInResult_43 : decode b_X_timesInResult 43 = .ok (.iconst 0, 1) := by decide +kernel
theorem d_X_timesInResult_44 : decode b_X_timesInResult 44 = .ok (.invokestatic 9, 3) := by decide +kernel
theorem d_X_timesInResult_47 : decode b_X_timesInResult 47 = .ok (.ireturn, 1) := by decide +kernel
theorem d_X_timesInResult_48 : decode b_X_timesInResult 48 = .ok (.iload_n 1, 1) := by decide +kernel
theorem d_X_timesInResult_49 : decode b_X_timesInResult 49 = .ok (.iload_n 2, 1) := by decide +kernel
theorem d_X_timesInResult_50 : decode b_X_timesInResult 50 = .ok (.iadd, 1) := by decide +kernel
theorem d_X_timesInResult_51 : decode b_X_timesInResult 51 = .ok (.ireturn, 1) := by decide +kernel
theorem d_X_joinRanges_0 : decode b_X_joinRanges 0 = .ok (.iload_n 1, 1) := by decide +kernel
theorem d_X_joinRanges_1 : decode b_X_joinRanges 1 = .ok (.iload_n 2, 1) := by decide +kernel
theorem d_X_joinRanges_2 : decode b_X_joinRanges 2 = .ok (.if_icmp .ge 9, 3) := by decide +kernel
theorem d_X_joinRanges_5 : decode b_X_joinRanges 5 = .ok (.iload_n 3, 1) := by decide +kernel
theorem d_X_joinRanges_6 : decode b_X_joinRanges 6 = .ok (.iload 4, 2) := by decide +kernel
theorem d_X_joinRanges_8 : decode b_X_joinRanges 8 = .ok (.if_icmp .lt 5, 3) := by decide +kernel
theorem d_X_joinRanges_11 : decode b_X_joinRanges 11 = .ok (.lconst 0, 1) := by decide +kernel
theorem d_X_joinRanges_12 : decode b_X_joinRanges 12 = .ok (.lreturn, 1) := by decide +kernel
theorem d_X_joinRanges_13 : decode b_X_joinRanges 13 = .ok (.iload 5, 2) := by decide +kernel
theorem d_X_joinRanges_15 : decode b_X_joinRanges 15 = .ok (.iconst 3, 1) := by decide +kernel
theorem d_X_joinRanges_16 : decode b_X_joinRanges 16 = .ok (.if_icmp .ge 14, 3) := by decide +kernel
theorem d_X_joinRanges_19 : decode b_X_joinRanges 19 = .ok (.iload 4, 2) := by decide +kernel
theorem d_X_joinRanges_21 : decode b_X_joinRanges 21 = .ok (.iload_n 3, 1) := by decide +kernel
theorem d_X_joinRanges_22 : decode b_X_joinRanges 22 = .ok (.isub, 1) := by decide +kernel
theorem d_X_joinRanges_23 : decode b_X_joinRanges 23 = .ok (.aload_n 0, 1) := by decide +kernel
theorem d_X_joinRanges_24 : decode b_X_joinRanges 24 = .ok (.invokevirtual 129, 3) := by decide +kernel
theorem d_X_joinRanges_27 : decode b_X_joinRanges 27 = .ok (.if_icmp .gt 15, 3) := by decide +kernel
theorem d_X_joinRanges_30 : decode b_X_joinRanges 30 = .ok (.aload_n 0, 1) := by decide +kernel
theorem d_X_joinRanges_31 : decode b_X_joinRanges 31 = .ok (.iload_n 1, 1) := by decide +kernel
theorem d_X_joinRanges_32 : decode b_X_joinRanges 32 = .ok (.iload_n 2, 1) := by decide +kernel
theorem d_X_joinRanges_33 : decode b_X_joinRanges 33 = .ok (.iload_n 3, 1) := by decide +kernel
theorem d_X_joinRanges_34 : decode b_X_joinRanges 34 = .ok (.iload 4, 2) := by decide +kernel
theorem d_X_joinRanges_36 : decode b_X_joinRanges 36 = .ok (.aload 6, 2) := by decide +kernel
theorem d_X_joinRanges_38 : decode b_X_joinRanges 38 = .ok (.invokevirtual 146, 3) := by decide +kernel
theorem d_X_joinRanges_41 : decode b_X_joinRanges 41 = .ok (.lreturn, 1) := by decide +kernel
theorem d_X_joinRanges_42 : decode b_X_joinRanges 42 = .ok (.aload_n 0, 1) := by decide +kernel
theorem d_X_joinRanges_43 : decode b_X_joinRanges 43 = .ok (.aload_n 0, 1) := by decide +kernel
theorem d_X_joinRanges_44 : decode b_X_joinRanges 44 = .ok (.getfield 37, 3) := by decide +kernel
theorem d_X_joinRanges_47 : decode b_X_joinRanges 47 = .ok (.aload_n 0, 1) := by decide +kernel
theorem d_X_joinRanges_48 : decode b_X_joinRanges 48 = .ok (.getfield 37, 3) := by decide +kernel
theorem d_X_joinRanges_51 : decode b_X_joinRanges 51 = .ok (.getfield 87, 3) := by decide +kernel
theorem d_X_joinRanges_54 : decode b_X_joinRanges 54 = .ok (.iload_n 1, 1) := by decide +kernel
theorem d_X_joinRanges_55 : decode b_X_joinRanges 55 = .ok (.iload_n 2, 1) := by decide +kernel
theorem d_X_joinRanges_56 : decode b_X_joinRanges 56 = .ok (.iload 5, 2) := by decide +kernel
theorem d_X_joinRanges_58 : decode b_X_joinRanges 58 = .ok (.invokevirtual 150, 3) := by decide +kernel
theorem d_X_joinRanges_61 : decode b_X_joinRanges 61 = .ok (.aload_n 0, 1) := by decide +kernel
theorem d_X_joinRanges_62 : decode b_X_joinRanges 62 = .ok (.aload_n 0, 1) := by decide +kernel
theorem d_X_joinRanges_63 : decode b_X_joinRanges 63 = .ok (.getfield 40, 3) := by decide +kernel
theorem d_X_joinRanges_66 : decode b_X_joinRanges 66 = .ok (.aload_n 0, 1) := by decide +kernel
theorem d_X_joinRanges_67 : decode b_X_joinRanges 67 = .ok (.getfield 40, 3) := by decide +kernel
theorem d_X_joinRanges_70 : decode b_X_joinRanges 70 = .ok (.getfield 83, 3) := by decide +kernel
theorem d_X_joinRanges_73 : decode b_X_joinRanges 73 = .ok (.iload_n 3, 1) := by decide +kernel
theorem d_X_joinRanges_74 : decode b_X_joinRanges 74 = .ok (.iload 4, 2) := by decide +kernel
theorem d_X_joinRanges_76 : decode b_X_joinRanges 76 = .ok (.iload 5, 2) := by decide +kernel
theorem d_X_joinRanges_78 : decode b_X_joinRanges 78 = .ok (.invokevirtual 150, 3) := by decide +kernel
theorem d_X_joinRanges_81 : decode b_X_joinRanges 81 = .ok (.iload_n 2, 1) := by decide +kernel
theorem d_X_joinRanges_82 : decode b_X_joinRanges 82 = .ok (.iload_n 1, 1) := by decide +kernel
theorem d_X_joinRanges_83 : decode b_X_joinRanges 83 = .ok (.isub, 1) := by decide +kernel
theorem d_X_joinRanges_84 : decode b_X_joinRanges 84 = .ok (.invokestatic 68, 3) := by decide +kernel
theorem d_X_joinRanges_87 : decode b_X_joinRanges 87 = .ok (.iload 4, 2) := by decide +kernel
theorem d_X_joinRanges_89 : decode b_X_joinRanges 89 = .ok (.iload_n 3, 1) := by decide +kernel
theorem d_X_joinRanges_90 : decode b_X_joinRanges 90 = .ok (.isub, 1) := by decide +kernel
theorem d_X_joinRanges_91 : decode b_X_joinRanges 91 = .ok (.invokestatic 68, 3) := by decide +kernel
theorem d_X_joinRanges_94 : decode b_X_joinRanges 94 = .ok (.iadd, 1) := by decide +kernel
theorem d_X_joinRanges_95 : decode b_X_joinRanges 95 = .ok (.i2l, 1) := by decide +kernel
theorem d_X_joinRanges_96 : decode b_X_joinRanges 96 = .ok (.lstore 7, 2) := by decide +kernel
theorem d_X_joinRanges_98 : decode b_X_joinRanges 98 = .ok (.iload_n 1, 1) := by decide +kernel
theorem d_X_joinRanges_99 : decode b_X_joinRanges 99 = .ok (.istore 9, 2) := by decide +kernel
theorem d_X_joinRanges_101 : decode b_X_joinRanges 101 = .ok (.iload_n 3, 1) := by decide +kernel
theorem d_X_joinRanges_102 : decode b_X_joinRanges 102 = .ok (.istore 10, 2) := by decide +kernel
theorem d_X_joinRanges_104 : decode b_X_joinRanges 104 = .ok (.iconst 0, 1) := by decide +kernel
theorem d_X_joinRanges_105 : decode b_X_joinRanges 105 = .ok (.istore 11, 2) := by decide +kernel
theorem d_X_joinRanges_107 : decode b_X_joinRanges 107 = .ok (.iload 11, 2) := by decide +kernel
theorem d_X_joinRanges_109 : decode b_X_joinRanges 109 = .ok (.aload_n 0, 1) := by decide +kernel
theorem d_X_joinRanges_110 : decode b_X_joinRanges 110 = .ok (.getfield 18, 3) := by decide +kernel
theorem d_X_joinRanges_113 : decode b_X_joinRanges 113 = .ok (.iconst 1, 1) := by decide +kernel
theorem d_X_joinRanges_114 : decode b_X_joinRanges 114 = .ok (.isub, 1) := by decide +kernel
theorem d_X_joinRanges_115 : decode b_X_joinRanges 115 = .ok (.if_icmp .ge 104, 3) := by decide +kernel
theorem d_X_joinRanges_118 : decode b_X_joinRanges 118 = .ok (.aload_n 0, 1) := by decide +kernel
theorem d_X_joinRanges_119 : decode b_X_joinRanges 119 = .ok (.aload_n 0, 1) := by decide +kernel
theorem d_X_joinRanges_120 : decode b_X_joinRanges 120 = .ok (.getfield 37, 3) := by decide +kernel
theorem d_X_joinRanges_123 : decode b_X_joinRanges 123 = .ok (.getfield 87, 3) := by decide +kernel
theorem d_X_joinRanges_126 : decode b_X_joinRanges 126 = .ok (.iload 9, 2) := by decide +kernel
theorem d_X_joinRanges_128 : decode b_X_joinRanges 128 = .ok (.iload_n 2, 1) := by decide +kernel
theorem d_X_joinRanges_129 : decode b_X_joinRanges 129 = .ok (.iload 5, 2) := by decide +kernel
theorem d_X_joinRanges_131 : decode b_X_joinRanges 131 = .ok (.iload 11, 2) := by decide +kernel
theorem d_X_joinRanges_133 : decode b_X_joinRanges 133 = .ok (.invokevirtual 154, 3) := by decide +kernel
theorem d_X_joinRanges_136 : decode b_X_joinRanges 136 = .ok (.istore 12, 2) := by decide +kernel
theorem d_X_joinRanges_138 : decode b_X_joinRanges 138 = .ok (.aload_n 0, 1) := by decide +kernel
theorem d_X_joinRanges_139 : decode b_X_joinRanges 139 = .ok (.aload_n 0, 1) := by decide +kernel
theorem d_X_joinRanges_140 : decode b_X_joinRanges 140 = .ok (.getfield 40, 3) := by decide +kernel
theorem d_X_joinRanges_143 : decode b_X_joinRanges 143 = .ok (.getfield 83, 3) := by decide +kernel
theorem d_X_joinRanges_146 : decode b_X_joinRanges 146 = .ok (.iload 10, 2) := by decide +kernel
theorem d_X_joinRanges_148 : decode b_X_joinRanges 148 = .ok (.iload 4, 2) := by decide +kernel
theorem d_X_joinRanges_150 : decode b_X_joinRanges 150 = .ok (.iload 5, 2) := by decide +kernel
theorem d_X_joinRanges_152 : decode b_X_joinRanges 152 = .ok (.iload 11, 2) := by decide +kernel
theorem d_X_joinRanges_154 : decode b_X_joinRanges 154 = .ok (.invokevirtual 154, 3) := by decide +kernel
theorem d_X_joinRanges_157 : decode b_X_joinRanges 157 = .ok (.istore 13, 2) := by decide +kernel
theorem d_X_joinRanges_159 : decode b_X_joinRanges 159 = .ok (.lload 7, 2) := by decide +kernel
theorem d_X_joinRanges_161 : decode b_X_joinRanges 161 = .ok (.iload 12, 2) := by decide +kernel
theorem d_X_joinRanges_163 : decode b_X_joinRanges 163 = .ok (.iload 9, 2) := by decide +kernel
theorem d_X_joinRanges_165 : decode b_X_joinRanges 165 = .ok (.isub, 1) := by decide +kernel
theorem d_X_joinRanges_166 : decode b_X_joinRanges 166 = .ok (.invokestatic 68, 3) := by decide +kernel
theorem d_X_joinRanges_169 : decode b_X_joinRanges 169 = .ok (.iload 13, 2) := by decide +kernel
theorem d_X_joinRanges_171 : decode b_X_joinRanges 171 = .ok (.iload 10, 2) := by decide +kernel
theorem d_X_joinRanges_173 : decode b_X_joinRanges 173 = .ok (.isub, 1) := by decide +kernel
theorem d_X_joinRanges_174 : decode b_X_joinRanges 174 = .ok (.invokestatic 68, 3) := by decide +kernel
theorem d_X_joinRanges_177 : decode b_X_joinRanges 177 = .ok (.iadd, 1) := by decide +kernel
theorem d_X_joinRanges_178 : decode b_X_joinRanges 178 = .ok (.i2l, 1) := by decide +kernel
theorem d_X_joinRanges_179 : decode b_X_joinRanges 179 = .ok (.ladd, 1) := by decide +kernel
theorem d_X_joinRanges_180 : decode b_X_joinRanges 180 = .ok (.lstore 7, 2) := by decide +kernel
theorem d_X_joinRanges_182 : decode b_X_joinRanges 182 = .ok (.lload 7, 2) := by decide +kernel
theorem d_X_joinRanges_184 : decode b_X_joinRanges 184 = .ok (.aload_n 0, 1) := by decide +kernel
theorem d_X_joinRanges_185 : decode b_X_joinRanges 185 = .ok (.iload 9, 2) := by decide +kernel
theorem d_X_joinRanges_187 : decode b_X_joinRanges 187 = .ok (.iload 12, 2) := by decide +kernel
theorem d_X_joinRanges_189 : decode b_X_joinRanges 189 = .ok (.iload 10, 2) := by decide +kernel
theorem d_X_joinRanges_191 : decode b_X_joinRanges 191 = .ok (.iload 13, 2) := by decide +kernel
theorem d_X_joinRanges_193 : decode b_X_joinRanges 193 = .ok (.iload 5, 2) := by decide +kernel
theorem d_X_joinRanges_195 : decode b_X_joinRanges 195 = .ok (.iconst 1, 1) := by decide +kernel
theorem d_X_joinRanges_196 : decode b_X_joinRanges 196 = .ok (.iadd, 1) := by decide +kernel
theorem d_X_joinRanges_197 : decode b_X_joinRanges 197 = .ok (.aload 6, 2) := by decide +kernel
theorem d_X_joinRanges_199 : decode b_X_joinRanges 199 = .ok (.invokevirtual 113, 3) := by decide +kernel
theorem d_X_joinRanges_202 : decode b_X_joinRanges 202 = .ok (.ladd, 1) := by decide +kernel
theorem d_X_joinRanges_203 : decode b_X_joinRanges 203 = .ok (.lstore 7, 2) := by decide +kernel
theorem d_X_joinRanges_205 : decode b_X_joinRanges 205 = .ok (.iload 12, 2) := by decide +kernel
theorem d_X_joinRanges_207 : decode b_X_joinRanges 207 = .ok (.istore 9, 2) := by decide +kernel
theorem d_X_joinRanges_209 : decode b_X_joinRanges 209 = .ok (.iload 13, 2) := by decide +kernel
theorem d_X_joinRanges_211 : decode b_X_joinRanges 211 = .ok (.istore 10, 2) := by decide +kernel
theorem d_X_joinRanges_213 : decode b_X_joinRanges 213 = .ok (.iinc 11 1, 3) := by decide +kernel
theorem d_X_joinRanges_216 : decode b_X_joinRanges 216 = .ok (.goto (-109), 3) := by decide +kernel
theorem d_X_joinRanges_219 : decode b_X_joinRanges 219 = .ok (.lload 7, 2) := by decide +kernel
theorem d_X_joinRanges_221 : decode b_X_joinRanges 221 = .ok (.lreturn, 1) := by decide +kernel
theorem d_X_joinByChunks_0 : decode b_X_joinByChunks 0 = .ok (.aload_n 0, 1) := by decide +kernel
theorem d_X_joinByChunks_1 : decode b_X_joinByChunks 1 = .ok (.invokevirtual 129, 3) := by decide +kernel
theorem d_X_joinByChunks_4 : decode b_X_joinByChunks 4 = .ok (.istore 6, 2) := by decide +kernel
theorem d_X_joinByChunks_6 : decode b_X_joinByChunks 6 = .ok (.iload 4, 2) := by decide +kernel
theorem d_X_joinByChunks_8 : decode b_X_joinByChunks 8 = .ok (.iload_n 3, 1) := by decide +kernel
theorem d_X_joinByChunks_9 : decode b_X_joinByChunks 9 = .ok (.isub, 1) := by decide +kernel
theorem d_X_joinByChunks_10 : decode b_X_joinByChunks 10 = .ok (.iload 6, 2) := by decide +kernel
theorem d_X_joinByChunks_12 : decode b_X_joinByChunks 12 = .ok (.invokestatic 121, 3) := by decide +kernel
theorem d_X_joinByChunks_15 : decode b_X_joinByChunks 15 = .ok (.istore 7, 2) := by decide +kernel
theorem d_X_joinByChunks_17 : decode b_X_joinByChunks 17 = .ok (.iconst 0, 1) := by decide +kernel
theorem d_X_joinByChunks_18 : decode b_X_joinByChunks 18 = .ok (.istore 8, 2) := by decide +kernel
theorem d_X_joinByChunks_20 : decode b_X_joinByChunks 20 = .ok (.iload 8, 2) := by decide +kernel
theorem d_X_joinByChunks_22 : decode b_X_joinByChunks 22 = .ok (.iload 7, 2) := by decide +kernel
theorem d_X_joinByChunks_24 : decode b_X_joinByChunks 24 = .ok (.if_icmp .ge 38, 3) := by decide +kernel
theorem d_X_joinByChunks_27 : decode b_X_joinByChunks 27 = .ok (.iload_n 3, 1) := by decide +kernel
theorem d_X_joinByChunks_28 : decode b_X_joinByChunks 28 = .ok (.iload 8, 2) := by decide +kernel
theorem d_X_joinByChunks_30 : decode b_X_joinByChunks 30 = .ok (.iload 6, 2) := by decide +kernel
theorem d_X_joinByChunks_32 : decode b_X_joinByChunks 32 = .ok (.imul, 1) := by decide +kernel
theorem d_X_joinByChunks_33 : decode b_X_joinByChunks 33 = .ok (.iadd, 1) := by decide +kernel
theorem d_X_joinByChunks_34 : decode b_X_joinByChunks 34 = .ok (.istore 9, 2) := by decide +kernel
theorem d_X_joinByChunks_36 : decode b_X_joinByChunks 36 = .ok (.aload_n 0, 1) := by decide +kernel
theorem d_X_joinByChunks_37 : decode b_X_joinByChunks 37 = .ok (.iload_n 1, 1) := by decide +kernel
theorem d_X_joinByChunks_38 : decode b_X_joinByChunks 38 = .ok (.iload_n 2, 1) := by decide +kernel
theorem d_X_joinByChunks_39 : decode b_X_joinByChunks 39 = .ok (.iload 9, 2) := by decide +kernel
theorem d_X_joinByChunks_41 : decode b_X_joinByChunks 41 = .ok (.iload 9, 2) := by decide +kernel
theorem d_X_joinByChunks_43 : decode b_X_joinByChunks 43 = .ok (.iload 6, 2) := by decide +kernel
theorem d_X_joinByChunks_45 : decode b_X_joinByChunks 45 = .ok (.iadd, 1) := by decide +kernel
theorem d_X_joinByChunks_46 : decode b_X_joinByChunks 46 = .ok (.iload 4, 2) := by decide +kernel
theorem d_X_joinByChunks_48 : decode b_X_joinByChunks 48 = .ok (.invokestatic 15, 3) := by decide +kernel
theorem d_X_joinByChunks_51 : decode b_X_joinByChunks 51 = .ok (.aload 5, 2) := by decide +kernel
theorem d_X_joinByChunks_53 : decode b_X_joinByChunks 53 = .ok (.invokevirtual 158, 3) := by decide +kernel
theorem d_X_joinByChunks_56 : decode b_X_joinByChunks 56 = .ok (.iinc 8 1, 3) := by decide +kernel
theorem d_X_joinByChunks_59 : decode b_X_joinByChunks 59 = .ok (.goto (-39), 3) := by decide +kernel
theorem d_X_joinByChunks_62 : decode b_X_joinByChunks 62 = .ok (.iload 4, 2) := by decide +kernel
theorem d_X_joinByChunks_64 : decode b_X_joinByChunks 64 = .ok (.iload_n 3, 1) := by decide +kernel
theorem d_X_joinByChunks_65 : decode b_X_joinByChunks 65 = .ok (.isub, 1) := by decide +kernel
theorem d_X_joinByChunks_66 : decode b_X_joinByChunks 66 = .ok (.invokestatic 68, 3) := by decide +kernel
theorem d_X_joinByChunks_69 : decode b_X_joinByChunks 69 = .ok (.i2l, 1) := by decide +kernel
theorem d_X_joinByChunks_70 : decode b_X_joinByChunks 70 = .ok (.iload 7, 2) := by decide +kernel
theorem d_X_joinByChunks_72 : decode b_X_joinByChunks 72 = .ok (.i2l, 1) := by decide +kernel
theorem d_X_joinByChunks_73 : decode b_X_joinByChunks 73 = .ok (.iload_n 2, 1) := by decide +kernel
theorem d_X_joinByChunks_74 : decode b_X_joinByChunks 74 = .ok (.iload_n 1, 1) := by decide +kernel
theorem d_X_joinByChunks_75 : decode b_X_joinByChunks 75 = .ok (.isub, 1) := by decide +kernel
theorem d_X_joinByChunks_76 : decode b_X_joinByChunks 76 = .ok (.invokestatic 68, 3) := by decide +kernel
theorem d_X_joinByChunks_79 : decode b_X_joinByChunks 79 = .ok (.i2l, 1) := by decide +kernel
theorem d_X_joinByChunks_80 : decode b_X_joinByChunks 80 = .ok (.lmul, 1) := by decide +kernel
theorem d_X_joinByChunks_81 : decode b_X_joinByChunks 81 = .ok (.ladd, 1) := by decide +kernel
theorem d_X_joinByChunks_82 : decode b_X_joinByChunks 82 = .ok (.lreturn, 1) := by decide +kernel
theorem d_X_joinWithChunk_0 : decode b_X_joinWithChunk 0 = .ok (.iload_n 1, 1) := by decide +kernel
theorem d_X_joinWithChunk_1 : decode b_X_joinWithChunk 1 = .ok (.istore 6, 2) := by decide +kernel
theorem d_X_joinWithChunk_3 : decode b_X_joinWithChunk 3 = .ok (.iload 6, 2) := by decide +kernel
theorem d_X_joinWithChunk_5 : decode b_X_joinWithChunk 5 = .ok (.iload_n 2, 1) := by decide +kernel
theorem d_X_joinWithChunk_6 : decode b_X_joinWithChunk 6 = .ok (.if_icmp .ge 73, 3) := by decide +kernel
theorem d_X_joinWithChunk_9 : decode b_X_joinWithChunk 9 = .ok (.iload_n 3, 1) := by decide +kernel
theorem d_X_joinWithChunk_10 : decode b_X_joinWithChunk 10 = .ok (.istore 7, 2) := by decide +kernel
theorem d_X_joinWithChunk_12 : decode b_X_joinWithChunk 12 = .ok (.iload 7, 2) := by decide +kernel
theorem d_X_joinWithChunk_14 : decode b_X_joinWithChunk 14 = .ok (.iload 4, 2) := by decide +kernel
theorem d_X_joinWithChunk_16 : decode b_X_joinWithChunk 16 = .ok (.if_icmp .ge 57, 3) := by decide +kernel
theorem d_X_joinWithChunk_19 : decode b_X_joinWithChunk 19 = .ok (.aload_n 0, 1) := by decide +kernel
theorem d_X_joinWithChunk_20 : decode b_X_joinWithChunk 20 = .ok (.getfield 37, 3) := by decide +kernel
theorem d_X_joinWithChunk_23 : decode b_X_joinWithChunk 23 = .ok (.getfield 87, 3) := by decide +kernel
theorem d_X_joinWithChunk_26 : decode b_X_joinWithChunk 26 = .ok (.iload 6, 2) := by decide +kernel
theorem d_X_joinWithChunk_28 : decode b_X_joinWithChunk 28 = .ok (.iaload, 1) := by decide +kernel
theorem d_X_joinWithChunk_29 : decode b_X_joinWithChunk 29 = .ok (.aload_n 0, 1) := by decide +kernel
theorem d_X_joinWithChunk_30 : decode b_X_joinWithChunk 30 = .ok (.getfield 40, 3) := by decide +kernel
theorem d_X_joinWithChunk_33 : decode b_X_joinWithChunk 33 = .ok (.getfield 83, 3) := by decide +kernel
theorem d_X_joinWithChunk_36 : decode b_X_joinWithChunk 36 = .ok (.iload 7, 2) := by decide +kernel
theorem d_X_joinWithChunk_38 : decode b_X_joinWithChunk 38 = .ok (.iaload, 1) := by decide +kernel
theorem d_X_joinWithChunk_39 : decode b_X_joinWithChunk 39 = .ok (.if_icmp .ne 28, 3) := by decide +kernel
theorem d_X_joinWithChunk_42 : decode b_X_joinWithChunk 42 = .ok (.aload 5, 2) := by decide +kernel
theorem d_X_joinWithChunk_44 : decode b_X_joinWithChunk 44 = .ok (.aload_n 0, 1) := by decide +kernel
theorem d_X_joinWithChunk_45 : decode b_X_joinWithChunk 45 = .ok (.getfield 37, 3) := by decide +kernel
theorem d_X_joinWithChunk_48 : decode b_X_joinWithChunk 48 = .ok (.getfield 83, 3) := by decide +kernel
theorem d_X_joinWithChunk_51 : decode b_X_joinWithChunk 51 = .ok (.iload 6, 2) := by decide +kernel
theorem d_X_joinWithChunk_53 : decode b_X_joinWithChunk 53 = .ok (.iaload, 1) := by decide +kernel
theorem d_X_joinWithChunk_54 : decode b_X_joinWithChunk 54 = .ok (.aload_n 0, 1) := by decide +kernel
theorem d_X_joinWithChunk_55 : decode b_X_joinWithChunk 55 = .ok (.getfield 40, 3) := by decide +kernel
theorem d_X_joinWithChunk_58 : decode b_X_joinWithChunk 58 = .ok (.getfield 87, 3) := by decide +kernel
theorem d_X_joinWithChunk_61 : decode b_X_joinWithChunk 61 = .ok (.iload 7, 2) := by decide +kernel
theorem d_X_joinWithChunk_63 : decode b_X_joinWithChunk 63 = .ok (.iaload, 1) := by decide +kernel
theorem d_X_joinWithChunk_64 : decode b_X_joinWithChunk 64 = .ok (.invokevirtual 53, 3) := by decide +kernel
theorem d_X_joinWithChunk_67 : decode b_X_joinWithChunk 67 = .ok (.iinc 7 1, 3) := by decide +kernel
theorem d_X_joinWithChunk_70 : decode b_X_joinWithChunk 70 = .ok (.goto (-58), 3) := by decide +kernel
theorem d_X_joinWithChunk_73 : decode b_X_joinWithChunk 73 = .ok (.iinc 6 1, 3) := by decide +kernel
theorem d_X_joinWithChunk_76 : decode b_X_joinWithChunk 76 = .ok (.goto (-73), 3) := by decide +kernel
theorem d_X_joinWithChunk_79 : decode b_X_joinWithChunk 79 = .ok (.return_, 1) := by decide +kernel
theorem d_X_partition_0 : decode b_X_partition 0 = .ok (.aload_n 0, 1) := by decide +kernel
theorem d_X_partition_1 : decode b_X_partition 1 = .ok (.getfield 43, 3) := by decide +kernel
theorem d_X_partition_4 : decode b_X_partition 4 = .ok (.invokevirtual 65, 3) := by decide +kernel
theorem d_X_partition_7 : decode b_X_partition 7 = .ok (.iconst 0, 1) := by decide +kernel
theorem d_X_partition_8 : decode b_X_partition 8 = .ok (.istore 6, 2) := by decide +kernel
theorem d_X_partition_10 : decode b_X_partition 10 = .ok (.iload 6, 2) := by decide +kernel
theorem d_X_partition_12 : decode b_X_partition 12 = .ok (.aload_n 0, 1) := by decide +kernel
theorem d_X_partition_13 : decode b_X_partition 13 = .ok (.getfield 18, 3) := by decide +kernel
theorem d_X_partition_16 : decode b_X_partition 16 = .ok (.iconst 1, 1) := by decide +kernel
theorem d_X_partition_17 : decode b_X_partition 17 = .ok (.isub, 1) := by decide +kernel
theorem d_X_partition_18 : decode b_X_partition 18 = .ok (.if_icmp .ge 61, 3) := by decide +kernel
theorem d_X_partition_21 : decode b_X_partition 21 = .ok (.iload_n 3, 1) := by decide +kernel
theorem d_X_partition_22 : decode b_X_partition 22 = .ok (.istore 7, 2) := by decide +kernel
theorem d_X_partition_24 : decode b_X_partition 24 = .ok (.iload 7, 2) := by decide +kernel
theorem d_X_partition_26 : decode b_X_partition 26 = .ok (.iload 4, 2) := by decide +kernel
theorem d_X_partition_28 : decode b_X_partition 28 = .ok (.if_icmp .ge 45, 3) := by decide +kernel
theorem d_X_partition_31 : decode b_X_partition 31 = .ok (.aload_n 0, 1) := by decide +kernel
theorem d_X_partition_32 : decode b_X_partition 32 = .ok (.aload_n 2, 1) := by decide +kernel
theorem d_X_partition_33 : decode b_X_partition 33 = .ok (.iload 7, 2) := by decide +kernel
theorem d_X_partition_35 : decode b_X_partition 35 = .ok (.iaload, 1) := by decide +kernel
theorem d_X_partition_36 : decode b_X_partition 36 = .ok (.iload 5, 2) := by decide +kernel
theorem d_X_partition_38 : decode b_X_partition 38 = .ok (.invokevirtual 162, 3) := by decide +kernel
theorem d_X_partition_41 : decode b_X_partition 41 = .ok (.iload 6, 2) := by decide +kernel
theorem d_X_partition_43 : decode b_X_partition 43 = .ok (.if_icmp .ne 24, 3) := by decide +kernel
theorem d_X_partition_46 : decode b_X_partition 46 = .ok (.aload_n 0, 1) := by decide +kernel
theorem d_X_partition_47 : decode b_X_partition 47 = .ok (.getfield 43, 3) := by decide +kernel
theorem d_X_partition_50 : decode b_X_partition 50 = .ok (.aload_n 1, 1) := by decide +kernel
theorem d_X_partition_51 : decode b_X_partition 51 = .ok (.getfield 83, 3) := by decide +kernel
theorem d_X_partition_54 : decode b_X_partition 54 = .ok (.iload 7, 2) := by decide +kernel
theorem d_X_partition_56 : decode b_X_partition 56 = .ok (.iaload, 1) := by decide +kernel
theorem d_X_partition_57 : decode b_X_partition 57 = .ok (.aload_n 1, 1) := by decide +kernel
theorem d_X_partition_58 : decode b_X_partition 58 = .ok (.getfield 87, 3) := by decide +kernel
theorem d_X_partition_61 : decode b_X_partition 61 = .ok (.iload 7, 2) := by decide +kernel
theorem d_X_partition_63 : decode b_X_partition 63 = .ok (.iaload, 1) := by decide +kernel
theorem d_X_partition_64 : decode b_X_partition 64 = .ok (.invokevirtual 53, 3) := by decide +kernel
theorem d_X_partition_67 : decode b_X_partition 67 = .ok (.iinc 7 1, 3) := by decide +kernel
theorem d_X_partition_70 : decode b_X_partition 70 = .ok (.goto (-46), 3) := by decide +kernel
theorem d_X_partition_73 : decode b_X_partition 73 = .ok (.iinc 6 1, 3) := by decide +kernel
theorem d_X_partition_76 : decode b_X_partition 76 = .ok (.goto (-66), 3) := by decide +kernel
theorem d_X_partition_79 : decode b_X_partition 79 = .ok (.aload_n 0, 1) := by decide +kernel
theorem d_X_partition_80 : decode b_X_partition 80 = .ok (.getfield 43, 3) := by decide +kernel
theorem d_X_partition_83 : decode b_X_partition 83 = .ok (.getfield 83, 3) := by decide +kernel
theorem d_X_partition_86 : decode b_X_partition 86 = .ok (.iconst 0, 1) := by decide +kernel
theorem d_X_partition_87 : decode b_X_partition 87 = .ok (.aload_n 1, 1) := by decide +kernel
theorem d_X_partition_88 : decode b_X_partition 88 = .ok (.getfield 83, 3) := by decide +kernel
theorem d_X_partition_91 : decode b_X_partition 91 = .ok (.iload_n 3, 1) := by decide +kernel
theorem d_X_partition_92 : decode b_X_partition 92 = .ok (.iload 4, 2) := by decide +kernel
theorem d_X_partition_94 : decode b_X_partition 94 = .ok (.iload_n 3, 1) := by decide +kernel
theorem d_X_partition_95 : decode b_X_partition 95 = .ok (.isub, 1) := by decide +kernel
theorem d_X_partition_96 : decode b_X_partition 96 = .ok (.invokestatic 165, 3) := by decide +kernel
theorem d_X_partition_99 : decode b_X_partition 99 = .ok (.aload_n 0, 1) := by decide +kernel
theorem d_X_partition_100 : decode b_X_partition 100 = .ok (.getfield 43, 3) := by decide +kernel
theorem d_X_partition_103 : decode b_X_partition 103 = .ok (.getfield 87, 3) := by decide +kernel
theorem d_X_partition_106 : decode b_X_partition 106 = .ok (.iconst 0, 1) := by decide +kernel
theorem d_X_partition_107 : decode b_X_partition 107 = .ok (.aload_n 1, 1) := by decide +kernel
theorem d_X_partition_108 : decode b_X_partition 108 = .ok (.getfield 87, 3) := by decide +kernel
theorem d_X_partition_111 : decode b_X_partition 111 = .ok (.iload_n 3, 1) := by decide +kernel
theorem d_X_partition_112 : decode b_X_partition 112 = .ok (.iload 4, 2) := by decide +kernel
theorem d_X_partition_114 : decode b_X_partition 114 = .ok (.iload_n 3, 1) := by decide +kernel
theorem d_X_partition_115 : decode b_X_partition 115 = .ok (.isub, 1) := by decide +kernel
theorem d_X_partition_116 : decode b_X_partition 116 = .ok (.invokestatic 165, 3) := by decide +kernel
theorem d_X_partition_119 : decode b_X_partition 119 = .ok (.return_, 1) := by decide +kernel
theorem d_X_endOfPart_0 : decode b_X_endOfPart 0 = .ok (.iload_n 2, 1) := by decide +kernel
theorem d_X_endOfPart_1 : decode b_X_endOfPart 1 = .ok (.istore 6, 2) := by decide +kernel
theorem d_X_endOfPart_3 : decode b_X_endOfPart 3 = .ok (.iload 6, 2) := by decide +kernel
theorem d_X_endOfPart_5 : decode b_X_endOfPart 5 = .ok (.iload_n 3, 1) := by decide +kernel
theorem d_X_endOfPart_6 : decode b_X_endOfPart 6 = .ok (.if_icmp .ge 24, 3) := by decide +kernel
theorem d_X_endOfPart_9 : decode b_X_endOfPart 9 = .ok (.aload_n 0, 1) := by decide +kernel
theorem d_X_endOfPart_10 : decode b_X_endOfPart 10 = .ok (.aload_n 1, 1) := by decide +kernel
theorem d_X_endOfPart_11 : decode b_X_endOfPart 11 = .ok (.iload 6, 2) := by decide +kernel
theorem d_X_endOfPart_13 : decode b_X_endOfPart 13 = .ok (.iaload, 1) := by decide +kernel
theorem d_X_endOfPart_14 : decode b_X_endOfPart 14 = .ok (.iload 4, 2) := by decide +kernel
theorem d_X_endOfPart_16 : decode b_X_endOfPart 16 = .ok (.invokevirtual 162, 3) := by decide +kernel
theorem d_X_endOfPart_19 : decode b_X_endOfPart 19 = .ok (.iload 5, 2) := by decide +kernel
theorem d_X_endOfPart_21 : decode b_X_endOfPart 21 = .ok (.if_icmp .ne 9, 3) := by decide +kernel
theorem d_X_endOfPart_24 : decode b_X_endOfPart 24 = .ok (.iinc 6 1, 3) := by decide +kernel
theorem d_X_endOfPart_27 : decode b_X_endOfPart 27 = .ok (.goto (-24), 3) := by decide +kernel
theorem d_X_endOfPart_30 : decode b_X_endOfPart 30 = .ok (.iload 6, 2) := by decide +kernel
theorem d_X_endOfPart_32 : decode b_X_endOfPart 32 = .ok (.ireturn, 1) := by decide +kernel
theorem d_X_digitOf_0 : decode b_X_digitOf 0 = .ok (.aload_n 0, 1) := by decide +kernel
theorem d_X_digitOf_1 : decode b_X_digitOf 1 = .ok (.getfield 18, 3) := by decide +kernel
theorem d_X_digitOf_4 : decode b_X_digitOf 4 = .ok (.iconst 1, 1) := by decide +kernel
theorem d_X_digitOf_5 : decode b_X_digitOf 5 = .ok (.isub, 1) := by decide +kernel
theorem d_X_digitOf_6 : decode b_X_digitOf 6 = .ok (.istore_n 3, 1) := by decide +kernel
theorem d_X_digitOf_7 : decode b_X_digitOf 7 = .ok (.iload_n 1, 1) := by decide +kernel
theorem d_X_digitOf_8 : decode b_X_digitOf 8 = .ok (.iload_n 3, 1) := by decide +kernel
theorem d_X_digitOf_9 : decode b_X_digitOf 9 = .ok (.iload_n 3, 1) := by decide +kernel
theorem d_X_digitOf_10 : decode b_X_digitOf 10 = .ok (.imul, 1) := by decide +kernel
theorem d_X_digitOf_11 : decode b_X_digitOf 11 = .ok (.iload_n 3, 1) := by decide +kernel
theorem d_X_digitOf_12 : decode b_X_digitOf 12 = .ok (.imul, 1) := by decide +kernel
theorem d_X_digitOf_13 : decode b_X_digitOf 13 = .ok (.invokestatic 171, 3) := by decide +kernel
theorem d_X_digitOf_16 : decode b_X_digitOf 16 = .ok (.istore 4, 2) := by decide +kernel
theorem d_X_digitOf_18 : decode b_X_digitOf 18 = .ok (.iconst 0, 1) := by decide +kernel
theorem d_X_digitOf_19 : decode b_X_digitOf 19 = .ok (.istore 5, 2) := by decide +kernel
theorem d_X_digitOf_21 : decode b_X_digitOf 21 = .ok (.iload 5, 2) := by decide +kernel
theorem d_X_digitOf_23 : decode b_X_digitOf 23 = .ok (.iload_n 2, 1) := by decide +kernel
theorem d_X_digitOf_24 : decode b_X_digitOf 24 = .ok (.if_icmp .ge 15, 3) := by decide +kernel
theorem d_X_digitOf_27 : decode b_X_digitOf 27 = .ok (.iload 4, 2) := by decide +kernel
theorem d_X_digitOf_29 : decode b_X_digitOf 29 = .ok (.iload_n 3, 1) := by decide +kernel
theorem d_X_digitOf_30 : decode b_X_digitOf 30 = .ok (.idiv, 1) := by decide +kernel
theorem d_X_digitOf_31 : decode b_X_digitOf 31 = .ok (.istore 4, 2) := by decide +kernel
theorem d_X_digitOf_33 : decode b_X_digitOf 33 = .ok (.iinc 5 1, 3) := by decide +kernel
theorem d_X_digitOf_36 : decode b_X_digitOf 36 = .ok (.goto (-15), 3) := by decide +kernel
theorem d_X_digitOf_39 : decode b_X_digitOf 39 = .ok (.iload 4, 2) := by decide +kernel
theorem d_X_digitOf_41 : decode b_X_digitOf 41 = .ok (.iload_n 3, 1) := by decide +kernel
theorem d_X_digitOf_42 : decode b_X_digitOf 42 = .ok (.irem, 1) := by decide +kernel
theorem d_X_digitOf_43 : decode b_X_digitOf 43 = .ok (.ireturn, 1) := by decide +kernel
theorem d_X_compareRows_0 : decode b_X_compareRows 0 = .ok (.iload_n 0, 1) := by decide +kernel
theorem d_X_compareRows_1 : decode b_X_compareRows 1 = .ok (.iconst 1, 1) := by decide +kernel
theorem d_X_compareRows_2 : decode b_X_compareRows 2 = .ok (.if_icmp .ne 10, 3) := by decide +kernel
theorem d_X_compareRows_5 : decode b_X_compareRows 5 = .ok (.iload_n 2, 1) := by decide +kernel
theorem d_X_compareRows_6 : decode b_X_compareRows 6 = .ok (.iload 4, 2) := by decide +kernel
theorem d_X_compareRows_8 : decode b_X_compareRows 8 = .ok (.invokestatic 174, 3) := by decide +kernel
theorem d_X_compareRows_11 : decode b_X_compareRows 11 = .ok (.ireturn, 1) := by decide +kernel
theorem d_X_compareRows_12 : decode b_X_compareRows 12 = .ok (.iload_n 1, 1) := by decide +kernel
theorem d_X_compareRows_13 : decode b_X_compareRows 13 = .ok (.iload_n 3, 1) := by decide +kernel
theorem d_X_compareRows_14 : decode b_X_compareRows 14 = .ok (.invokestatic 174, 3) := by decide +kernel
theorem d_X_compareRows_17 : decode b_X_compareRows 17 = .ok (.istore 5, 2) := by decide +kernel
theorem d_X_compareRows_19 : decode b_X_compareRows 19 = .ok (.iload_n 0, 1) := by decide +kernel
theorem d_X_compareRows_20 : decode b_X_compareRows 20 = .ok (.ifCond .eq 8, 3) := by decide +kernel
theorem d_X_compareRows_23 : decode b_X_compareRows 23 = .ok (.iload 5, 2) := by decide +kernel
theorem d_X_compareRows_25 : decode b_X_compareRows 25 = .ok (.ifCond .eq 6, 3) := by decide +kernel
theorem d_X_compareRows_28 : decode b_X_compareRows 28 = .ok (.iload 5, 2) := by decide +kernel
theorem d_X_compareRows_30 : decode b_X_compareRows 30 = .ok (.ireturn, 1) := by decide +kernel
theorem d_X_compareRows_31 : decode b_X_compareRows 31 = .ok (.iload_n 2, 1) := by decide +kernel
theorem d_X_compareRows_32 : decode b_X_compareRows 32 = .ok (.iload 4, 2) := by decide +kernel
theorem d_X_compareRows_34 : decode b_X_compareRows 34 = .ok (.invokestatic 174, 3) := by decide +kernel
theorem d_X_compareRows_37 : decode b_X_compareRows 37 = .ok (.ireturn, 1) := by decide +kernel
end
section
theorem d_M_init_0 : decode b_M_init 0 = .ok (.aload_n 0, 1) := by decide +kernel
theorem d_M_init_1 : decode b_M_init 1 = .ok (.invokespecial 1, 3) := by decide +kernel
theorem d_M_init_4 : decode b_M_init 4 = .ok (.aload_n 0, 1) := by decide +kernel
theorem d_M_init_5 : decode b_M_init 5 = .ok (.bipush 60, 2) := by decide +kernel
theorem d_M_init_7 : decode b_M_init 7 = .ok (.newarray .int, 2) := by decide +kernel
theorem d_M_init_9 : decode b_M_init 9 = .ok (.putfield 7, 3) := by decide +kernel
theorem d_M_init_12 : decode b_M_init 12 = .ok (.aload_n 0, 1) := by decide +kernel
theorem d_M_init_13 : decode b_M_init 13 = .ok (.bipush 60, 2) := by decide +kernel
theorem d_M_init_15 : decode b_M_init 15 = .ok (.newarray .int, 2) := by decide +kernel
theorem d_M_init_17 : decode b_M_init 17 = .ok (.putfield 13, 3) := by decide +kernel
theorem d_M_init_20 : decode b_M_init 20 = .ok (.aload_n 0, 1) := by decide +kernel
theorem d_M_init_21 : decode b_M_init 21 = .ok (.bipush 8, 2) := by decide +kernel
theorem d_M_init_23 : decode b_M_init 23 = .ok (.newarray .int, 2) := by decide +kernel
theorem d_M_init_25 : decode b_M_init 25 = .ok (.putfield 16, 3) := by decide +kernel
theorem d_M_init_28 : decode b_M_init 28 = .ok (.aload_n 0, 1) := by decide +kernel
theorem d_M_init_29 : decode b_M_init 29 = .ok (.sipush 480, 3) := by decide +kernel
theorem d_M_init_32 : decode b_M_init 32 = .ok (.newarray .int, 2) := by decide +kernel
theorem d_M_init_34 : decode b_M_init 34 = .ok (.putfield 19, 3) := by decide +kernel
theorem d_M_init_37 : decode b_M_init 37 = .ok (.aload_n 0, 1) := by decide +kernel
theorem d_M_init_38 : decode b_M_init 38 = .ok (.sipush 480, 3) := by decide +kernel
theorem d_M_init_41 : decode b_M_init 41 = .ok (.newarray .int, 2) := by decide +kernel
theorem d_M_init_43 : decode b_M_init 43 = .ok (.putfield 22, 3) := by decide +kernel
theorem d_M_init_46 : decode b_M_init 46 = .ok (.aload_n 0, 1) := by decide +kernel
theorem d_M_init_47 : decode b_M_init 47 = .ok (.bipush 60, 2) := by decide +kernel
theorem d_M_init_49 : decode b_M_init 49 = .ok (.newarray .int, 2) := by decide +kernel
theorem d_M_init_51 : decode b_M_init 51 = .ok (.putfield 25, 3) := by decide +kernel
theorem d_M_init_54 : decode b_M_init 54 = .ok (.aload_n 0, 1) := by decide +kernel
theorem d_M_init_55 : decode b_M_init 55 = .ok (.bipush 60, 2) := by decide +kernel
theorem d_M_init_57 : decode b_M_init 57 = .ok (.newarray .int, 2) := by decide +kernel
theorem d_M_init_59 : decode b_M_init 59 = .ok (.putfield 28, 3) := by decide +kernel
theorem d_M_init_62 : decode b_M_init 62 = .ok (.aload_n 0, 1) := by decide +kernel
theorem d_M_init_63 : decode b_M_init 63 = .ok (.iconst 3, 1) := by decide +kernel
theorem d_M_init_64 : decode b_M_init 64 = .ok (.newarray .int, 2) := by decide +kernel
theorem d_M_init_66 : decode b_M_init 66 = .ok (.putfield 31, 3) := by decide +kernel
theorem d_M_init_69 : decode b_M_init 69 = .ok (.aload_n 0, 1) := by decide +kernel
theorem d_M_init_70 : decode b_M_init 70 = .ok (.iload_n 1, 1) := by decide +kernel
theorem d_M_init_71 : decode b_M_init 71 = .ok (.iconst 3, 1) := by decide +kernel
theorem d_M_init_72 : decode b_M_init 72 = .ok (.if_icmp .ge 7, 3) := by decide +kernel
theorem d_M_init_75 : decode b_M_init 75 = .ok (.iconst 3, 1) := by decide +kernel
theorem d_M_init_76 : decode b_M_init 76 = .ok (.goto 15, 3) := by decide +kernel
theorem d_M_init_79 : decode b_M_init 79 = .ok (.iload_n 1, 1) := by decide +kernel
theorem d_M_init_80 : decode b_M_init 80 = .ok (.bipush 6, 2) := by decide +kernel
theorem d_M_init_82 : decode b_M_init 82 = .ok (.if_icmp .le 8, 3) := by decide +kernel
theorem d_M_init_85 : decode b_M_init 85 = .ok (.bipush 6, 2) := by decide +kernel
theorem d_M_init_87 : decode b_M_init 87 = .ok (.goto 4, 3) := by decide +kernel
theorem d_M_init_90 : decode b_M_init 90 = .ok (.iload_n 1, 1) := by decide +kernel
theorem d_M_init_91 : decode b_M_init 91 = .ok (.putfield 34, 3) := by decide +kernel
theorem d_M_init_94 : decode b_M_init 94 = .ok (.iconst 0, 1) := by decide +kernel
theorem d_M_init_95 : decode b_M_init 95 = .ok (.istore_n 2, 1) := by decide +kernel
theorem d_M_init_96 : decode b_M_init 96 = .ok (.iload_n 2, 1) := by decide +kernel
theorem d_M_init_97 : decode b_M_init 97 = .ok (.bipush 8, 2) := by decide +kernel
theorem d_M_init_99 : decode b_M_init 99 = .ok (.if_icmp .ge 16, 3) := by decide +kernel
theorem d_M_init_102 : decode b_M_init 102 = .ok (.aload_n 0, 1) := by decide +kernel
theorem d_M_init_103 : decode b_M_init 103 = .ok (.getfield 16, 3) := by decide +kernel
theorem d_M_init_106 : decode b_M_init 106 = .ok (.iload_n 2, 1) := by decide +kernel
theorem d_M_init_107 : decode b_M_init 107 = .ok (.iconst (-1), 1) := by decide +kernel
theorem d_M_init_108 : decode b_M_init 108 = .ok (.iastore, 1) := by decide +kernel
theorem d_M_init_109 : decode b_M_init 109 = .ok (.iinc 2 1, 3) := by decide +kernel
theorem d_M_init_112 : decode b_M_init 112 = .ok (.goto (-16), 3) := by decide +kernel
theorem d_M_init_115 : decode b_M_init 115 = .ok (.return_, 1) := by decide +kernel
theorem d_M_size_0 : decode b_M_size 0 = .ok (.iload_n 0, 1) := by decide +kernel
theorem d_M_size_1 : decode b_M_size 1 = .ok (.iconst 3, 1) := by decide +kernel
theorem d_M_size_2 : decode b_M_size 2 = .ok (.iadd, 1) := by decide +kernel
theorem d_M_size_3 : decode b_M_size 3 = .ok (.iconst 4, 1) := by decide +kernel
theorem d_M_size_4 : decode b_M_size 4 = .ok (.idiv, 1) := by decide +kernel
theorem d_M_size_5 : decode b_M_size 5 = .ok (.ireturn, 1) := by decide +kernel
theorem d_M_slot_0 : decode b_M_slot 0 = .ok (.iload_n 0, 1) := by decide +kernel
theorem d_M_slot_1 : decode b_M_slot 1 = .ok (.ifCond .lt 13, 3) := by decide +kernel
theorem d_M_slot_4 : decode b_M_slot 4 = .ok (.iload_n 0, 1) := by decide +kernel
theorem d_M_slot_5 : decode b_M_slot 5 = .ok (.bipush 8, 2) := by decide +kernel
theorem d_M_slot_7 : decode b_M_slot 7 = .ok (.if_icmp .ge 7, 3) := by decide +kernel
theorem d_M_slot_10 : decode b_M_slot 10 = .ok (.iconst 1, 1) := by decide +kernel
theorem d_M_slot_11 : decode b_M_slot 11 = .ok (.goto 4, 3) := by decide +kernel
theorem d_M_slot_14 : decode b_M_slot 14 = .ok (.iconst 0, 1) := by decide +kernel
theorem d_M_slot_15 : decode b_M_slot 15 = .ok (.ireturn, 1) := by decide +kernel
theorem d_M_sortCost_0 : decode b_M_sortCost 0 = .ok (.iload_n 1, 1) := by decide +kernel
theorem d_M_sortCost_1 : decode b_M_sortCost 1 = .ok (.invokestatic 38, 3) := by decide +kernel
theorem d_M_sortCost_4 : decode b_M_sortCost 4 = .ok (.istore_n 2, 1) := by decide +kernel
theorem d_M_sortCost_5 : decode b_M_sortCost 5 = .ok (.iload_n 2, 1) := by decide +kernel
theorem d_M_sortCost_6 : decode b_M_sortCost 6 = .ok (.ifCond .ne 5, 3) := by decide +kernel
theorem d_M_sortCost_9 : decode b_M_sortCost 9 = .ok (.lconst 0, 1) := by decide +kernel
theorem d_M_sortCost_10 : decode b_M_sortCost 10 = .ok (.lreturn, 1) := by decide +kernel
theorem d_M_sortCost_11 : decode b_M_sortCost 11 = .ok (.iload_n 2, 1) := by decide +kernel
theorem d_M_sortCost_12 : decode b_M_sortCost 12 = .ok (.aload_n 0, 1) := by decide +kernel
theorem d_M_sortCost_13 : decode b_M_sortCost 13 = .ok (.getfield 34, 3) := by decide +kernel
theorem d_M_sortCost_16 : decode b_M_sortCost 16 = .ok (.iadd, 1) := by decide +kernel
theorem d_M_sortCost_17 : decode b_M_sortCost 17 = .ok (.iconst 1, 1) := by decide +kernel
theorem d_M_sortCost_18 : decode b_M_sortCost 18 = .ok (.isub, 1) := by decide +kernel
theorem d_M_sortCost_19 : decode b_M_sortCost 19 = .ok (.aload_n 0, 1) := by decide +kernel
theorem d_M_sortCost_20 : decode b_M_sortCost 20 = .ok (.getfield 34, 3) := by decide +kernel
theorem d_M_sortCost_23 : decode b_M_sortCost 23 = .ok (.idiv, 1) := by decide +kernel
theorem d_M_sortCost_24 : decode b_M_sortCost 24 = .ok (.istore_n 3, 1) := by decide +kernel
theorem d_M_sortCost_25 : decode b_M_sortCost 25 = .ok (.iconst 0, 1) := by decide +kernel
theorem d_M_sortCost_26 : decode b_M_sortCost 26 = .ok (.istore 4, 2) := by decide +kernel
theorem d_M_sortCost_28 : decode b_M_sortCost 28 = .ok (.iload_n 3, 1) := by decide +kernel
theorem d_M_sortCost_29 : decode b_M_sortCost 29 = .ok (.iconst 1, 1) := by decide +kernel
theorem d_M_sortCost_30 : decode b_M_sortCost 30 = .ok (.if_icmp .le 28, 3) := by decide +kernel
theorem d_M_sortCost_33 : decode b_M_sortCost 33 = .ok (.iload_n 3, 1) := by decide +kernel
theorem d_M_sortCost_34 : decode b_M_sortCost 34 = .ok (.aload_n 0, 1) := by decide +kernel
theorem d_M_sortCost_35 : decode b_M_sortCost 35 = .ok (.getfield 34, 3) := by decide +kernel
theorem d_M_sortCost_38 : decode b_M_sortCost 38 = .ok (.iadd, 1) := by decide +kernel
theorem d_M_sortCost_39 : decode b_M_sortCost 39 = .ok (.iconst 2, 1) := by decide +kernel
theorem d_M_sortCost_40 : decode b_M_sortCost 40 = .ok (.isub, 1) := by decide +kernel
theorem d_M_sortCost_41 : decode b_M_sortCost 41 = .ok (.aload_n 0, 1) := by decide +kernel
theorem d_M_sortCost_42 : decode b_M_sortCost 42 = .ok (.getfield 34, 3) := by decide +kernel
theorem d_M_sortCost_45 : decode b_M_sortCost 45 = .ok (.iconst 1, 1) := by decide +kernel
theorem d_M_sortCost_46 : decode b_M_sortCost 46 = .ok (.isub, 1) := by decide +kernel
theorem d_M_sortCost_47 : decode b_M_sortCost 47 = .ok (.idiv, 1) := by decide +kernel
theorem d_M_sortCost_48 : decode b_M_sortCost 48 = .ok (.istore_n 3, 1) := by decide +kernel
theorem d_M_sortCost_49 : decode b_M_sortCost 49 = .ok (.iload 4, 2) := by decide +kernel
theorem d_M_sortCost_51 : decode b_M_sortCost 51 = .ok (.iconst 1, 1) := by decide +kernel
theorem d_M_sortCost_52 : decode b_M_sortCost 52 = .ok (.iadd, 1) := by decide +kernel
theorem d_M_sortCost_53 : decode b_M_sortCost 53 = .ok (.istore 4, 2) := by decide +kernel
theorem d_M_sortCost_55 : decode b_M_sortCost 55 = .ok (.goto (-27), 3) := by decide +kernel
theorem d_M_sortCost_58 : decode b_M_sortCost 58 = .ok (.ldc2_w 42, 3) := by decide +kernel
theorem d_M_sortCost_61 : decode b_M_sortCost 61 = .ok (.iload_n 2, 1) := by decide +kernel
theorem d_M_sortCost_62 : decode b_M_sortCost 62 = .ok (.i2l, 1) := by decide +kernel
theorem d_M_sortCost_63 : decode b_M_sortCost 63 = .ok (.lmul, 1) := by decide +kernel
theorem d_M_sortCost_64 : decode b_M_sortCost 64 = .ok (.iconst 1, 1) := by decide +kernel
theorem d_M_sortCost_65 : decode b_M_sortCost 65 = .ok (.iload 4, 2) := by decide +kernel
theorem d_M_sortCost_67 : decode b_M_sortCost 67 = .ok (.iadd, 1) := by decide +kernel
theorem d_M_sortCost_68 : decode b_M_sortCost 68 = .ok (.i2l, 1) := by decide +kernel
theorem d_M_sortCost_69 : decode b_M_sortCost 69 = .ok (.lmul, 1) := by decide +kernel
theorem d_M_sortCost_70 : decode b_M_sortCost 70 = .ok (.lreturn, 1) := by decide +kernel
theorem d_M_put_0 : decode b_M_put 0 = .ok (.aload_n 0, 1) := by decide +kernel
theorem d_M_put_1 : decode b_M_put 1 = .ok (.getfield 44, 3) := by decide +kernel
theorem d_M_put_4 : decode b_M_put 4 = .ok (.bipush 60, 2) := by decide +kernel
theorem d_M_put_6 : decode b_M_put 6 = .ok (.if_icmp .ne 5, 3) := by decide +kernel
theorem d_M_put_9 : decode b_M_put 9 = .ok (.iconst 0, 1) := by decide +kernel
theorem d_M_put_10 : decode b_M_put 10 = .ok (.ireturn, 1) := by decide +kernel
theorem d_M_put_11 : decode b_M_put 11 = .ok (.aload_n 0, 1) := by decide +kernel
theorem d_M_put_12 : decode b_M_put 12 = .ok (.getfield 7, 3) := by decide +kernel
theorem d_M_put_15 : decode b_M_put 15 = .ok (.aload_n 0, 1) := by decide +kernel
theorem d_M_put_16 : decode b_M_put 16 = .ok (.getfield 44, 3) := by decide +kernel
theorem d_M_put_19 : decode b_M_put 19 = .ok (.iload_n 1, 1) := by decide +kernel
theorem d_M_put_20 : decode b_M_put 20 = .ok (.iastore, 1) := by decide +kernel
theorem d_M_put_21 : decode b_M_put 21 = .ok (.aload_n 0, 1) := by decide +kernel
theorem d_M_put_22 : decode b_M_put 22 = .ok (.getfield 13, 3) := by decide +kernel
theorem d_M_put_25 : decode b_M_put 25 = .ok (.aload_n 0, 1) := by decide +kernel
theorem d_M_put_26 : decode b_M_put 26 = .ok (.getfield 44, 3) := by decide +kernel
theorem d_M_put_29 : decode b_M_put 29 = .ok (.iload_n 2, 1) := by decide +kernel
theorem d_M_put_30 : decode b_M_put 30 = .ok (.iastore, 1) := by decide +kernel
theorem d_M_put_31 : decode b_M_put 31 = .ok (.aload_n 0, 1) := by decide +kernel
theorem d_M_put_32 : decode b_M_put 32 = .ok (.dup, 1) := by decide +kernel
theorem d_M_put_33 : decode b_M_put 33 = .ok (.getfield 44, 3) := by decide +kernel
theorem d_M_put_36 : decode b_M_put 36 = .ok (.iconst 1, 1) := by decide +kernel
theorem d_M_put_37 : decode b_M_put 37 = .ok (.iadd, 1) := by decide +kernel
theorem d_M_put_38 : decode b_M_put 38 = .ok (.putfield 44, 3) := by decide +kernel
theorem d_M_put_41 : decode b_M_put 41 = .ok (.iconst 1, 1) := by decide +kernel
theorem d_M_put_42 : decode b_M_put 42 = .ok (.ireturn, 1) := by decide +kernel
theorem d_M_store_0 : decode b_M_store 0 = .ok (.iload_n 1, 1) := by decide +kernel
theorem d_M_store_1 : decode b_M_store 1 = .ok (.invokestatic 47, 3) := by decide +kernel
theorem d_M_store_4 : decode b_M_store 4 = .ok (.ifCond .ne 5, 3) := by decide +kernel
theorem d_M_store_7 : decode b_M_store 7 = .ok (.iconst (-1), 1) := by decide +kernel
theorem d_M_store_8 : decode b_M_store 8 = .ok (.ireturn, 1) := by decide +kernel
theorem d_M_store_9 : decode b_M_store 9 = .ok (.aload_n 0, 1) := by decide +kernel
theorem d_M_store_10 : decode b_M_store 10 = .ok (.getfield 16, 3) := by decide +kernel
theorem d_M_store_13 : decode b_M_store 13 = .ok (.iload_n 1, 1) := by decide +kernel
theorem d_M_store_14 : decode b_M_store 14 = .ok (.iaload, 1) := by decide +kernel
theorem d_M_store_15 : decode b_M_store 15 = .ok (.ifCond .lt 6, 3) := by decide +kernel
theorem d_M_store_18 : decode b_M_store 18 = .ok (.bipush (-3), 2) := by decide +kernel
theorem d_M_store_20 : decode b_M_store 20 = .ok (.ireturn, 1) := by decide +kernel
theorem d_M_store_21 : decode b_M_store 21 = .ok (.iconst 0, 1) := by decide +kernel
theorem d_M_store_22 : decode b_M_store 22 = .ok (.istore_n 2, 1) := by decide +kernel
theorem d_M_store_23 : decode b_M_store 23 = .ok (.iload_n 2, 1) := by decide +kernel
theorem d_M_store_24 : decode b_M_store 24 = .ok (.aload_n 0, 1) := by decide +kernel
theorem d_M_store_25 : decode b_M_store 25 = .ok (.getfield 44, 3) := by decide +kernel
theorem d_M_store_28 : decode b_M_store 28 = .ok (.if_icmp .ge 43, 3) := by decide +kernel
theorem d_M_store_31 : decode b_M_store 31 = .ok (.aload_n 0, 1) := by decide +kernel
theorem d_M_store_32 : decode b_M_store 32 = .ok (.getfield 19, 3) := by decide +kernel
theorem d_M_store_35 : decode b_M_store 35 = .ok (.bipush 60, 2) := by decide +kernel
theorem d_M_store_37 : decode b_M_store 37 = .ok (.iload_n 1, 1) := by decide +kernel
theorem d_M_store_38 : decode b_M_store 38 = .ok (.imul, 1) := by decide +kernel
theorem d_M_store_39 : decode b_M_store 39 = .ok (.iload_n 2, 1) := by decide +kernel
theorem d_M_store_40 : decode b_M_store 40 = .ok (.iadd, 1) := by decide +kernel
theorem d_M_store_41 : decode b_M_store 41 = .ok (.aload_n 0, 1) := by decide +kernel
theorem d_M_store_42 : decode b_M_store 42 = .ok (.getfield 7, 3) := by decide +kernel
theorem d_M_store_45 : decode b_M_store 45 = .ok (.iload_n 2, 1) := by decide +kernel
theorem d_M_store_46 : decode b_M_store 46 = .ok (.iaload, 1) := by decide +kernel
theorem d_M_store_47 : decode b_M_store 47 = .ok (.iastore, 1) := by decide +kernel
theorem d_M_store_48 : decode b_M_store 48 = .ok (.aload_n 0, 1) := by decide +kernel
theorem d_M_store_49 : decode b_M_store 49 = .ok (.getfield 22, 3) := by decide +kernel
theorem d_M_store_52 : decode b_M_store 52 = .ok (.bipush 60, 2) := by decide +kernel
theorem d_M_store_54 : decode b_M_store 54 = .ok (.iload_n 1, 1) := by decide +kernel
theorem d_M_store_55 : decode b_M_store 55 = .ok (.imul, 1) := by decide +kernel
theorem d_M_store_56 : decode b_M_store 56 = .ok (.iload_n 2, 1) := by decide +kernel
theorem d_M_store_57 : decode b_M_store 57 = .ok (.iadd, 1) := by decide +kernel
theorem d_M_store_58 : decode b_M_store 58 = .ok (.aload_n 0, 1) := by decide +kernel
theorem d_M_store_59 : decode b_M_store 59 = .ok (.getfield 13, 3) := by decide +kernel
theorem d_M_store_62 : decode b_M_store 62 = .ok (.iload_n 2, 1) := by decide +kernel
theorem d_M_store_63 : decode b_M_store 63 = .ok (.iaload, 1) := by decide +kernel
theorem d_M_store_64 : decode b_M_store 64 = .ok (.iastore, 1) := by decide +kernel
theorem d_M_store_65 : decode b_M_store 65 = .ok (.iinc 2 1, 3) := by decide +kernel
theorem d_M_store_68 : decode b_M_store 68 = .ok (.goto (-45), 3) := by decide +kernel
theorem d_M_store_71 : decode b_M_store 71 = .ok (.aload_n 0, 1) := by decide +kernel
theorem d_M_store_72 : decode b_M_store 72 = .ok (.getfield 16, 3) := by decide +kernel
theorem d_M_store_75 : decode b_M_store 75 = .ok (.iload_n 1, 1) := by decide +kernel
theorem d_M_store_76 : decode b_M_store 76 = .ok (.aload_n 0, 1) := by decide +kernel
theorem d_M_store_77 : decode b_M_store 77 = .ok (.getfield 44, 3) := by decide +kernel
theorem d_M_store_80 : decode b_M_store 80 = .ok (.iastore, 1) := by decide +kernel
theorem d_M_store_81 : decode b_M_store 81 = .ok (.aload_n 0, 1) := by decide +kernel
theorem d_M_store_82 : decode b_M_store 82 = .ok (.aload_n 0, 1) := by decide +kernel
theorem d_M_store_83 : decode b_M_store 83 = .ok (.getfield 51, 3) := by decide +kernel
theorem d_M_store_86 : decode b_M_store 86 = .ok (.aload_n 0, 1) := by decide +kernel
theorem d_M_store_87 : decode b_M_store 87 = .ok (.getfield 44, 3) := by decide +kernel
theorem d_M_store_90 : decode b_M_store 90 = .ok (.invokestatic 38, 3) := by decide +kernel
theorem d_M_store_93 : decode b_M_store 93 = .ok (.i2l, 1) := by decide +kernel
theorem d_M_store_94 : decode b_M_store 94 = .ok (.ladd, 1) := by decide +kernel
theorem d_M_store_95 : decode b_M_store 95 = .ok (.putfield 51, 3) := by decide +kernel
theorem d_M_store_98 : decode b_M_store 98 = .ok (.aload_n 0, 1) := by decide +kernel
theorem d_M_store_99 : decode b_M_store 99 = .ok (.iconst 0, 1) := by decide +kernel
theorem d_M_store_100 : decode b_M_store 100 = .ok (.putfield 44, 3) := by decide +kernel
theorem d_M_store_103 : decode b_M_store 103 = .ok (.aload_n 0, 1) := by decide +kernel
theorem d_M_store_104 : decode b_M_store 104 = .ok (.getfield 16, 3) := by decide +kernel
theorem d_M_store_107 : decode b_M_store 107 = .ok (.iload_n 1, 1) := by decide +kernel
theorem d_M_store_108 : decode b_M_store 108 = .ok (.iaload, 1) := by decide +kernel
theorem d_M_store_109 : decode b_M_store 109 = .ok (.ireturn, 1) := by decide +kernel
theorem d_M_drop_0 : decode b_M_drop 0 = .ok (.iload_n 1, 1) := by decide +kernel
theorem d_M_drop_1 : decode b_M_drop 1 = .ok (.invokestatic 47, 3) := by decide +kernel
theorem d_M_drop_4 : decode b_M_drop 4 = .ok (.ifCond .ne 5, 3) := by decide +kernel
theorem d_M_drop_7 : decode b_M_drop 7 = .ok (.iconst (-1), 1) := by decide +kernel
theorem d_M_drop_8 : decode b_M_drop 8 = .ok (.ireturn, 1) := by decide +kernel
theorem d_M_drop_9 : decode b_M_drop 9 = .ok (.aload_n 0, 1) := by decide +kernel
theorem d_M_drop_10 : decode b_M_drop 10 = .ok (.getfield 16, 3) := by decide +kernel
theorem d_M_drop_13 : decode b_M_drop 13 = .ok (.iload_n 1, 1) := by decide +kernel
theorem d_M_drop_14 : decode b_M_drop 14 = .ok (.iaload, 1) := by decide +kernel
theorem d_M_drop_15 : decode b_M_drop 15 = .ok (.ifCond .ge 6, 3) := by decide +kernel
theorem d_M_drop_18 : decode b_M_drop 18 = .ok (.bipush (-2), 2) := by decide +kernel
theorem d_M_drop_20 : decode b_M_drop 20 = .ok (.ireturn, 1) := by decide +kernel
theorem d_M_drop_21 : decode b_M_drop 21 = .ok (.aload_n 0, 1) := by decide +kernel
theorem d_M_drop_22 : decode b_M_drop 22 = .ok (.getfield 16, 3) := by decide +kernel
theorem d_M_drop_25 : decode b_M_drop 25 = .ok (.iload_n 1, 1) := by decide +kernel
theorem d_M_drop_26 : decode b_M_drop 26 = .ok (.iaload, 1) := by decide +kernel
theorem d_M_drop_27 : decode b_M_drop 27 = .ok (.istore_n 2, 1) := by decide +kernel
theorem d_M_drop_28 : decode b_M_drop 28 = .ok (.aload_n 0, 1) := by decide +kernel
theorem d_M_drop_29 : decode b_M_drop 29 = .ok (.getfield 16, 3) := by decide +kernel
theorem d_M_drop_32 : decode b_M_drop 32 = .ok (.iload_n 1, 1) := by decide +kernel
theorem d_M_drop_33 : decode b_M_drop 33 = .ok (.iconst (-1), 1) := by decide +kernel
theorem d_M_drop_34 : decode b_M_drop 34 = .ok (.iastore, 1) := by decide +kernel
theorem d_M_drop_35 : decode b_M_drop 35 = .ok (.iload_n 2, 1) := by decide +kernel
theorem d_M_drop_36 : decode b_M_drop 36 = .ok (.ireturn, 1) := by decide +kernel
theorem d_M_rows_0 : decode b_M_rows 0 = .ok (.iload_n 1, 1) := by decide +kernel
theorem d_M_rows_1 : decode b_M_rows 1 = .ok (.invokestatic 47, 3) := by decide +kernel
theorem d_M_rows_4 : decode b_M_rows 4 = .ok (.ifCond .eq 12, 3) := by decide +kernel
theorem d_M_rows_7 : decode b_M_rows 7 = .ok (.aload_n 0, 1) := by decide +kernel
theorem d_M_rows_8 : decode b_M_rows 8 = .ok (.getfield 16, 3) := by decide +kernel
theorem d_M_rows_11 : decode b_M_rows 11 = .ok (.iload_n 1, 1) := by decide +kernel
theorem d_M_rows_12 : decode b_M_rows 12 = .ok (.iaload, 1) := by decide +kernel
theorem d_M_rows_13 : decode b_M_rows 13 = .ok (.goto 4, 3) := by decide +kernel
theorem d_M_rows_16 : decode b_M_rows 16 = .ok (.iconst (-1), 1) := by decide +kernel
theorem d_M_rows_17 : decode b_M_rows 17 = .ok (.ireturn, 1) := by decide +kernel
theorem d_M_key_0 : decode b_M_key 0 = .ok (.iload_n 1, 1) := by decide +kernel
theorem d_M_key_1 : decode b_M_key 1 = .ok (.invokestatic 47, 3) := by decide +kernel
theorem d_M_key_4 : decode b_M_key 4 = .ok (.ifCond .eq 31, 3) := by decide +kernel
theorem d_M_key_7 : decode b_M_key 7 = .ok (.iload_n 2, 1) := by decide +kernel
theorem d_M_key_8 : decode b_M_key 8 = .ok (.ifCond .lt 27, 3) := by decide +kernel
theorem d_M_key_11 : decode b_M_key 11 = .ok (.iload_n 2, 1) := by decide +kernel
theorem d_M_key_12 : decode b_M_key 12 = .ok (.aload_n 0, 1) := by decide +kernel
theorem d_M_key_13 : decode b_M_key 13 = .ok (.getfield 16, 3) := by decide +kernel
theorem d_M_key_16 : decode b_M_key 16 = .ok (.iload_n 1, 1) := by decide +kernel
theorem d_M_key_17 : decode b_M_key 17 = .ok (.iaload, 1) := by decide +kernel
theorem d_M_key_18 : decode b_M_key 18 = .ok (.if_icmp .ge 17, 3) := by decide +kernel
theorem d_M_key_21 : decode b_M_key 21 = .ok (.aload_n 0, 1) := by decide +kernel
theorem d_M_key_22 : decode b_M_key 22 = .ok (.getfield 19, 3) := by decide +kernel
theorem d_M_key_25 : decode b_M_key 25 = .ok (.bipush 60, 2) := by decide +kernel
theorem d_M_key_27 : decode b_M_key 27 = .ok (.iload_n 1, 1) := by decide +kernel
theorem d_M_key_28 : decode b_M_key 28 = .ok (.imul, 1) := by decide +kernel
theorem d_M_key_29 : decode b_M_key 29 = .ok (.iload_n 2, 1) := by decide +kernel
theorem d_M_key_30 : decode b_M_key 30 = .ok (.iadd, 1) := by decide +kernel
theorem d_M_key_31 : decode b_M_key 31 = .ok (.iaload, 1) := by decide +kernel
theorem d_M_key_32 : decode b_M_key 32 = .ok (.goto 4, 3) := by decide +kernel
theorem d_M_key_35 : decode b_M_key 35 = .ok (.iconst 0, 1) := by decide +kernel
theorem d_M_key_36 : decode b_M_key 36 = .ok (.ireturn, 1) := by decide +kernel
theorem d_M_value_0 : decode b_M_value 0 = .ok (.iload_n 1, 1) := by decide +kernel
theorem d_M_value_1 : decode b_M_value 1 = .ok (.invokestatic 47, 3) := by decide +kernel
theorem d_M_value_4 : decode b_M_value 4 = .ok (.ifCond .eq 31, 3) := by decide +kernel
theorem d_M_value_7 : decode b_M_value 7 = .ok (.iload_n 2, 1) := by decide +kernel
theorem d_M_value_8 : decode b_M_value 8 = .ok (.ifCond .lt 27, 3) := by decide +kernel
theorem d_M_value_11 : decode b_M_value 11 = .ok (.iload_n 2, 1) := by decide +kernel
theorem d_M_value_12 : decode b_M_value 12 = .ok (.aload_n 0, 1) := by decide +kernel
theorem d_M_value_13 : decode b_M_value 13 = .ok (.getfield 16, 3) := by decide +kernel
theorem d_M_value_16 : decode b_M_value 16 = .ok (.iload_n 1, 1) := by decide +kernel
theorem d_M_value_17 : decode b_M_value 17 = .ok (.iaload, 1) := by decide +kernel
theorem d_M_value_18 : decode b_M_value 18 = .ok (.if_icmp .ge 17, 3) := by decide +kernel
theorem d_M_value_21 : decode b_M_value 21 = .ok (.aload_n 0, 1) := by decide +kernel
theorem d_M_value_22 : decode b_M_value 22 = .ok (.getfield 22, 3) := by decide +kernel
theorem d_M_value_25 : decode b_M_value 25 = .ok (.bipush 60, 2) := by decide +kernel
theorem d_M_value_27 : decode b_M_value 27 = .ok (.iload_n 1, 1) := by decide +kernel
theorem d_M_value_28 : decode b_M_value 28 = .ok (.imul, 1) := by decide +kernel
theorem d_M_value_29 : decode b_M_value 29 = .ok (.iload_n 2, 1) := by decide +kernel
theorem d_M_value_30 : decode b_M_value 30 = .ok (.iadd, 1) := by decide +kernel
theorem d_M_value_31 : decode b_M_value 31 = .ok (.iaload, 1) := by decide +kernel
theorem d_M_value_32 : decode b_M_value 32 = .ok (.goto 4, 3) := by decide +kernel
theorem d_M_value_35 : decode b_M_value 35 = .ok (.iconst 0, 1) := by decide +kernel
theorem d_M_value_36 : decode b_M_value 36 = .ok (.ireturn, 1) := by decide +kernel
theorem d_M_refuse_0 : decode b_M_refuse 0 = .ok (.iload_n 1, 1) := by decide +kernel
theorem d_M_refuse_1 : decode b_M_refuse 1 = .ok (.ifCond .eq 25, 3) := by decide +kernel
theorem d_M_refuse_4 : decode b_M_refuse 4 = .ok (.iload_n 2, 1) := by decide +kernel
theorem d_M_refuse_5 : decode b_M_refuse 5 = .ok (.invokestatic 47, 3) := by decide +kernel
theorem d_M_refuse_8 : decode b_M_refuse 8 = .ok (.ifCond .eq 18, 3) := by decide +kernel
theorem d_M_refuse_11 : decode b_M_refuse 11 = .ok (.iload_n 3, 1) := by decide +kernel
theorem d_M_refuse_12 : decode b_M_refuse 12 = .ok (.invokestatic 47, 3) := by decide +kernel
theorem d_M_refuse_15 : decode b_M_refuse 15 = .ok (.ifCond .eq 11, 3) := by decide +kernel
theorem d_M_refuse_18 : decode b_M_refuse 18 = .ok (.iload 4, 2) := by decide +kernel
theorem d_M_refuse_20 : decode b_M_refuse 20 = .ok (.invokestatic 47, 3) := by decide +kernel
theorem d_M_refuse_23 : decode b_M_refuse 23 = .ok (.ifCond .ne 5, 3) := by decide +kernel
theorem d_M_refuse_26 : decode b_M_refuse 26 = .ok (.iconst (-1), 1) := by decide +kernel
theorem d_M_refuse_27 : decode b_M_refuse 27 = .ok (.ireturn, 1) := by decide +kernel
theorem d_M_refuse_28 : decode b_M_refuse 28 = .ok (.aload_n 0, 1) := by decide +kernel
theorem d_M_refuse_29 : decode b_M_refuse 29 = .ok (.iconst 0, 1) := by decide +kernel
theorem d_M_refuse_30 : decode b_M_refuse 30 = .ok (.putfield 55, 3) := by decide +kernel
theorem d_M_refuse_33 : decode b_M_refuse 33 = .ok (.aload_n 0, 1) := by decide +kernel
theorem d_M_refuse_34 : decode b_M_refuse 34 = .ok (.lconst 0, 1) := by decide +kernel
theorem d_M_refuse_35 : decode b_M_refuse 35 = .ok (.putfield 58, 3) := by decide +kernel
theorem d_M_refuse_38 : decode b_M_refuse 38 = .ok (.aload_n 0, 1) := by decide +kernel
theorem d_M_refuse_39 : decode b_M_refuse 39 = .ok (.getfield 16, 3) := by decide +kernel
theorem d_M_refuse_42 : decode b_M_refuse 42 = .ok (.iload_n 2, 1) := by decide +kernel
theorem d_M_refuse_43 : decode b_M_refuse 43 = .ok (.iaload, 1) := by decide +kernel
theorem d_M_refuse_44 : decode b_M_refuse 44 = .ok (.ifCond .lt 12, 3) := by decide +kernel
theorem d_M_refuse_47 : decode b_M_refuse 47 = .ok (.aload_n 0, 1) := by decide +kernel
theorem d_M_refuse_48 : decode b_M_refuse 48 = .ok (.getfield 16, 3) := by decide +kernel
theorem d_M_refuse_51 : decode b_M_refuse 51 = .ok (.iload_n 3, 1) := by decide +kernel
theorem d_M_refuse_52 : decode b_M_refuse 52 = .ok (.iaload, 1) := by decide +kernel
theorem d_M_refuse_53 : decode b_M_refuse 53 = .ok (.ifCond .ge 8, 3) := by decide +kernel
theorem d_M_refuse_56 : decode b_M_refuse 56 = .ok (.bipush (-2), 2) := by decide +kernel
theorem d_M_refuse_58 : decode b_M_refuse 58 = .ok (.goto 19, 3) := by decide +kernel
theorem d_M_refuse_61 : decode b_M_refuse 61 = .ok (.aload_n 0, 1) := by decide +kernel
theorem d_M_refuse_62 : decode b_M_refuse 62 = .ok (.getfield 16, 3) := by decide +kernel
theorem d_M_refuse_65 : decode b_M_refuse 65 = .ok (.iload 4, 2) := by decide +kernel
theorem d_M_refuse_67 : decode b_M_refuse 67 = .ok (.iaload, 1) := by decide +kernel
theorem d_M_refuse_68 : decode b_M_refuse 68 = .ok (.ifCond .lt 8, 3) := by decide +kernel
theorem d_M_refuse_71 : decode b_M_refuse 71 = .ok (.bipush (-3), 2) := by decide +kernel
theorem d_M_refuse_73 : decode b_M_refuse 73 = .ok (.goto 4, 3) := by decide +kernel
theorem d_M_refuse_76 : decode b_M_refuse 76 = .ok (.iconst 0, 1) := by decide +kernel
theorem d_M_refuse_77 : decode b_M_refuse 77 = .ok (.ireturn, 1) := by decide +kernel
theorem d_M_make_0 : decode b_M_make 0 = .ok (.aload_n 0, 1) := by decide +kernel
theorem d_M_make_1 : decode b_M_make 1 = .ok (.getfield 55, 3) := by decide +kernel
theorem d_M_make_4 : decode b_M_make 4 = .ok (.bipush 60, 2) := by decide +kernel
theorem d_M_make_6 : decode b_M_make 6 = .ok (.if_icmp .ge 23, 3) := by decide +kernel
theorem d_M_make_9 : decode b_M_make 9 = .ok (.aload_n 0, 1) := by decide +kernel
theorem d_M_make_10 : decode b_M_make 10 = .ok (.getfield 25, 3) := by decide +kernel
theorem d_M_make_13 : decode b_M_make 13 = .ok (.aload_n 0, 1) := by decide +kernel
theorem d_M_make_14 : decode b_M_make 14 = .ok (.getfield 55, 3) := by decide +kernel
theorem d_M_make_17 : decode b_M_make 17 = .ok (.iload_n 1, 1) := by decide +kernel
theorem d_M_make_18 : decode b_M_make 18 = .ok (.iastore, 1) := by decide +kernel
theorem d_M_make_19 : decode b_M_make 19 = .ok (.aload_n 0, 1) := by decide +kernel
theorem d_M_make_20 : decode b_M_make 20 = .ok (.getfield 28, 3) := by decide +kernel
theorem d_M_make_23 : decode b_M_make 23 = .ok (.aload_n 0, 1) := by decide +kernel
theorem d_M_make_24 : decode b_M_make 24 = .ok (.getfield 55, 3) := by decide +kernel
theorem d_M_make_27 : decode b_M_make 27 = .ok (.iload_n 2, 1) := by decide +kernel
theorem d_M_make_28 : decode b_M_make 28 = .ok (.iastore, 1) := by decide +kernel
theorem d_M_make_29 : decode b_M_make 29 = .ok (.aload_n 0, 1) := by decide +kernel
theorem d_M_make_30 : decode b_M_make 30 = .ok (.dup, 1) := by decide +kernel
theorem d_M_make_31 : decode b_M_make 31 = .ok (.getfield 55, 3) := by decide +kernel
theorem d_M_make_34 : decode b_M_make 34 = .ok (.iconst 1, 1) := by decide +kernel
theorem d_M_make_35 : decode b_M_make 35 = .ok (.iadd, 1) := by decide +kernel
theorem d_M_make_36 : decode b_M_make 36 = .ok (.putfield 55, 3) := by decide +kernel
theorem d_M_make_39 : decode b_M_make 39 = .ok (.return_, 1) := by decide +kernel
theorem d_M_finish_0 : decode b_M_finish 0 = .ok (.aload_n 0, 1) := by decide +kernel
theorem d_M_finish_1 : decode b_M_finish 1 = .ok (.getfield 55, 3) := by decide +kernel
theorem d_M_finish_4 : decode b_M_finish 4 = .ok (.bipush 60, 2) := by decide +kernel
theorem d_M_finish_6 : decode b_M_finish 6 = .ok (.if_icmp .le 6, 3) := by decide +kernel
theorem d_M_finish_9 : decode b_M_finish 9 = .ok (.bipush (-4), 2) := by decide +kernel
theorem d_M_finish_11 : decode b_M_finish 11 = .ok (.ireturn, 1) := by decide +kernel
theorem d_M_finish_12 : decode b_M_finish 12 = .ok (.iconst 0, 1) := by decide +kernel
theorem d_M_finish_13 : decode b_M_finish 13 = .ok (.istore_n 2, 1) := by decide +kernel
theorem d_M_finish_14 : decode b_M_finish 14 = .ok (.iload_n 2, 1) := by decide +kernel
theorem d_M_finish_15 : decode b_M_finish 15 = .ok (.aload_n 0, 1) := by decide +kernel
theorem d_M_finish_16 : decode b_M_finish 16 = .ok (.getfield 55, 3) := by decide +kernel
theorem d_M_finish_19 : decode b_M_finish 19 = .ok (.if_icmp .ge 43, 3) := by decide +kernel
theorem d_M_finish_22 : decode b_M_finish 22 = .ok (.aload_n 0, 1) := by decide +kernel
theorem d_M_finish_23 : decode b_M_finish 23 = .ok (.getfield 19, 3) := by decide +kernel
theorem d_M_finish_26 : decode b_M_finish 26 = .ok (.bipush 60, 2) := by decide +kernel
theorem d_M_finish_28 : decode b_M_finish 28 = .ok (.iload_n 1, 1) := by decide +kernel
theorem d_M_finish_29 : decode b_M_finish 29 = .ok (.imul, 1) := by decide +kernel
theorem d_M_finish_30 : decode b_M_finish 30 = .ok (.iload_n 2, 1) := by decide +kernel
theorem d_M_finish_31 : decode b_M_finish 31 = .ok (.iadd, 1) := by decide +kernel
theorem d_M_finish_32 : decode b_M_finish 32 = .ok (.aload_n 0, 1) := by decide +kernel
theorem d_M_finish_33 : decode b_M_finish 33 = .ok (.getfield 25, 3) := by decide +kernel
theorem d_M_finish_36 : decode b_M_finish 36 = .ok (.iload_n 2, 1) := by decide +kernel
theorem d_M_finish_37 : decode b_M_finish 37 = .ok (.iaload, 1) := by decide +kernel
theorem d_M_finish_38 : decode b_M_finish 38 = .ok (.iastore, 1) := by decide +kernel
theorem d_M_finish_39 : decode b_M_finish 39 = .ok (.aload_n 0, 1) := by decide +kernel
theorem d_M_finish_40 : decode b_M_finish 40 = .ok (.getfield 22, 3) := by decide +kernel
theorem d_M_finish_43 : decode b_M_finish 43 = .ok (.bipush 60, 2) := by decide +kernel
theorem d_M_finish_45 : decode b_M_finish 45 = .ok (.iload_n 1, 1) := by decide +kernel
theorem d_M_finish_46 : decode b_M_finish 46 = .ok (.imul, 1) := by decide +kernel
theorem d_M_finish_47 : decode b_M_finish 47 = .ok (.iload_n 2, 1) := by decide +kernel
theorem d_M_finish_48 : decode b_M_finish 48 = .ok (.iadd, 1) := by decide +kernel
theorem d_M_finish_49 : decode b_M_finish 49 = .ok (.aload_n 0, 1) := by decide +kernel
theorem d_M_finish_50 : decode b_M_finish 50 = .ok (.getfield 28, 3) := by decide +kernel
theorem d_M_finish_53 : decode b_M_finish 53 = .ok (.iload_n 2, 1) := by decide +kernel
theorem d_M_finish_54 : decode b_M_finish 54 = .ok (.iaload, 1) := by decide +kernel
theorem d_M_finish_55 : decode b_M_finish 55 = .ok (.iastore, 1) := by decide +kernel
theorem d_M_finish_56 : decode b_M_finish 56 = .ok (.iinc 2 1, 3) := by decide +kernel
theorem d_M_finish_59 : decode b_M_finish 59 = .ok (.goto (-45), 3) := by decide +kernel
theorem d_M_finish_62 : decode b_M_finish 62 = .ok (.aload_n 0, 1) := by decide +kernel
theorem d_M_finish_63 : decode b_M_finish 63 = .ok (.getfield 16, 3) := by decide +kernel
theorem d_M_finish_66 : decode b_M_finish 66 = .ok (.iload_n 1, 1) := by decide +kernel
theorem d_M_finish_67 : decode b_M_finish 67 = .ok (.aload_n 0, 1) := by decide +kernel
theorem d_M_finish_68 : decode b_M_finish 68 = .ok (.getfield 55, 3) := by decide +kernel
theorem d_M_finish_71 : decode b_M_finish 71 = .ok (.iastore, 1) := by decide +kernel
theorem d_M_finish_72 : decode b_M_finish 72 = .ok (.aload_n 0, 1) := by decide +kernel
theorem d_M_finish_73 : decode b_M_finish 73 = .ok (.aload_n 0, 1) := by decide +kernel
theorem d_M_finish_74 : decode b_M_finish 74 = .ok (.getfield 51, 3) := by decide +kernel
theorem d_M_finish_77 : decode b_M_finish 77 = .ok (.aload_n 0, 1) := by decide +kernel
theorem d_M_finish_78 : decode b_M_finish 78 = .ok (.getfield 58, 3) := by decide +kernel
theorem d_M_finish_81 : decode b_M_finish 81 = .ok (.ladd, 1) := by decide +kernel
theorem d_M_finish_82 : decode b_M_finish 82 = .ok (.putfield 51, 3) := by decide +kernel
theorem d_M_finish_85 : decode b_M_finish 85 = .ok (.aload_n 0, 1) := by decide +kernel
theorem d_M_finish_86 : decode b_M_finish 86 = .ok (.getfield 55, 3) := by decide +kernel
theorem d_M_finish_89 : decode b_M_finish 89 = .ok (.ireturn, 1) := by decide +kernel
theorem d_M_compare_0 : decode b_M_compare 0 = .ok (.iload_n 0, 1) := by decide +kernel
theorem d_M_compare_1 : decode b_M_compare 1 = .ok (.iload_n 2, 1) := by decide +kernel
theorem d_M_compare_2 : decode b_M_compare 2 = .ok (.if_icmp .eq 16, 3) := by decide +kernel
theorem d_M_compare_5 : decode b_M_compare 5 = .ok (.iload_n 0, 1) := by decide +kernel
theorem d_M_compare_6 : decode b_M_compare 6 = .ok (.iload_n 2, 1) := by decide +kernel
theorem d_M_compare_7 : decode b_M_compare 7 = .ok (.if_icmp .ge 7, 3) := by decide +kernel
theorem d_M_compare_10 : decode b_M_compare 10 = .ok (.iconst (-1), 1) := by decide +kernel
theorem d_M_compare_11 : decode b_M_compare 11 = .ok (.goto 26, 3) := by decide +kernel
theorem d_M_compare_14 : decode b_M_compare 14 = .ok (.iconst 1, 1) := by decide +kernel
theorem d_M_compare_15 : decode b_M_compare 15 = .ok (.goto 22, 3) := by decide +kernel
theorem d_M_compare_18 : decode b_M_compare 18 = .ok (.iload_n 1, 1) := by decide +kernel
theorem d_M_compare_19 : decode b_M_compare 19 = .ok (.iload_n 3, 1) := by decide +kernel
theorem d_M_compare_20 : decode b_M_compare 20 = .ok (.if_icmp .eq 16, 3) := by decide +kernel
theorem d_M_compare_23 : decode b_M_compare 23 = .ok (.iload_n 1, 1) := by decide +kernel
theorem d_M_compare_24 : decode b_M_compare 24 = .ok (.iload_n 3, 1) := by decide +kernel
theorem d_M_compare_25 : decode b_M_compare 25 = .ok (.if_icmp .ge 7, 3) := by decide +kernel
theorem d_M_compare_28 : decode b_M_compare 28 = .ok (.iconst (-1), 1) := by decide +kernel
theorem d_M_compare_29 : decode b_M_compare 29 = .ok (.goto 8, 3) := by decide +kernel
theorem d_M_compare_32 : decode b_M_compare 32 = .ok (.iconst 1, 1) := by decide +kernel
theorem d_M_compare_33 : decode b_M_compare 33 = .ok (.goto 4, 3) := by decide +kernel
theorem d_M_compare_36 : decode b_M_compare 36 = .ok (.iconst 0, 1) := by decide +kernel
theorem d_M_compare_37 : decode b_M_compare 37 = .ok (.ireturn, 1) := by decide +kernel
theorem d_M_before_0 : decode b_M_before 0 = .ok (.iload_n 1, 1) := by decide +kernel
theorem d_M_before_1 : decode b_M_before 1 = .ok (.iload_n 2, 1) := by decide +kernel
theorem d_M_before_2 : decode b_M_before 2 = .ok (.iadd, 1) := by decide +kernel
theorem d_M_before_3 : decode b_M_before 3 = .ok (.istore 5, 2) := by decide +kernel
theorem d_M_before_5 : decode b_M_before 5 = .ok (.iload_n 1, 1) := by decide +kernel
theorem d_M_before_6 : decode b_M_before 6 = .ok (.iload_n 3, 1) := by decide +kernel
theorem d_M_before_7 : decode b_M_before 7 = .ok (.iadd, 1) := by decide +kernel
theorem d_M_before_8 : decode b_M_before 8 = .ok (.istore 6, 2) := by decide +kernel
theorem d_M_before_10 : decode b_M_before 10 = .ok (.iload 4, 2) := by decide +kernel
theorem d_M_before_12 : decode b_M_before 12 = .ok (.ifCond .ne 25, 3) := by decide +kernel
theorem d_M_before_15 : decode b_M_before 15 = .ok (.aload_n 0, 1) := by decide +kernel
theorem d_M_before_16 : decode b_M_before 16 = .ok (.getfield 19, 3) := by decide +kernel
theorem d_M_before_19 : decode b_M_before 19 = .ok (.iload 5, 2) := by decide +kernel
theorem d_M_before_21 : decode b_M_before 21 = .ok (.iaload, 1) := by decide +kernel
theorem d_M_before_22 : decode b_M_before 22 = .ok (.iconst 0, 1) := by decide +kernel
theorem d_M_before_23 : decode b_M_before 23 = .ok (.aload_n 0, 1) := by decide +kernel
theorem d_M_before_24 : decode b_M_before 24 = .ok (.getfield 19, 3) := by decide +kernel
theorem d_M_before_27 : decode b_M_before 27 = .ok (.iload 6, 2) := by decide +kernel
theorem d_M_before_29 : decode b_M_before 29 = .ok (.iaload, 1) := by decide +kernel
theorem d_M_before_30 : decode b_M_before 30 = .ok (.iconst 0, 1) := by decide +kernel
theorem d_M_before_31 : decode b_M_before 31 = .ok (.invokestatic 61, 3) := by decide +kernel
theorem d_M_before_34 : decode b_M_before 34 = .ok (.goto 62, 3) := by decide +kernel
theorem d_M_before_37 : decode b_M_before 37 = .ok (.iload 4, 2) := by decide +kernel
theorem d_M_before_39 : decode b_M_before 39 = .ok (.iconst 1, 1) := by decide +kernel
theorem d_M_before_40 : decode b_M_before 40 = .ok (.if_icmp .ne 25, 3) := by decide +kernel
theorem d_M_before_43 : decode b_M_before 43 = .ok (.iconst 0, 1) := by decide +kernel
theorem d_M_before_44 : decode b_M_before 44 = .ok (.aload_n 0, 1) := by decide +kernel
theorem d_M_before_45 : decode b_M_before 45 = .ok (.getfield 22, 3) := by decide +kernel
theorem d_M_before_48 : decode b_M_before 48 = .ok (.iload 5, 2) := by decide +kernel
theorem d_M_before_50 : decode b_M_before 50 = .ok (.iaload, 1) := by decide +kernel
theorem d_M_before_51 : decode b_M_before 51 = .ok (.iconst 0, 1) := by decide +kernel
theorem d_M_before_52 : decode b_M_before 52 = .ok (.aload_n 0, 1) := by decide +kernel
theorem d_M_before_53 : decode b_M_before 53 = .ok (.getfield 22, 3) := by decide +kernel
theorem d_M_before_56 : decode b_M_before 56 = .ok (.iload 6, 2) := by decide +kernel
theorem d_M_before_58 : decode b_M_before 58 = .ok (.iaload, 1) := by decide +kernel
theorem d_M_before_59 : decode b_M_before 59 = .ok (.invokestatic 61, 3) := by decide +kernel
theorem d_M_before_62 : decode b_M_before 62 = .ok (.goto 34, 3) := by decide +kernel
theorem d_M_before_65 : decode b_M_before 65 = .ok (.aload_n 0, 1) := by decide +kernel
theorem d_M_before_66 : decode b_M_before 66 = .ok (.getfield 19, 3) := by decide +kernel
theorem d_M_before_69 : decode b_M_before 69 = .ok (.iload 5, 2) := by decide +kernel
theorem d_M_before_71 : decode b_M_before 71 = .ok (.iaload, 1) := by decide +kernel
theorem d_M_before_72 : decode b_M_before 72 = .ok (.aload_n 0, 1) := by decide +kernel
theorem d_M_before_73 : decode b_M_before 73 = .ok (.getfield 22, 3) := by decide +kernel
theorem d_M_before_76 : decode b_M_before 76 = .ok (.iload 5, 2) := by decide +kernel
theorem d_M_before_78 : decode b_M_before 78 = .ok (.iaload, 1) := by decide +kernel
theorem d_M_before_79 : decode b_M_before 79 = .ok (.aload_n 0, 1) := by decide +kernel
theorem d_M_before_80 : decode b_M_before 80 = .ok (.getfield 19, 3) := by decide +kernel
theorem d_M_before_83 : decode b_M_before 83 = .ok (.iload 6, 2) := by decide +kernel
theorem d_M_before_85 : decode b_M_before 85 = .ok (.iaload, 1) := by decide +kernel
theorem d_M_before_86 : decode b_M_before 86 = .ok (.aload_n 0, 1) := by decide +kernel
theorem d_M_before_87 : decode b_M_before 87 = .ok (.getfield 22, 3) := by decide +kernel
theorem d_M_before_90 : decode b_M_before 90 = .ok (.iload 6, 2) := by decide +kernel
theorem d_M_before_92 : decode b_M_before 92 = .ok (.iaload, 1) := by decide +kernel
theorem d_M_before_93 : decode b_M_before 93 = .ok (.invokestatic 61, 3) := by decide +kernel
theorem d_M_before_96 : decode b_M_before 96 = .ok (.istore 7, 2) := by decide +kernel
theorem d_M_before_98 : decode b_M_before 98 = .ok (.iload 7, 2) := by decide +kernel
theorem d_M_before_100 : decode b_M_before 100 = .ok (.ifCond .lt 13, 3) := by decide +kernel
theorem d_M_before_103 : decode b_M_before 103 = .ok (.iload 7, 2) := by decide +kernel
theorem d_M_before_105 : decode b_M_before 105 = .ok (.ifCond .ne 12, 3) := by decide +kernel
theorem d_M_before_108 : decode b_M_before 108 = .ok (.iload_n 2, 1) := by decide +kernel
theorem d_M_before_109 : decode b_M_before 109 = .ok (.iload_n 3, 1) := by decide +kernel
theorem d_M_before_110 : decode b_M_before 110 = .ok (.if_icmp .ge 7, 3) := by decide +kernel
theorem d_M_before_113 : decode b_M_before 113 = .ok (.iconst 1, 1) := by decide +kernel
theorem d_M_before_114 : decode b_M_before 114 = .ok (.goto 4, 3) := by decide +kernel
theorem d_M_before_117 : decode b_M_before 117 = .ok (.iconst 0, 1) := by decide +kernel
theorem d_M_before_118 : decode b_M_before 118 = .ok (.ireturn, 1) := by decide +kernel
theorem d_M_sort_0 : decode b_M_sort 0 = .ok (.aload_n 0, 1) := by decide +kernel
theorem d_M_sort_1 : decode b_M_sort 1 = .ok (.iload_n 2, 1) := by decide +kernel
theorem d_M_sort_2 : decode b_M_sort 2 = .ok (.ifCond .lt 12, 3) := by decide +kernel
theorem d_M_sort_5 : decode b_M_sort 5 = .ok (.iload_n 2, 1) := by decide +kernel
theorem d_M_sort_6 : decode b_M_sort 6 = .ok (.iconst 2, 1) := by decide +kernel
theorem d_M_sort_7 : decode b_M_sort 7 = .ok (.if_icmp .gt 7, 3) := by decide +kernel
theorem d_M_sort_10 : decode b_M_sort 10 = .ok (.iconst 1, 1) := by decide +kernel
theorem d_M_sort_11 : decode b_M_sort 11 = .ok (.goto 4, 3) := by decide +kernel
theorem d_M_sort_14 : decode b_M_sort 14 = .ok (.iconst 0, 1) := by decide +kernel
theorem d_M_sort_15 : decode b_M_sort 15 = .ok (.iload_n 1, 1) := by decide +kernel
theorem d_M_sort_16 : decode b_M_sort 16 = .ok (.iload_n 1, 1) := by decide +kernel
theorem d_M_sort_17 : decode b_M_sort 17 = .ok (.iload_n 3, 1) := by decide +kernel
theorem d_M_sort_18 : decode b_M_sort 18 = .ok (.invokevirtual 65, 3) := by decide +kernel
theorem d_M_sort_21 : decode b_M_sort 21 = .ok (.istore 4, 2) := by decide +kernel
theorem d_M_sort_23 : decode b_M_sort 23 = .ok (.iload 4, 2) := by decide +kernel
theorem d_M_sort_25 : decode b_M_sort 25 = .ok (.ifCond .eq 6, 3) := by decide +kernel
theorem d_M_sort_28 : decode b_M_sort 28 = .ok (.iload 4, 2) := by decide +kernel
theorem d_M_sort_30 : decode b_M_sort 30 = .ok (.ireturn, 1) := by decide +kernel
theorem d_M_sort_31 : decode b_M_sort 31 = .ok (.aload_n 0, 1) := by decide +kernel
theorem d_M_sort_32 : decode b_M_sort 32 = .ok (.getfield 16, 3) := by decide +kernel
theorem d_M_sort_35 : decode b_M_sort 35 = .ok (.iload_n 1, 1) := by decide +kernel
theorem d_M_sort_36 : decode b_M_sort 36 = .ok (.iaload, 1) := by decide +kernel
theorem d_M_sort_37 : decode b_M_sort 37 = .ok (.istore 5, 2) := by decide +kernel
theorem d_M_sort_39 : decode b_M_sort 39 = .ok (.aload_n 0, 1) := by decide +kernel
theorem d_M_sort_40 : decode b_M_sort 40 = .ok (.iload 5, 2) := by decide +kernel
theorem d_M_sort_42 : decode b_M_sort 42 = .ok (.putfield 55, 3) := by decide +kernel
theorem d_M_sort_45 : decode b_M_sort 45 = .ok (.iconst 0, 1) := by decide +kernel
theorem d_M_sort_46 : decode b_M_sort 46 = .ok (.istore 6, 2) := by decide +kernel
theorem d_M_sort_48 : decode b_M_sort 48 = .ok (.iload 6, 2) := by decide +kernel
theorem d_M_sort_50 : decode b_M_sort 50 = .ok (.iload 5, 2) := by decide +kernel
theorem d_M_sort_52 : decode b_M_sort 52 = .ok (.if_icmp .ge 92, 3) := by decide +kernel
theorem d_M_sort_55 : decode b_M_sort 55 = .ok (.iconst 0, 1) := by decide +kernel
theorem d_M_sort_56 : decode b_M_sort 56 = .ok (.istore 7, 2) := by decide +kernel
theorem d_M_sort_58 : decode b_M_sort 58 = .ok (.iconst 0, 1) := by decide +kernel
theorem d_M_sort_59 : decode b_M_sort 59 = .ok (.istore 8, 2) := by decide +kernel
theorem d_M_sort_61 : decode b_M_sort 61 = .ok (.iload 8, 2) := by decide +kernel
theorem d_M_sort_63 : decode b_M_sort 63 = .ok (.iload 5, 2) := by decide +kernel
theorem d_M_sort_65 : decode b_M_sort 65 = .ok (.if_icmp .ge 35, 3) := by decide +kernel
theorem d_M_sort_68 : decode b_M_sort 68 = .ok (.iload 7, 2) := by decide +kernel
theorem d_M_sort_70 : decode b_M_sort 70 = .ok (.aload_n 0, 1) := by decide +kernel
theorem d_M_sort_71 : decode b_M_sort 71 = .ok (.bipush 60, 2) := by decide +kernel
theorem d_M_sort_73 : decode b_M_sort 73 = .ok (.iload_n 1, 1) := by decide +kernel
theorem d_M_sort_74 : decode b_M_sort 74 = .ok (.imul, 1) := by decide +kernel
theorem d_M_sort_75 : decode b_M_sort 75 = .ok (.iload 8, 2) := by decide +kernel
theorem d_M_sort_77 : decode b_M_sort 77 = .ok (.iload 6, 2) := by decide +kernel
theorem d_M_sort_79 : decode b_M_sort 79 = .ok (.iload_n 2, 1) := by decide +kernel
theorem d_M_sort_80 : decode b_M_sort 80 = .ok (.invokevirtual 69, 3) := by decide +kernel
theorem d_M_sort_83 : decode b_M_sort 83 = .ok (.ifCond .eq 7, 3) := by decide +kernel
theorem d_M_sort_86 : decode b_M_sort 86 = .ok (.iconst 1, 1) := by decide +kernel
theorem d_M_sort_87 : decode b_M_sort 87 = .ok (.goto 4, 3) := by decide +kernel
theorem d_M_sort_90 : decode b_M_sort 90 = .ok (.iconst 0, 1) := by decide +kernel
theorem d_M_sort_91 : decode b_M_sort 91 = .ok (.iadd, 1) := by decide +kernel
theorem d_M_sort_92 : decode b_M_sort 92 = .ok (.istore 7, 2) := by decide +kernel
theorem d_M_sort_94 : decode b_M_sort 94 = .ok (.iinc 8 1, 3) := by decide +kernel
theorem d_M_sort_97 : decode b_M_sort 97 = .ok (.goto (-36), 3) := by decide +kernel
theorem d_M_sort_100 : decode b_M_sort 100 = .ok (.aload_n 0, 1) := by decide +kernel
theorem d_M_sort_101 : decode b_M_sort 101 = .ok (.getfield 25, 3) := by decide +kernel
theorem d_M_sort_104 : decode b_M_sort 104 = .ok (.iload 7, 2) := by decide +kernel
theorem d_M_sort_106 : decode b_M_sort 106 = .ok (.aload_n 0, 1) := by decide +kernel
theorem d_M_sort_107 : decode b_M_sort 107 = .ok (.getfield 19, 3) := by decide +kernel
theorem d_M_sort_110 : decode b_M_sort 110 = .ok (.bipush 60, 2) := by decide +kernel
theorem d_M_sort_112 : decode b_M_sort 112 = .ok (.iload_n 1, 1) := by decide +kernel
theorem d_M_sort_113 : decode b_M_sort 113 = .ok (.imul, 1) := by decide +kernel
theorem d_M_sort_114 : decode b_M_sort 114 = .ok (.iload 6, 2) := by decide +kernel
theorem d_M_sort_116 : decode b_M_sort 116 = .ok (.iadd, 1) := by decide +kernel
theorem d_M_sort_117 : decode b_M_sort 117 = .ok (.iaload, 1) := by decide +kernel
theorem d_M_sort_118 : decode b_M_sort 118 = .ok (.iastore, 1) := by decide +kernel
theorem d_M_sort_119 : decode b_M_sort 119 = .ok (.aload_n 0, 1) := by decide +kernel
theorem d_M_sort_120 : decode b_M_sort 120 = .ok (.getfield 28, 3) := by decide +kernel
theorem d_M_sort_123 : decode b_M_sort 123 = .ok (.iload 7, 2) := by decide +kernel
theorem d_M_sort_125 : decode b_M_sort 125 = .ok (.aload_n 0, 1) := by decide +kernel
theorem d_M_sort_126 : decode b_M_sort 126 = .ok (.getfield 22, 3) := by decide +kernel
theorem d_M_sort_129 : decode b_M_sort 129 = .ok (.bipush 60, 2) := by decide +kernel
theorem d_M_sort_131 : decode b_M_sort 131 = .ok (.iload_n 1, 1) := by decide +kernel
theorem d_M_sort_132 : decode b_M_sort 132 = .ok (.imul, 1) := by decide +kernel
theorem d_M_sort_133 : decode b_M_sort 133 = .ok (.iload 6, 2) := by decide +kernel
theorem d_M_sort_135 : decode b_M_sort 135 = .ok (.iadd, 1) := by decide +kernel
theorem d_M_sort_136 : decode b_M_sort 136 = .ok (.iaload, 1) := by decide +kernel
theorem d_M_sort_137 : decode b_M_sort 137 = .ok (.iastore, 1) := by decide +kernel
theorem d_M_sort_138 : decode b_M_sort 138 = .ok (.iinc 6 1, 3) := by decide +kernel
theorem d_M_sort_141 : decode b_M_sort 141 = .ok (.goto (-93), 3) := by decide +kernel
theorem d_M_sort_144 : decode b_M_sort 144 = .ok (.aload_n 0, 1) := by decide +kernel
theorem d_M_sort_145 : decode b_M_sort 145 = .ok (.aload_n 0, 1) := by decide +kernel
theorem d_M_sort_146 : decode b_M_sort 146 = .ok (.iload 5, 2) := by decide +kernel
theorem d_M_sort_148 : decode b_M_sort 148 = .ok (.invokevirtual 73, 3) := by decide +kernel
theorem d_M_sort_151 : decode b_M_sort 151 = .ok (.putfield 58, 3) := by decide +kernel
theorem d_M_sort_154 : decode b_M_sort 154 = .ok (.aload_n 0, 1) := by decide +kernel
theorem d_M_sort_155 : decode b_M_sort 155 = .ok (.iload_n 3, 1) := by decide +kernel
theorem d_M_sort_156 : decode b_M_sort 156 = .ok (.invokevirtual 77, 3) := by decide +kernel
theorem d_M_sort_159 : decode b_M_sort 159 = .ok (.ireturn, 1) := by decide +kernel
theorem d_M_select_0 : decode b_M_select 0 = .ok (.aload_n 0, 1) := by decide +kernel
theorem d_M_select_1 : decode b_M_select 1 = .ok (.iconst 1, 1) := by decide +kernel
theorem d_M_select_2 : decode b_M_select 2 = .ok (.iload_n 1, 1) := by decide +kernel
theorem d_M_select_3 : decode b_M_select 3 = .ok (.iload_n 1, 1) := by decide +kernel
theorem d_M_select_4 : decode b_M_select 4 = .ok (.iload 4, 2) := by decide +kernel
theorem d_M_select_6 : decode b_M_select 6 = .ok (.invokevirtual 65, 3) := by decide +kernel
theorem d_M_select_9 : decode b_M_select 9 = .ok (.istore 5, 2) := by decide +kernel
theorem d_M_select_11 : decode b_M_select 11 = .ok (.iload 5, 2) := by decide +kernel
theorem d_M_select_13 : decode b_M_select 13 = .ok (.ifCond .eq 6, 3) := by decide +kernel
theorem d_M_select_16 : decode b_M_select 16 = .ok (.iload 5, 2) := by decide +kernel
theorem d_M_select_18 : decode b_M_select 18 = .ok (.ireturn, 1) := by decide +kernel
theorem d_M_select_19 : decode b_M_select 19 = .ok (.iconst 0, 1) := by decide +kernel
theorem d_M_select_20 : decode b_M_select 20 = .ok (.istore 6, 2) := by decide +kernel
theorem d_M_select_22 : decode b_M_select 22 = .ok (.iload 6, 2) := by decide +kernel
theorem d_M_select_24 : decode b_M_select 24 = .ok (.aload_n 0, 1) := by decide +kernel
theorem d_M_select_25 : decode b_M_select 25 = .ok (.getfield 16, 3) := by decide +kernel
theorem d_M_select_28 : decode b_M_select 28 = .ok (.iload_n 1, 1) := by decide +kernel
theorem d_M_select_29 : decode b_M_select 29 = .ok (.iaload, 1) := by decide +kernel
theorem d_M_select_30 : decode b_M_select 30 = .ok (.if_icmp .ge 53, 3) := by decide +kernel
theorem d_M_select_33 : decode b_M_select 33 = .ok (.aload_n 0, 1) := by decide +kernel
theorem d_M_select_34 : decode b_M_select 34 = .ok (.getfield 19, 3) := by decide +kernel
theorem d_M_select_37 : decode b_M_select 37 = .ok (.bipush 60, 2) := by decide +kernel
theorem d_M_select_39 : decode b_M_select 39 = .ok (.iload_n 1, 1) := by decide +kernel
theorem d_M_select_40 : decode b_M_select 40 = .ok (.imul, 1) := by decide +kernel
theorem d_M_select_41 : decode b_M_select 41 = .ok (.iload 6, 2) := by decide +kernel
theorem d_M_select_43 : decode b_M_select 43 = .ok (.iadd, 1) := by decide +kernel
theorem d_M_select_44 : decode b_M_select 44 = .ok (.iaload, 1) := by decide +kernel
theorem d_M_select_45 : decode b_M_select 45 = .ok (.istore 7, 2) := by decide +kernel
theorem d_M_select_47 : decode b_M_select 47 = .ok (.iload_n 2, 1) := by decide +kernel
theorem d_M_select_48 : decode b_M_select 48 = .ok (.iload 7, 2) := by decide +kernel
theorem d_M_select_50 : decode b_M_select 50 = .ok (.if_icmp .gt 27, 3) := by decide +kernel
theorem d_M_select_53 : decode b_M_select 53 = .ok (.iload 7, 2) := by decide +kernel
theorem d_M_select_55 : decode b_M_select 55 = .ok (.iload_n 3, 1) := by decide +kernel
theorem d_M_select_56 : decode b_M_select 56 = .ok (.if_icmp .gt 21, 3) := by decide +kernel
theorem d_M_select_59 : decode b_M_select 59 = .ok (.aload_n 0, 1) := by decide +kernel
theorem d_M_select_60 : decode b_M_select 60 = .ok (.iload 7, 2) := by decide +kernel
theorem d_M_select_62 : decode b_M_select 62 = .ok (.aload_n 0, 1) := by decide +kernel
theorem d_M_select_63 : decode b_M_select 63 = .ok (.getfield 22, 3) := by decide +kernel
theorem d_M_select_66 : decode b_M_select 66 = .ok (.bipush 60, 2) := by decide +kernel
theorem d_M_select_68 : decode b_M_select 68 = .ok (.iload_n 1, 1) := by decide +kernel
theorem d_M_select_69 : decode b_M_select 69 = .ok (.imul, 1) := by decide +kernel
theorem d_M_select_70 : decode b_M_select 70 = .ok (.iload 6, 2) := by decide +kernel
theorem d_M_select_72 : decode b_M_select 72 = .ok (.iadd, 1) := by decide +kernel
theorem d_M_select_73 : decode b_M_select 73 = .ok (.iaload, 1) := by decide +kernel
theorem d_M_select_74 : decode b_M_select 74 = .ok (.invokevirtual 80, 3) := by decide +kernel
theorem d_M_select_77 : decode b_M_select 77 = .ok (.iinc 6 1, 3) := by decide +kernel
theorem d_M_select_80 : decode b_M_select 80 = .ok (.goto (-58), 3) := by decide +kernel
theorem d_M_select_83 : decode b_M_select 83 = .ok (.aload_n 0, 1) := by decide +kernel
theorem d_M_select_84 : decode b_M_select 84 = .ok (.aload_n 0, 1) := by decide +kernel
theorem d_M_select_85 : decode b_M_select 85 = .ok (.getfield 16, 3) := by decide +kernel
theorem d_M_select_88 : decode b_M_select 88 = .ok (.iload_n 1, 1) := by decide +kernel
theorem d_M_select_89 : decode b_M_select 89 = .ok (.iaload, 1) := by decide +kernel
theorem d_M_select_90 : decode b_M_select 90 = .ok (.invokestatic 38, 3) := by decide +kernel
theorem d_M_select_93 : decode b_M_select 93 = .ok (.aload_n 0, 1) := by decide +kernel
theorem d_M_select_94 : decode b_M_select 94 = .ok (.getfield 55, 3) := by decide +kernel
theorem d_M_select_97 : decode b_M_select 97 = .ok (.invokestatic 38, 3) := by decide +kernel
theorem d_M_select_100 : decode b_M_select 100 = .ok (.iadd, 1) := by decide +kernel
theorem d_M_select_101 : decode b_M_select 101 = .ok (.i2l, 1) := by decide +kernel
theorem d_M_select_102 : decode b_M_select 102 = .ok (.putfield 58, 3) := by decide +kernel
theorem d_M_select_105 : decode b_M_select 105 = .ok (.aload_n 0, 1) := by decide +kernel
theorem d_M_select_106 : decode b_M_select 106 = .ok (.iload 4, 2) := by decide +kernel
theorem d_M_select_108 : decode b_M_select 108 = .ok (.invokevirtual 77, 3) := by decide +kernel
theorem d_M_select_111 : decode b_M_select 111 = .ok (.ireturn, 1) := by decide +kernel
theorem d_M_times_0 : decode b_M_times 0 = .ok (.iconst 0, 1) := by decide +kernel
theorem d_M_times_1 : decode b_M_times 1 = .ok (.istore 4, 2) := by decide +kernel
theorem d_M_times_3 : decode b_M_times 3 = .ok (.iconst 0, 1) := by decide +kernel
theorem d_M_times_4 : decode b_M_times 4 = .ok (.istore 5, 2) := by decide +kernel
theorem d_M_times_6 : decode b_M_times 6 = .ok (.iload 5, 2) := by decide +kernel
theorem d_M_times_8 : decode b_M_times 8 = .ok (.aload_n 0, 1) := by decide +kernel
theorem d_M_times_9 : decode b_M_times 9 = .ok (.getfield 16, 3) := by decide +kernel
theorem d_M_times_12 : decode b_M_times 12 = .ok (.iload_n 1, 1) := by decide +kernel
theorem d_M_times_13 : decode b_M_times 13 = .ok (.iaload, 1) := by decide +kernel
theorem d_M_times_14 : decode b_M_times 14 = .ok (.if_icmp .ge 51, 3) := by decide +kernel
theorem d_M_times_17 : decode b_M_times 17 = .ok (.iload 4, 2) := by decide +kernel
theorem d_M_times_19 : decode b_M_times 19 = .ok (.aload_n 0, 1) := by decide +kernel
theorem d_M_times_20 : decode b_M_times 20 = .ok (.getfield 19, 3) := by decide +kernel
theorem d_M_times_23 : decode b_M_times 23 = .ok (.bipush 60, 2) := by decide +kernel
theorem d_M_times_25 : decode b_M_times 25 = .ok (.iload_n 1, 1) := by decide +kernel
theorem d_M_times_26 : decode b_M_times 26 = .ok (.imul, 1) := by decide +kernel
theorem d_M_times_27 : decode b_M_times 27 = .ok (.iload 5, 2) := by decide +kernel
theorem d_M_times_29 : decode b_M_times 29 = .ok (.iadd, 1) := by decide +kernel
theorem d_M_times_30 : decode b_M_times 30 = .ok (.iaload, 1) := by decide +kernel
theorem d_M_times_31 : decode b_M_times 31 = .ok (.iload_n 2, 1) := by decide +kernel
theorem d_M_times_32 : decode b_M_times 32 = .ok (.if_icmp .ne 23, 3) := by decide +kernel
theorem d_M_times_35 : decode b_M_times 35 = .ok (.aload_n 0, 1) := by decide +kernel
theorem d_M_times_36 : decode b_M_times 36 = .ok (.getfield 22, 3) := by decide +kernel
theorem d_M_times_39 : decode b_M_times 39 = .ok (.bipush 60, 2) := by decide +kernel
theorem d_M_times_41 : decode b_M_times 41 = .ok (.iload_n 1, 1) := by decide +kernel
theorem d_M_times_42 : decode b_M_times 42 = .ok (.imul, 1) := by decide +kernel
theorem d_M_times_43 : decode b_M_times 43 = .ok (.iload 5, 2) := by decide +kernel
theorem d_M_times_45 : decode b_M_times 45 = .ok (.iadd, 1) := by decide +kernel
theorem d_M_times_46 : decode b_M_times 46 = .ok (.iaload, 1) := by decide +kernel
theorem d_M_times_47 : decode b_M_times 47 = .ok (.iload_n 3, 1) := by decide +kernel
theorem d_M_times_48 : decode b_M_times 48 = .ok (.if_icmp .ne 7, 3) := by decide +kernel
theorem d_M_times_51 : decode b_M_times 51 = .ok (.iconst 1, 1) := by decide +kernel
theorem d_M_times_52 : decode b_M_times 52 = .ok (.goto 4, 3) := by decide +kernel
theorem d_M_times_55 : decode b_M_times 55 = .ok (.iconst 0, 1) := by decide +kernel
theorem d_M_times_56 : decode b_M_times 56 = .ok (.iadd, 1) := by decide +kernel
theorem d_M_times_57 : decode b_M_times 57 = .ok (.istore 4, 2) := by decide +kernel
theorem d_M_times_59 : decode b_M_times 59 = .ok (.iinc 5 1, 3) := by decide +kernel
theorem d_M_times_62 : decode b_M_times 62 = .ok (.goto (-56), 3) := by decide +kernel
theorem d_M_times_65 : decode b_M_times 65 = .ok (.iload 4, 2) := by decide +kernel
theorem d_M_times_67 : decode b_M_times 67 = .ok (.ireturn, 1) := by decide +kernel
theorem d_M_next_0 : decode b_M_next 0 = .ok (.iconst (-1), 1) := by decide +kernel
theorem d_M_next_1 : decode b_M_next 1 = .ok (.istore 4, 2) := by decide +kernel
theorem d_M_next_3 : decode b_M_next 3 = .ok (.iconst 0, 1) := by decide +kernel
theorem d_M_next_4 : decode b_M_next 4 = .ok (.istore 5, 2) := by decide +kernel
theorem d_M_next_6 : decode b_M_next 6 = .ok (.iload 5, 2) := by decide +kernel
theorem d_M_next_8 : decode b_M_next 8 = .ok (.iconst 2, 1) := by decide +kernel
theorem d_M_next_9 : decode b_M_next 9 = .ok (.if_icmp .ge 143, 3) := by decide +kernel
theorem d_M_next_12 : decode b_M_next 12 = .ok (.iload 5, 2) := by decide +kernel
theorem d_M_next_14 : decode b_M_next 14 = .ok (.ifCond .ne 7, 3) := by decide +kernel
theorem d_M_next_17 : decode b_M_next 17 = .ok (.iload_n 1, 1) := by decide +kernel
theorem d_M_next_18 : decode b_M_next 18 = .ok (.goto 4, 3) := by decide +kernel
theorem d_M_next_21 : decode b_M_next 21 = .ok (.iload_n 2, 1) := by decide +kernel
theorem d_M_next_22 : decode b_M_next 22 = .ok (.istore 6, 2) := by decide +kernel
theorem d_M_next_24 : decode b_M_next 24 = .ok (.bipush 60, 2) := by decide +kernel
theorem d_M_next_26 : decode b_M_next 26 = .ok (.iload 6, 2) := by decide +kernel
theorem d_M_next_28 : decode b_M_next 28 = .ok (.imul, 1) := by decide +kernel
theorem d_M_next_29 : decode b_M_next 29 = .ok (.istore 7, 2) := by decide +kernel
theorem d_M_next_31 : decode b_M_next 31 = .ok (.iload 7, 2) := by decide +kernel
theorem d_M_next_33 : decode b_M_next 33 = .ok (.bipush 60, 2) := by decide +kernel
theorem d_M_next_35 : decode b_M_next 35 = .ok (.iload 6, 2) := by decide +kernel
theorem d_M_next_37 : decode b_M_next 37 = .ok (.imul, 1) := by decide +kernel
theorem d_M_next_38 : decode b_M_next 38 = .ok (.aload_n 0, 1) := by decide +kernel
theorem d_M_next_39 : decode b_M_next 39 = .ok (.getfield 16, 3) := by decide +kernel
theorem d_M_next_42 : decode b_M_next 42 = .ok (.iload 6, 2) := by decide +kernel
theorem d_M_next_44 : decode b_M_next 44 = .ok (.iaload, 1) := by decide +kernel
theorem d_M_next_45 : decode b_M_next 45 = .ok (.iadd, 1) := by decide +kernel
theorem d_M_next_46 : decode b_M_next 46 = .ok (.if_icmp .ge 100, 3) := by decide +kernel
theorem d_M_next_49 : decode b_M_next 49 = .ok (.iload_n 3, 1) := by decide +kernel
theorem d_M_next_50 : decode b_M_next 50 = .ok (.ifCond .lt 35, 3) := by decide +kernel
theorem d_M_next_53 : decode b_M_next 53 = .ok (.aload_n 0, 1) := by decide +kernel
theorem d_M_next_54 : decode b_M_next 54 = .ok (.getfield 19, 3) := by decide +kernel
theorem d_M_next_57 : decode b_M_next 57 = .ok (.iload_n 3, 1) := by decide +kernel
theorem d_M_next_58 : decode b_M_next 58 = .ok (.iaload, 1) := by decide +kernel
theorem d_M_next_59 : decode b_M_next 59 = .ok (.aload_n 0, 1) := by decide +kernel
theorem d_M_next_60 : decode b_M_next 60 = .ok (.getfield 22, 3) := by decide +kernel
theorem d_M_next_63 : decode b_M_next 63 = .ok (.iload_n 3, 1) := by decide +kernel
theorem d_M_next_64 : decode b_M_next 64 = .ok (.iaload, 1) := by decide +kernel
theorem d_M_next_65 : decode b_M_next 65 = .ok (.aload_n 0, 1) := by decide +kernel
theorem d_M_next_66 : decode b_M_next 66 = .ok (.getfield 19, 3) := by decide +kernel
theorem d_M_next_69 : decode b_M_next 69 = .ok (.iload 7, 2) := by decide +kernel
theorem d_M_next_71 : decode b_M_next 71 = .ok (.iaload, 1) := by decide +kernel
theorem d_M_next_72 : decode b_M_next 72 = .ok (.aload_n 0, 1) := by decide +kernel
theorem d_M_next_73 : decode b_M_next 73 = .ok (.getfield 22, 3) := by decide +kernel
theorem d_M_next_76 : decode b_M_next 76 = .ok (.iload 7, 2) := by decide +kernel
theorem d_M_next_78 : decode b_M_next 78 = .ok (.iaload, 1) := by decide +kernel
theorem d_M_next_79 : decode b_M_next 79 = .ok (.invokestatic 61, 3) := by decide +kernel
theorem d_M_next_82 : decode b_M_next 82 = .ok (.ifCond .ge 7, 3) := by decide +kernel
theorem d_M_next_85 : decode b_M_next 85 = .ok (.iconst 1, 1) := by decide +kernel
theorem d_M_next_86 : decode b_M_next 86 = .ok (.goto 4, 3) := by decide +kernel
theorem d_M_next_89 : decode b_M_next 89 = .ok (.iconst 0, 1) := by decide +kernel
theorem d_M_next_90 : decode b_M_next 90 = .ok (.istore 8, 2) := by decide +kernel
theorem d_M_next_92 : decode b_M_next 92 = .ok (.iload 8, 2) := by decide +kernel
theorem d_M_next_94 : decode b_M_next 94 = .ok (.ifCond .eq 46, 3) := by decide +kernel
theorem d_M_next_97 : decode b_M_next 97 = .ok (.iload 4, 2) := by decide +kernel
theorem d_M_next_99 : decode b_M_next 99 = .ok (.ifCond .lt 37, 3) := by decide +kernel
theorem d_M_next_102 : decode b_M_next 102 = .ok (.aload_n 0, 1) := by decide +kernel
theorem d_M_next_103 : decode b_M_next 103 = .ok (.getfield 19, 3) := by decide +kernel
theorem d_M_next_106 : decode b_M_next 106 = .ok (.iload 7, 2) := by decide +kernel
theorem d_M_next_108 : decode b_M_next 108 = .ok (.iaload, 1) := by decide +kernel
theorem d_M_next_109 : decode b_M_next 109 = .ok (.aload_n 0, 1) := by decide +kernel
theorem d_M_next_110 : decode b_M_next 110 = .ok (.getfield 22, 3) := by decide +kernel
theorem d_M_next_113 : decode b_M_next 113 = .ok (.iload 7, 2) := by decide +kernel
theorem d_M_next_115 : decode b_M_next 115 = .ok (.iaload, 1) := by decide +kernel
theorem d_M_next_116 : decode b_M_next 116 = .ok (.aload_n 0, 1) := by decide +kernel
theorem d_M_next_117 : decode b_M_next 117 = .ok (.getfield 19, 3) := by decide +kernel
theorem d_M_next_120 : decode b_M_next 120 = .ok (.iload 4, 2) := by decide +kernel
theorem d_M_next_122 : decode b_M_next 122 = .ok (.iaload, 1) := by decide +kernel
theorem d_M_next_123 : decode b_M_next 123 = .ok (.aload_n 0, 1) := by decide +kernel
theorem d_M_next_124 : decode b_M_next 124 = .ok (.getfield 22, 3) := by decide +kernel
theorem d_M_next_127 : decode b_M_next 127 = .ok (.iload 4, 2) := by decide +kernel
theorem d_M_next_129 : decode b_M_next 129 = .ok (.iaload, 1) := by decide +kernel
theorem d_M_next_130 : decode b_M_next 130 = .ok (.invokestatic 61, 3) := by decide +kernel
theorem d_M_next_133 : decode b_M_next 133 = .ok (.ifCond .ge 7, 3) := by decide +kernel
theorem d_M_next_136 : decode b_M_next 136 = .ok (.iload 7, 2) := by decide +kernel
theorem d_M_next_138 : decode b_M_next 138 = .ok (.istore 4, 2) := by decide +kernel
theorem d_M_next_140 : decode b_M_next 140 = .ok (.iinc 7 1, 3) := by decide +kernel
theorem d_M_next_143 : decode b_M_next 143 = .ok (.goto (-112), 3) := by decide +kernel
theorem d_M_next_146 : decode b_M_next 146 = .ok (.iinc 5 1, 3) := by decide +kernel
theorem d_M_next_149 : decode b_M_next 149 = .ok (.goto (-143), 3) := by decide +kernel
theorem d_M_next_152 : decode b_M_next 152 = .ok (.iload 4, 2) := by decide +kernel
theorem d_M_next_154 : decode b_M_next 154 = .ok (.ireturn, 1) := by decide +kernel
end
section
theorem d_M_distinct_0 : decode b_M_distinct 0 = .ok (.aload_n 0, 1) := by decide +kernel
theorem d_M_distinct_1 : decode b_M_distinct 1 = .ok (.iconst 1, 1) := by decide +kernel
theorem d_M_distinct_2 : decode b_M_distinct 2 = .ok (.iload_n 1, 1) := by decide +kernel
theorem d_M_distinct_3 : decode b_M_distinct 3 = .ok (.iload_n 1, 1) := by decide +kernel
theorem d_M_distinct_4 : decode b_M_distinct 4 = .ok (.iload_n 2, 1) := by decide +kernel
theorem d_M_distinct_5 : decode b_M_distinct 5 = .ok (.invokevirtual 65, 3) := by decide +kernel
theorem d_M_distinct_8 : decode b_M_distinct 8 = .ok (.istore_n 3, 1) := by decide +kernel
theorem d_M_distinct_9 : decode b_M_distinct 9 = .ok (.iload_n 3, 1) := by decide +kernel
theorem d_M_distinct_10 : decode b_M_distinct 10 = .ok (.ifCond .eq 5, 3) := by decide +kernel
theorem d_M_distinct_13 : decode b_M_distinct 13 = .ok (.iload_n 3, 1) := by decide +kernel
theorem d_M_distinct_14 : decode b_M_distinct 14 = .ok (.ireturn, 1) := by decide +kernel
theorem d_M_distinct_15 : decode b_M_distinct 15 = .ok (.aload_n 0, 1) := by decide +kernel
theorem d_M_distinct_16 : decode b_M_distinct 16 = .ok (.iload_n 1, 1) := by decide +kernel
theorem d_M_distinct_17 : decode b_M_distinct 17 = .ok (.iload_n 1, 1) := by decide +kernel
theorem d_M_distinct_18 : decode b_M_distinct 18 = .ok (.iconst (-1), 1) := by decide +kernel
theorem d_M_distinct_19 : decode b_M_distinct 19 = .ok (.invokevirtual 84, 3) := by decide +kernel
theorem d_M_distinct_22 : decode b_M_distinct 22 = .ok (.istore 4, 2) := by decide +kernel
theorem d_M_distinct_24 : decode b_M_distinct 24 = .ok (.iload 4, 2) := by decide +kernel
theorem d_M_distinct_26 : decode b_M_distinct 26 = .ok (.ifCond .lt 34, 3) := by decide +kernel
theorem d_M_distinct_29 : decode b_M_distinct 29 = .ok (.aload_n 0, 1) := by decide +kernel
theorem d_M_distinct_30 : decode b_M_distinct 30 = .ok (.aload_n 0, 1) := by decide +kernel
theorem d_M_distinct_31 : decode b_M_distinct 31 = .ok (.getfield 19, 3) := by decide +kernel
theorem d_M_distinct_34 : decode b_M_distinct 34 = .ok (.iload 4, 2) := by decide +kernel
theorem d_M_distinct_36 : decode b_M_distinct 36 = .ok (.iaload, 1) := by decide +kernel
theorem d_M_distinct_37 : decode b_M_distinct 37 = .ok (.aload_n 0, 1) := by decide +kernel
theorem d_M_distinct_38 : decode b_M_distinct 38 = .ok (.getfield 22, 3) := by decide +kernel
theorem d_M_distinct_41 : decode b_M_distinct 41 = .ok (.iload 4, 2) := by decide +kernel
theorem d_M_distinct_43 : decode b_M_distinct 43 = .ok (.iaload, 1) := by decide +kernel
theorem d_M_distinct_44 : decode b_M_distinct 44 = .ok (.invokevirtual 80, 3) := by decide +kernel
theorem d_M_distinct_47 : decode b_M_distinct 47 = .ok (.aload_n 0, 1) := by decide +kernel
theorem d_M_distinct_48 : decode b_M_distinct 48 = .ok (.iload_n 1, 1) := by decide +kernel
theorem d_M_distinct_49 : decode b_M_distinct 49 = .ok (.iload_n 1, 1) := by decide +kernel
theorem d_M_distinct_50 : decode b_M_distinct 50 = .ok (.iload 4, 2) := by decide +kernel
theorem d_M_distinct_52 : decode b_M_distinct 52 = .ok (.invokevirtual 84, 3) := by decide +kernel
theorem d_M_distinct_55 : decode b_M_distinct 55 = .ok (.istore 4, 2) := by decide +kernel
theorem d_M_distinct_57 : decode b_M_distinct 57 = .ok (.goto (-33), 3) := by decide +kernel
theorem d_M_distinct_60 : decode b_M_distinct 60 = .ok (.aload_n 0, 1) := by decide +kernel
theorem d_M_distinct_61 : decode b_M_distinct 61 = .ok (.aload_n 0, 1) := by decide +kernel
theorem d_M_distinct_62 : decode b_M_distinct 62 = .ok (.aload_n 0, 1) := by decide +kernel
theorem d_M_distinct_63 : decode b_M_distinct 63 = .ok (.getfield 16, 3) := by decide +kernel
theorem d_M_distinct_66 : decode b_M_distinct 66 = .ok (.iload_n 1, 1) := by decide +kernel
theorem d_M_distinct_67 : decode b_M_distinct 67 = .ok (.iaload, 1) := by decide +kernel
theorem d_M_distinct_68 : decode b_M_distinct 68 = .ok (.invokevirtual 73, 3) := by decide +kernel
theorem d_M_distinct_71 : decode b_M_distinct 71 = .ok (.aload_n 0, 1) := by decide +kernel
theorem d_M_distinct_72 : decode b_M_distinct 72 = .ok (.getfield 16, 3) := by decide +kernel
theorem d_M_distinct_75 : decode b_M_distinct 75 = .ok (.iload_n 1, 1) := by decide +kernel
theorem d_M_distinct_76 : decode b_M_distinct 76 = .ok (.iaload, 1) := by decide +kernel
theorem d_M_distinct_77 : decode b_M_distinct 77 = .ok (.invokestatic 38, 3) := by decide +kernel
theorem d_M_distinct_80 : decode b_M_distinct 80 = .ok (.i2l, 1) := by decide +kernel
theorem d_M_distinct_81 : decode b_M_distinct 81 = .ok (.ladd, 1) := by decide +kernel
theorem d_M_distinct_82 : decode b_M_distinct 82 = .ok (.aload_n 0, 1) := by decide +kernel
theorem d_M_distinct_83 : decode b_M_distinct 83 = .ok (.getfield 55, 3) := by decide +kernel
theorem d_M_distinct_86 : decode b_M_distinct 86 = .ok (.invokestatic 38, 3) := by decide +kernel
theorem d_M_distinct_89 : decode b_M_distinct 89 = .ok (.i2l, 1) := by decide +kernel
theorem d_M_distinct_90 : decode b_M_distinct 90 = .ok (.ladd, 1) := by decide +kernel
theorem d_M_distinct_91 : decode b_M_distinct 91 = .ok (.putfield 58, 3) := by decide +kernel
theorem d_M_distinct_94 : decode b_M_distinct 94 = .ok (.aload_n 0, 1) := by decide +kernel
theorem d_M_distinct_95 : decode b_M_distinct 95 = .ok (.iload_n 2, 1) := by decide +kernel
theorem d_M_distinct_96 : decode b_M_distinct 96 = .ok (.invokevirtual 77, 3) := by decide +kernel
theorem d_M_distinct_99 : decode b_M_distinct 99 = .ok (.ireturn, 1) := by decide +kernel
theorem d_M_combine_0 : decode b_M_combine 0 = .ok (.aload_n 0, 1) := by decide +kernel
theorem d_M_combine_1 : decode b_M_combine 1 = .ok (.iload_n 1, 1) := by decide +kernel
theorem d_M_combine_2 : decode b_M_combine 2 = .ok (.ifCond .lt 12, 3) := by decide +kernel
theorem d_M_combine_5 : decode b_M_combine 5 = .ok (.iload_n 1, 1) := by decide +kernel
theorem d_M_combine_6 : decode b_M_combine 6 = .ok (.iconst 3, 1) := by decide +kernel
theorem d_M_combine_7 : decode b_M_combine 7 = .ok (.if_icmp .gt 7, 3) := by decide +kernel
theorem d_M_combine_10 : decode b_M_combine 10 = .ok (.iconst 1, 1) := by decide +kernel
theorem d_M_combine_11 : decode b_M_combine 11 = .ok (.goto 4, 3) := by decide +kernel
theorem d_M_combine_14 : decode b_M_combine 14 = .ok (.iconst 0, 1) := by decide +kernel
theorem d_M_combine_15 : decode b_M_combine 15 = .ok (.iload_n 2, 1) := by decide +kernel
theorem d_M_combine_16 : decode b_M_combine 16 = .ok (.iload_n 3, 1) := by decide +kernel
theorem d_M_combine_17 : decode b_M_combine 17 = .ok (.iload 4, 2) := by decide +kernel
theorem d_M_combine_19 : decode b_M_combine 19 = .ok (.invokevirtual 65, 3) := by decide +kernel
theorem d_M_combine_22 : decode b_M_combine 22 = .ok (.istore 5, 2) := by decide +kernel
theorem d_M_combine_24 : decode b_M_combine 24 = .ok (.iload 5, 2) := by decide +kernel
theorem d_M_combine_26 : decode b_M_combine 26 = .ok (.ifCond .eq 6, 3) := by decide +kernel
theorem d_M_combine_29 : decode b_M_combine 29 = .ok (.iload 5, 2) := by decide +kernel
theorem d_M_combine_31 : decode b_M_combine 31 = .ok (.ireturn, 1) := by decide +kernel
theorem d_M_combine_32 : decode b_M_combine 32 = .ok (.aload_n 0, 1) := by decide +kernel
theorem d_M_combine_33 : decode b_M_combine 33 = .ok (.iload_n 2, 1) := by decide +kernel
theorem d_M_combine_34 : decode b_M_combine 34 = .ok (.iload_n 3, 1) := by decide +kernel
theorem d_M_combine_35 : decode b_M_combine 35 = .ok (.iconst (-1), 1) := by decide +kernel
theorem d_M_combine_36 : decode b_M_combine 36 = .ok (.invokevirtual 84, 3) := by decide +kernel
theorem d_M_combine_39 : decode b_M_combine 39 = .ok (.istore 6, 2) := by decide +kernel
theorem d_M_combine_41 : decode b_M_combine 41 = .ok (.iload 6, 2) := by decide +kernel
theorem d_M_combine_43 : decode b_M_combine 43 = .ok (.ifCond .lt 155, 3) := by decide +kernel
theorem d_M_combine_46 : decode b_M_combine 46 = .ok (.aload_n 0, 1) := by decide +kernel
theorem d_M_combine_47 : decode b_M_combine 47 = .ok (.iload_n 2, 1) := by decide +kernel
theorem d_M_combine_48 : decode b_M_combine 48 = .ok (.aload_n 0, 1) := by decide +kernel
theorem d_M_combine_49 : decode b_M_combine 49 = .ok (.getfield 19, 3) := by decide +kernel
theorem d_M_combine_52 : decode b_M_combine 52 = .ok (.iload 6, 2) := by decide +kernel
theorem d_M_combine_54 : decode b_M_combine 54 = .ok (.iaload, 1) := by decide +kernel
theorem d_M_combine_55 : decode b_M_combine 55 = .ok (.aload_n 0, 1) := by decide +kernel
theorem d_M_combine_56 : decode b_M_combine 56 = .ok (.getfield 22, 3) := by decide +kernel
theorem d_M_combine_59 : decode b_M_combine 59 = .ok (.iload 6, 2) := by decide +kernel
theorem d_M_combine_61 : decode b_M_combine 61 = .ok (.iaload, 1) := by decide +kernel
theorem d_M_combine_62 : decode b_M_combine 62 = .ok (.invokevirtual 88, 3) := by decide +kernel
theorem d_M_combine_65 : decode b_M_combine 65 = .ok (.istore 7, 2) := by decide +kernel
theorem d_M_combine_67 : decode b_M_combine 67 = .ok (.aload_n 0, 1) := by decide +kernel
theorem d_M_combine_68 : decode b_M_combine 68 = .ok (.iload_n 3, 1) := by decide +kernel
theorem d_M_combine_69 : decode b_M_combine 69 = .ok (.aload_n 0, 1) := by decide +kernel
theorem d_M_combine_70 : decode b_M_combine 70 = .ok (.getfield 19, 3) := by decide +kernel
theorem d_M_combine_73 : decode b_M_combine 73 = .ok (.iload 6, 2) := by decide +kernel
theorem d_M_combine_75 : decode b_M_combine 75 = .ok (.iaload, 1) := by decide +kernel
theorem d_M_combine_76 : decode b_M_combine 76 = .ok (.aload_n 0, 1) := by decide +kernel
theorem d_M_combine_77 : decode b_M_combine 77 = .ok (.getfield 22, 3) := by decide +kernel
theorem d_M_combine_80 : decode b_M_combine 80 = .ok (.iload 6, 2) := by decide +kernel
theorem d_M_combine_82 : decode b_M_combine 82 = .ok (.iaload, 1) := by decide +kernel
theorem d_M_combine_83 : decode b_M_combine 83 = .ok (.invokevirtual 88, 3) := by decide +kernel
theorem d_M_combine_86 : decode b_M_combine 86 = .ok (.istore 8, 2) := by decide +kernel
theorem d_M_combine_88 : decode b_M_combine 88 = .ok (.iload_n 1, 1) := by decide +kernel
theorem d_M_combine_89 : decode b_M_combine 89 = .ok (.ifCond .ne 20, 3) := by decide +kernel
theorem d_M_combine_92 : decode b_M_combine 92 = .ok (.iload 7, 2) := by decide +kernel
theorem d_M_combine_94 : decode b_M_combine 94 = .ok (.iload 8, 2) := by decide +kernel
theorem d_M_combine_96 : decode b_M_combine 96 = .ok (.if_icmp .le 8, 3) := by decide +kernel
theorem d_M_combine_99 : decode b_M_combine 99 = .ok (.iload 7, 2) := by decide +kernel
theorem d_M_combine_101 : decode b_M_combine 101 = .ok (.goto 48, 3) := by decide +kernel
theorem d_M_combine_104 : decode b_M_combine 104 = .ok (.iload 8, 2) := by decide +kernel
theorem d_M_combine_106 : decode b_M_combine 106 = .ok (.goto 43, 3) := by decide +kernel
theorem d_M_combine_109 : decode b_M_combine 109 = .ok (.iload_n 1, 1) := by decide +kernel
theorem d_M_combine_110 : decode b_M_combine 110 = .ok (.iconst 1, 1) := by decide +kernel
theorem d_M_combine_111 : decode b_M_combine 111 = .ok (.if_icmp .ne 20, 3) := by decide +kernel
theorem d_M_combine_114 : decode b_M_combine 114 = .ok (.iload 7, 2) := by decide +kernel
theorem d_M_combine_116 : decode b_M_combine 116 = .ok (.iload 8, 2) := by decide +kernel
theorem d_M_combine_118 : decode b_M_combine 118 = .ok (.if_icmp .ge 8, 3) := by decide +kernel
theorem d_M_combine_121 : decode b_M_combine 121 = .ok (.iload 7, 2) := by decide +kernel
theorem d_M_combine_123 : decode b_M_combine 123 = .ok (.goto 26, 3) := by decide +kernel
theorem d_M_combine_126 : decode b_M_combine 126 = .ok (.iload 8, 2) := by decide +kernel
theorem d_M_combine_128 : decode b_M_combine 128 = .ok (.goto 21, 3) := by decide +kernel
theorem d_M_combine_131 : decode b_M_combine 131 = .ok (.iload_n 1, 1) := by decide +kernel
theorem d_M_combine_132 : decode b_M_combine 132 = .ok (.iconst 2, 1) := by decide +kernel
theorem d_M_combine_133 : decode b_M_combine 133 = .ok (.if_icmp .ne 11, 3) := by decide +kernel
theorem d_M_combine_136 : decode b_M_combine 136 = .ok (.iload 7, 2) := by decide +kernel
theorem d_M_combine_138 : decode b_M_combine 138 = .ok (.iload 8, 2) := by decide +kernel
theorem d_M_combine_140 : decode b_M_combine 140 = .ok (.isub, 1) := by decide +kernel
theorem d_M_combine_141 : decode b_M_combine 141 = .ok (.goto 8, 3) := by decide +kernel
theorem d_M_combine_144 : decode b_M_combine 144 = .ok (.iload 7, 2) := by decide +kernel
theorem d_M_combine_146 : decode b_M_combine 146 = .ok (.iload 8, 2) := by decide +kernel
theorem d_M_combine_148 : decode b_M_combine 148 = .ok (.iadd, 1) := by decide +kernel
theorem d_M_combine_149 : decode b_M_combine 149 = .ok (.istore 9, 2) := by decide +kernel
theorem d_M_combine_151 : decode b_M_combine 151 = .ok (.iconst 0, 1) := by decide +kernel
theorem d_M_combine_152 : decode b_M_combine 152 = .ok (.istore 10, 2) := by decide +kernel
theorem d_M_combine_154 : decode b_M_combine 154 = .ok (.iload 10, 2) := by decide +kernel
theorem d_M_combine_156 : decode b_M_combine 156 = .ok (.iload 9, 2) := by decide +kernel
theorem d_M_combine_158 : decode b_M_combine 158 = .ok (.if_icmp .ge 27, 3) := by decide +kernel
theorem d_M_combine_161 : decode b_M_combine 161 = .ok (.aload_n 0, 1) := by decide +kernel
theorem d_M_combine_162 : decode b_M_combine 162 = .ok (.aload_n 0, 1) := by decide +kernel
theorem d_M_combine_163 : decode b_M_combine 163 = .ok (.getfield 19, 3) := by decide +kernel
theorem d_M_combine_166 : decode b_M_combine 166 = .ok (.iload 6, 2) := by decide +kernel
theorem d_M_combine_168 : decode b_M_combine 168 = .ok (.iaload, 1) := by decide +kernel
theorem d_M_combine_169 : decode b_M_combine 169 = .ok (.aload_n 0, 1) := by decide +kernel
theorem d_M_combine_170 : decode b_M_combine 170 = .ok (.getfield 22, 3) := by decide +kernel
theorem d_M_combine_173 : decode b_M_combine 173 = .ok (.iload 6, 2) := by decide +kernel
theorem d_M_combine_175 : decode b_M_combine 175 = .ok (.iaload, 1) := by decide +kernel
theorem d_M_combine_176 : decode b_M_combine 176 = .ok (.invokevirtual 80, 3) := by decide +kernel
theorem d_M_combine_179 : decode b_M_combine 179 = .ok (.iinc 10 1, 3) := by decide +kernel
theorem d_M_combine_182 : decode b_M_combine 182 = .ok (.goto (-28), 3) := by decide +kernel
theorem d_M_combine_185 : decode b_M_combine 185 = .ok (.aload_n 0, 1) := by decide +kernel
theorem d_M_combine_186 : decode b_M_combine 186 = .ok (.iload_n 2, 1) := by decide +kernel
theorem d_M_combine_187 : decode b_M_combine 187 = .ok (.iload_n 3, 1) := by decide +kernel
theorem d_M_combine_188 : decode b_M_combine 188 = .ok (.iload 6, 2) := by decide +kernel
theorem d_M_combine_190 : decode b_M_combine 190 = .ok (.invokevirtual 84, 3) := by decide +kernel
theorem d_M_combine_193 : decode b_M_combine 193 = .ok (.istore 6, 2) := by decide +kernel
theorem d_M_combine_195 : decode b_M_combine 195 = .ok (.goto (-154), 3) := by decide +kernel
theorem d_M_combine_198 : decode b_M_combine 198 = .ok (.aload_n 0, 1) := by decide +kernel
theorem d_M_combine_199 : decode b_M_combine 199 = .ok (.aload_n 0, 1) := by decide +kernel
theorem d_M_combine_200 : decode b_M_combine 200 = .ok (.aload_n 0, 1) := by decide +kernel
theorem d_M_combine_201 : decode b_M_combine 201 = .ok (.getfield 16, 3) := by decide +kernel
theorem d_M_combine_204 : decode b_M_combine 204 = .ok (.iload_n 2, 1) := by decide +kernel
theorem d_M_combine_205 : decode b_M_combine 205 = .ok (.iaload, 1) := by decide +kernel
theorem d_M_combine_206 : decode b_M_combine 206 = .ok (.invokevirtual 73, 3) := by decide +kernel
theorem d_M_combine_209 : decode b_M_combine 209 = .ok (.aload_n 0, 1) := by decide +kernel
theorem d_M_combine_210 : decode b_M_combine 210 = .ok (.aload_n 0, 1) := by decide +kernel
theorem d_M_combine_211 : decode b_M_combine 211 = .ok (.getfield 16, 3) := by decide +kernel
theorem d_M_combine_214 : decode b_M_combine 214 = .ok (.iload_n 3, 1) := by decide +kernel
theorem d_M_combine_215 : decode b_M_combine 215 = .ok (.iaload, 1) := by decide +kernel
theorem d_M_combine_216 : decode b_M_combine 216 = .ok (.invokevirtual 73, 3) := by decide +kernel
theorem d_M_combine_219 : decode b_M_combine 219 = .ok (.ladd, 1) := by decide +kernel
theorem d_M_combine_220 : decode b_M_combine 220 = .ok (.aload_n 0, 1) := by decide +kernel
theorem d_M_combine_221 : decode b_M_combine 221 = .ok (.getfield 16, 3) := by decide +kernel
theorem d_M_combine_224 : decode b_M_combine 224 = .ok (.iload_n 2, 1) := by decide +kernel
theorem d_M_combine_225 : decode b_M_combine 225 = .ok (.iaload, 1) := by decide +kernel
theorem d_M_combine_226 : decode b_M_combine 226 = .ok (.invokestatic 38, 3) := by decide +kernel
theorem d_M_combine_229 : decode b_M_combine 229 = .ok (.i2l, 1) := by decide +kernel
theorem d_M_combine_230 : decode b_M_combine 230 = .ok (.ladd, 1) := by decide +kernel
theorem d_M_combine_231 : decode b_M_combine 231 = .ok (.aload_n 0, 1) := by decide +kernel
theorem d_M_combine_232 : decode b_M_combine 232 = .ok (.getfield 16, 3) := by decide +kernel
theorem d_M_combine_235 : decode b_M_combine 235 = .ok (.iload_n 3, 1) := by decide +kernel
theorem d_M_combine_236 : decode b_M_combine 236 = .ok (.iaload, 1) := by decide +kernel
theorem d_M_combine_237 : decode b_M_combine 237 = .ok (.invokestatic 38, 3) := by decide +kernel
theorem d_M_combine_240 : decode b_M_combine 240 = .ok (.i2l, 1) := by decide +kernel
theorem d_M_combine_241 : decode b_M_combine 241 = .ok (.ladd, 1) := by decide +kernel
theorem d_M_combine_242 : decode b_M_combine 242 = .ok (.aload_n 0, 1) := by decide +kernel
theorem d_M_combine_243 : decode b_M_combine 243 = .ok (.getfield 55, 3) := by decide +kernel
theorem d_M_combine_246 : decode b_M_combine 246 = .ok (.invokestatic 38, 3) := by decide +kernel
theorem d_M_combine_249 : decode b_M_combine 249 = .ok (.i2l, 1) := by decide +kernel
theorem d_M_combine_250 : decode b_M_combine 250 = .ok (.ladd, 1) := by decide +kernel
theorem d_M_combine_251 : decode b_M_combine 251 = .ok (.putfield 58, 3) := by decide +kernel
theorem d_M_combine_254 : decode b_M_combine 254 = .ok (.aload_n 0, 1) := by decide +kernel
theorem d_M_combine_255 : decode b_M_combine 255 = .ok (.iload 4, 2) := by decide +kernel
theorem d_M_combine_257 : decode b_M_combine 257 = .ok (.invokevirtual 77, 3) := by decide +kernel
theorem d_M_combine_260 : decode b_M_combine 260 = .ok (.ireturn, 1) := by decide +kernel
theorem d_M_rank_0 : decode b_M_rank 0 = .ok (.bipush 60, 2) := by decide +kernel
theorem d_M_rank_2 : decode b_M_rank 2 = .ok (.iload_n 1, 1) := by decide +kernel
theorem d_M_rank_3 : decode b_M_rank 3 = .ok (.imul, 1) := by decide +kernel
theorem d_M_rank_4 : decode b_M_rank 4 = .ok (.istore_n 3, 1) := by decide +kernel
theorem d_M_rank_5 : decode b_M_rank 5 = .ok (.iconst 0, 1) := by decide +kernel
theorem d_M_rank_6 : decode b_M_rank 6 = .ok (.istore 4, 2) := by decide +kernel
theorem d_M_rank_8 : decode b_M_rank 8 = .ok (.iconst 0, 1) := by decide +kernel
theorem d_M_rank_9 : decode b_M_rank 9 = .ok (.istore 5, 2) := by decide +kernel
theorem d_M_rank_11 : decode b_M_rank 11 = .ok (.iload 5, 2) := by decide +kernel
theorem d_M_rank_13 : decode b_M_rank 13 = .ok (.aload_n 0, 1) := by decide +kernel
theorem d_M_rank_14 : decode b_M_rank 14 = .ok (.getfield 16, 3) := by decide +kernel
theorem d_M_rank_17 : decode b_M_rank 17 = .ok (.iload_n 1, 1) := by decide +kernel
theorem d_M_rank_18 : decode b_M_rank 18 = .ok (.iaload, 1) := by decide +kernel
theorem d_M_rank_19 : decode b_M_rank 19 = .ok (.if_icmp .ge 99, 3) := by decide +kernel
theorem d_M_rank_22 : decode b_M_rank 22 = .ok (.iconst 1, 1) := by decide +kernel
theorem d_M_rank_23 : decode b_M_rank 23 = .ok (.istore 6, 2) := by decide +kernel
theorem d_M_rank_25 : decode b_M_rank 25 = .ok (.iconst 0, 1) := by decide +kernel
theorem d_M_rank_26 : decode b_M_rank 26 = .ok (.istore 7, 2) := by decide +kernel
theorem d_M_rank_28 : decode b_M_rank 28 = .ok (.iload 7, 2) := by decide +kernel
theorem d_M_rank_30 : decode b_M_rank 30 = .ok (.iload 5, 2) := by decide +kernel
theorem d_M_rank_32 : decode b_M_rank 32 = .ok (.if_icmp .ge 42, 3) := by decide +kernel
theorem d_M_rank_35 : decode b_M_rank 35 = .ok (.iload 6, 2) := by decide +kernel
theorem d_M_rank_37 : decode b_M_rank 37 = .ok (.ifCond .eq 28, 3) := by decide +kernel
theorem d_M_rank_40 : decode b_M_rank 40 = .ok (.aload_n 0, 1) := by decide +kernel
theorem d_M_rank_41 : decode b_M_rank 41 = .ok (.getfield 19, 3) := by decide +kernel
theorem d_M_rank_44 : decode b_M_rank 44 = .ok (.iload_n 3, 1) := by decide +kernel
theorem d_M_rank_45 : decode b_M_rank 45 = .ok (.iload 7, 2) := by decide +kernel
theorem d_M_rank_47 : decode b_M_rank 47 = .ok (.iadd, 1) := by decide +kernel
theorem d_M_rank_48 : decode b_M_rank 48 = .ok (.iaload, 1) := by decide +kernel
theorem d_M_rank_49 : decode b_M_rank 49 = .ok (.aload_n 0, 1) := by decide +kernel
theorem d_M_rank_50 : decode b_M_rank 50 = .ok (.getfield 19, 3) := by decide +kernel
theorem d_M_rank_53 : decode b_M_rank 53 = .ok (.iload_n 3, 1) := by decide +kernel
theorem d_M_rank_54 : decode b_M_rank 54 = .ok (.iload 5, 2) := by decide +kernel
theorem d_M_rank_56 : decode b_M_rank 56 = .ok (.iadd, 1) := by decide +kernel
theorem d_M_rank_57 : decode b_M_rank 57 = .ok (.iaload, 1) := by decide +kernel
theorem d_M_rank_58 : decode b_M_rank 58 = .ok (.if_icmp .eq 7, 3) := by decide +kernel
theorem d_M_rank_61 : decode b_M_rank 61 = .ok (.iconst 1, 1) := by decide +kernel
theorem d_M_rank_62 : decode b_M_rank 62 = .ok (.goto 4, 3) := by decide +kernel
theorem d_M_rank_65 : decode b_M_rank 65 = .ok (.iconst 0, 1) := by decide +kernel
theorem d_M_rank_66 : decode b_M_rank 66 = .ok (.istore 6, 2) := by decide +kernel
theorem d_M_rank_68 : decode b_M_rank 68 = .ok (.iinc 7 1, 3) := by decide +kernel
theorem d_M_rank_71 : decode b_M_rank 71 = .ok (.goto (-43), 3) := by decide +kernel
theorem d_M_rank_74 : decode b_M_rank 74 = .ok (.aload_n 0, 1) := by decide +kernel
theorem d_M_rank_75 : decode b_M_rank 75 = .ok (.getfield 19, 3) := by decide +kernel
theorem d_M_rank_78 : decode b_M_rank 78 = .ok (.iload_n 3, 1) := by decide +kernel
theorem d_M_rank_79 : decode b_M_rank 79 = .ok (.iload 5, 2) := by decide +kernel
theorem d_M_rank_81 : decode b_M_rank 81 = .ok (.iadd, 1) := by decide +kernel
theorem d_M_rank_82 : decode b_M_rank 82 = .ok (.iaload, 1) := by decide +kernel
theorem d_M_rank_83 : decode b_M_rank 83 = .ok (.aload_n 0, 1) := by decide +kernel
theorem d_M_rank_84 : decode b_M_rank 84 = .ok (.getfield 19, 3) := by decide +kernel
theorem d_M_rank_87 : decode b_M_rank 87 = .ok (.iload_n 3, 1) := by decide +kernel
theorem d_M_rank_88 : decode b_M_rank 88 = .ok (.iload_n 2, 1) := by decide +kernel
theorem d_M_rank_89 : decode b_M_rank 89 = .ok (.iadd, 1) := by decide +kernel
theorem d_M_rank_90 : decode b_M_rank 90 = .ok (.iaload, 1) := by decide +kernel
theorem d_M_rank_91 : decode b_M_rank 91 = .ok (.if_icmp .ne 6, 3) := by decide +kernel
theorem d_M_rank_94 : decode b_M_rank 94 = .ok (.iload 4, 2) := by decide +kernel
theorem d_M_rank_96 : decode b_M_rank 96 = .ok (.ireturn, 1) := by decide +kernel
theorem d_M_rank_97 : decode b_M_rank 97 = .ok (.iload 4, 2) := by decide +kernel
theorem d_M_rank_99 : decode b_M_rank 99 = .ok (.iload 6, 2) := by decide +kernel
theorem d_M_rank_101 : decode b_M_rank 101 = .ok (.ifCond .eq 7, 3) := by decide +kernel
theorem d_M_rank_104 : decode b_M_rank 104 = .ok (.iconst 1, 1) := by decide +kernel
theorem d_M_rank_105 : decode b_M_rank 105 = .ok (.goto 4, 3) := by decide +kernel
theorem d_M_rank_108 : decode b_M_rank 108 = .ok (.iconst 0, 1) := by decide +kernel
theorem d_M_rank_109 : decode b_M_rank 109 = .ok (.iadd, 1) := by decide +kernel
theorem d_M_rank_110 : decode b_M_rank 110 = .ok (.istore 4, 2) := by decide +kernel
theorem d_M_rank_112 : decode b_M_rank 112 = .ok (.iinc 5 1, 3) := by decide +kernel
theorem d_M_rank_115 : decode b_M_rank 115 = .ok (.goto (-104), 3) := by decide +kernel
theorem d_M_rank_118 : decode b_M_rank 118 = .ok (.iload 4, 2) := by decide +kernel
theorem d_M_rank_120 : decode b_M_rank 120 = .ok (.ireturn, 1) := by decide +kernel
theorem d_M_behind_0 : decode b_M_behind 0 = .ok (.iconst 0, 1) := by decide +kernel
theorem d_M_behind_1 : decode b_M_behind 1 = .ok (.istore_n 3, 1) := by decide +kernel
theorem d_M_behind_2 : decode b_M_behind 2 = .ok (.iconst 0, 1) := by decide +kernel
theorem d_M_behind_3 : decode b_M_behind 3 = .ok (.istore 4, 2) := by decide +kernel
theorem d_M_behind_5 : decode b_M_behind 5 = .ok (.iload 4, 2) := by decide +kernel
theorem d_M_behind_7 : decode b_M_behind 7 = .ok (.aload_n 0, 1) := by decide +kernel
theorem d_M_behind_8 : decode b_M_behind 8 = .ok (.getfield 16, 3) := by decide +kernel
theorem d_M_behind_11 : decode b_M_behind 11 = .ok (.iload_n 1, 1) := by decide +kernel
theorem d_M_behind_12 : decode b_M_behind 12 = .ok (.iaload, 1) := by decide +kernel
theorem d_M_behind_13 : decode b_M_behind 13 = .ok (.if_icmp .ge 28, 3) := by decide +kernel
theorem d_M_behind_16 : decode b_M_behind 16 = .ok (.iload_n 3, 1) := by decide +kernel
theorem d_M_behind_17 : decode b_M_behind 17 = .ok (.aload_n 0, 1) := by decide +kernel
theorem d_M_behind_18 : decode b_M_behind 18 = .ok (.iload_n 1, 1) := by decide +kernel
theorem d_M_behind_19 : decode b_M_behind 19 = .ok (.iload 4, 2) := by decide +kernel
theorem d_M_behind_21 : decode b_M_behind 21 = .ok (.invokevirtual 91, 3) := by decide +kernel
theorem d_M_behind_24 : decode b_M_behind 24 = .ok (.iload_n 2, 1) := by decide +kernel
theorem d_M_behind_25 : decode b_M_behind 25 = .ok (.if_icmp .lt 7, 3) := by decide +kernel
theorem d_M_behind_28 : decode b_M_behind 28 = .ok (.iconst 1, 1) := by decide +kernel
theorem d_M_behind_29 : decode b_M_behind 29 = .ok (.goto 4, 3) := by decide +kernel
theorem d_M_behind_32 : decode b_M_behind 32 = .ok (.iconst 0, 1) := by decide +kernel
theorem d_M_behind_33 : decode b_M_behind 33 = .ok (.iadd, 1) := by decide +kernel
theorem d_M_behind_34 : decode b_M_behind 34 = .ok (.istore_n 3, 1) := by decide +kernel
theorem d_M_behind_35 : decode b_M_behind 35 = .ok (.iinc 4 1, 3) := by decide +kernel
theorem d_M_behind_38 : decode b_M_behind 38 = .ok (.goto (-33), 3) := by decide +kernel
theorem d_M_behind_41 : decode b_M_behind 41 = .ok (.iload_n 3, 1) := by decide +kernel
theorem d_M_behind_42 : decode b_M_behind 42 = .ok (.ireturn, 1) := by decide +kernel
theorem d_M_group_0 : decode b_M_group 0 = .ok (.aload_n 0, 1) := by decide +kernel
theorem d_M_group_1 : decode b_M_group 1 = .ok (.iconst 1, 1) := by decide +kernel
theorem d_M_group_2 : decode b_M_group 2 = .ok (.iload_n 1, 1) := by decide +kernel
theorem d_M_group_3 : decode b_M_group 3 = .ok (.iload_n 1, 1) := by decide +kernel
theorem d_M_group_4 : decode b_M_group 4 = .ok (.iload_n 2, 1) := by decide +kernel
theorem d_M_group_5 : decode b_M_group 5 = .ok (.invokevirtual 65, 3) := by decide +kernel
theorem d_M_group_8 : decode b_M_group 8 = .ok (.istore_n 3, 1) := by decide +kernel
theorem d_M_group_9 : decode b_M_group 9 = .ok (.iload_n 3, 1) := by decide +kernel
theorem d_M_group_10 : decode b_M_group 10 = .ok (.ifCond .eq 5, 3) := by decide +kernel
theorem d_M_group_13 : decode b_M_group 13 = .ok (.iload_n 3, 1) := by decide +kernel
theorem d_M_group_14 : decode b_M_group 14 = .ok (.ireturn, 1) := by decide +kernel
theorem d_M_group_15 : decode b_M_group 15 = .ok (.iconst 0, 1) := by decide +kernel
theorem d_M_group_16 : decode b_M_group 16 = .ok (.istore 4, 2) := by decide +kernel
theorem d_M_group_18 : decode b_M_group 18 = .ok (.iload 4, 2) := by decide +kernel
theorem d_M_group_20 : decode b_M_group 20 = .ok (.aload_n 0, 1) := by decide +kernel
theorem d_M_group_21 : decode b_M_group 21 = .ok (.getfield 16, 3) := by decide +kernel
theorem d_M_group_24 : decode b_M_group 24 = .ok (.iload_n 1, 1) := by decide +kernel
theorem d_M_group_25 : decode b_M_group 25 = .ok (.iaload, 1) := by decide +kernel
theorem d_M_group_26 : decode b_M_group 26 = .ok (.if_icmp .ge 113, 3) := by decide +kernel
theorem d_M_group_29 : decode b_M_group 29 = .ok (.aload_n 0, 1) := by decide +kernel
theorem d_M_group_30 : decode b_M_group 30 = .ok (.iload_n 1, 1) := by decide +kernel
theorem d_M_group_31 : decode b_M_group 31 = .ok (.iload 4, 2) := by decide +kernel
theorem d_M_group_33 : decode b_M_group 33 = .ok (.invokevirtual 91, 3) := by decide +kernel
theorem d_M_group_36 : decode b_M_group 36 = .ok (.aload_n 0, 1) := by decide +kernel
theorem d_M_group_37 : decode b_M_group 37 = .ok (.getfield 55, 3) := by decide +kernel
theorem d_M_group_40 : decode b_M_group 40 = .ok (.if_icmp .ne 93, 3) := by decide +kernel
theorem d_M_group_43 : decode b_M_group 43 = .ok (.iconst 0, 1) := by decide +kernel
theorem d_M_group_44 : decode b_M_group 44 = .ok (.istore 5, 2) := by decide +kernel
theorem d_M_group_46 : decode b_M_group 46 = .ok (.iload 4, 2) := by decide +kernel
theorem d_M_group_48 : decode b_M_group 48 = .ok (.istore 6, 2) := by decide +kernel
theorem d_M_group_50 : decode b_M_group 50 = .ok (.iload 6, 2) := by decide +kernel
theorem d_M_group_52 : decode b_M_group 52 = .ok (.aload_n 0, 1) := by decide +kernel
theorem d_M_group_53 : decode b_M_group 53 = .ok (.getfield 16, 3) := by decide +kernel
theorem d_M_group_56 : decode b_M_group 56 = .ok (.iload_n 1, 1) := by decide +kernel
theorem d_M_group_57 : decode b_M_group 57 = .ok (.iaload, 1) := by decide +kernel
theorem d_M_group_58 : decode b_M_group 58 = .ok (.if_icmp .ge 57, 3) := by decide +kernel
theorem d_M_group_61 : decode b_M_group 61 = .ok (.iload 5, 2) := by decide +kernel
theorem d_M_group_63 : decode b_M_group 63 = .ok (.aload_n 0, 1) := by decide +kernel
theorem d_M_group_64 : decode b_M_group 64 = .ok (.getfield 19, 3) := by decide +kernel
theorem d_M_group_67 : decode b_M_group 67 = .ok (.bipush 60, 2) := by decide +kernel
theorem d_M_group_69 : decode b_M_group 69 = .ok (.iload_n 1, 1) := by decide +kernel
theorem d_M_group_70 : decode b_M_group 70 = .ok (.imul, 1) := by decide +kernel
theorem d_M_group_71 : decode b_M_group 71 = .ok (.iload 6, 2) := by decide +kernel
theorem d_M_group_73 : decode b_M_group 73 = .ok (.iadd, 1) := by decide +kernel
theorem d_M_group_74 : decode b_M_group 74 = .ok (.iaload, 1) := by decide +kernel
theorem d_M_group_75 : decode b_M_group 75 = .ok (.aload_n 0, 1) := by decide +kernel
theorem d_M_group_76 : decode b_M_group 76 = .ok (.getfield 19, 3) := by decide +kernel
theorem d_M_group_79 : decode b_M_group 79 = .ok (.bipush 60, 2) := by decide +kernel
theorem d_M_group_81 : decode b_M_group 81 = .ok (.iload_n 1, 1) := by decide +kernel
theorem d_M_group_82 : decode b_M_group 82 = .ok (.imul, 1) := by decide +kernel
theorem d_M_group_83 : decode b_M_group 83 = .ok (.iload 4, 2) := by decide +kernel
theorem d_M_group_85 : decode b_M_group 85 = .ok (.iadd, 1) := by decide +kernel
theorem d_M_group_86 : decode b_M_group 86 = .ok (.iaload, 1) := by decide +kernel
theorem d_M_group_87 : decode b_M_group 87 = .ok (.if_icmp .ne 18, 3) := by decide +kernel
theorem d_M_group_90 : decode b_M_group 90 = .ok (.aload_n 0, 1) := by decide +kernel
theorem d_M_group_91 : decode b_M_group 91 = .ok (.getfield 22, 3) := by decide +kernel
theorem d_M_group_94 : decode b_M_group 94 = .ok (.bipush 60, 2) := by decide +kernel
theorem d_M_group_96 : decode b_M_group 96 = .ok (.iload_n 1, 1) := by decide +kernel
theorem d_M_group_97 : decode b_M_group 97 = .ok (.imul, 1) := by decide +kernel
theorem d_M_group_98 : decode b_M_group 98 = .ok (.iload 6, 2) := by decide +kernel
theorem d_M_group_100 : decode b_M_group 100 = .ok (.iadd, 1) := by decide +kernel
theorem d_M_group_101 : decode b_M_group 101 = .ok (.iaload, 1) := by decide +kernel
theorem d_M_group_102 : decode b_M_group 102 = .ok (.goto 4, 3) := by decide +kernel
theorem d_M_group_105 : decode b_M_group 105 = .ok (.iconst 0, 1) := by decide +kernel
theorem d_M_group_106 : decode b_M_group 106 = .ok (.iadd, 1) := by decide +kernel
theorem d_M_group_107 : decode b_M_group 107 = .ok (.istore 5, 2) := by decide +kernel
theorem d_M_group_109 : decode b_M_group 109 = .ok (.iinc 6 1, 3) := by decide +kernel
theorem d_M_group_112 : decode b_M_group 112 = .ok (.goto (-62), 3) := by decide +kernel
theorem d_M_group_115 : decode b_M_group 115 = .ok (.aload_n 0, 1) := by decide +kernel
theorem d_M_group_116 : decode b_M_group 116 = .ok (.aload_n 0, 1) := by decide +kernel
theorem d_M_group_117 : decode b_M_group 117 = .ok (.getfield 19, 3) := by decide +kernel
theorem d_M_group_120 : decode b_M_group 120 = .ok (.bipush 60, 2) := by decide +kernel
theorem d_M_group_122 : decode b_M_group 122 = .ok (.iload_n 1, 1) := by decide +kernel
theorem d_M_group_123 : decode b_M_group 123 = .ok (.imul, 1) := by decide +kernel
theorem d_M_group_124 : decode b_M_group 124 = .ok (.iload 4, 2) := by decide +kernel
theorem d_M_group_126 : decode b_M_group 126 = .ok (.iadd, 1) := by decide +kernel
theorem d_M_group_127 : decode b_M_group 127 = .ok (.iaload, 1) := by decide +kernel
theorem d_M_group_128 : decode b_M_group 128 = .ok (.iload 5, 2) := by decide +kernel
theorem d_M_group_130 : decode b_M_group 130 = .ok (.invokevirtual 80, 3) := by decide +kernel
theorem d_M_group_133 : decode b_M_group 133 = .ok (.iinc 4 1, 3) := by decide +kernel
theorem d_M_group_136 : decode b_M_group 136 = .ok (.goto (-118), 3) := by decide +kernel
theorem d_M_group_139 : decode b_M_group 139 = .ok (.iconst 4, 1) := by decide +kernel
theorem d_M_group_140 : decode b_M_group 140 = .ok (.aload_n 0, 1) := by decide +kernel
theorem d_M_group_141 : decode b_M_group 141 = .ok (.getfield 34, 3) := by decide +kernel
theorem d_M_group_144 : decode b_M_group 144 = .ok (.iconst 2, 1) := by decide +kernel
theorem d_M_group_145 : decode b_M_group 145 = .ok (.isub, 1) := by decide +kernel
theorem d_M_group_146 : decode b_M_group 146 = .ok (.imul, 1) := by decide +kernel
theorem d_M_group_147 : decode b_M_group 147 = .ok (.istore 4, 2) := by decide +kernel
theorem d_M_group_149 : decode b_M_group 149 = .ok (.iconst 0, 1) := by decide +kernel
theorem d_M_group_150 : decode b_M_group 150 = .ok (.istore 5, 2) := by decide +kernel
theorem d_M_group_152 : decode b_M_group 152 = .ok (.iload 5, 2) := by decide +kernel
theorem d_M_group_154 : decode b_M_group 154 = .ok (.aload_n 0, 1) := by decide +kernel
theorem d_M_group_155 : decode b_M_group 155 = .ok (.getfield 55, 3) := by decide +kernel
theorem d_M_group_158 : decode b_M_group 158 = .ok (.if_icmp .ge 56, 3) := by decide +kernel
theorem d_M_group_161 : decode b_M_group 161 = .ok (.aload_n 0, 1) := by decide +kernel
theorem d_M_group_162 : decode b_M_group 162 = .ok (.iload_n 1, 1) := by decide +kernel
theorem d_M_group_163 : decode b_M_group 163 = .ok (.iload 5, 2) := by decide +kernel
theorem d_M_group_165 : decode b_M_group 165 = .ok (.invokevirtual 95, 3) := by decide +kernel
theorem d_M_group_168 : decode b_M_group 168 = .ok (.istore 6, 2) := by decide +kernel
theorem d_M_group_170 : decode b_M_group 170 = .ok (.aload_n 0, 1) := by decide +kernel
theorem d_M_group_171 : decode b_M_group 171 = .ok (.iload_n 1, 1) := by decide +kernel
theorem d_M_group_172 : decode b_M_group 172 = .ok (.iload 5, 2) := by decide +kernel
theorem d_M_group_174 : decode b_M_group 174 = .ok (.iload 4, 2) := by decide +kernel
theorem d_M_group_176 : decode b_M_group 176 = .ok (.iadd, 1) := by decide +kernel
theorem d_M_group_177 : decode b_M_group 177 = .ok (.invokevirtual 95, 3) := by decide +kernel
theorem d_M_group_180 : decode b_M_group 180 = .ok (.istore 7, 2) := by decide +kernel
theorem d_M_group_182 : decode b_M_group 182 = .ok (.aload_n 0, 1) := by decide +kernel
theorem d_M_group_183 : decode b_M_group 183 = .ok (.aload_n 0, 1) := by decide +kernel
theorem d_M_group_184 : decode b_M_group 184 = .ok (.getfield 58, 3) := by decide +kernel
theorem d_M_group_187 : decode b_M_group 187 = .ok (.iload 6, 2) := by decide +kernel
theorem d_M_group_189 : decode b_M_group 189 = .ok (.invokestatic 38, 3) := by decide +kernel
theorem d_M_group_192 : decode b_M_group 192 = .ok (.i2l, 1) := by decide +kernel
theorem d_M_group_193 : decode b_M_group 193 = .ok (.ladd, 1) := by decide +kernel
theorem d_M_group_194 : decode b_M_group 194 = .ok (.iload 7, 2) := by decide +kernel
theorem d_M_group_196 : decode b_M_group 196 = .ok (.invokestatic 38, 3) := by decide +kernel
theorem d_M_group_199 : decode b_M_group 199 = .ok (.i2l, 1) := by decide +kernel
theorem d_M_group_200 : decode b_M_group 200 = .ok (.ladd, 1) := by decide +kernel
theorem d_M_group_201 : decode b_M_group 201 = .ok (.putfield 58, 3) := by decide +kernel
theorem d_M_group_204 : decode b_M_group 204 = .ok (.iload 5, 2) := by decide +kernel
theorem d_M_group_206 : decode b_M_group 206 = .ok (.iload 4, 2) := by decide +kernel
theorem d_M_group_208 : decode b_M_group 208 = .ok (.iadd, 1) := by decide +kernel
theorem d_M_group_209 : decode b_M_group 209 = .ok (.istore 5, 2) := by decide +kernel
theorem d_M_group_211 : decode b_M_group 211 = .ok (.goto (-59), 3) := by decide +kernel
theorem d_M_group_214 : decode b_M_group 214 = .ok (.aload_n 0, 1) := by decide +kernel
theorem d_M_group_215 : decode b_M_group 215 = .ok (.aload_n 0, 1) := by decide +kernel
theorem d_M_group_216 : decode b_M_group 216 = .ok (.getfield 58, 3) := by decide +kernel
theorem d_M_group_219 : decode b_M_group 219 = .ok (.aload_n 0, 1) := by decide +kernel
theorem d_M_group_220 : decode b_M_group 220 = .ok (.getfield 55, 3) := by decide +kernel
theorem d_M_group_223 : decode b_M_group 223 = .ok (.invokestatic 38, 3) := by decide +kernel
theorem d_M_group_226 : decode b_M_group 226 = .ok (.i2l, 1) := by decide +kernel
theorem d_M_group_227 : decode b_M_group 227 = .ok (.ladd, 1) := by decide +kernel
theorem d_M_group_228 : decode b_M_group 228 = .ok (.putfield 58, 3) := by decide +kernel
theorem d_M_group_231 : decode b_M_group 231 = .ok (.aload_n 0, 1) := by decide +kernel
theorem d_M_group_232 : decode b_M_group 232 = .ok (.iload_n 2, 1) := by decide +kernel
theorem d_M_group_233 : decode b_M_group 233 = .ok (.invokevirtual 77, 3) := by decide +kernel
theorem d_M_group_236 : decode b_M_group 236 = .ok (.ireturn, 1) := by decide +kernel
theorem d_M_digit_0 : decode b_M_digit 0 = .ok (.aload_n 0, 1) := by decide +kernel
theorem d_M_digit_1 : decode b_M_digit 1 = .ok (.getfield 34, 3) := by decide +kernel
theorem d_M_digit_4 : decode b_M_digit 4 = .ok (.iconst 1, 1) := by decide +kernel
theorem d_M_digit_5 : decode b_M_digit 5 = .ok (.isub, 1) := by decide +kernel
theorem d_M_digit_6 : decode b_M_digit 6 = .ok (.istore_n 3, 1) := by decide +kernel
theorem d_M_digit_7 : decode b_M_digit 7 = .ok (.iload_n 1, 1) := by decide +kernel
theorem d_M_digit_8 : decode b_M_digit 8 = .ok (.iload_n 3, 1) := by decide +kernel
theorem d_M_digit_9 : decode b_M_digit 9 = .ok (.iload_n 3, 1) := by decide +kernel
theorem d_M_digit_10 : decode b_M_digit 10 = .ok (.imul, 1) := by decide +kernel
theorem d_M_digit_11 : decode b_M_digit 11 = .ok (.iload_n 3, 1) := by decide +kernel
theorem d_M_digit_12 : decode b_M_digit 12 = .ok (.imul, 1) := by decide +kernel
theorem d_M_digit_13 : decode b_M_digit 13 = .ok (.irem, 1) := by decide +kernel
theorem d_M_digit_14 : decode b_M_digit 14 = .ok (.istore 4, 2) := by decide +kernel
theorem d_M_digit_16 : decode b_M_digit 16 = .ok (.iload 4, 2) := by decide +kernel
theorem d_M_digit_18 : decode b_M_digit 18 = .ok (.ifCond .ge 14, 3) := by decide +kernel
theorem d_M_digit_21 : decode b_M_digit 21 = .ok (.iload 4, 2) := by decide +kernel
theorem d_M_digit_23 : decode b_M_digit 23 = .ok (.iload_n 3, 1) := by decide +kernel
theorem d_M_digit_24 : decode b_M_digit 24 = .ok (.iload_n 3, 1) := by decide +kernel
theorem d_M_digit_25 : decode b_M_digit 25 = .ok (.imul, 1) := by decide +kernel
theorem d_M_digit_26 : decode b_M_digit 26 = .ok (.iload_n 3, 1) := by decide +kernel
theorem d_M_digit_27 : decode b_M_digit 27 = .ok (.imul, 1) := by decide +kernel
theorem d_M_digit_28 : decode b_M_digit 28 = .ok (.iadd, 1) := by decide +kernel
theorem d_M_digit_29 : decode b_M_digit 29 = .ok (.goto 5, 3) := by decide +kernel
theorem d_M_digit_32 : decode b_M_digit 32 = .ok (.iload 4, 2) := by decide +kernel
theorem d_M_digit_34 : decode b_M_digit 34 = .ok (.istore 4, 2) := by decide +kernel
theorem d_M_digit_36 : decode b_M_digit 36 = .ok (.iconst 0, 1) := by decide +kernel
theorem d_M_digit_37 : decode b_M_digit 37 = .ok (.istore 5, 2) := by decide +kernel
theorem d_M_digit_39 : decode b_M_digit 39 = .ok (.iload 5, 2) := by decide +kernel
theorem d_M_digit_41 : decode b_M_digit 41 = .ok (.iload_n 2, 1) := by decide +kernel
theorem d_M_digit_42 : decode b_M_digit 42 = .ok (.if_icmp .ge 15, 3) := by decide +kernel
theorem d_M_digit_45 : decode b_M_digit 45 = .ok (.iload 4, 2) := by decide +kernel
theorem d_M_digit_47 : decode b_M_digit 47 = .ok (.iload_n 3, 1) := by decide +kernel
theorem d_M_digit_48 : decode b_M_digit 48 = .ok (.idiv, 1) := by decide +kernel
theorem d_M_digit_49 : decode b_M_digit 49 = .ok (.istore 4, 2) := by decide +kernel
theorem d_M_digit_51 : decode b_M_digit 51 = .ok (.iinc 5 1, 3) := by decide +kernel
theorem d_M_digit_54 : decode b_M_digit 54 = .ok (.goto (-15), 3) := by decide +kernel
theorem d_M_digit_57 : decode b_M_digit 57 = .ok (.iload 4, 2) := by decide +kernel
theorem d_M_digit_59 : decode b_M_digit 59 = .ok (.iload_n 3, 1) := by decide +kernel
theorem d_M_digit_60 : decode b_M_digit 60 = .ok (.irem, 1) := by decide +kernel
theorem d_M_digit_61 : decode b_M_digit 61 = .ok (.ireturn, 1) := by decide +kernel
theorem d_M_here_0 : decode b_M_here 0 = .ok (.iconst 0, 1) := by decide +kernel
theorem d_M_here_1 : decode b_M_here 1 = .ok (.istore_n 2, 1) := by decide +kernel
theorem d_M_here_2 : decode b_M_here 2 = .ok (.iload_n 2, 1) := by decide +kernel
theorem d_M_here_3 : decode b_M_here 3 = .ok (.aload_n 0, 1) := by decide +kernel
theorem d_M_here_4 : decode b_M_here 4 = .ok (.getfield 98, 3) := by decide +kernel
theorem d_M_here_7 : decode b_M_here 7 = .ok (.if_icmp .ge 26, 3) := by decide +kernel
theorem d_M_here_10 : decode b_M_here 10 = .ok (.aload_n 0, 1) := by decide +kernel
theorem d_M_here_11 : decode b_M_here 11 = .ok (.iload_n 1, 1) := by decide +kernel
theorem d_M_here_12 : decode b_M_here 12 = .ok (.iload_n 2, 1) := by decide +kernel
theorem d_M_here_13 : decode b_M_here 13 = .ok (.invokevirtual 101, 3) := by decide +kernel
theorem d_M_here_16 : decode b_M_here 16 = .ok (.aload_n 0, 1) := by decide +kernel
theorem d_M_here_17 : decode b_M_here 17 = .ok (.getfield 31, 3) := by decide +kernel
theorem d_M_here_20 : decode b_M_here 20 = .ok (.iload_n 2, 1) := by decide +kernel
theorem d_M_here_21 : decode b_M_here 21 = .ok (.iaload, 1) := by decide +kernel
theorem d_M_here_22 : decode b_M_here 22 = .ok (.if_icmp .eq 5, 3) := by decide +kernel
theorem d_M_here_25 : decode b_M_here 25 = .ok (.iconst 0, 1) := by decide +kernel
theorem d_M_here_26 : decode b_M_here 26 = .ok (.ireturn, 1) := by decide +kernel
theorem d_M_here_27 : decode b_M_here 27 = .ok (.iinc 2 1, 3) := by decide +kernel
theorem d_M_here_30 : decode b_M_here 30 = .ok (.goto (-28), 3) := by decide +kernel
theorem d_M_here_33 : decode b_M_here 33 = .ok (.iconst 1, 1) := by decide +kernel
theorem d_M_here_34 : decode b_M_here 34 = .ok (.ireturn, 1) := by decide +kernel
theorem d_M_many_0 : decode b_M_many 0 = .ok (.iconst 0, 1) := by decide +kernel
theorem d_M_many_1 : decode b_M_many 1 = .ok (.istore 4, 2) := by decide +kernel
theorem d_M_many_3 : decode b_M_many 3 = .ok (.bipush 60, 2) := by decide +kernel
theorem d_M_many_5 : decode b_M_many 5 = .ok (.iload_n 1, 1) := by decide +kernel
theorem d_M_many_6 : decode b_M_many 6 = .ok (.imul, 1) := by decide +kernel
theorem d_M_many_7 : decode b_M_many 7 = .ok (.istore 5, 2) := by decide +kernel
theorem d_M_many_9 : decode b_M_many 9 = .ok (.iload 5, 2) := by decide +kernel
theorem d_M_many_11 : decode b_M_many 11 = .ok (.bipush 60, 2) := by decide +kernel
theorem d_M_many_13 : decode b_M_many 13 = .ok (.iload_n 1, 1) := by decide +kernel
theorem d_M_many_14 : decode b_M_many 14 = .ok (.imul, 1) := by decide +kernel
theorem d_M_many_15 : decode b_M_many 15 = .ok (.aload_n 0, 1) := by decide +kernel
theorem d_M_many_16 : decode b_M_many 16 = .ok (.getfield 16, 3) := by decide +kernel
theorem d_M_many_19 : decode b_M_many 19 = .ok (.iload_n 1, 1) := by decide +kernel
theorem d_M_many_20 : decode b_M_many 20 = .ok (.iaload, 1) := by decide +kernel
theorem d_M_many_21 : decode b_M_many 21 = .ok (.iadd, 1) := by decide +kernel
theorem d_M_many_22 : decode b_M_many 22 = .ok (.if_icmp .ge 69, 3) := by decide +kernel
theorem d_M_many_25 : decode b_M_many 25 = .ok (.iload_n 2, 1) := by decide +kernel
theorem d_M_many_26 : decode b_M_many 26 = .ok (.ifCond .eq 13, 3) := by decide +kernel
theorem d_M_many_29 : decode b_M_many 29 = .ok (.aload_n 0, 1) := by decide +kernel
theorem d_M_many_30 : decode b_M_many 30 = .ok (.getfield 22, 3) := by decide +kernel
theorem d_M_many_33 : decode b_M_many 33 = .ok (.iload 5, 2) := by decide +kernel
theorem d_M_many_35 : decode b_M_many 35 = .ok (.iaload, 1) := by decide +kernel
theorem d_M_many_36 : decode b_M_many 36 = .ok (.goto 10, 3) := by decide +kernel
theorem d_M_many_39 : decode b_M_many 39 = .ok (.aload_n 0, 1) := by decide +kernel
theorem d_M_many_40 : decode b_M_many 40 = .ok (.getfield 19, 3) := by decide +kernel
theorem d_M_many_43 : decode b_M_many 43 = .ok (.iload 5, 2) := by decide +kernel
theorem d_M_many_45 : decode b_M_many 45 = .ok (.iaload, 1) := by decide +kernel
theorem d_M_many_46 : decode b_M_many 46 = .ok (.istore 6, 2) := by decide +kernel
theorem d_M_many_48 : decode b_M_many 48 = .ok (.iload 4, 2) := by decide +kernel
theorem d_M_many_50 : decode b_M_many 50 = .ok (.aload_n 0, 1) := by decide +kernel
theorem d_M_many_51 : decode b_M_many 51 = .ok (.iload 6, 2) := by decide +kernel
theorem d_M_many_53 : decode b_M_many 53 = .ok (.invokevirtual 104, 3) := by decide +kernel
theorem d_M_many_56 : decode b_M_many 56 = .ok (.ifCond .eq 25, 3) := by decide +kernel
theorem d_M_many_59 : decode b_M_many 59 = .ok (.iload_n 3, 1) := by decide +kernel
theorem d_M_many_60 : decode b_M_many 60 = .ok (.ifCond .lt 17, 3) := by decide +kernel
theorem d_M_many_63 : decode b_M_many 63 = .ok (.aload_n 0, 1) := by decide +kernel
theorem d_M_many_64 : decode b_M_many 64 = .ok (.iload 6, 2) := by decide +kernel
theorem d_M_many_66 : decode b_M_many 66 = .ok (.aload_n 0, 1) := by decide +kernel
theorem d_M_many_67 : decode b_M_many 67 = .ok (.getfield 98, 3) := by decide +kernel
theorem d_M_many_70 : decode b_M_many 70 = .ok (.invokevirtual 101, 3) := by decide +kernel
theorem d_M_many_73 : decode b_M_many 73 = .ok (.iload_n 3, 1) := by decide +kernel
theorem d_M_many_74 : decode b_M_many 74 = .ok (.if_icmp .ne 7, 3) := by decide +kernel
theorem d_M_many_77 : decode b_M_many 77 = .ok (.iconst 1, 1) := by decide +kernel
theorem d_M_many_78 : decode b_M_many 78 = .ok (.goto 4, 3) := by decide +kernel
theorem d_M_many_81 : decode b_M_many 81 = .ok (.iconst 0, 1) := by decide +kernel
theorem d_M_many_82 : decode b_M_many 82 = .ok (.iadd, 1) := by decide +kernel
theorem d_M_many_83 : decode b_M_many 83 = .ok (.istore 4, 2) := by decide +kernel
theorem d_M_many_85 : decode b_M_many 85 = .ok (.iinc 5 1, 3) := by decide +kernel
theorem d_M_many_88 : decode b_M_many 88 = .ok (.goto (-79), 3) := by decide +kernel
theorem d_M_many_91 : decode b_M_many 91 = .ok (.iload 4, 2) := by decide +kernel
theorem d_M_many_93 : decode b_M_many 93 = .ok (.ireturn, 1) := by decide +kernel
theorem d_M_chunks_0 : decode b_M_chunks 0 = .ok (.aload_n 0, 1) := by decide +kernel
theorem d_M_chunks_1 : decode b_M_chunks 1 = .ok (.iload_n 2, 1) := by decide +kernel
theorem d_M_chunks_2 : decode b_M_chunks 2 = .ok (.iconst 0, 1) := by decide +kernel
theorem d_M_chunks_3 : decode b_M_chunks 3 = .ok (.iconst (-1), 1) := by decide +kernel
theorem d_M_chunks_4 : decode b_M_chunks 4 = .ok (.invokevirtual 107, 3) := by decide +kernel
theorem d_M_chunks_7 : decode b_M_chunks 7 = .ok (.istore 4, 2) := by decide +kernel
theorem d_M_chunks_9 : decode b_M_chunks 9 = .ok (.aload_n 0, 1) := by decide +kernel
theorem d_M_chunks_10 : decode b_M_chunks 10 = .ok (.iload_n 1, 1) := by decide +kernel
theorem d_M_chunks_11 : decode b_M_chunks 11 = .ok (.iconst 1, 1) := by decide +kernel
theorem d_M_chunks_12 : decode b_M_chunks 12 = .ok (.iconst (-1), 1) := by decide +kernel
theorem d_M_chunks_13 : decode b_M_chunks 13 = .ok (.invokevirtual 107, 3) := by decide +kernel
theorem d_M_chunks_16 : decode b_M_chunks 16 = .ok (.invokestatic 38, 3) := by decide +kernel
theorem d_M_chunks_19 : decode b_M_chunks 19 = .ok (.istore 5, 2) := by decide +kernel
theorem d_M_chunks_21 : decode b_M_chunks 21 = .ok (.aload_n 0, 1) := by decide +kernel
theorem d_M_chunks_22 : decode b_M_chunks 22 = .ok (.aload_n 0, 1) := by decide +kernel
theorem d_M_chunks_23 : decode b_M_chunks 23 = .ok (.getfield 58, 3) := by decide +kernel
theorem d_M_chunks_26 : decode b_M_chunks 26 = .ok (.iload 4, 2) := by decide +kernel
theorem d_M_chunks_28 : decode b_M_chunks 28 = .ok (.invokestatic 38, 3) := by decide +kernel
theorem d_M_chunks_31 : decode b_M_chunks 31 = .ok (.i2l, 1) := by decide +kernel
theorem d_M_chunks_32 : decode b_M_chunks 32 = .ok (.ladd, 1) := by decide +kernel
theorem d_M_chunks_33 : decode b_M_chunks 33 = .ok (.putfield 58, 3) := by decide +kernel
theorem d_M_chunks_36 : decode b_M_chunks 36 = .ok (.iconst 0, 1) := by decide +kernel
theorem d_M_chunks_37 : decode b_M_chunks 37 = .ok (.istore 6, 2) := by decide +kernel
theorem d_M_chunks_39 : decode b_M_chunks 39 = .ok (.iload 6, 2) := by decide +kernel
theorem d_M_chunks_41 : decode b_M_chunks 41 = .ok (.iload 4, 2) := by decide +kernel
theorem d_M_chunks_43 : decode b_M_chunks 43 = .ok (.if_icmp .ge 79, 3) := by decide +kernel
theorem d_M_chunks_46 : decode b_M_chunks 46 = .ok (.aload_n 0, 1) := by decide +kernel
theorem d_M_chunks_47 : decode b_M_chunks 47 = .ok (.aload_n 0, 1) := by decide +kernel
theorem d_M_chunks_48 : decode b_M_chunks 48 = .ok (.getfield 58, 3) := by decide +kernel
theorem d_M_chunks_51 : decode b_M_chunks 51 = .ok (.iload 5, 2) := by decide +kernel
theorem d_M_chunks_53 : decode b_M_chunks 53 = .ok (.i2l, 1) := by decide +kernel
theorem d_M_chunks_54 : decode b_M_chunks 54 = .ok (.ladd, 1) := by decide +kernel
theorem d_M_chunks_55 : decode b_M_chunks 55 = .ok (.putfield 58, 3) := by decide +kernel
theorem d_M_chunks_58 : decode b_M_chunks 58 = .ok (.bipush 60, 2) := by decide +kernel
theorem d_M_chunks_60 : decode b_M_chunks 60 = .ok (.iload_n 1, 1) := by decide +kernel
theorem d_M_chunks_61 : decode b_M_chunks 61 = .ok (.imul, 1) := by decide +kernel
theorem d_M_chunks_62 : decode b_M_chunks 62 = .ok (.istore 7, 2) := by decide +kernel
theorem d_M_chunks_64 : decode b_M_chunks 64 = .ok (.iload 7, 2) := by decide +kernel
theorem d_M_chunks_66 : decode b_M_chunks 66 = .ok (.bipush 60, 2) := by decide +kernel
theorem d_M_chunks_68 : decode b_M_chunks 68 = .ok (.iload_n 1, 1) := by decide +kernel
theorem d_M_chunks_69 : decode b_M_chunks 69 = .ok (.imul, 1) := by decide +kernel
theorem d_M_chunks_70 : decode b_M_chunks 70 = .ok (.aload_n 0, 1) := by decide +kernel
theorem d_M_chunks_71 : decode b_M_chunks 71 = .ok (.getfield 16, 3) := by decide +kernel
theorem d_M_chunks_74 : decode b_M_chunks 74 = .ok (.iload_n 1, 1) := by decide +kernel
theorem d_M_chunks_75 : decode b_M_chunks 75 = .ok (.iaload, 1) := by decide +kernel
theorem d_M_chunks_76 : decode b_M_chunks 76 = .ok (.iadd, 1) := by decide +kernel
theorem d_M_chunks_77 : decode b_M_chunks 77 = .ok (.if_icmp .ge 36, 3) := by decide +kernel
theorem d_M_chunks_80 : decode b_M_chunks 80 = .ok (.aload_n 0, 1) := by decide +kernel
theorem d_M_chunks_81 : decode b_M_chunks 81 = .ok (.aload_n 0, 1) := by decide +kernel
theorem d_M_chunks_82 : decode b_M_chunks 82 = .ok (.getfield 22, 3) := by decide +kernel
theorem d_M_chunks_85 : decode b_M_chunks 85 = .ok (.iload 7, 2) := by decide +kernel
theorem d_M_chunks_87 : decode b_M_chunks 87 = .ok (.iaload, 1) := by decide +kernel
theorem d_M_chunks_88 : decode b_M_chunks 88 = .ok (.invokevirtual 104, 3) := by decide +kernel
theorem d_M_chunks_91 : decode b_M_chunks 91 = .ok (.ifCond .eq 16, 3) := by decide +kernel
theorem d_M_chunks_94 : decode b_M_chunks 94 = .ok (.aload_n 0, 1) := by decide +kernel
theorem d_M_chunks_95 : decode b_M_chunks 95 = .ok (.iload 7, 2) := by decide +kernel
theorem d_M_chunks_97 : decode b_M_chunks 97 = .ok (.iload_n 2, 1) := by decide +kernel
theorem d_M_chunks_98 : decode b_M_chunks 98 = .ok (.iload 6, 2) := by decide +kernel
theorem d_M_chunks_100 : decode b_M_chunks 100 = .ok (.iload 6, 2) := by decide +kernel
theorem d_M_chunks_102 : decode b_M_chunks 102 = .ok (.iload_n 3, 1) := by decide +kernel
theorem d_M_chunks_103 : decode b_M_chunks 103 = .ok (.iadd, 1) := by decide +kernel
theorem d_M_chunks_104 : decode b_M_chunks 104 = .ok (.invokevirtual 111, 3) := by decide +kernel
theorem d_M_chunks_107 : decode b_M_chunks 107 = .ok (.iinc 7 1, 3) := by decide +kernel
theorem d_M_chunks_110 : decode b_M_chunks 110 = .ok (.goto (-46), 3) := by decide +kernel
theorem d_M_chunks_113 : decode b_M_chunks 113 = .ok (.iload 6, 2) := by decide +kernel
theorem d_M_chunks_115 : decode b_M_chunks 115 = .ok (.iload_n 3, 1) := by decide +kernel
theorem d_M_chunks_116 : decode b_M_chunks 116 = .ok (.iadd, 1) := by decide +kernel
theorem d_M_chunks_117 : decode b_M_chunks 117 = .ok (.istore 6, 2) := by decide +kernel
theorem d_M_chunks_119 : decode b_M_chunks 119 = .ok (.goto (-80), 3) := by decide +kernel
theorem d_M_chunks_122 : decode b_M_chunks 122 = .ok (.return_, 1) := by decide +kernel
theorem d_M_chunk_0 : decode b_M_chunk 0 = .ok (.iconst 0, 1) := by decide +kernel
theorem d_M_chunk_1 : decode b_M_chunk 1 = .ok (.istore 5, 2) := by decide +kernel
theorem d_M_chunk_3 : decode b_M_chunk 3 = .ok (.bipush 60, 2) := by decide +kernel
theorem d_M_chunk_5 : decode b_M_chunk 5 = .ok (.iload_n 2, 1) := by decide +kernel
theorem d_M_chunk_6 : decode b_M_chunk 6 = .ok (.imul, 1) := by decide +kernel
theorem d_M_chunk_7 : decode b_M_chunk 7 = .ok (.istore 6, 2) := by decide +kernel
theorem d_M_chunk_9 : decode b_M_chunk 9 = .ok (.iload 6, 2) := by decide +kernel
theorem d_M_chunk_11 : decode b_M_chunk 11 = .ok (.bipush 60, 2) := by decide +kernel
theorem d_M_chunk_13 : decode b_M_chunk 13 = .ok (.iload_n 2, 1) := by decide +kernel
theorem d_M_chunk_14 : decode b_M_chunk 14 = .ok (.imul, 1) := by decide +kernel
theorem d_M_chunk_15 : decode b_M_chunk 15 = .ok (.aload_n 0, 1) := by decide +kernel
theorem d_M_chunk_16 : decode b_M_chunk 16 = .ok (.getfield 16, 3) := by decide +kernel
theorem d_M_chunk_19 : decode b_M_chunk 19 = .ok (.iload_n 2, 1) := by decide +kernel
theorem d_M_chunk_20 : decode b_M_chunk 20 = .ok (.iaload, 1) := by decide +kernel
theorem d_M_chunk_21 : decode b_M_chunk 21 = .ok (.iadd, 1) := by decide +kernel
theorem d_M_chunk_22 : decode b_M_chunk 22 = .ok (.if_icmp .ge 75, 3) := by decide +kernel
theorem d_M_chunk_25 : decode b_M_chunk 25 = .ok (.aload_n 0, 1) := by decide +kernel
theorem d_M_chunk_26 : decode b_M_chunk 26 = .ok (.aload_n 0, 1) := by decide +kernel
theorem d_M_chunk_27 : decode b_M_chunk 27 = .ok (.getfield 19, 3) := by decide +kernel
theorem d_M_chunk_30 : decode b_M_chunk 30 = .ok (.iload 6, 2) := by decide +kernel
theorem d_M_chunk_32 : decode b_M_chunk 32 = .ok (.iaload, 1) := by decide +kernel
theorem d_M_chunk_33 : decode b_M_chunk 33 = .ok (.invokevirtual 104, 3) := by decide +kernel
theorem d_M_chunk_36 : decode b_M_chunk 36 = .ok (.ifCond .eq 55, 3) := by decide +kernel
theorem d_M_chunk_39 : decode b_M_chunk 39 = .ok (.iload 5, 2) := by decide +kernel
theorem d_M_chunk_41 : decode b_M_chunk 41 = .ok (.iload_n 3, 1) := by decide +kernel
theorem d_M_chunk_42 : decode b_M_chunk 42 = .ok (.if_icmp .lt 43, 3) := by decide +kernel
theorem d_M_chunk_45 : decode b_M_chunk 45 = .ok (.iload 5, 2) := by decide +kernel
theorem d_M_chunk_47 : decode b_M_chunk 47 = .ok (.iload 4, 2) := by decide +kernel
theorem d_M_chunk_49 : decode b_M_chunk 49 = .ok (.if_icmp .ge 36, 3) := by decide +kernel
theorem d_M_chunk_52 : decode b_M_chunk 52 = .ok (.aload_n 0, 1) := by decide +kernel
theorem d_M_chunk_53 : decode b_M_chunk 53 = .ok (.getfield 19, 3) := by decide +kernel
theorem d_M_chunk_56 : decode b_M_chunk 56 = .ok (.iload 6, 2) := by decide +kernel
theorem d_M_chunk_58 : decode b_M_chunk 58 = .ok (.iaload, 1) := by decide +kernel
theorem d_M_chunk_59 : decode b_M_chunk 59 = .ok (.aload_n 0, 1) := by decide +kernel
theorem d_M_chunk_60 : decode b_M_chunk 60 = .ok (.getfield 22, 3) := by decide +kernel
theorem d_M_chunk_63 : decode b_M_chunk 63 = .ok (.iload_n 1, 1) := by decide +kernel
theorem d_M_chunk_64 : decode b_M_chunk 64 = .ok (.iaload, 1) := by decide +kernel
theorem d_M_chunk_65 : decode b_M_chunk 65 = .ok (.if_icmp .ne 20, 3) := by decide +kernel
theorem d_M_chunk_68 : decode b_M_chunk 68 = .ok (.aload_n 0, 1) := by decide +kernel
theorem d_M_chunk_69 : decode b_M_chunk 69 = .ok (.aload_n 0, 1) := by decide +kernel
theorem d_M_chunk_70 : decode b_M_chunk 70 = .ok (.getfield 19, 3) := by decide +kernel
theorem d_M_chunk_73 : decode b_M_chunk 73 = .ok (.iload_n 1, 1) := by decide +kernel
theorem d_M_chunk_74 : decode b_M_chunk 74 = .ok (.iaload, 1) := by decide +kernel
theorem d_M_chunk_75 : decode b_M_chunk 75 = .ok (.aload_n 0, 1) := by decide +kernel
theorem d_M_chunk_76 : decode b_M_chunk 76 = .ok (.getfield 22, 3) := by decide +kernel
theorem d_M_chunk_79 : decode b_M_chunk 79 = .ok (.iload 6, 2) := by decide +kernel
theorem d_M_chunk_81 : decode b_M_chunk 81 = .ok (.iaload, 1) := by decide +kernel
theorem d_M_chunk_82 : decode b_M_chunk 82 = .ok (.invokevirtual 80, 3) := by decide +kernel
theorem d_M_chunk_85 : decode b_M_chunk 85 = .ok (.iload 5, 2) := by decide +kernel
theorem d_M_chunk_87 : decode b_M_chunk 87 = .ok (.iconst 1, 1) := by decide +kernel
theorem d_M_chunk_88 : decode b_M_chunk 88 = .ok (.iadd, 1) := by decide +kernel
theorem d_M_chunk_89 : decode b_M_chunk 89 = .ok (.istore 5, 2) := by decide +kernel
theorem d_M_chunk_91 : decode b_M_chunk 91 = .ok (.iinc 6 1, 3) := by decide +kernel
theorem d_M_chunk_94 : decode b_M_chunk 94 = .ok (.goto (-85), 3) := by decide +kernel
theorem d_M_chunk_97 : decode b_M_chunk 97 = .ok (.return_, 1) := by decide +kernel
theorem d_M_visit_0 : decode b_M_visit 0 = .ok (.aload_n 0, 1) := by decide +kernel
theorem d_M_visit_1 : decode b_M_visit 1 = .ok (.iload_n 1, 1) := by decide +kernel
theorem d_M_visit_2 : decode b_M_visit 2 = .ok (.iconst 1, 1) := by decide +kernel
theorem d_M_visit_3 : decode b_M_visit 3 = .ok (.iconst (-1), 1) := by decide +kernel
theorem d_M_visit_4 : decode b_M_visit 4 = .ok (.invokevirtual 107, 3) := by decide +kernel
theorem d_M_visit_7 : decode b_M_visit 7 = .ok (.istore_n 3, 1) := by decide +kernel
theorem d_M_visit_8 : decode b_M_visit 8 = .ok (.aload_n 0, 1) := by decide +kernel
theorem d_M_visit_9 : decode b_M_visit 9 = .ok (.iload_n 2, 1) := by decide +kernel
theorem d_M_visit_10 : decode b_M_visit 10 = .ok (.iconst 0, 1) := by decide +kernel
theorem d_M_visit_11 : decode b_M_visit 11 = .ok (.iconst (-1), 1) := by decide +kernel
theorem d_M_visit_12 : decode b_M_visit 12 = .ok (.invokevirtual 107, 3) := by decide +kernel
theorem d_M_visit_15 : decode b_M_visit 15 = .ok (.istore 4, 2) := by decide +kernel
theorem d_M_visit_17 : decode b_M_visit 17 = .ok (.iconst 4, 1) := by decide +kernel
theorem d_M_visit_18 : decode b_M_visit 18 = .ok (.aload_n 0, 1) := by decide +kernel
theorem d_M_visit_19 : decode b_M_visit 19 = .ok (.getfield 34, 3) := by decide +kernel
theorem d_M_visit_22 : decode b_M_visit 22 = .ok (.iconst 2, 1) := by decide +kernel
theorem d_M_visit_23 : decode b_M_visit 23 = .ok (.isub, 1) := by decide +kernel
theorem d_M_visit_24 : decode b_M_visit 24 = .ok (.imul, 1) := by decide +kernel
theorem d_M_visit_25 : decode b_M_visit 25 = .ok (.istore 5, 2) := by decide +kernel
theorem d_M_visit_27 : decode b_M_visit 27 = .ok (.iload_n 3, 1) := by decide +kernel
theorem d_M_visit_28 : decode b_M_visit 28 = .ok (.ifCond .eq 8, 3) := by decide +kernel
theorem d_M_visit_31 : decode b_M_visit 31 = .ok (.iload 4, 2) := by decide +kernel
theorem d_M_visit_33 : decode b_M_visit 33 = .ok (.ifCond .ne 5, 3) := by decide +kernel
theorem d_M_visit_36 : decode b_M_visit 36 = .ok (.iconst 0, 1) := by decide +kernel
theorem d_M_visit_37 : decode b_M_visit 37 = .ok (.ireturn, 1) := by decide +kernel
theorem d_M_visit_38 : decode b_M_visit 38 = .ok (.iload 4, 2) := by decide +kernel
theorem d_M_visit_40 : decode b_M_visit 40 = .ok (.iload 5, 2) := by decide +kernel
theorem d_M_visit_42 : decode b_M_visit 42 = .ok (.if_icmp .le 11, 3) := by decide +kernel
theorem d_M_visit_45 : decode b_M_visit 45 = .ok (.aload_n 0, 1) := by decide +kernel
theorem d_M_visit_46 : decode b_M_visit 46 = .ok (.getfield 98, 3) := by decide +kernel
theorem d_M_visit_49 : decode b_M_visit 49 = .ok (.iconst 3, 1) := by decide +kernel
theorem d_M_visit_50 : decode b_M_visit 50 = .ok (.if_icmp .ne 13, 3) := by decide +kernel
theorem d_M_visit_53 : decode b_M_visit 53 = .ok (.aload_n 0, 1) := by decide +kernel
theorem d_M_visit_54 : decode b_M_visit 54 = .ok (.iload_n 1, 1) := by decide +kernel
theorem d_M_visit_55 : decode b_M_visit 55 = .ok (.iload_n 2, 1) := by decide +kernel
theorem d_M_visit_56 : decode b_M_visit 56 = .ok (.iload 5, 2) := by decide +kernel
theorem d_M_visit_58 : decode b_M_visit 58 = .ok (.invokevirtual 115, 3) := by decide +kernel
theorem d_M_visit_61 : decode b_M_visit 61 = .ok (.iconst 0, 1) := by decide +kernel
theorem d_M_visit_62 : decode b_M_visit 62 = .ok (.ireturn, 1) := by decide +kernel
theorem d_M_visit_63 : decode b_M_visit 63 = .ok (.aload_n 0, 1) := by decide +kernel
theorem d_M_visit_64 : decode b_M_visit 64 = .ok (.aload_n 0, 1) := by decide +kernel
theorem d_M_visit_65 : decode b_M_visit 65 = .ok (.getfield 58, 3) := by decide +kernel
theorem d_M_visit_68 : decode b_M_visit 68 = .ok (.iload_n 3, 1) := by decide +kernel
theorem d_M_visit_69 : decode b_M_visit 69 = .ok (.invokestatic 38, 3) := by decide +kernel
theorem d_M_visit_72 : decode b_M_visit 72 = .ok (.i2l, 1) := by decide +kernel
theorem d_M_visit_73 : decode b_M_visit 73 = .ok (.ladd, 1) := by decide +kernel
theorem d_M_visit_74 : decode b_M_visit 74 = .ok (.iload 4, 2) := by decide +kernel
theorem d_M_visit_76 : decode b_M_visit 76 = .ok (.invokestatic 38, 3) := by decide +kernel
theorem d_M_visit_79 : decode b_M_visit 79 = .ok (.i2l, 1) := by decide +kernel
theorem d_M_visit_80 : decode b_M_visit 80 = .ok (.ladd, 1) := by decide +kernel
theorem d_M_visit_81 : decode b_M_visit 81 = .ok (.putfield 58, 3) := by decide +kernel
theorem d_M_visit_84 : decode b_M_visit 84 = .ok (.iconst 0, 1) := by decide +kernel
theorem d_M_visit_85 : decode b_M_visit 85 = .ok (.istore 6, 2) := by decide +kernel
theorem d_M_visit_87 : decode b_M_visit 87 = .ok (.iload 6, 2) := by decide +kernel
theorem d_M_visit_89 : decode b_M_visit 89 = .ok (.aload_n 0, 1) := by decide +kernel
theorem d_M_visit_90 : decode b_M_visit 90 = .ok (.getfield 34, 3) := by decide +kernel
theorem d_M_visit_93 : decode b_M_visit 93 = .ok (.iconst 1, 1) := by decide +kernel
theorem d_M_visit_94 : decode b_M_visit 94 = .ok (.isub, 1) := by decide +kernel
theorem d_M_visit_95 : decode b_M_visit 95 = .ok (.if_icmp .ge 51, 3) := by decide +kernel
theorem d_M_visit_98 : decode b_M_visit 98 = .ok (.aload_n 0, 1) := by decide +kernel
theorem d_M_visit_99 : decode b_M_visit 99 = .ok (.iload_n 1, 1) := by decide +kernel
theorem d_M_visit_100 : decode b_M_visit 100 = .ok (.iconst 1, 1) := by decide +kernel
theorem d_M_visit_101 : decode b_M_visit 101 = .ok (.iload 6, 2) := by decide +kernel
theorem d_M_visit_103 : decode b_M_visit 103 = .ok (.invokevirtual 107, 3) := by decide +kernel
theorem d_M_visit_106 : decode b_M_visit 106 = .ok (.istore 7, 2) := by decide +kernel
theorem d_M_visit_108 : decode b_M_visit 108 = .ok (.aload_n 0, 1) := by decide +kernel
theorem d_M_visit_109 : decode b_M_visit 109 = .ok (.iload_n 2, 1) := by decide +kernel
theorem d_M_visit_110 : decode b_M_visit 110 = .ok (.iconst 0, 1) := by decide +kernel
theorem d_M_visit_111 : decode b_M_visit 111 = .ok (.iload 6, 2) := by decide +kernel
theorem d_M_visit_113 : decode b_M_visit 113 = .ok (.invokevirtual 107, 3) := by decide +kernel
theorem d_M_visit_116 : decode b_M_visit 116 = .ok (.istore 8, 2) := by decide +kernel
theorem d_M_visit_118 : decode b_M_visit 118 = .ok (.aload_n 0, 1) := by decide +kernel
theorem d_M_visit_119 : decode b_M_visit 119 = .ok (.aload_n 0, 1) := by decide +kernel
theorem d_M_visit_120 : decode b_M_visit 120 = .ok (.getfield 58, 3) := by decide +kernel
theorem d_M_visit_123 : decode b_M_visit 123 = .ok (.iload 7, 2) := by decide +kernel
theorem d_M_visit_125 : decode b_M_visit 125 = .ok (.invokestatic 38, 3) := by decide +kernel
theorem d_M_visit_128 : decode b_M_visit 128 = .ok (.i2l, 1) := by decide +kernel
theorem d_M_visit_129 : decode b_M_visit 129 = .ok (.ladd, 1) := by decide +kernel
theorem d_M_visit_130 : decode b_M_visit 130 = .ok (.iload 8, 2) := by decide +kernel
theorem d_M_visit_132 : decode b_M_visit 132 = .ok (.invokestatic 38, 3) := by decide +kernel
theorem d_M_visit_135 : decode b_M_visit 135 = .ok (.i2l, 1) := by decide +kernel
theorem d_M_visit_136 : decode b_M_visit 136 = .ok (.ladd, 1) := by decide +kernel
theorem d_M_visit_137 : decode b_M_visit 137 = .ok (.putfield 58, 3) := by decide +kernel
theorem d_M_visit_140 : decode b_M_visit 140 = .ok (.iinc 6 1, 3) := by decide +kernel
theorem d_M_visit_143 : decode b_M_visit 143 = .ok (.goto (-56), 3) := by decide +kernel
theorem d_M_visit_146 : decode b_M_visit 146 = .ok (.iconst 1, 1) := by decide +kernel
theorem d_M_visit_147 : decode b_M_visit 147 = .ok (.ireturn, 1) := by decide +kernel
theorem d_M_join_0 : decode b_M_join 0 = .ok (.aload_n 0, 1) := by decide +kernel
theorem d_M_join_1 : decode b_M_join 1 = .ok (.iconst 1, 1) := by decide +kernel
theorem d_M_join_2 : decode b_M_join 2 = .ok (.iload_n 1, 1) := by decide +kernel
theorem d_M_join_3 : decode b_M_join 3 = .ok (.iload_n 2, 1) := by decide +kernel
theorem d_M_join_4 : decode b_M_join 4 = .ok (.iload_n 3, 1) := by decide +kernel
theorem d_M_join_5 : decode b_M_join 5 = .ok (.invokevirtual 65, 3) := by decide +kernel
theorem d_M_join_8 : decode b_M_join 8 = .ok (.istore 4, 2) := by decide +kernel
theorem d_M_join_10 : decode b_M_join 10 = .ok (.iload 4, 2) := by decide +kernel
theorem d_M_join_12 : decode b_M_join 12 = .ok (.ifCond .eq 6, 3) := by decide +kernel
theorem d_M_join_15 : decode b_M_join 15 = .ok (.iload 4, 2) := by decide +kernel
theorem d_M_join_17 : decode b_M_join 17 = .ok (.ireturn, 1) := by decide +kernel
theorem d_M_join_18 : decode b_M_join 18 = .ok (.aload_n 0, 1) := by decide +kernel
theorem d_M_join_19 : decode b_M_join 19 = .ok (.iconst 0, 1) := by decide +kernel
theorem d_M_join_20 : decode b_M_join 20 = .ok (.putfield 98, 3) := by decide +kernel
theorem d_M_join_23 : decode b_M_join 23 = .ok (.iconst 1, 1) := by decide +kernel
theorem d_M_join_24 : decode b_M_join 24 = .ok (.istore 5, 2) := by decide +kernel
theorem d_M_join_26 : decode b_M_join 26 = .ok (.iload 5, 2) := by decide +kernel
theorem d_M_join_28 : decode b_M_join 28 = .ok (.ifCond .eq 121, 3) := by decide +kernel
theorem d_M_join_31 : decode b_M_join 31 = .ok (.aload_n 0, 1) := by decide +kernel
theorem d_M_join_32 : decode b_M_join 32 = .ok (.iload_n 1, 1) := by decide +kernel
theorem d_M_join_33 : decode b_M_join 33 = .ok (.iload_n 2, 1) := by decide +kernel
theorem d_M_join_34 : decode b_M_join 34 = .ok (.invokevirtual 119, 3) := by decide +kernel
theorem d_M_join_37 : decode b_M_join 37 = .ok (.ifCond .eq 26, 3) := by decide +kernel
theorem d_M_join_40 : decode b_M_join 40 = .ok (.aload_n 0, 1) := by decide +kernel
theorem d_M_join_41 : decode b_M_join 41 = .ok (.getfield 31, 3) := by decide +kernel
theorem d_M_join_44 : decode b_M_join 44 = .ok (.aload_n 0, 1) := by decide +kernel
theorem d_M_join_45 : decode b_M_join 45 = .ok (.getfield 98, 3) := by decide +kernel
theorem d_M_join_48 : decode b_M_join 48 = .ok (.iconst 0, 1) := by decide +kernel
theorem d_M_join_49 : decode b_M_join 49 = .ok (.iastore, 1) := by decide +kernel
theorem d_M_join_50 : decode b_M_join 50 = .ok (.aload_n 0, 1) := by decide +kernel
theorem d_M_join_51 : decode b_M_join 51 = .ok (.aload_n 0, 1) := by decide +kernel
theorem d_M_join_52 : decode b_M_join 52 = .ok (.getfield 98, 3) := by decide +kernel
theorem d_M_join_55 : decode b_M_join 55 = .ok (.iconst 1, 1) := by decide +kernel
theorem d_M_join_56 : decode b_M_join 56 = .ok (.iadd, 1) := by decide +kernel
theorem d_M_join_57 : decode b_M_join 57 = .ok (.putfield 98, 3) := by decide +kernel
theorem d_M_join_60 : decode b_M_join 60 = .ok (.goto (-34), 3) := by decide +kernel
theorem d_M_join_63 : decode b_M_join 63 = .ok (.aload_n 0, 1) := by decide +kernel
theorem d_M_join_64 : decode b_M_join 64 = .ok (.getfield 98, 3) := by decide +kernel
theorem d_M_join_67 : decode b_M_join 67 = .ok (.ifCond .le 36, 3) := by decide +kernel
theorem d_M_join_70 : decode b_M_join 70 = .ok (.aload_n 0, 1) := by decide +kernel
theorem d_M_join_71 : decode b_M_join 71 = .ok (.getfield 31, 3) := by decide +kernel
theorem d_M_join_74 : decode b_M_join 74 = .ok (.aload_n 0, 1) := by decide +kernel
theorem d_M_join_75 : decode b_M_join 75 = .ok (.getfield 98, 3) := by decide +kernel
theorem d_M_join_78 : decode b_M_join 78 = .ok (.iconst 1, 1) := by decide +kernel
theorem d_M_join_79 : decode b_M_join 79 = .ok (.isub, 1) := by decide +kernel
theorem d_M_join_80 : decode b_M_join 80 = .ok (.iaload, 1) := by decide +kernel
theorem d_M_join_81 : decode b_M_join 81 = .ok (.aload_n 0, 1) := by decide +kernel
theorem d_M_join_82 : decode b_M_join 82 = .ok (.getfield 34, 3) := by decide +kernel
theorem d_M_join_85 : decode b_M_join 85 = .ok (.iconst 2, 1) := by decide +kernel
theorem d_M_join_86 : decode b_M_join 86 = .ok (.isub, 1) := by decide +kernel
theorem d_M_join_87 : decode b_M_join 87 = .ok (.if_icmp .ne 16, 3) := by decide +kernel
theorem d_M_join_90 : decode b_M_join 90 = .ok (.aload_n 0, 1) := by decide +kernel
theorem d_M_join_91 : decode b_M_join 91 = .ok (.aload_n 0, 1) := by decide +kernel
theorem d_M_join_92 : decode b_M_join 92 = .ok (.getfield 98, 3) := by decide +kernel
theorem d_M_join_95 : decode b_M_join 95 = .ok (.iconst 1, 1) := by decide +kernel
theorem d_M_join_96 : decode b_M_join 96 = .ok (.isub, 1) := by decide +kernel
theorem d_M_join_97 : decode b_M_join 97 = .ok (.putfield 98, 3) := by decide +kernel
theorem d_M_join_100 : decode b_M_join 100 = .ok (.goto (-37), 3) := by decide +kernel
theorem d_M_join_103 : decode b_M_join 103 = .ok (.aload_n 0, 1) := by decide +kernel
theorem d_M_join_104 : decode b_M_join 104 = .ok (.getfield 98, 3) := by decide +kernel
theorem d_M_join_107 : decode b_M_join 107 = .ok (.ifCond .le 7, 3) := by decide +kernel
theorem d_M_join_110 : decode b_M_join 110 = .ok (.iconst 1, 1) := by decide +kernel
theorem d_M_join_111 : decode b_M_join 111 = .ok (.goto 4, 3) := by decide +kernel
theorem d_M_join_114 : decode b_M_join 114 = .ok (.iconst 0, 1) := by decide +kernel
theorem d_M_join_115 : decode b_M_join 115 = .ok (.istore 5, 2) := by decide +kernel
theorem d_M_join_117 : decode b_M_join 117 = .ok (.iload 5, 2) := by decide +kernel
theorem d_M_join_119 : decode b_M_join 119 = .ok (.ifCond .eq (-93), 3) := by decide +kernel
theorem d_M_join_122 : decode b_M_join 122 = .ok (.aload_n 0, 1) := by decide +kernel
theorem d_M_join_123 : decode b_M_join 123 = .ok (.getfield 31, 3) := by decide +kernel
theorem d_M_join_126 : decode b_M_join 126 = .ok (.aload_n 0, 1) := by decide +kernel
theorem d_M_join_127 : decode b_M_join 127 = .ok (.getfield 98, 3) := by decide +kernel
theorem d_M_join_130 : decode b_M_join 130 = .ok (.iconst 1, 1) := by decide +kernel
theorem d_M_join_131 : decode b_M_join 131 = .ok (.isub, 1) := by decide +kernel
theorem d_M_join_132 : decode b_M_join 132 = .ok (.aload_n 0, 1) := by decide +kernel
theorem d_M_join_133 : decode b_M_join 133 = .ok (.getfield 31, 3) := by decide +kernel
theorem d_M_join_136 : decode b_M_join 136 = .ok (.aload_n 0, 1) := by decide +kernel
theorem d_M_join_137 : decode b_M_join 137 = .ok (.getfield 98, 3) := by decide +kernel
theorem d_M_join_140 : decode b_M_join 140 = .ok (.iconst 1, 1) := by decide +kernel
theorem d_M_join_141 : decode b_M_join 141 = .ok (.isub, 1) := by decide +kernel
theorem d_M_join_142 : decode b_M_join 142 = .ok (.iaload, 1) := by decide +kernel
theorem d_M_join_143 : decode b_M_join 143 = .ok (.iconst 1, 1) := by decide +kernel
theorem d_M_join_144 : decode b_M_join 144 = .ok (.iadd, 1) := by decide +kernel
theorem d_M_join_145 : decode b_M_join 145 = .ok (.iastore, 1) := by decide +kernel
theorem d_M_join_146 : decode b_M_join 146 = .ok (.goto (-120), 3) := by decide +kernel
theorem d_M_join_149 : decode b_M_join 149 = .ok (.aload_n 0, 1) := by decide +kernel
theorem d_M_join_150 : decode b_M_join 150 = .ok (.aload_n 0, 1) := by decide +kernel
theorem d_M_join_151 : decode b_M_join 151 = .ok (.getfield 58, 3) := by decide +kernel
theorem d_M_join_154 : decode b_M_join 154 = .ok (.aload_n 0, 1) := by decide +kernel
theorem d_M_join_155 : decode b_M_join 155 = .ok (.getfield 55, 3) := by decide +kernel
theorem d_M_join_158 : decode b_M_join 158 = .ok (.invokestatic 38, 3) := by decide +kernel
theorem d_M_join_161 : decode b_M_join 161 = .ok (.i2l, 1) := by decide +kernel
theorem d_M_join_162 : decode b_M_join 162 = .ok (.ladd, 1) := by decide +kernel
theorem d_M_join_163 : decode b_M_join 163 = .ok (.putfield 58, 3) := by decide +kernel
theorem d_M_join_166 : decode b_M_join 166 = .ok (.aload_n 0, 1) := by decide +kernel
theorem d_M_join_167 : decode b_M_join 167 = .ok (.iload_n 3, 1) := by decide +kernel
theorem d_M_join_168 : decode b_M_join 168 = .ok (.invokevirtual 77, 3) := by decide +kernel
theorem d_M_join_171 : decode b_M_join 171 = .ok (.ireturn, 1) := by decide +kernel
theorem d_M_transfers_0 : decode b_M_transfers 0 = .ok (.aload_n 0, 1) := by decide +kernel
theorem d_M_transfers_1 : decode b_M_transfers 1 = .ok (.getfield 51, 3) := by decide +kernel
theorem d_M_transfers_4 : decode b_M_transfers 4 = .ok (.lreturn, 1) := by decide +kernel
theorem d_M_blocks_0 : decode b_M_blocks 0 = .ok (.iconst 0, 1) := by decide +kernel
theorem d_M_blocks_1 : decode b_M_blocks 1 = .ok (.istore_n 1, 1) := by decide +kernel
theorem d_M_blocks_2 : decode b_M_blocks 2 = .ok (.iconst 0, 1) := by decide +kernel
theorem d_M_blocks_3 : decode b_M_blocks 3 = .ok (.istore_n 2, 1) := by decide +kernel
theorem d_M_blocks_4 : decode b_M_blocks 4 = .ok (.iload_n 2, 1) := by decide +kernel
theorem d_M_blocks_5 : decode b_M_blocks 5 = .ok (.bipush 8, 2) := by decide +kernel
theorem d_M_blocks_7 : decode b_M_blocks 7 = .ok (.if_icmp .ge 34, 3) := by decide +kernel
theorem d_M_blocks_10 : decode b_M_blocks 10 = .ok (.iload_n 1, 1) := by decide +kernel
theorem d_M_blocks_11 : decode b_M_blocks 11 = .ok (.aload_n 0, 1) := by decide +kernel
theorem d_M_blocks_12 : decode b_M_blocks 12 = .ok (.getfield 16, 3) := by decide +kernel
theorem d_M_blocks_15 : decode b_M_blocks 15 = .ok (.iload_n 2, 1) := by decide +kernel
theorem d_M_blocks_16 : decode b_M_blocks 16 = .ok (.iaload, 1) := by decide +kernel
theorem d_M_blocks_17 : decode b_M_blocks 17 = .ok (.ifCond .le 15, 3) := by decide +kernel
theorem d_M_blocks_20 : decode b_M_blocks 20 = .ok (.aload_n 0, 1) := by decide +kernel
theorem d_M_blocks_21 : decode b_M_blocks 21 = .ok (.getfield 16, 3) := by decide +kernel
theorem d_M_blocks_24 : decode b_M_blocks 24 = .ok (.iload_n 2, 1) := by decide +kernel
theorem d_M_blocks_25 : decode b_M_blocks 25 = .ok (.iaload, 1) := by decide +kernel
theorem d_M_blocks_26 : decode b_M_blocks 26 = .ok (.invokestatic 38, 3) := by decide +kernel
theorem d_M_blocks_29 : decode b_M_blocks 29 = .ok (.goto 4, 3) := by decide +kernel
theorem d_M_blocks_32 : decode b_M_blocks 32 = .ok (.iconst 0, 1) := by decide +kernel
theorem d_M_blocks_33 : decode b_M_blocks 33 = .ok (.iadd, 1) := by decide +kernel
theorem d_M_blocks_34 : decode b_M_blocks 34 = .ok (.istore_n 1, 1) := by decide +kernel
theorem d_M_blocks_35 : decode b_M_blocks 35 = .ok (.iinc 2 1, 3) := by decide +kernel
theorem d_M_blocks_38 : decode b_M_blocks 38 = .ok (.goto (-34), 3) := by decide +kernel
theorem d_M_blocks_41 : decode b_M_blocks 41 = .ok (.iload_n 1, 1) := by decide +kernel
theorem d_M_blocks_42 : decode b_M_blocks 42 = .ok (.ireturn, 1) := by decide +kernel
end
section
theorem d_L_cell_0 : decode b_L_cell 0 = .ok (.iload_n 1, 1) := by decide +kernel
theorem d_L_cell_1 : decode b_L_cell 1 = .ok (.aload_n 0, 1) := by decide +kernel
theorem d_L_cell_2 : decode b_L_cell 2 = .ok (.arraylength, 1) := by decide +kernel
theorem d_L_cell_3 : decode b_L_cell 3 = .ok (.if_icmp .ge 9, 3) := by decide +kernel
theorem d_L_cell_6 : decode b_L_cell 6 = .ok (.aload_n 0, 1) := by decide +kernel
theorem d_L_cell_7 : decode b_L_cell 7 = .ok (.iload_n 1, 1) := by decide +kernel
theorem d_L_cell_8 : decode b_L_cell 8 = .ok (.iaload, 1) := by decide +kernel
theorem d_L_cell_9 : decode b_L_cell 9 = .ok (.goto 4, 3) := by decide +kernel
theorem d_L_cell_12 : decode b_L_cell 12 = .ok (.iconst 0, 1) := by decide +kernel
theorem d_L_cell_13 : decode b_L_cell 13 = .ok (.ireturn, 1) := by decide +kernel
theorem d_L_law_0 : decode b_L_law 0 = .ok (.new 7, 3) := by decide +kernel
theorem d_L_law_3 : decode b_L_law 3 = .ok (.dup, 1) := by decide +kernel
theorem d_L_law_4 : decode b_L_law 4 = .ok (.aload_n 0, 1) := by decide +kernel
theorem d_L_law_5 : decode b_L_law 5 = .ok (.iconst 0, 1) := by decide +kernel
theorem d_L_law_6 : decode b_L_law 6 = .ok (.invokestatic 9, 3) := by decide +kernel
theorem d_L_law_9 : decode b_L_law 9 = .ok (.invokespecial 15, 3) := by decide +kernel
theorem d_L_law_12 : decode b_L_law 12 = .ok (.astore_n 1, 1) := by decide +kernel
theorem d_L_law_13 : decode b_L_law 13 = .ok (.new 18, 3) := by decide +kernel
theorem d_L_law_16 : decode b_L_law 16 = .ok (.dup, 1) := by decide +kernel
theorem d_L_law_17 : decode b_L_law 17 = .ok (.aload_n 0, 1) := by decide +kernel
theorem d_L_law_18 : decode b_L_law 18 = .ok (.iconst 0, 1) := by decide +kernel
theorem d_L_law_19 : decode b_L_law 19 = .ok (.invokestatic 9, 3) := by decide +kernel
theorem d_L_law_22 : decode b_L_law 22 = .ok (.invokespecial 20, 3) := by decide +kernel
theorem d_L_law_25 : decode b_L_law 25 = .ok (.astore_n 2, 1) := by decide +kernel
theorem d_L_law_26 : decode b_L_law 26 = .ok (.iconst 1, 1) := by decide +kernel
theorem d_L_law_27 : decode b_L_law 27 = .ok (.istore_n 3, 1) := by decide +kernel
theorem d_L_law_28 : decode b_L_law 28 = .ok (.iload_n 3, 1) := by decide +kernel
theorem d_L_law_29 : decode b_L_law 29 = .ok (.aload_n 0, 1) := by decide +kernel
theorem d_L_law_30 : decode b_L_law 30 = .ok (.arraylength, 1) := by decide +kernel
theorem d_L_law_31 : decode b_L_law 31 = .ok (.iconst 5, 1) := by decide +kernel
theorem d_L_law_32 : decode b_L_law 32 = .ok (.isub, 1) := by decide +kernel
theorem d_L_law_33 : decode b_L_law 33 = .ok (.if_icmp .gt 538, 3) := by decide +kernel
theorem d_L_law_36 : decode b_L_law 36 = .ok (.aload_n 0, 1) := by decide +kernel
theorem d_L_law_37 : decode b_L_law 37 = .ok (.iload_n 3, 1) := by decide +kernel
theorem d_L_law_38 : decode b_L_law 38 = .ok (.iaload, 1) := by decide +kernel
theorem d_L_law_39 : decode b_L_law 39 = .ok (.bipush 15, 2) := by decide +kernel
theorem d_L_law_41 : decode b_L_law 41 = .ok (.iand, 1) := by decide +kernel
theorem d_L_law_42 : decode b_L_law 42 = .ok (.tableswitch 523 0 13 #[70, 103, 126, 149, 172, 205, 238, 281, 334, 367, 400, 453, 496, 510], 70) := by decide +kernel
theorem d_L_law_112 : decode b_L_law 112 = .ok (.aload_n 1, 1) := by decide +kernel
theorem d_L_law_113 : decode b_L_law 113 = .ok (.aload_n 0, 1) := by decide +kernel
theorem d_L_law_114 : decode b_L_law 114 = .ok (.iload_n 3, 1) := by decide +kernel
theorem d_L_law_115 : decode b_L_law 115 = .ok (.iconst 1, 1) := by decide +kernel
theorem d_L_law_116 : decode b_L_law 116 = .ok (.iadd, 1) := by decide +kernel
theorem d_L_law_117 : decode b_L_law 117 = .ok (.iaload, 1) := by decide +kernel
theorem d_L_law_118 : decode b_L_law 118 = .ok (.aload_n 0, 1) := by decide +kernel
theorem d_L_law_119 : decode b_L_law 119 = .ok (.iload_n 3, 1) := by decide +kernel
theorem d_L_law_120 : decode b_L_law 120 = .ok (.iconst 2, 1) := by decide +kernel
theorem d_L_law_121 : decode b_L_law 121 = .ok (.iadd, 1) := by decide +kernel
theorem d_L_law_122 : decode b_L_law 122 = .ok (.iaload, 1) := by decide +kernel
theorem d_L_law_123 : decode b_L_law 123 = .ok (.invokevirtual 21, 3) := by decide +kernel
theorem d_L_law_126 : decode b_L_law 126 = .ok (.aload_n 2, 1) := by decide +kernel
theorem d_L_law_127 : decode b_L_law 127 = .ok (.aload_n 0, 1) := by decide +kernel
theorem d_L_law_128 : decode b_L_law 128 = .ok (.iload_n 3, 1) := by decide +kernel
theorem d_L_law_129 : decode b_L_law 129 = .ok (.iconst 1, 1) := by decide +kernel
theorem d_L_law_130 : decode b_L_law 130 = .ok (.iadd, 1) := by decide +kernel
theorem d_L_law_131 : decode b_L_law 131 = .ok (.iaload, 1) := by decide +kernel
theorem d_L_law_132 : decode b_L_law 132 = .ok (.aload_n 0, 1) := by decide +kernel
theorem d_L_law_133 : decode b_L_law 133 = .ok (.iload_n 3, 1) := by decide +kernel
theorem d_L_law_134 : decode b_L_law 134 = .ok (.iconst 2, 1) := by decide +kernel
theorem d_L_law_135 : decode b_L_law 135 = .ok (.iadd, 1) := by decide +kernel
theorem d_L_law_136 : decode b_L_law 136 = .ok (.iaload, 1) := by decide +kernel
theorem d_L_law_137 : decode b_L_law 137 = .ok (.invokevirtual 25, 3) := by decide +kernel
theorem d_L_law_140 : decode b_L_law 140 = .ok (.if_icmp .eq 425, 3) := by decide +kernel
theorem d_L_law_143 : decode b_L_law 143 = .ok (.iconst 0, 1) := by decide +kernel
theorem d_L_law_144 : decode b_L_law 144 = .ok (.ireturn, 1) := by decide +kernel
theorem d_L_law_145 : decode b_L_law 145 = .ok (.aload_n 1, 1) := by decide +kernel
theorem d_L_law_146 : decode b_L_law 146 = .ok (.aload_n 0, 1) := by decide +kernel
theorem d_L_law_147 : decode b_L_law 147 = .ok (.iload_n 3, 1) := by decide +kernel
theorem d_L_law_148 : decode b_L_law 148 = .ok (.iconst 1, 1) := by decide +kernel
theorem d_L_law_149 : decode b_L_law 149 = .ok (.iadd, 1) := by decide +kernel
theorem d_L_law_150 : decode b_L_law 150 = .ok (.iaload, 1) := by decide +kernel
theorem d_L_law_151 : decode b_L_law 151 = .ok (.invokevirtual 26, 3) := by decide +kernel
theorem d_L_law_154 : decode b_L_law 154 = .ok (.aload_n 2, 1) := by decide +kernel
theorem d_L_law_155 : decode b_L_law 155 = .ok (.aload_n 0, 1) := by decide +kernel
theorem d_L_law_156 : decode b_L_law 156 = .ok (.iload_n 3, 1) := by decide +kernel
theorem d_L_law_157 : decode b_L_law 157 = .ok (.iconst 1, 1) := by decide +kernel
theorem d_L_law_158 : decode b_L_law 158 = .ok (.iadd, 1) := by decide +kernel
theorem d_L_law_159 : decode b_L_law 159 = .ok (.iaload, 1) := by decide +kernel
theorem d_L_law_160 : decode b_L_law 160 = .ok (.invokevirtual 30, 3) := by decide +kernel
theorem d_L_law_163 : decode b_L_law 163 = .ok (.if_icmp .eq 402, 3) := by decide +kernel
theorem d_L_law_166 : decode b_L_law 166 = .ok (.iconst 0, 1) := by decide +kernel
theorem d_L_law_167 : decode b_L_law 167 = .ok (.ireturn, 1) := by decide +kernel
theorem d_L_law_168 : decode b_L_law 168 = .ok (.aload_n 1, 1) := by decide +kernel
theorem d_L_law_169 : decode b_L_law 169 = .ok (.aload_n 0, 1) := by decide +kernel
theorem d_L_law_170 : decode b_L_law 170 = .ok (.iload_n 3, 1) := by decide +kernel
theorem d_L_law_171 : decode b_L_law 171 = .ok (.iconst 1, 1) := by decide +kernel
theorem d_L_law_172 : decode b_L_law 172 = .ok (.iadd, 1) := by decide +kernel
theorem d_L_law_173 : decode b_L_law 173 = .ok (.iaload, 1) := by decide +kernel
theorem d_L_law_174 : decode b_L_law 174 = .ok (.invokevirtual 31, 3) := by decide +kernel
theorem d_L_law_177 : decode b_L_law 177 = .ok (.aload_n 2, 1) := by decide +kernel
theorem d_L_law_178 : decode b_L_law 178 = .ok (.aload_n 0, 1) := by decide +kernel
theorem d_L_law_179 : decode b_L_law 179 = .ok (.iload_n 3, 1) := by decide +kernel
theorem d_L_law_180 : decode b_L_law 180 = .ok (.iconst 1, 1) := by decide +kernel
theorem d_L_law_181 : decode b_L_law 181 = .ok (.iadd, 1) := by decide +kernel
theorem d_L_law_182 : decode b_L_law 182 = .ok (.iaload, 1) := by decide +kernel
theorem d_L_law_183 : decode b_L_law 183 = .ok (.invokevirtual 34, 3) := by decide +kernel
theorem d_L_law_186 : decode b_L_law 186 = .ok (.if_icmp .eq 379, 3) := by decide +kernel
theorem d_L_law_189 : decode b_L_law 189 = .ok (.iconst 0, 1) := by decide +kernel
theorem d_L_law_190 : decode b_L_law 190 = .ok (.ireturn, 1) := by decide +kernel
theorem d_L_law_191 : decode b_L_law 191 = .ok (.aload_n 1, 1) := by decide +kernel
theorem d_L_law_192 : decode b_L_law 192 = .ok (.aload_n 0, 1) := by decide +kernel
theorem d_L_law_193 : decode b_L_law 193 = .ok (.iload_n 3, 1) := by decide +kernel
theorem d_L_law_194 : decode b_L_law 194 = .ok (.iconst 1, 1) := by decide +kernel
theorem d_L_law_195 : decode b_L_law 195 = .ok (.iadd, 1) := by decide +kernel
theorem d_L_law_196 : decode b_L_law 196 = .ok (.iaload, 1) := by decide +kernel
theorem d_L_law_197 : decode b_L_law 197 = .ok (.invokevirtual 35, 3) := by decide +kernel
theorem d_L_law_200 : decode b_L_law 200 = .ok (.aload_n 2, 1) := by decide +kernel
theorem d_L_law_201 : decode b_L_law 201 = .ok (.aload_n 0, 1) := by decide +kernel
theorem d_L_law_202 : decode b_L_law 202 = .ok (.iload_n 3, 1) := by decide +kernel
theorem d_L_law_203 : decode b_L_law 203 = .ok (.iconst 1, 1) := by decide +kernel
theorem d_L_law_204 : decode b_L_law 204 = .ok (.iadd, 1) := by decide +kernel
theorem d_L_law_205 : decode b_L_law 205 = .ok (.iaload, 1) := by decide +kernel
theorem d_L_law_206 : decode b_L_law 206 = .ok (.invokevirtual 38, 3) := by decide +kernel
theorem d_L_law_209 : decode b_L_law 209 = .ok (.if_icmp .eq 356, 3) := by decide +kernel
theorem d_L_law_212 : decode b_L_law 212 = .ok (.iconst 0, 1) := by decide +kernel
theorem d_L_law_213 : decode b_L_law 213 = .ok (.ireturn, 1) := by decide +kernel
theorem d_L_law_214 : decode b_L_law 214 = .ok (.aload_n 1, 1) := by decide +kernel
theorem d_L_law_215 : decode b_L_law 215 = .ok (.aload_n 0, 1) := by decide +kernel
theorem d_L_law_216 : decode b_L_law 216 = .ok (.iload_n 3, 1) := by decide +kernel
theorem d_L_law_217 : decode b_L_law 217 = .ok (.iconst 1, 1) := by decide +kernel
theorem d_L_law_218 : decode b_L_law 218 = .ok (.iadd, 1) := by decide +kernel
theorem d_L_law_219 : decode b_L_law 219 = .ok (.iaload, 1) := by decide +kernel
theorem d_L_law_220 : decode b_L_law 220 = .ok (.aload_n 0, 1) := by decide +kernel
theorem d_L_law_221 : decode b_L_law 221 = .ok (.iload_n 3, 1) := by decide +kernel
theorem d_L_law_222 : decode b_L_law 222 = .ok (.iconst 2, 1) := by decide +kernel
theorem d_L_law_223 : decode b_L_law 223 = .ok (.iadd, 1) := by decide +kernel
theorem d_L_law_224 : decode b_L_law 224 = .ok (.iaload, 1) := by decide +kernel
theorem d_L_law_225 : decode b_L_law 225 = .ok (.invokevirtual 39, 3) := by decide +kernel
theorem d_L_law_228 : decode b_L_law 228 = .ok (.aload_n 2, 1) := by decide +kernel
theorem d_L_law_229 : decode b_L_law 229 = .ok (.aload_n 0, 1) := by decide +kernel
theorem d_L_law_230 : decode b_L_law 230 = .ok (.iload_n 3, 1) := by decide +kernel
theorem d_L_law_231 : decode b_L_law 231 = .ok (.iconst 1, 1) := by decide +kernel
theorem d_L_law_232 : decode b_L_law 232 = .ok (.iadd, 1) := by decide +kernel
theorem d_L_law_233 : decode b_L_law 233 = .ok (.iaload, 1) := by decide +kernel
theorem d_L_law_234 : decode b_L_law 234 = .ok (.aload_n 0, 1) := by decide +kernel
theorem d_L_law_235 : decode b_L_law 235 = .ok (.iload_n 3, 1) := by decide +kernel
theorem d_L_law_236 : decode b_L_law 236 = .ok (.iconst 2, 1) := by decide +kernel
theorem d_L_law_237 : decode b_L_law 237 = .ok (.iadd, 1) := by decide +kernel
theorem d_L_law_238 : decode b_L_law 238 = .ok (.iaload, 1) := by decide +kernel
theorem d_L_law_239 : decode b_L_law 239 = .ok (.invokevirtual 43, 3) := by decide +kernel
theorem d_L_law_242 : decode b_L_law 242 = .ok (.if_icmp .eq 323, 3) := by decide +kernel
theorem d_L_law_245 : decode b_L_law 245 = .ok (.iconst 0, 1) := by decide +kernel
theorem d_L_law_246 : decode b_L_law 246 = .ok (.ireturn, 1) := by decide +kernel
theorem d_L_law_247 : decode b_L_law 247 = .ok (.aload_n 1, 1) := by decide +kernel
theorem d_L_law_248 : decode b_L_law 248 = .ok (.aload_n 0, 1) := by decide +kernel
theorem d_L_law_249 : decode b_L_law 249 = .ok (.iload_n 3, 1) := by decide +kernel
theorem d_L_law_250 : decode b_L_law 250 = .ok (.iconst 1, 1) := by decide +kernel
theorem d_L_law_251 : decode b_L_law 251 = .ok (.iadd, 1) := by decide +kernel
theorem d_L_law_252 : decode b_L_law 252 = .ok (.iaload, 1) := by decide +kernel
theorem d_L_law_253 : decode b_L_law 253 = .ok (.aload_n 0, 1) := by decide +kernel
theorem d_L_law_254 : decode b_L_law 254 = .ok (.iload_n 3, 1) := by decide +kernel
theorem d_L_law_255 : decode b_L_law 255 = .ok (.iconst 2, 1) := by decide +kernel
theorem d_L_law_256 : decode b_L_law 256 = .ok (.iadd, 1) := by decide +kernel
theorem d_L_law_257 : decode b_L_law 257 = .ok (.iaload, 1) := by decide +kernel
theorem d_L_law_258 : decode b_L_law 258 = .ok (.invokevirtual 44, 3) := by decide +kernel
theorem d_L_law_261 : decode b_L_law 261 = .ok (.aload_n 2, 1) := by decide +kernel
theorem d_L_law_262 : decode b_L_law 262 = .ok (.aload_n 0, 1) := by decide +kernel
theorem d_L_law_263 : decode b_L_law 263 = .ok (.iload_n 3, 1) := by decide +kernel
theorem d_L_law_264 : decode b_L_law 264 = .ok (.iconst 1, 1) := by decide +kernel
theorem d_L_law_265 : decode b_L_law 265 = .ok (.iadd, 1) := by decide +kernel
theorem d_L_law_266 : decode b_L_law 266 = .ok (.iaload, 1) := by decide +kernel
theorem d_L_law_267 : decode b_L_law 267 = .ok (.aload_n 0, 1) := by decide +kernel
theorem d_L_law_268 : decode b_L_law 268 = .ok (.iload_n 3, 1) := by decide +kernel
theorem d_L_law_269 : decode b_L_law 269 = .ok (.iconst 2, 1) := by decide +kernel
theorem d_L_law_270 : decode b_L_law 270 = .ok (.iadd, 1) := by decide +kernel
theorem d_L_law_271 : decode b_L_law 271 = .ok (.iaload, 1) := by decide +kernel
theorem d_L_law_272 : decode b_L_law 272 = .ok (.invokevirtual 47, 3) := by decide +kernel
theorem d_L_law_275 : decode b_L_law 275 = .ok (.if_icmp .eq 290, 3) := by decide +kernel
theorem d_L_law_278 : decode b_L_law 278 = .ok (.iconst 0, 1) := by decide +kernel
theorem d_L_law_279 : decode b_L_law 279 = .ok (.ireturn, 1) := by decide +kernel
theorem d_L_law_280 : decode b_L_law 280 = .ok (.aload_n 1, 1) := by decide +kernel
theorem d_L_law_281 : decode b_L_law 281 = .ok (.aload_n 0, 1) := by decide +kernel
theorem d_L_law_282 : decode b_L_law 282 = .ok (.iload_n 3, 1) := by decide +kernel
theorem d_L_law_283 : decode b_L_law 283 = .ok (.iconst 1, 1) := by decide +kernel
theorem d_L_law_284 : decode b_L_law 284 = .ok (.iadd, 1) := by decide +kernel
theorem d_L_law_285 : decode b_L_law 285 = .ok (.iaload, 1) := by decide +kernel
theorem d_L_law_286 : decode b_L_law 286 = .ok (.aload_n 0, 1) := by decide +kernel
theorem d_L_law_287 : decode b_L_law 287 = .ok (.iload_n 3, 1) := by decide +kernel
theorem d_L_law_288 : decode b_L_law 288 = .ok (.iconst 2, 1) := by decide +kernel
theorem d_L_law_289 : decode b_L_law 289 = .ok (.iadd, 1) := by decide +kernel
theorem d_L_law_290 : decode b_L_law 290 = .ok (.iaload, 1) := by decide +kernel
theorem d_L_law_291 : decode b_L_law 291 = .ok (.aload_n 0, 1) := by decide +kernel
theorem d_L_law_292 : decode b_L_law 292 = .ok (.iload_n 3, 1) := by decide +kernel
theorem d_L_law_293 : decode b_L_law 293 = .ok (.iconst 3, 1) := by decide +kernel
theorem d_L_law_294 : decode b_L_law 294 = .ok (.iadd, 1) := by decide +kernel
theorem d_L_law_295 : decode b_L_law 295 = .ok (.iaload, 1) := by decide +kernel
theorem d_L_law_296 : decode b_L_law 296 = .ok (.invokevirtual 48, 3) := by decide +kernel
theorem d_L_law_299 : decode b_L_law 299 = .ok (.aload_n 2, 1) := by decide +kernel
theorem d_L_law_300 : decode b_L_law 300 = .ok (.aload_n 0, 1) := by decide +kernel
theorem d_L_law_301 : decode b_L_law 301 = .ok (.iload_n 3, 1) := by decide +kernel
theorem d_L_law_302 : decode b_L_law 302 = .ok (.iconst 1, 1) := by decide +kernel
theorem d_L_law_303 : decode b_L_law 303 = .ok (.iadd, 1) := by decide +kernel
theorem d_L_law_304 : decode b_L_law 304 = .ok (.iaload, 1) := by decide +kernel
theorem d_L_law_305 : decode b_L_law 305 = .ok (.aload_n 0, 1) := by decide +kernel
theorem d_L_law_306 : decode b_L_law 306 = .ok (.iload_n 3, 1) := by decide +kernel
theorem d_L_law_307 : decode b_L_law 307 = .ok (.iconst 2, 1) := by decide +kernel
theorem d_L_law_308 : decode b_L_law 308 = .ok (.iadd, 1) := by decide +kernel
theorem d_L_law_309 : decode b_L_law 309 = .ok (.iaload, 1) := by decide +kernel
theorem d_L_law_310 : decode b_L_law 310 = .ok (.aload_n 0, 1) := by decide +kernel
theorem d_L_law_311 : decode b_L_law 311 = .ok (.iload_n 3, 1) := by decide +kernel
theorem d_L_law_312 : decode b_L_law 312 = .ok (.iconst 3, 1) := by decide +kernel
theorem d_L_law_313 : decode b_L_law 313 = .ok (.iadd, 1) := by decide +kernel
theorem d_L_law_314 : decode b_L_law 314 = .ok (.iaload, 1) := by decide +kernel
theorem d_L_law_315 : decode b_L_law 315 = .ok (.invokevirtual 52, 3) := by decide +kernel
theorem d_L_law_318 : decode b_L_law 318 = .ok (.if_icmp .eq 247, 3) := by decide +kernel
theorem d_L_law_321 : decode b_L_law 321 = .ok (.iconst 0, 1) := by decide +kernel
theorem d_L_law_322 : decode b_L_law 322 = .ok (.ireturn, 1) := by decide +kernel
theorem d_L_law_323 : decode b_L_law 323 = .ok (.aload_n 1, 1) := by decide +kernel
theorem d_L_law_324 : decode b_L_law 324 = .ok (.aload_n 0, 1) := by decide +kernel
theorem d_L_law_325 : decode b_L_law 325 = .ok (.iload_n 3, 1) := by decide +kernel
theorem d_L_law_326 : decode b_L_law 326 = .ok (.iconst 1, 1) := by decide +kernel
theorem d_L_law_327 : decode b_L_law 327 = .ok (.iadd, 1) := by decide +kernel
theorem d_L_law_328 : decode b_L_law 328 = .ok (.iaload, 1) := by decide +kernel
theorem d_L_law_329 : decode b_L_law 329 = .ok (.aload_n 0, 1) := by decide +kernel
theorem d_L_law_330 : decode b_L_law 330 = .ok (.iload_n 3, 1) := by decide +kernel
theorem d_L_law_331 : decode b_L_law 331 = .ok (.iconst 2, 1) := by decide +kernel
theorem d_L_law_332 : decode b_L_law 332 = .ok (.iadd, 1) := by decide +kernel
theorem d_L_law_333 : decode b_L_law 333 = .ok (.iaload, 1) := by decide +kernel
theorem d_L_law_334 : decode b_L_law 334 = .ok (.aload_n 0, 1) := by decide +kernel
theorem d_L_law_335 : decode b_L_law 335 = .ok (.iload_n 3, 1) := by decide +kernel
theorem d_L_law_336 : decode b_L_law 336 = .ok (.iconst 3, 1) := by decide +kernel
theorem d_L_law_337 : decode b_L_law 337 = .ok (.iadd, 1) := by decide +kernel
theorem d_L_law_338 : decode b_L_law 338 = .ok (.iaload, 1) := by decide +kernel
theorem d_L_law_339 : decode b_L_law 339 = .ok (.aload_n 0, 1) := by decide +kernel
theorem d_L_law_340 : decode b_L_law 340 = .ok (.iload_n 3, 1) := by decide +kernel
theorem d_L_law_341 : decode b_L_law 341 = .ok (.iconst 4, 1) := by decide +kernel
theorem d_L_law_342 : decode b_L_law 342 = .ok (.iadd, 1) := by decide +kernel
theorem d_L_law_343 : decode b_L_law 343 = .ok (.iaload, 1) := by decide +kernel
theorem d_L_law_344 : decode b_L_law 344 = .ok (.invokevirtual 53, 3) := by decide +kernel
theorem d_L_law_347 : decode b_L_law 347 = .ok (.aload_n 2, 1) := by decide +kernel
theorem d_L_law_348 : decode b_L_law 348 = .ok (.aload_n 0, 1) := by decide +kernel
theorem d_L_law_349 : decode b_L_law 349 = .ok (.iload_n 3, 1) := by decide +kernel
theorem d_L_law_350 : decode b_L_law 350 = .ok (.iconst 1, 1) := by decide +kernel
theorem d_L_law_351 : decode b_L_law 351 = .ok (.iadd, 1) := by decide +kernel
theorem d_L_law_352 : decode b_L_law 352 = .ok (.iaload, 1) := by decide +kernel
theorem d_L_law_353 : decode b_L_law 353 = .ok (.aload_n 0, 1) := by decide +kernel
theorem d_L_law_354 : decode b_L_law 354 = .ok (.iload_n 3, 1) := by decide +kernel
theorem d_L_law_355 : decode b_L_law 355 = .ok (.iconst 2, 1) := by decide +kernel
theorem d_L_law_356 : decode b_L_law 356 = .ok (.iadd, 1) := by decide +kernel
theorem d_L_law_357 : decode b_L_law 357 = .ok (.iaload, 1) := by decide +kernel
theorem d_L_law_358 : decode b_L_law 358 = .ok (.aload_n 0, 1) := by decide +kernel
theorem d_L_law_359 : decode b_L_law 359 = .ok (.iload_n 3, 1) := by decide +kernel
theorem d_L_law_360 : decode b_L_law 360 = .ok (.iconst 3, 1) := by decide +kernel
theorem d_L_law_361 : decode b_L_law 361 = .ok (.iadd, 1) := by decide +kernel
theorem d_L_law_362 : decode b_L_law 362 = .ok (.iaload, 1) := by decide +kernel
theorem d_L_law_363 : decode b_L_law 363 = .ok (.aload_n 0, 1) := by decide +kernel
theorem d_L_law_364 : decode b_L_law 364 = .ok (.iload_n 3, 1) := by decide +kernel
theorem d_L_law_365 : decode b_L_law 365 = .ok (.iconst 4, 1) := by decide +kernel
theorem d_L_law_366 : decode b_L_law 366 = .ok (.iadd, 1) := by decide +kernel
theorem d_L_law_367 : decode b_L_law 367 = .ok (.iaload, 1) := by decide +kernel
theorem d_L_law_368 : decode b_L_law 368 = .ok (.invokevirtual 57, 3) := by decide +kernel
theorem d_L_law_371 : decode b_L_law 371 = .ok (.if_icmp .eq 194, 3) := by decide +kernel
theorem d_L_law_374 : decode b_L_law 374 = .ok (.iconst 0, 1) := by decide +kernel
theorem d_L_law_375 : decode b_L_law 375 = .ok (.ireturn, 1) := by decide +kernel
theorem d_L_law_376 : decode b_L_law 376 = .ok (.aload_n 1, 1) := by decide +kernel
theorem d_L_law_377 : decode b_L_law 377 = .ok (.aload_n 0, 1) := by decide +kernel
theorem d_L_law_378 : decode b_L_law 378 = .ok (.iload_n 3, 1) := by decide +kernel
theorem d_L_law_379 : decode b_L_law 379 = .ok (.iconst 1, 1) := by decide +kernel
theorem d_L_law_380 : decode b_L_law 380 = .ok (.iadd, 1) := by decide +kernel
theorem d_L_law_381 : decode b_L_law 381 = .ok (.iaload, 1) := by decide +kernel
theorem d_L_law_382 : decode b_L_law 382 = .ok (.aload_n 0, 1) := by decide +kernel
theorem d_L_law_383 : decode b_L_law 383 = .ok (.iload_n 3, 1) := by decide +kernel
theorem d_L_law_384 : decode b_L_law 384 = .ok (.iconst 2, 1) := by decide +kernel
theorem d_L_law_385 : decode b_L_law 385 = .ok (.iadd, 1) := by decide +kernel
theorem d_L_law_386 : decode b_L_law 386 = .ok (.iaload, 1) := by decide +kernel
theorem d_L_law_387 : decode b_L_law 387 = .ok (.invokevirtual 58, 3) := by decide +kernel
theorem d_L_law_390 : decode b_L_law 390 = .ok (.aload_n 2, 1) := by decide +kernel
theorem d_L_law_391 : decode b_L_law 391 = .ok (.aload_n 0, 1) := by decide +kernel
theorem d_L_law_392 : decode b_L_law 392 = .ok (.iload_n 3, 1) := by decide +kernel
theorem d_L_law_393 : decode b_L_law 393 = .ok (.iconst 1, 1) := by decide +kernel
theorem d_L_law_394 : decode b_L_law 394 = .ok (.iadd, 1) := by decide +kernel
theorem d_L_law_395 : decode b_L_law 395 = .ok (.iaload, 1) := by decide +kernel
theorem d_L_law_396 : decode b_L_law 396 = .ok (.aload_n 0, 1) := by decide +kernel
theorem d_L_law_397 : decode b_L_law 397 = .ok (.iload_n 3, 1) := by decide +kernel
theorem d_L_law_398 : decode b_L_law 398 = .ok (.iconst 2, 1) := by decide +kernel
theorem d_L_law_399 : decode b_L_law 399 = .ok (.iadd, 1) := by decide +kernel
theorem d_L_law_400 : decode b_L_law 400 = .ok (.iaload, 1) := by decide +kernel
theorem d_L_law_401 : decode b_L_law 401 = .ok (.invokevirtual 61, 3) := by decide +kernel
theorem d_L_law_404 : decode b_L_law 404 = .ok (.if_icmp .eq 161, 3) := by decide +kernel
theorem d_L_law_407 : decode b_L_law 407 = .ok (.iconst 0, 1) := by decide +kernel
theorem d_L_law_408 : decode b_L_law 408 = .ok (.ireturn, 1) := by decide +kernel
theorem d_L_law_409 : decode b_L_law 409 = .ok (.aload_n 1, 1) := by decide +kernel
theorem d_L_law_410 : decode b_L_law 410 = .ok (.aload_n 0, 1) := by decide +kernel
theorem d_L_law_411 : decode b_L_law 411 = .ok (.iload_n 3, 1) := by decide +kernel
theorem d_L_law_412 : decode b_L_law 412 = .ok (.iconst 1, 1) := by decide +kernel
theorem d_L_law_413 : decode b_L_law 413 = .ok (.iadd, 1) := by decide +kernel
theorem d_L_law_414 : decode b_L_law 414 = .ok (.iaload, 1) := by decide +kernel
theorem d_L_law_415 : decode b_L_law 415 = .ok (.aload_n 0, 1) := by decide +kernel
theorem d_L_law_416 : decode b_L_law 416 = .ok (.iload_n 3, 1) := by decide +kernel
theorem d_L_law_417 : decode b_L_law 417 = .ok (.iconst 2, 1) := by decide +kernel
theorem d_L_law_418 : decode b_L_law 418 = .ok (.iadd, 1) := by decide +kernel
theorem d_L_law_419 : decode b_L_law 419 = .ok (.iaload, 1) := by decide +kernel
theorem d_L_law_420 : decode b_L_law 420 = .ok (.invokevirtual 62, 3) := by decide +kernel
theorem d_L_law_423 : decode b_L_law 423 = .ok (.aload_n 2, 1) := by decide +kernel
theorem d_L_law_424 : decode b_L_law 424 = .ok (.aload_n 0, 1) := by decide +kernel
theorem d_L_law_425 : decode b_L_law 425 = .ok (.iload_n 3, 1) := by decide +kernel
theorem d_L_law_426 : decode b_L_law 426 = .ok (.iconst 1, 1) := by decide +kernel
theorem d_L_law_427 : decode b_L_law 427 = .ok (.iadd, 1) := by decide +kernel
theorem d_L_law_428 : decode b_L_law 428 = .ok (.iaload, 1) := by decide +kernel
theorem d_L_law_429 : decode b_L_law 429 = .ok (.aload_n 0, 1) := by decide +kernel
theorem d_L_law_430 : decode b_L_law 430 = .ok (.iload_n 3, 1) := by decide +kernel
theorem d_L_law_431 : decode b_L_law 431 = .ok (.iconst 2, 1) := by decide +kernel
theorem d_L_law_432 : decode b_L_law 432 = .ok (.iadd, 1) := by decide +kernel
theorem d_L_law_433 : decode b_L_law 433 = .ok (.iaload, 1) := by decide +kernel
theorem d_L_law_434 : decode b_L_law 434 = .ok (.invokevirtual 65, 3) := by decide +kernel
theorem d_L_law_437 : decode b_L_law 437 = .ok (.if_icmp .eq 128, 3) := by decide +kernel
theorem d_L_law_440 : decode b_L_law 440 = .ok (.iconst 0, 1) := by decide +kernel
theorem d_L_law_441 : decode b_L_law 441 = .ok (.ireturn, 1) := by decide +kernel
theorem d_L_law_442 : decode b_L_law 442 = .ok (.aload_n 1, 1) := by decide +kernel
theorem d_L_law_443 : decode b_L_law 443 = .ok (.aload_n 0, 1) := by decide +kernel
theorem d_L_law_444 : decode b_L_law 444 = .ok (.iload_n 3, 1) := by decide +kernel
theorem d_L_law_445 : decode b_L_law 445 = .ok (.iconst 1, 1) := by decide +kernel
theorem d_L_law_446 : decode b_L_law 446 = .ok (.iadd, 1) := by decide +kernel
theorem d_L_law_447 : decode b_L_law 447 = .ok (.iaload, 1) := by decide +kernel
theorem d_L_law_448 : decode b_L_law 448 = .ok (.aload_n 0, 1) := by decide +kernel
theorem d_L_law_449 : decode b_L_law 449 = .ok (.iload_n 3, 1) := by decide +kernel
theorem d_L_law_450 : decode b_L_law 450 = .ok (.iconst 2, 1) := by decide +kernel
theorem d_L_law_451 : decode b_L_law 451 = .ok (.iadd, 1) := by decide +kernel
theorem d_L_law_452 : decode b_L_law 452 = .ok (.iaload, 1) := by decide +kernel
theorem d_L_law_453 : decode b_L_law 453 = .ok (.aload_n 0, 1) := by decide +kernel
theorem d_L_law_454 : decode b_L_law 454 = .ok (.iload_n 3, 1) := by decide +kernel
theorem d_L_law_455 : decode b_L_law 455 = .ok (.iconst 3, 1) := by decide +kernel
theorem d_L_law_456 : decode b_L_law 456 = .ok (.iadd, 1) := by decide +kernel
theorem d_L_law_457 : decode b_L_law 457 = .ok (.iaload, 1) := by decide +kernel
theorem d_L_law_458 : decode b_L_law 458 = .ok (.aload_n 0, 1) := by decide +kernel
theorem d_L_law_459 : decode b_L_law 459 = .ok (.iload_n 3, 1) := by decide +kernel
theorem d_L_law_460 : decode b_L_law 460 = .ok (.iconst 4, 1) := by decide +kernel
theorem d_L_law_461 : decode b_L_law 461 = .ok (.iadd, 1) := by decide +kernel
theorem d_L_law_462 : decode b_L_law 462 = .ok (.iaload, 1) := by decide +kernel
theorem d_L_law_463 : decode b_L_law 463 = .ok (.invokevirtual 66, 3) := by decide +kernel
theorem d_L_law_466 : decode b_L_law 466 = .ok (.aload_n 2, 1) := by decide +kernel
theorem d_L_law_467 : decode b_L_law 467 = .ok (.aload_n 0, 1) := by decide +kernel
theorem d_L_law_468 : decode b_L_law 468 = .ok (.iload_n 3, 1) := by decide +kernel
theorem d_L_law_469 : decode b_L_law 469 = .ok (.iconst 1, 1) := by decide +kernel
theorem d_L_law_470 : decode b_L_law 470 = .ok (.iadd, 1) := by decide +kernel
theorem d_L_law_471 : decode b_L_law 471 = .ok (.iaload, 1) := by decide +kernel
theorem d_L_law_472 : decode b_L_law 472 = .ok (.aload_n 0, 1) := by decide +kernel
theorem d_L_law_473 : decode b_L_law 473 = .ok (.iload_n 3, 1) := by decide +kernel
theorem d_L_law_474 : decode b_L_law 474 = .ok (.iconst 2, 1) := by decide +kernel
theorem d_L_law_475 : decode b_L_law 475 = .ok (.iadd, 1) := by decide +kernel
theorem d_L_law_476 : decode b_L_law 476 = .ok (.iaload, 1) := by decide +kernel
theorem d_L_law_477 : decode b_L_law 477 = .ok (.aload_n 0, 1) := by decide +kernel
theorem d_L_law_478 : decode b_L_law 478 = .ok (.iload_n 3, 1) := by decide +kernel
theorem d_L_law_479 : decode b_L_law 479 = .ok (.iconst 3, 1) := by decide +kernel
theorem d_L_law_480 : decode b_L_law 480 = .ok (.iadd, 1) := by decide +kernel
theorem d_L_law_481 : decode b_L_law 481 = .ok (.iaload, 1) := by decide +kernel
theorem d_L_law_482 : decode b_L_law 482 = .ok (.aload_n 0, 1) := by decide +kernel
theorem d_L_law_483 : decode b_L_law 483 = .ok (.iload_n 3, 1) := by decide +kernel
theorem d_L_law_484 : decode b_L_law 484 = .ok (.iconst 4, 1) := by decide +kernel
theorem d_L_law_485 : decode b_L_law 485 = .ok (.iadd, 1) := by decide +kernel
theorem d_L_law_486 : decode b_L_law 486 = .ok (.iaload, 1) := by decide +kernel
theorem d_L_law_487 : decode b_L_law 487 = .ok (.invokevirtual 69, 3) := by decide +kernel
theorem d_L_law_490 : decode b_L_law 490 = .ok (.if_icmp .eq 75, 3) := by decide +kernel
theorem d_L_law_493 : decode b_L_law 493 = .ok (.iconst 0, 1) := by decide +kernel
theorem d_L_law_494 : decode b_L_law 494 = .ok (.ireturn, 1) := by decide +kernel
theorem d_L_law_495 : decode b_L_law 495 = .ok (.aload_n 1, 1) := by decide +kernel
theorem d_L_law_496 : decode b_L_law 496 = .ok (.aload_n 0, 1) := by decide +kernel
theorem d_L_law_497 : decode b_L_law 497 = .ok (.iload_n 3, 1) := by decide +kernel
theorem d_L_law_498 : decode b_L_law 498 = .ok (.iconst 1, 1) := by decide +kernel
theorem d_L_law_499 : decode b_L_law 499 = .ok (.iadd, 1) := by decide +kernel
theorem d_L_law_500 : decode b_L_law 500 = .ok (.iaload, 1) := by decide +kernel
theorem d_L_law_501 : decode b_L_law 501 = .ok (.aload_n 0, 1) := by decide +kernel
theorem d_L_law_502 : decode b_L_law 502 = .ok (.iload_n 3, 1) := by decide +kernel
theorem d_L_law_503 : decode b_L_law 503 = .ok (.iconst 2, 1) := by decide +kernel
theorem d_L_law_504 : decode b_L_law 504 = .ok (.iadd, 1) := by decide +kernel
theorem d_L_law_505 : decode b_L_law 505 = .ok (.iaload, 1) := by decide +kernel
theorem d_L_law_506 : decode b_L_law 506 = .ok (.aload_n 0, 1) := by decide +kernel
theorem d_L_law_507 : decode b_L_law 507 = .ok (.iload_n 3, 1) := by decide +kernel
theorem d_L_law_508 : decode b_L_law 508 = .ok (.iconst 3, 1) := by decide +kernel
theorem d_L_law_509 : decode b_L_law 509 = .ok (.iadd, 1) := by decide +kernel
theorem d_L_law_510 : decode b_L_law 510 = .ok (.iaload, 1) := by decide +kernel
theorem d_L_law_511 : decode b_L_law 511 = .ok (.invokevirtual 70, 3) := by decide +kernel
theorem d_L_law_514 : decode b_L_law 514 = .ok (.aload_n 2, 1) := by decide +kernel
theorem d_L_law_515 : decode b_L_law 515 = .ok (.aload_n 0, 1) := by decide +kernel
theorem d_L_law_516 : decode b_L_law 516 = .ok (.iload_n 3, 1) := by decide +kernel
theorem d_L_law_517 : decode b_L_law 517 = .ok (.iconst 1, 1) := by decide +kernel
theorem d_L_law_518 : decode b_L_law 518 = .ok (.iadd, 1) := by decide +kernel
theorem d_L_law_519 : decode b_L_law 519 = .ok (.iaload, 1) := by decide +kernel
theorem d_L_law_520 : decode b_L_law 520 = .ok (.aload_n 0, 1) := by decide +kernel
theorem d_L_law_521 : decode b_L_law 521 = .ok (.iload_n 3, 1) := by decide +kernel
theorem d_L_law_522 : decode b_L_law 522 = .ok (.iconst 2, 1) := by decide +kernel
theorem d_L_law_523 : decode b_L_law 523 = .ok (.iadd, 1) := by decide +kernel
theorem d_L_law_524 : decode b_L_law 524 = .ok (.iaload, 1) := by decide +kernel
theorem d_L_law_525 : decode b_L_law 525 = .ok (.aload_n 0, 1) := by decide +kernel
theorem d_L_law_526 : decode b_L_law 526 = .ok (.iload_n 3, 1) := by decide +kernel
theorem d_L_law_527 : decode b_L_law 527 = .ok (.iconst 3, 1) := by decide +kernel
theorem d_L_law_528 : decode b_L_law 528 = .ok (.iadd, 1) := by decide +kernel
theorem d_L_law_529 : decode b_L_law 529 = .ok (.iaload, 1) := by decide +kernel
theorem d_L_law_530 : decode b_L_law 530 = .ok (.invokevirtual 73, 3) := by decide +kernel
theorem d_L_law_533 : decode b_L_law 533 = .ok (.if_icmp .eq 32, 3) := by decide +kernel
theorem d_L_law_536 : decode b_L_law 536 = .ok (.iconst 0, 1) := by decide +kernel
theorem d_L_law_537 : decode b_L_law 537 = .ok (.ireturn, 1) := by decide +kernel
theorem d_L_law_538 : decode b_L_law 538 = .ok (.aload_n 1, 1) := by decide +kernel
theorem d_L_law_539 : decode b_L_law 539 = .ok (.invokevirtual 74, 3) := by decide +kernel
theorem d_L_law_542 : decode b_L_law 542 = .ok (.aload_n 2, 1) := by decide +kernel
theorem d_L_law_543 : decode b_L_law 543 = .ok (.invokevirtual 78, 3) := by decide +kernel
theorem d_L_law_546 : decode b_L_law 546 = .ok (.lcmp, 1) := by decide +kernel
theorem d_L_law_547 : decode b_L_law 547 = .ok (.ifCond .eq 18, 3) := by decide +kernel
theorem d_L_law_550 : decode b_L_law 550 = .ok (.iconst 0, 1) := by decide +kernel
theorem d_L_law_551 : decode b_L_law 551 = .ok (.ireturn, 1) := by decide +kernel
theorem d_L_law_552 : decode b_L_law 552 = .ok (.aload_n 1, 1) := by decide +kernel
theorem d_L_law_553 : decode b_L_law 553 = .ok (.invokevirtual 79, 3) := by decide +kernel
theorem d_L_law_556 : decode b_L_law 556 = .ok (.aload_n 2, 1) := by decide +kernel
theorem d_L_law_557 : decode b_L_law 557 = .ok (.invokevirtual 83, 3) := by decide +kernel
theorem d_L_law_560 : decode b_L_law 560 = .ok (.if_icmp .eq 5, 3) := by decide +kernel
theorem d_L_law_563 : decode b_L_law 563 = .ok (.iconst 0, 1) := by decide +kernel
theorem d_L_law_564 : decode b_L_law 564 = .ok (.ireturn, 1) := by decide +kernel
theorem d_L_law_565 : decode b_L_law 565 = .ok (.iinc 3 5, 3) := by decide +kernel
theorem d_L_law_568 : decode b_L_law 568 = .ok (.goto (-540), 3) := by decide +kernel
theorem d_L_law_571 : decode b_L_law 571 = .ok (.iconst 1, 1) := by decide +kernel
theorem d_L_law_572 : decode b_L_law 572 = .ok (.ireturn, 1) := by decide +kernel
end
section
/-! THE LAYER: one judgement ze_V over a world of numbered cells. Cell k lies at address ad k and holds E k; a store changes E at one number. The static facts of a method are ze_C, its end is ze_Rt, a contract is ze_M. -/
def ze_w (n : Nat) (ad : Nat → Nat) (E : Nat → va_E) : va_W := (List.range n).map (fun k => (ad k, E k))
theorem ze_w_get {n : Nat} {ad : Nat → Nat} {E : Nat → va_E} {k : Nat} (h : k < n) : (ze_w n ad E)[k]? = some (ad k, E k) := by
  simp [ze_w, h]
theorem ze_w_eq {n : Nat} {ad : Nat → Nat} {E : Nat → va_E} {k : Nat} {e : va_E} (h : k < n) (he : E k = e) : (ze_w n ad E)[k]? = some (ad k, e) := by
  rw [ze_w_get h, he]
theorem ze_w_inv {n : Nat} {ad : Nat → Nat} {E : Nat → va_E} {k : Nat} {q : Nat × va_E} (h : (ze_w n ad E)[k]? = some q) : k < n ∧ q = (ad k, E k) := by
  by_cases hk : k < n
  · rw [ze_w_get hk] at h
    exact ⟨hk, (Option.some.inj h).symm⟩
  · simp [ze_w, hk] at h
theorem ze_w_set {n : Nat} {ad : Nat → Nat} {E : Nat → va_E} {k : Nat} {e : va_E} (h : k < n) : (ze_w n ad E).set k (ad k, e) = ze_w n ad (va_up E k e) := by
  apply List.ext_getElem?
  intro j
  by_cases hj : j = k
  · subst hj
    rw [List.getElem?_set_self (by simp [ze_w, h]), ze_w_get h, va_up_self]
  · rw [List.getElem?_set_ne (Ne.symm hj)]
    by_cases hn : j < n
    · rw [ze_w_get hn, ze_w_get hn, va_up_ne _ _ hj]
    · simp [ze_w, hn]
theorem ze_w_push {n : Nat} {ad : Nat → Nat} {E : Nat → va_E} {q : Nat} {e : va_E} : ze_w n ad E ++ [(q, e)] = ze_w (n + 1) (va_up ad n q) (va_up E n e) := by
  unfold ze_w
  rw [List.range_succ, List.map_append]
  congr 1
  · apply List.map_congr_left
    intro k hk
    have hk := List.mem_range.mp hk
    rw [va_up_ne _ _ (by omega), va_up_ne _ _ (by omega)]
  · simp [va_up]
/-- the world's cells, and those that come from sz on -/
def ze_Af (n : Nat) (ad : Nat → Nat) (sz : Nat) : Nat → Prop := fun q => (∃ k, k < n ∧ q = ad k) ∨ sz ≤ q
abbrev ze_ty (ids : Nat → ClassId) : List (ClassId × FieldType) := [(ids 0, .int), (ids 1, .boolean), (ids 2, .object ze_RT)]
abbrev ze_G : Type := Program × Launch × Env × Room × State × MethodId × Array Value × List Frame × Method × Code × (State → Prop) × Nat × va_G × (Nat → ClassId) × (Nat → Prop)
abbrev ze_p (G : ze_G) : Program := G.1
abbrev ze_l (G : ze_G) : Launch := G.2.1
abbrev ze_e (G : ze_G) : Env := G.2.2.1
abbrev ze_R (G : ze_G) : Room := G.2.2.2.1
abbrev ze_s (G : ze_G) : State := G.2.2.2.2.1
abbrev ze_m (G : ze_G) : MethodId := G.2.2.2.2.2.1
abbrev ze_a (G : ze_G) : Array Value := G.2.2.2.2.2.2.1
abbrev ze_b (G : ze_G) : List Frame := G.2.2.2.2.2.2.2.1
abbrev ze_me (G : ze_G) : Method := G.2.2.2.2.2.2.2.2.1
abbrev ze_c (G : ze_G) : Code := G.2.2.2.2.2.2.2.2.2.1
abbrev ze_Q (G : ze_G) : State → Prop := G.2.2.2.2.2.2.2.2.2.2.1
abbrev ze_nL (G : ze_G) : Nat := G.2.2.2.2.2.2.2.2.2.2.2.1
abbrev ze_D (G : ze_G) : va_G := G.2.2.2.2.2.2.2.2.2.2.2.2.1
abbrev ze_i (G : ze_G) : Nat → ClassId := G.2.2.2.2.2.2.2.2.2.2.2.2.2.1
abbrev ze_A (G : ze_G) : Nat → Prop := G.2.2.2.2.2.2.2.2.2.2.2.2.2.2
/-- the machine at pc with the listed locals, the stack st and the world (n, ad, E) comes to the method's end -/
def ze_V (G : ze_G) (n : Nat) (ad : Nat → Nat) (E : Nat → va_E) (cells slots pc : Nat) (lv : List (Nat × Value)) (st : List Value) : Prop :=
  ∀ (H : Heap) (locs : List Loc) (ls : Array Slot), va_P (ze_D G) vwCl (ze_w n ad E) H → va_D (ze_A G) (ze_w n ad E) → va_S (ze_A G) (ze_s G).heap H locs → lv_has ls (ze_nL G) lv →
    W (ze_p G) (ze_l G) (ze_e G) (ze_R G) (ze_s G) (ze_m G) (ze_a G) (ze_b G) (ze_me G) (ze_c G) H locs cells slots (ze_Q G) (F0 (ze_m G) pc ls st)
/-- a method's static facts: code, words, class, room -/
def ze_C (G : ze_G) (cc : ByteArray) (Ts : List Cond) (own : String) (rm : Room) (nL : Nat) : Prop :=
  (ze_p G).tables.exec = Jvm.exec ∧ (ze_c G).code = cc ∧ (ze_c G).maxLocals = ze_nL G ∧ (ze_s G).vm.findClass own = some (ze_m G).cls ∧ (∀ w ∈ Ts, w.before (ze_a G) (ze_s G) = true) ∧ va_K (ze_D G) vwCl (ze_ty (ze_i G)) (ze_s G) ∧ (∀ q, (ze_s G).heap.size ≤ q → ze_A G q) ∧ (ze_me G).locks = false ∧ ze_R G = rm ∧ ze_nL G = nL ∧ ze_N (ze_s G)
section ZEC
variable {G : ze_G} {cc : ByteArray} {Ts : List Cond} {own : String} {rm : Room} {nL : Nat}
theorem ze_C.x (C : ze_C G cc Ts own rm nL) : (ze_p G).tables.exec = Jvm.exec := C.1
theorem ze_C.b (C : ze_C G cc Ts own rm nL) : (ze_c G).code = cc := C.2.1
theorem ze_C.ml (C : ze_C G cc Ts own rm nL) : (ze_c G).maxLocals = ze_nL G := C.2.2.1
theorem ze_C.ow (C : ze_C G cc Ts own rm nL) : (ze_s G).vm.findClass own = some (ze_m G).cls := C.2.2.2.1
theorem ze_C.ts (C : ze_C G cc Ts own rm nL) : ∀ w ∈ Ts, w.before (ze_a G) (ze_s G) = true := C.2.2.2.2.1
theorem ze_C.K (C : ze_C G cc Ts own rm nL) : va_K (ze_D G) vwCl (ze_ty (ze_i G)) (ze_s G) := C.2.2.2.2.2.1
theorem ze_C.A (C : ze_C G cc Ts own rm nL) : ∀ q, (ze_s G).heap.size ≤ q → ze_A G q := C.2.2.2.2.2.2.1
theorem ze_C.lk (C : ze_C G cc Ts own rm nL) : (ze_me G).locks = false := C.2.2.2.2.2.2.2.1
theorem ze_C.R (C : ze_C G cc Ts own rm nL) : ze_R G = rm := C.2.2.2.2.2.2.2.2.1
theorem ze_C.nl (C : ze_C G cc Ts own rm nL) : ze_nL G = nL := C.2.2.2.2.2.2.2.2.2.1
theorem ze_C.N (C : ze_C G cc Ts own rm nL) : ze_N (ze_s G) := C.2.2.2.2.2.2.2.2.2.2
end ZEC
abbrev ze_Po : Type := Option Value → Nat → (Nat → Nat) → (Nat → va_E) → Prop
/-- a method's end: answer and new world satisfy post; outside of A nothing has changed -/
def ze_Qc (D : va_G) (ids : Nat → ClassId) (A : Nat → Prop) (post : ze_Po) : Array Value → State → Outcome → State → Prop := fun _ st oc t =>
  (∃ (v : Option Value) (n : Nat) (ad : Nat → Nat) (E : Nat → va_E), oc = .returned v ∧ post v n ad E ∧ va_P D vwCl (ze_w n ad E) t.heap ∧ va_K D vwCl (ze_ty ids) t ∧ va_D A (ze_w n ad E)) ∧ va_F A st t
def ze_Rt (G : ze_G) (ret : Option FieldType) (mc ms : Nat) (post : ze_Po) : Prop :=
  (ze_me G).sig.returnType = ret ∧ ze_Q G = MQ (ze_b G) (ze_Qc (ze_D G) (ze_i G) (ze_A G) post) (ze_a G) (ze_s G) mc ms (ze_A G)
/-- the contract of y at the world (n, ad, E) and the arguments av -/
def ze_M (l : Launch) (D : va_G) (ids : Nat → ClassId) (y : MethodName) (ws : List Cond) (rm : Room) (mc ms : Nat) (n : Nat) (ad : Nat → Nat) (E : Nat → va_E) (av : List Value) (post : ze_Po) : Prop :=
  ∀ sz : Nat, Met l y ws rm (va_Pc av (fun U => U.heap.size = sz ∧ va_P D vwCl (ze_w n ad E) U.heap ∧ va_K D vwCl (ze_ty ids) U ∧ va_D (fun _ => True) (ze_w n ad E) ∧ ze_N U)) (ze_Qc D ids (ze_Af n ad sz) post) mc ms (ze_Af n ad sz)
theorem ze_enter {l : Launch} {D : va_G} {ids : Nat → ClassId} {y : MethodName} {ws ws' : List Cond} {rm : Room} {mc ms n : Nat} {ad : Nat → Nat} {E : Nat → va_E} {av : List Value} {post : ze_Po} {cc : ByteArray} {maxL : Nat} {ret : Option FieldType}
    (hy : plainFor y = true) (hw : ws = Cond.code y cc maxL ret :: ws') (hlen : (lg_sl av).length ≤ maxL)
    (body : ∀ G : ze_G, ze_l G = l → ze_D G = D → ze_i G = ids → (ze_me G).name = y.name → ze_C G cc ws y.cls rm maxL → ze_Rt G ret mc ms post → ze_V G n ad E 0 0 0 (lv_args 0 av) []) : ze_M l D ids y ws rm mc ms n ad E av post := by
  intro sz
  refine va_MetF (cc := cc) (maxL := maxL) (ret := ret) hy hw ?_
  intro p e s m args below meth c s₁ B hml hv
  obtain ⟨rfl, hsz, hP, hK, hD0, hN⟩ := hv
  subst hsz
  have hl := lv_entry av (n := maxL) hlen
  rw [lg_entry_eq]
  have hD : va_D (ze_Af n ad s.heap.size) (ze_w n ad E) := ⟨hD0.1, fun k q hk => by
    obtain ⟨h1, h2⟩ := ze_w_inv hk
    exact Or.inl ⟨k, h1, by rw [h2]⟩⟩
  exact body (p, l, e, (headSpec ws rm).room, s, m, av.toArray, below, meth, c, MQ below (ze_Qc D ids (ze_Af n ad s.heap.size) post) av.toArray s mc ms (ze_Af n ad s.heap.size), maxL, D, ids, ze_Af n ad s.heap.size) rfl rfl rfl (name_of_methodNamed B.named B.method).1
    ⟨B.exec, B.bytes, hml, findClass_of_methodNamed B.named, atoms_spec (ws := ws) B.pre, hK, fun q h => Or.inr h, B.notSynchronized, rfl, rfl, hN⟩ ⟨B.returns, rfl⟩ s.heap [] _ hP hD va_S.rf hl
section ZER
variable {G : ze_G} {cc : ByteArray} {Ts : List Cond} {own : String} {rm : Room} {nL : Nat} {n : Nat} {ad : Nat → Nat} {E : Nat → va_E} {cells slots pc : Nat} {lv : List (Nat × Value)} {st : List Value} {mc ms : Nat} {post : ze_Po}
theorem ze_sub (lv' : List (Nat × Value)) (ks : List Nat) (h : lv_pick lv ks = lv') (k : ze_V G n ad E cells slots pc lv' st) : ze_V G n ad E cells slots pc lv st := fun H locs ls hP hD hS hl => k H locs ls hP hD hS (lv_sub hl ks h)
theorem ze_lv {lv' : List (Nat × Value)} (h : lv = lv') (k : ze_V G n ad E cells slots pc lv' st) : ze_V G n ad E cells slots pc lv st := h ▸ k
theorem ze_eqE {E' : Nat → va_E} (h : E = E') (k : ze_V G n ad E' cells slots pc lv st) : ze_V G n ad E cells slots pc lv st := h ▸ k
theorem ze_eqS {st' : List Value} (h : st = st') (k : ze_V G n ad E cells slots pc lv st') : ze_V G n ad E cells slots pc lv st := h ▸ k
theorem ze_widen {c2 s2 : Nat} (h1 : cells ≤ c2) (h2 : slots ≤ s2) (k : ze_V G n ad E c2 s2 pc lv st) : ze_V G n ad E cells slots pc lv st := fun H locs ls hP hD hS hl => W.widen h1 h2 (k H locs ls hP hD hS hl)
-- ends
theorem ze_iret {v : Int32} (C : ze_C G cc Ts own rm nL) (Rt : ze_Rt G (some .int) cells slots post) (d : decode cc pc = .ok (.ireturn, 1)) (h : post (some (.int v)) n ad E) : ze_V G n ad E cells slots pc lv [.int v] := by
  intro H locs ls hP hD hS hl
  rw [Rt.2]
  have hlk := C.lk
  exact W.iret C.x C.b Rt.1 (fun t ht hW => ⟨⟨_, n, ad, E, rfl, h, by rw [ht]; exact hP, va_K.moved hW.alike C.K, hD⟩, hS.F ht⟩) hS.2.2 d
theorem ze_zret {v : Int32} (C : ze_C G cc Ts own rm nL) (Rt : ze_Rt G (some .boolean) cells slots post) (hv : narrow .boolean (.int v) = .int v) (d : decode cc pc = .ok (.ireturn, 1)) (h : post (some (.int v)) n ad E) : ze_V G n ad E cells slots pc lv [.int v] := by
  intro H locs ls hP hD hS hl
  rw [Rt.2]
  have hlk := C.lk
  exact W.zret C.x C.b Rt.1 hv (fun t ht hW => ⟨⟨_, n, ad, E, rfl, h, by rw [ht]; exact hP, va_K.moved hW.alike C.K, hD⟩, hS.F ht⟩) hS.2.2 d
theorem ze_lret {v : Int64} (C : ze_C G cc Ts own rm nL) (Rt : ze_Rt G (some .long) cells slots post) (d : decode cc pc = .ok (.lreturn, 1)) (h : post (some (.long v)) n ad E) : ze_V G n ad E cells slots pc lv [.long v] := by
  intro H locs ls hP hD hS hl
  rw [Rt.2]
  have hlk := C.lk
  exact W.lret C.x C.b Rt.1 (fun t ht hW => ⟨⟨_, n, ad, E, rfl, h, by rw [ht]; exact hP, va_K.moved hW.alike C.K, hD⟩, hS.F ht⟩) hS.2.2 d
theorem ze_vret (C : ze_C G cc Ts own rm nL) (Rt : ze_Rt G none cells slots post) (d : decode cc pc = .ok (.return_, 1)) (h : post none n ad E) : ze_V G n ad E cells slots pc lv [] := by
  intro H locs ls hP hD hS hl
  rw [Rt.2]
  have hlk := C.lk
  exact W.vret C.x C.b Rt.1 (fun t ht hW => ⟨⟨_, n, ad, E, rfl, h, by rw [ht]; exact hP, va_K.moved hW.alike C.K, hD⟩, hS.F ht⟩) hS.2.2 d
theorem ze_iconst {z : Int} {v : Int32} (C : ze_C G cc Ts own rm nL) (d : decode cc pc = .ok (.iconst z, 1)) (hv : Int32.ofInt z = v) (k : ze_V G n ad E cells slots (pc + 1) lv (.int v :: st)) : ze_V G n ad E cells slots pc lv st := fun H locs ls hP hD hS hl => lv_iconst C.x C.b d hv (k H locs ls hP hD hS hl)
theorem ze_bipush {z : Int} {v : Int32} (C : ze_C G cc Ts own rm nL) (d : decode cc pc = .ok (.bipush z, 2)) (hv : (Int8.ofInt z).toInt32 = v) (k : ze_V G n ad E cells slots (pc + 2) lv (.int v :: st)) : ze_V G n ad E cells slots pc lv st := fun H locs ls hP hD hS hl => lv_bipush C.x C.b d hv (k H locs ls hP hD hS hl)
theorem ze_sipush {z : Int} {v : Int32} (C : ze_C G cc Ts own rm nL) (d : decode cc pc = .ok (.sipush z, 3)) (hv : (Int16.ofInt z).toInt32 = v) (k : ze_V G n ad E cells slots (pc + 3) lv (.int v :: st)) : ze_V G n ad E cells slots pc lv st := fun H locs ls hP hD hS hl => lv_sipush C.x C.b d hv (k H locs ls hP hD hS hl)
theorem ze_lconst {z : Fin 2} {v : Int64} (C : ze_C G cc Ts own rm nL) (d : decode cc pc = .ok (.lconst z, 1)) (hv : Int64.ofNat (z : Nat) = v) (k : ze_V G n ad E cells slots (pc + 1) lv (.long v :: st)) : ze_V G n ad E cells slots pc lv st := fun H locs ls hP hD hS hl => lv_lconst C.x C.b d hv (k H locs ls hP hD hS hl)
theorem ze_ldc2 {idx : Nat} {v : Int64} (C : ze_C G cc Ts own rm nL) (d : decode cc pc = .ok (.ldc2_w idx, 3)) (hc : Cond.constantLong own idx v ∈ Ts) (k : ze_V G n ad E cells slots (pc + 3) lv (.long v :: st)) : ze_V G n ad E cells slots pc lv st := fun H locs ls hP hD hS hl => lv_ldc2 C.x C.b C.ow (C.ts _ hc) d (k H locs ls hP hD hS hl)
theorem ze_iload_n {z : Fin 4} {i : Nat} {x : Int32} (C : ze_C G cc Ts own rm nL) (d : decode cc pc = .ok (.iload_n z, 1)) (j : Nat) (hj : lv[j]? = some (i, .int x)) (hi : (z : Nat) = i) (k : ze_V G n ad E cells slots (pc + 1) lv (.int x :: st)) : ze_V G n ad E cells slots pc lv st := fun H locs ls hP hD hS hl => lv_iload_n C.x C.b d hi (lv_at hl j hj) (k H locs ls hP hD hS hl)
theorem ze_iload {i : Nat} {x : Int32} (C : ze_C G cc Ts own rm nL) (d : decode cc pc = .ok (.iload i, 2)) (j : Nat) (hj : lv[j]? = some (i, .int x)) (k : ze_V G n ad E cells slots (pc + 2) lv (.int x :: st)) : ze_V G n ad E cells slots pc lv st := fun H locs ls hP hD hS hl => lv_iload C.x C.b d (lv_at hl j hj) (k H locs ls hP hD hS hl)
theorem ze_istore_n {z : Fin 4} {i : Nat} {x : Int32} {lv' : List (Nat × Value)} (C : ze_C G cc Ts own rm nL) (d : decode cc pc = .ok (.istore_n z, 1)) (hi : (z : Nat) = i) (hn : i < nL) (hl' : (i, Value.int x) :: lv.filter (fun q => !(q.1 == i) && !(q.1 + 1 == i && q.2.category == 2)) = lv') (k : ze_V G n ad E cells slots (pc + 1) lv' st) : ze_V G n ad E cells slots pc lv (.int x :: st) := fun H locs ls hP hD hS hl => lv_istore_n C.x C.b d hi hl (by rw [C.nl]; exact hn) hl' (fun ls' hl2 => k H locs ls' hP hD hS hl2)
theorem ze_istore {i : Nat} {x : Int32} {lv' : List (Nat × Value)} (C : ze_C G cc Ts own rm nL) (d : decode cc pc = .ok (.istore i, 2)) (hn : i < nL) (hl' : (i, Value.int x) :: lv.filter (fun q => !(q.1 == i) && !(q.1 + 1 == i && q.2.category == 2)) = lv') (k : ze_V G n ad E cells slots (pc + 2) lv' st) : ze_V G n ad E cells slots pc lv (.int x :: st) := fun H locs ls hP hD hS hl => lv_istore C.x C.b d hl (by rw [C.nl]; exact hn) hl' (fun ls' hl2 => k H locs ls' hP hD hS hl2)
theorem ze_lload_n {z : Fin 4} {i : Nat} {x : Int64} (C : ze_C G cc Ts own rm nL) (d : decode cc pc = .ok (.lload_n z, 1)) (j : Nat) (hj : lv[j]? = some (i, .long x)) (hi : (z : Nat) = i) (k : ze_V G n ad E cells slots (pc + 1) lv (.long x :: st)) : ze_V G n ad E cells slots pc lv st := fun H locs ls hP hD hS hl => lv_lload_n C.x C.b d hi (lv_at hl j hj) (k H locs ls hP hD hS hl)
theorem ze_lload {i : Nat} {x : Int64} (C : ze_C G cc Ts own rm nL) (d : decode cc pc = .ok (.lload i, 2)) (j : Nat) (hj : lv[j]? = some (i, .long x)) (k : ze_V G n ad E cells slots (pc + 2) lv (.long x :: st)) : ze_V G n ad E cells slots pc lv st := fun H locs ls hP hD hS hl => lv_lload C.x C.b d (lv_at hl j hj) (k H locs ls hP hD hS hl)
theorem ze_lstore_n {z : Fin 4} {i : Nat} {x : Int64} {lv' : List (Nat × Value)} (C : ze_C G cc Ts own rm nL) (d : decode cc pc = .ok (.lstore_n z, 1)) (hi : (z : Nat) = i) (hn : i + 1 < nL) (hl' : (i, Value.long x) :: lv.filter (fun q => !(q.1 == i) && (!(q.1 == i + 1) && !(q.1 + 1 == i && q.2.category == 2))) = lv') (k : ze_V G n ad E cells slots (pc + 1) lv' st) : ze_V G n ad E cells slots pc lv (.long x :: st) := fun H locs ls hP hD hS hl => lv_lstore_n C.x C.b d hi hl (by rw [C.nl]; exact hn) hl' (fun ls' hl2 => k H locs ls' hP hD hS hl2)
theorem ze_lstore {i : Nat} {x : Int64} {lv' : List (Nat × Value)} (C : ze_C G cc Ts own rm nL) (d : decode cc pc = .ok (.lstore i, 2)) (hn : i + 1 < nL) (hl' : (i, Value.long x) :: lv.filter (fun q => !(q.1 == i) && (!(q.1 == i + 1) && !(q.1 + 1 == i && q.2.category == 2))) = lv') (k : ze_V G n ad E cells slots (pc + 2) lv' st) : ze_V G n ad E cells slots pc lv (.long x :: st) := fun H locs ls hP hD hS hl => lv_lstore C.x C.b d hl (by rw [C.nl]; exact hn) hl' (fun ls' hl2 => k H locs ls' hP hD hS hl2)
theorem ze_aload_n {z : Fin 4} {i : Nat} {x : Nat} (C : ze_C G cc Ts own rm nL) (d : decode cc pc = .ok (.aload_n z, 1)) (j : Nat) (hj : lv[j]? = some (i, .ref x)) (hi : (z : Nat) = i) (k : ze_V G n ad E cells slots (pc + 1) lv (.ref x :: st)) : ze_V G n ad E cells slots pc lv st := fun H locs ls hP hD hS hl => lv_aload_n C.x C.b d hi (lv_at hl j hj) (k H locs ls hP hD hS hl)
theorem ze_aload {i : Nat} {x : Nat} (C : ze_C G cc Ts own rm nL) (d : decode cc pc = .ok (.aload i, 2)) (j : Nat) (hj : lv[j]? = some (i, .ref x)) (k : ze_V G n ad E cells slots (pc + 2) lv (.ref x :: st)) : ze_V G n ad E cells slots pc lv st := fun H locs ls hP hD hS hl => lv_aload C.x C.b d (lv_at hl j hj) (k H locs ls hP hD hS hl)
theorem ze_astore_n {z : Fin 4} {i : Nat} {x : Nat} {lv' : List (Nat × Value)} (C : ze_C G cc Ts own rm nL) (d : decode cc pc = .ok (.astore_n z, 1)) (hi : (z : Nat) = i) (hn : i < nL) (hl' : (i, Value.ref x) :: lv.filter (fun q => !(q.1 == i) && !(q.1 + 1 == i && q.2.category == 2)) = lv') (k : ze_V G n ad E cells slots (pc + 1) lv' st) : ze_V G n ad E cells slots pc lv (.ref x :: st) := fun H locs ls hP hD hS hl => lv_astore_n C.x C.b d hi hl (by rw [C.nl]; exact hn) hl' (fun ls' hl2 => k H locs ls' hP hD hS hl2)
theorem ze_astore {i : Nat} {x : Nat} {lv' : List (Nat × Value)} (C : ze_C G cc Ts own rm nL) (d : decode cc pc = .ok (.astore i, 2)) (hn : i < nL) (hl' : (i, Value.ref x) :: lv.filter (fun q => !(q.1 == i) && !(q.1 + 1 == i && q.2.category == 2)) = lv') (k : ze_V G n ad E cells slots (pc + 2) lv' st) : ze_V G n ad E cells slots pc lv (.ref x :: st) := fun H locs ls hP hD hS hl => lv_astore C.x C.b d hl (by rw [C.nl]; exact hn) hl' (fun ls' hl2 => k H locs ls' hP hD hS hl2)
theorem ze_iinc {i j : Nat} {z : Int} {x v : Int32} {lv' : List (Nat × Value)} (C : ze_C G cc Ts own rm nL) (d : decode cc pc = .ok (.iinc i z, 3)) (hj : lv[j]? = some (i, .int x)) (hv : x + Int32.ofInt z = v) (hn : i < nL) (hl' : (i, Value.int v) :: lv.filter (fun q => !(q.1 == i) && !(q.1 + 1 == i && q.2.category == 2)) = lv') (k : ze_V G n ad E cells slots (pc + 3) lv' st) : ze_V G n ad E cells slots pc lv st := fun H locs ls hP hD hS hl => lv_iinc C.x C.b d hl hj hv (by rw [C.nl]; exact hn) hl' (fun ls' hl2 => k H locs ls' hP hD hS hl2)
theorem ze_iadd {x y : Int32} (C : ze_C G cc Ts own rm nL) (d : decode cc pc = .ok (.iadd, 1)) (k : ze_V G n ad E cells slots (pc + 1) lv (.int (x + y) :: st)) : ze_V G n ad E cells slots pc lv (.int y :: .int x :: st) := fun H locs ls hP hD hS hl => lv_iadd C.x C.b d (k H locs ls hP hD hS hl)
theorem ze_isub {x y : Int32} (C : ze_C G cc Ts own rm nL) (d : decode cc pc = .ok (.isub, 1)) (k : ze_V G n ad E cells slots (pc + 1) lv (.int (x - y) :: st)) : ze_V G n ad E cells slots pc lv (.int y :: .int x :: st) := fun H locs ls hP hD hS hl => lv_isub C.x C.b d (k H locs ls hP hD hS hl)
theorem ze_imul {x y : Int32} (C : ze_C G cc Ts own rm nL) (d : decode cc pc = .ok (.imul, 1)) (k : ze_V G n ad E cells slots (pc + 1) lv (.int (x * y) :: st)) : ze_V G n ad E cells slots pc lv (.int y :: .int x :: st) := fun H locs ls hP hD hS hl => lv_imul C.x C.b d (k H locs ls hP hD hS hl)
theorem ze_iand {x y : Int32} (C : ze_C G cc Ts own rm nL) (d : decode cc pc = .ok (.iand, 1)) (k : ze_V G n ad E cells slots (pc + 1) lv (.int (x &&& y) :: st)) : ze_V G n ad E cells slots pc lv (.int y :: .int x :: st) := fun H locs ls hP hD hS hl => lv_iand C.x C.b d (k H locs ls hP hD hS hl)
theorem ze_ior {x y : Int32} (C : ze_C G cc Ts own rm nL) (d : decode cc pc = .ok (.ior, 1)) (k : ze_V G n ad E cells slots (pc + 1) lv (.int (x ||| y) :: st)) : ze_V G n ad E cells slots pc lv (.int y :: .int x :: st) := fun H locs ls hP hD hS hl => lv_ior C.x C.b d (k H locs ls hP hD hS hl)
theorem ze_ixor {x y : Int32} (C : ze_C G cc Ts own rm nL) (d : decode cc pc = .ok (.ixor, 1)) (k : ze_V G n ad E cells slots (pc + 1) lv (.int (x ^^^ y) :: st)) : ze_V G n ad E cells slots pc lv (.int y :: .int x :: st) := fun H locs ls hP hD hS hl => lv_ixor C.x C.b d (k H locs ls hP hD hS hl)
theorem ze_idiv {x y : Int32} (C : ze_C G cc Ts own rm nL) (d : decode cc pc = .ok (.idiv, 1)) (h0 : ¬ y = 0) (k : ze_V G n ad E cells slots (pc + 1) lv (.int (x / y) :: st)) : ze_V G n ad E cells slots pc lv (.int y :: .int x :: st) := fun H locs ls hP hD hS hl => lv_idiv C.x C.b d h0 (k H locs ls hP hD hS hl)
theorem ze_irem {x y : Int32} (C : ze_C G cc Ts own rm nL) (d : decode cc pc = .ok (.irem, 1)) (h0 : ¬ y = 0) (k : ze_V G n ad E cells slots (pc + 1) lv (.int (x - x / y * y) :: st)) : ze_V G n ad E cells slots pc lv (.int y :: .int x :: st) := fun H locs ls hP hD hS hl => lv_irem C.x C.b d h0 (k H locs ls hP hD hS hl)
theorem ze_ladd {x y : Int64} (C : ze_C G cc Ts own rm nL) (d : decode cc pc = .ok (.ladd, 1)) (k : ze_V G n ad E cells slots (pc + 1) lv (.long (x + y) :: st)) : ze_V G n ad E cells slots pc lv (.long y :: .long x :: st) := fun H locs ls hP hD hS hl => lv_ladd C.x C.b d (k H locs ls hP hD hS hl)
theorem ze_lsub {x y : Int64} (C : ze_C G cc Ts own rm nL) (d : decode cc pc = .ok (.lsub, 1)) (k : ze_V G n ad E cells slots (pc + 1) lv (.long (x - y) :: st)) : ze_V G n ad E cells slots pc lv (.long y :: .long x :: st) := fun H locs ls hP hD hS hl => lv_lsub C.x C.b d (k H locs ls hP hD hS hl)
theorem ze_lmul {x y : Int64} (C : ze_C G cc Ts own rm nL) (d : decode cc pc = .ok (.lmul, 1)) (k : ze_V G n ad E cells slots (pc + 1) lv (.long (x * y) :: st)) : ze_V G n ad E cells slots pc lv (.long y :: .long x :: st) := fun H locs ls hP hD hS hl => lv_lmul C.x C.b d (k H locs ls hP hD hS hl)
theorem ze_i2l {x : Int32} {v : Int64} (C : ze_C G cc Ts own rm nL) (d : decode cc pc = .ok (.i2l, 1)) (hv : x.toInt64 = v) (k : ze_V G n ad E cells slots (pc + 1) lv (.long v :: st)) : ze_V G n ad E cells slots pc lv (.int x :: st) := fun H locs ls hP hD hS hl => lv_i2l C.x C.b d hv (k H locs ls hP hD hS hl)
theorem ze_lcmp {x y : Int64} (C : ze_C G cc Ts own rm nL) (d : decode cc pc = .ok (.lcmp, 1)) (k : ze_V G n ad E cells slots (pc + 1) lv (.int (lg_cmp x y) :: st)) : ze_V G n ad E cells slots pc lv (.long y :: .long x :: st) := fun H locs ls hP hD hS hl => W.lcmp C.x C.b d (k H locs ls hP hD hS hl)
theorem ze_iaddN {a b : Nat} (C : ze_C G cc Ts own rm nL) (d : decode cc pc = .ok (.iadd, 1)) (k : ze_V G n ad E cells slots (pc + 1) lv (.int (nI (a + b)) :: st)) : ze_V G n ad E cells slots pc lv (.int (nI b) :: .int (nI a) :: st) := fun H locs ls hP hD hS hl => lv_iadd C.x C.b d (by rw [nI_add]; exact k H locs ls hP hD hS hl)
theorem ze_isubN {a b : Nat} (C : ze_C G cc Ts own rm nL) (d : decode cc pc = .ok (.isub, 1)) (h : b ≤ a) (k : ze_V G n ad E cells slots (pc + 1) lv (.int (nI (a - b)) :: st)) : ze_V G n ad E cells slots pc lv (.int (nI b) :: .int (nI a) :: st) := fun H locs ls hP hD hS hl => lv_isub C.x C.b d (by rw [pk_sub h]; exact k H locs ls hP hD hS hl)
theorem ze_imulN {a b : Nat} (C : ze_C G cc Ts own rm nL) (d : decode cc pc = .ok (.imul, 1)) (k : ze_V G n ad E cells slots (pc + 1) lv (.int (nI (a * b)) :: st)) : ze_V G n ad E cells slots pc lv (.int (nI b) :: .int (nI a) :: st) := fun H locs ls hP hD hS hl => lv_imul C.x C.b d (by rw [pk_mul]; exact k H locs ls hP hD hS hl)
theorem ze_idivN {a b : Nat} (C : ze_C G cc Ts own rm nL) (d : decode cc pc = .ok (.idiv, 1)) (ha : a < 2 ^ 31) (h0 : 0 < b) (hb : b < 2 ^ 31) (k : ze_V G n ad E cells slots (pc + 1) lv (.int (nI (a / b)) :: st)) : ze_V G n ad E cells slots pc lv (.int (nI b) :: .int (nI a) :: st) := fun H locs ls hP hD hS hl => lv_idiv C.x C.b d (nI_ne0 h0 hb) (by rw [pk_div ha h0 hb]; exact k H locs ls hP hD hS hl)
theorem ze_iremN {a b : Nat} (C : ze_C G cc Ts own rm nL) (d : decode cc pc = .ok (.irem, 1)) (ha : a < 2 ^ 31) (h0 : 0 < b) (hb : b < 2 ^ 31) (k : ze_V G n ad E cells slots (pc + 1) lv (.int (nI (a % b)) :: st)) : ze_V G n ad E cells slots pc lv (.int (nI b) :: .int (nI a) :: st) := fun H locs ls hP hD hS hl => lv_irem C.x C.b d (nI_ne0 h0 hb) (by rw [pk_rem ha h0 hb]; exact k H locs ls hP hD hS hl)
theorem ze_laddN {a b : Nat} (C : ze_C G cc Ts own rm nL) (d : decode cc pc = .ok (.ladd, 1)) (k : ze_V G n ad E cells slots (pc + 1) lv (.long (lN (a + b)) :: st)) : ze_V G n ad E cells slots pc lv (.long (lN b) :: .long (lN a) :: st) := fun H locs ls hP hD hS hl => lv_ladd C.x C.b d (by rw [lN_add]; exact k H locs ls hP hD hS hl)
theorem ze_lmulN {a b : Nat} (C : ze_C G cc Ts own rm nL) (d : decode cc pc = .ok (.lmul, 1)) (k : ze_V G n ad E cells slots (pc + 1) lv (.long (lN (a * b)) :: st)) : ze_V G n ad E cells slots pc lv (.long (lN b) :: .long (lN a) :: st) := fun H locs ls hP hD hS hl => lv_lmul C.x C.b d (by rw [lN_mul]; exact k H locs ls hP hD hS hl)
theorem ze_i2lN {a : Nat} (C : ze_C G cc Ts own rm nL) (d : decode cc pc = .ok (.i2l, 1)) (ha : a < 2 ^ 31) (k : ze_V G n ad E cells slots (pc + 1) lv (.long (lN a) :: st)) : ze_V G n ad E cells slots pc lv (.int (nI a) :: st) := fun H locs ls hP hD hS hl => lv_i2l C.x C.b d (nI_l ha) (k H locs ls hP hD hS hl)
theorem ze_dup {v : Value} (C : ze_C G cc Ts own rm nL) (d : decode cc pc = .ok (.dup, 1)) (hv : v.category = 1) (k : ze_V G n ad E cells slots (pc + 1) lv (v :: v :: st)) : ze_V G n ad E cells slots pc lv (v :: st) := fun H locs ls hP hD hS hl => lv_dup C.x C.b d hv (k H locs ls hP hD hS hl)
theorem ze_pop {v : Value} (C : ze_C G cc Ts own rm nL) (d : decode cc pc = .ok (.pop, 1)) (hv : v.category = 1) (k : ze_V G n ad E cells slots (pc + 1) lv st) : ze_V G n ad E cells slots pc lv (v :: st) := fun H locs ls hP hD hS hl => lv_pop C.x C.b d hv (k H locs ls hP hD hS hl)
theorem ze_dup_x1 {v w : Value} (C : ze_C G cc Ts own rm nL) (d : decode cc pc = .ok (.dup_x1, 1)) (hv : v.category = 1) (hw : w.category = 1) (k : ze_V G n ad E cells slots (pc + 1) lv (v :: w :: v :: st)) : ze_V G n ad E cells slots pc lv (v :: w :: st) := fun H locs ls hP hD hS hl => lv_dup_x1 C.x C.b d hv hw (k H locs ls hP hD hS hl)
theorem ze_dup2 {v w : Value} (C : ze_C G cc Ts own rm nL) (d : decode cc pc = .ok (.dup2, 1)) (hv : v.category = 1) (hw : w.category = 1) (k : ze_V G n ad E cells slots (pc + 1) lv (v :: w :: v :: w :: st)) : ze_V G n ad E cells slots pc lv (v :: w :: st) := fun H locs ls hP hD hS hl => lv_dup2_11 C.x C.b d hv hw (k H locs ls hP hD hS hl)
theorem ze_if_eq {x : Int32} {off : Int} (tgt : Nat) (C : ze_C G cc Ts own rm nL) (d : decode cc pc = .ok (.ifCond .eq off, 3)) (ht : (pc : Int) + off = (tgt : Int)) (kt : x = 0 → ze_V G n ad E cells slots tgt lv st) (kf : ¬ (x = 0) → ze_V G n ad E cells slots (pc + 3) lv st) : ze_V G n ad E cells slots pc lv (.int x :: st) := fun H locs ls hP hD hS hl => lv_if_eq C.x C.b d ht (fun h => kt h H locs ls hP hD hS hl) (fun h => kf h H locs ls hP hD hS hl)
theorem ze_if_eqN {a : Nat} {off : Int} (tgt : Nat) (C : ze_C G cc Ts own rm nL) (d : decode cc pc = .ok (.ifCond .eq off, 3)) (ht : (pc : Int) + off = (tgt : Int)) (ha : a < 2 ^ 31) (kt : a = 0 → ze_V G n ad E cells slots tgt lv st) (kf : a ≠ 0 → ze_V G n ad E cells slots (pc + 3) lv st) : ze_V G n ad E cells slots pc lv (.int (nI a) :: st) := ze_if_eq tgt C d ht (fun h => kt ((nI_eq ha (by decide : 0 < 2 ^ 31)).mp h)) (fun h => kf (by have h := (not_congr (nI_eq ha (by decide : 0 < 2 ^ 31))).mp h; exact h))
theorem ze_icmp_eq {x y : Int32} {off : Int} (tgt : Nat) (C : ze_C G cc Ts own rm nL) (d : decode cc pc = .ok (.if_icmp .eq off, 3)) (ht : (pc : Int) + off = (tgt : Int)) (kt : x = y → ze_V G n ad E cells slots tgt lv st) (kf : ¬ (x = y) → ze_V G n ad E cells slots (pc + 3) lv st) : ze_V G n ad E cells slots pc lv (.int y :: .int x :: st) := fun H locs ls hP hD hS hl => lv_icmp_eq C.x C.b d ht (fun h => kt h H locs ls hP hD hS hl) (fun h => kf h H locs ls hP hD hS hl)
theorem ze_icmp_eqN {a b : Nat} {off : Int} (tgt : Nat) (C : ze_C G cc Ts own rm nL) (d : decode cc pc = .ok (.if_icmp .eq off, 3)) (ht : (pc : Int) + off = (tgt : Int)) (ha : a < 2 ^ 31) (hb : b < 2 ^ 31) (kt : a = b → ze_V G n ad E cells slots tgt lv st) (kf : a ≠ b → ze_V G n ad E cells slots (pc + 3) lv st) : ze_V G n ad E cells slots pc lv (.int (nI b) :: .int (nI a) :: st) := ze_icmp_eq tgt C d ht (fun h => kt ((nI_eq ha hb).mp h)) (fun h => kf (by have h := (not_congr (nI_eq ha hb)).mp h; exact h))
theorem ze_if_ne {x : Int32} {off : Int} (tgt : Nat) (C : ze_C G cc Ts own rm nL) (d : decode cc pc = .ok (.ifCond .ne off, 3)) (ht : (pc : Int) + off = (tgt : Int)) (kt : ¬ x = 0 → ze_V G n ad E cells slots tgt lv st) (kf : x = 0 → ze_V G n ad E cells slots (pc + 3) lv st) : ze_V G n ad E cells slots pc lv (.int x :: st) := fun H locs ls hP hD hS hl => lv_if_ne C.x C.b d ht (fun h => kt h H locs ls hP hD hS hl) (fun h => kf h H locs ls hP hD hS hl)
theorem ze_if_neN {a : Nat} {off : Int} (tgt : Nat) (C : ze_C G cc Ts own rm nL) (d : decode cc pc = .ok (.ifCond .ne off, 3)) (ht : (pc : Int) + off = (tgt : Int)) (ha : a < 2 ^ 31) (kt : a ≠ 0 → ze_V G n ad E cells slots tgt lv st) (kf : a = 0 → ze_V G n ad E cells slots (pc + 3) lv st) : ze_V G n ad E cells slots pc lv (.int (nI a) :: st) := ze_if_ne tgt C d ht (fun h => kt ((not_congr (nI_eq ha (by decide : 0 < 2 ^ 31))).mp h)) (fun h => kf ((nI_eq ha (by decide : 0 < 2 ^ 31)).mp h))
theorem ze_icmp_ne {x y : Int32} {off : Int} (tgt : Nat) (C : ze_C G cc Ts own rm nL) (d : decode cc pc = .ok (.if_icmp .ne off, 3)) (ht : (pc : Int) + off = (tgt : Int)) (kt : ¬ x = y → ze_V G n ad E cells slots tgt lv st) (kf : x = y → ze_V G n ad E cells slots (pc + 3) lv st) : ze_V G n ad E cells slots pc lv (.int y :: .int x :: st) := fun H locs ls hP hD hS hl => lv_icmp_ne C.x C.b d ht (fun h => kt h H locs ls hP hD hS hl) (fun h => kf h H locs ls hP hD hS hl)
theorem ze_icmp_neN {a b : Nat} {off : Int} (tgt : Nat) (C : ze_C G cc Ts own rm nL) (d : decode cc pc = .ok (.if_icmp .ne off, 3)) (ht : (pc : Int) + off = (tgt : Int)) (ha : a < 2 ^ 31) (hb : b < 2 ^ 31) (kt : a ≠ b → ze_V G n ad E cells slots tgt lv st) (kf : a = b → ze_V G n ad E cells slots (pc + 3) lv st) : ze_V G n ad E cells slots pc lv (.int (nI b) :: .int (nI a) :: st) := ze_icmp_ne tgt C d ht (fun h => kt ((not_congr (nI_eq ha hb)).mp h)) (fun h => kf ((nI_eq ha hb).mp h))
theorem ze_if_lt {x : Int32} {off : Int} (tgt : Nat) (C : ze_C G cc Ts own rm nL) (d : decode cc pc = .ok (.ifCond .lt off, 3)) (ht : (pc : Int) + off = (tgt : Int)) (kt : x < 0 → ze_V G n ad E cells slots tgt lv st) (kf : ¬ (x < 0) → ze_V G n ad E cells slots (pc + 3) lv st) : ze_V G n ad E cells slots pc lv (.int x :: st) := fun H locs ls hP hD hS hl => lv_if_lt C.x C.b d ht (fun h => kt h H locs ls hP hD hS hl) (fun h => kf h H locs ls hP hD hS hl)
theorem ze_if_ltN {a : Nat} {off : Int} (tgt : Nat) (C : ze_C G cc Ts own rm nL) (d : decode cc pc = .ok (.ifCond .lt off, 3)) (ht : (pc : Int) + off = (tgt : Int)) (ha : a < 2 ^ 31) (kt : a < 0 → ze_V G n ad E cells slots tgt lv st) (kf : 0 ≤ a → ze_V G n ad E cells slots (pc + 3) lv st) : ze_V G n ad E cells slots pc lv (.int (nI a) :: st) := ze_if_lt tgt C d ht (fun h => kt ((nI_ltI ha (by decide : 0 < 2 ^ 31)).mp h)) (fun h => kf (by have h := (not_congr (nI_ltI ha (by decide : 0 < 2 ^ 31))).mp h; exact Nat.not_lt.mp h))
theorem ze_icmp_lt {x y : Int32} {off : Int} (tgt : Nat) (C : ze_C G cc Ts own rm nL) (d : decode cc pc = .ok (.if_icmp .lt off, 3)) (ht : (pc : Int) + off = (tgt : Int)) (kt : x < y → ze_V G n ad E cells slots tgt lv st) (kf : ¬ (x < y) → ze_V G n ad E cells slots (pc + 3) lv st) : ze_V G n ad E cells slots pc lv (.int y :: .int x :: st) := fun H locs ls hP hD hS hl => lv_icmp_lt C.x C.b d ht (fun h => kt h H locs ls hP hD hS hl) (fun h => kf h H locs ls hP hD hS hl)
theorem ze_icmp_ltN {a b : Nat} {off : Int} (tgt : Nat) (C : ze_C G cc Ts own rm nL) (d : decode cc pc = .ok (.if_icmp .lt off, 3)) (ht : (pc : Int) + off = (tgt : Int)) (ha : a < 2 ^ 31) (hb : b < 2 ^ 31) (kt : a < b → ze_V G n ad E cells slots tgt lv st) (kf : b ≤ a → ze_V G n ad E cells slots (pc + 3) lv st) : ze_V G n ad E cells slots pc lv (.int (nI b) :: .int (nI a) :: st) := ze_icmp_lt tgt C d ht (fun h => kt ((nI_ltI ha hb).mp h)) (fun h => kf (by have h := (not_congr (nI_ltI ha hb)).mp h; exact Nat.not_lt.mp h))
theorem ze_if_ge {x : Int32} {off : Int} (tgt : Nat) (C : ze_C G cc Ts own rm nL) (d : decode cc pc = .ok (.ifCond .ge off, 3)) (ht : (pc : Int) + off = (tgt : Int)) (kt : 0 ≤ x → ze_V G n ad E cells slots tgt lv st) (kf : ¬ (0 ≤ x) → ze_V G n ad E cells slots (pc + 3) lv st) : ze_V G n ad E cells slots pc lv (.int x :: st) := fun H locs ls hP hD hS hl => lv_if_ge C.x C.b d ht (fun h => kt h H locs ls hP hD hS hl) (fun h => kf h H locs ls hP hD hS hl)
theorem ze_if_geN {a : Nat} {off : Int} (tgt : Nat) (C : ze_C G cc Ts own rm nL) (d : decode cc pc = .ok (.ifCond .ge off, 3)) (ht : (pc : Int) + off = (tgt : Int)) (ha : a < 2 ^ 31) (kt : 0 ≤ a → ze_V G n ad E cells slots tgt lv st) (kf : a < 0 → ze_V G n ad E cells slots (pc + 3) lv st) : ze_V G n ad E cells slots pc lv (.int (nI a) :: st) := ze_if_ge tgt C d ht (fun h => kt ((nI_leI (by decide : 0 < 2 ^ 31) ha).mp h)) (fun h => kf (by have h := (not_congr (nI_leI (by decide : 0 < 2 ^ 31) ha)).mp h; exact Nat.not_le.mp h))
theorem ze_icmp_ge {x y : Int32} {off : Int} (tgt : Nat) (C : ze_C G cc Ts own rm nL) (d : decode cc pc = .ok (.if_icmp .ge off, 3)) (ht : (pc : Int) + off = (tgt : Int)) (kt : y ≤ x → ze_V G n ad E cells slots tgt lv st) (kf : ¬ (y ≤ x) → ze_V G n ad E cells slots (pc + 3) lv st) : ze_V G n ad E cells slots pc lv (.int y :: .int x :: st) := fun H locs ls hP hD hS hl => lv_icmp_ge C.x C.b d ht (fun h => kt h H locs ls hP hD hS hl) (fun h => kf h H locs ls hP hD hS hl)
theorem ze_icmp_geN {a b : Nat} {off : Int} (tgt : Nat) (C : ze_C G cc Ts own rm nL) (d : decode cc pc = .ok (.if_icmp .ge off, 3)) (ht : (pc : Int) + off = (tgt : Int)) (ha : a < 2 ^ 31) (hb : b < 2 ^ 31) (kt : b ≤ a → ze_V G n ad E cells slots tgt lv st) (kf : a < b → ze_V G n ad E cells slots (pc + 3) lv st) : ze_V G n ad E cells slots pc lv (.int (nI b) :: .int (nI a) :: st) := ze_icmp_ge tgt C d ht (fun h => kt ((nI_leI hb ha).mp h)) (fun h => kf (by have h := (not_congr (nI_leI hb ha)).mp h; exact Nat.not_le.mp h))
theorem ze_if_gt {x : Int32} {off : Int} (tgt : Nat) (C : ze_C G cc Ts own rm nL) (d : decode cc pc = .ok (.ifCond .gt off, 3)) (ht : (pc : Int) + off = (tgt : Int)) (kt : 0 < x → ze_V G n ad E cells slots tgt lv st) (kf : ¬ (0 < x) → ze_V G n ad E cells slots (pc + 3) lv st) : ze_V G n ad E cells slots pc lv (.int x :: st) := fun H locs ls hP hD hS hl => lv_if_gt C.x C.b d ht (fun h => kt h H locs ls hP hD hS hl) (fun h => kf h H locs ls hP hD hS hl)
theorem ze_if_gtN {a : Nat} {off : Int} (tgt : Nat) (C : ze_C G cc Ts own rm nL) (d : decode cc pc = .ok (.ifCond .gt off, 3)) (ht : (pc : Int) + off = (tgt : Int)) (ha : a < 2 ^ 31) (kt : 0 < a → ze_V G n ad E cells slots tgt lv st) (kf : a ≤ 0 → ze_V G n ad E cells slots (pc + 3) lv st) : ze_V G n ad E cells slots pc lv (.int (nI a) :: st) := ze_if_gt tgt C d ht (fun h => kt ((nI_ltI (by decide : 0 < 2 ^ 31) ha).mp h)) (fun h => kf (by have h := (not_congr (nI_ltI (by decide : 0 < 2 ^ 31) ha)).mp h; exact Nat.not_lt.mp h))
theorem ze_icmp_gt {x y : Int32} {off : Int} (tgt : Nat) (C : ze_C G cc Ts own rm nL) (d : decode cc pc = .ok (.if_icmp .gt off, 3)) (ht : (pc : Int) + off = (tgt : Int)) (kt : y < x → ze_V G n ad E cells slots tgt lv st) (kf : ¬ (y < x) → ze_V G n ad E cells slots (pc + 3) lv st) : ze_V G n ad E cells slots pc lv (.int y :: .int x :: st) := fun H locs ls hP hD hS hl => lv_icmp_gt C.x C.b d ht (fun h => kt h H locs ls hP hD hS hl) (fun h => kf h H locs ls hP hD hS hl)
theorem ze_icmp_gtN {a b : Nat} {off : Int} (tgt : Nat) (C : ze_C G cc Ts own rm nL) (d : decode cc pc = .ok (.if_icmp .gt off, 3)) (ht : (pc : Int) + off = (tgt : Int)) (ha : a < 2 ^ 31) (hb : b < 2 ^ 31) (kt : b < a → ze_V G n ad E cells slots tgt lv st) (kf : a ≤ b → ze_V G n ad E cells slots (pc + 3) lv st) : ze_V G n ad E cells slots pc lv (.int (nI b) :: .int (nI a) :: st) := ze_icmp_gt tgt C d ht (fun h => kt ((nI_ltI hb ha).mp h)) (fun h => kf (by have h := (not_congr (nI_ltI hb ha)).mp h; exact Nat.not_lt.mp h))
theorem ze_if_le {x : Int32} {off : Int} (tgt : Nat) (C : ze_C G cc Ts own rm nL) (d : decode cc pc = .ok (.ifCond .le off, 3)) (ht : (pc : Int) + off = (tgt : Int)) (kt : x ≤ 0 → ze_V G n ad E cells slots tgt lv st) (kf : ¬ (x ≤ 0) → ze_V G n ad E cells slots (pc + 3) lv st) : ze_V G n ad E cells slots pc lv (.int x :: st) := fun H locs ls hP hD hS hl => lv_if_le C.x C.b d ht (fun h => kt h H locs ls hP hD hS hl) (fun h => kf h H locs ls hP hD hS hl)
theorem ze_if_leN {a : Nat} {off : Int} (tgt : Nat) (C : ze_C G cc Ts own rm nL) (d : decode cc pc = .ok (.ifCond .le off, 3)) (ht : (pc : Int) + off = (tgt : Int)) (ha : a < 2 ^ 31) (kt : a ≤ 0 → ze_V G n ad E cells slots tgt lv st) (kf : 0 < a → ze_V G n ad E cells slots (pc + 3) lv st) : ze_V G n ad E cells slots pc lv (.int (nI a) :: st) := ze_if_le tgt C d ht (fun h => kt ((nI_leI ha (by decide : 0 < 2 ^ 31)).mp h)) (fun h => kf (by have h := (not_congr (nI_leI ha (by decide : 0 < 2 ^ 31))).mp h; exact Nat.not_le.mp h))
theorem ze_icmp_le {x y : Int32} {off : Int} (tgt : Nat) (C : ze_C G cc Ts own rm nL) (d : decode cc pc = .ok (.if_icmp .le off, 3)) (ht : (pc : Int) + off = (tgt : Int)) (kt : x ≤ y → ze_V G n ad E cells slots tgt lv st) (kf : ¬ (x ≤ y) → ze_V G n ad E cells slots (pc + 3) lv st) : ze_V G n ad E cells slots pc lv (.int y :: .int x :: st) := fun H locs ls hP hD hS hl => lv_icmp_le C.x C.b d ht (fun h => kt h H locs ls hP hD hS hl) (fun h => kf h H locs ls hP hD hS hl)
theorem ze_icmp_leN {a b : Nat} {off : Int} (tgt : Nat) (C : ze_C G cc Ts own rm nL) (d : decode cc pc = .ok (.if_icmp .le off, 3)) (ht : (pc : Int) + off = (tgt : Int)) (ha : a < 2 ^ 31) (hb : b < 2 ^ 31) (kt : a ≤ b → ze_V G n ad E cells slots tgt lv st) (kf : b < a → ze_V G n ad E cells slots (pc + 3) lv st) : ze_V G n ad E cells slots pc lv (.int (nI b) :: .int (nI a) :: st) := ze_icmp_le tgt C d ht (fun h => kt ((nI_leI ha hb).mp h)) (fun h => kf (by have h := (not_congr (nI_leI ha hb)).mp h; exact Nat.not_le.mp h))
theorem ze_goto {off : Int} (tgt : Nat) (C : ze_C G cc Ts own rm nL) (d : decode cc pc = .ok (.goto off, 3)) (ht : (pc : Int) + off = (tgt : Int)) (k : ze_V G n ad E cells slots tgt lv st) : ze_V G n ad E cells slots pc lv st := fun H locs ls hP hD hS hl => lv_goto C.x C.b d ht (k H locs ls hP hD hS hl)
theorem ze_tableIn {dflt lo hi : Int} {offs : Array Int} {len : Nat} {x : Int32} {off : Int} (tgt : Nat) (C : ze_C G cc Ts own rm nL) (d : decode cc pc = .ok (.tableswitch dflt lo hi offs, len)) (h1 : ¬ x.toInt < lo) (h2 : ¬ hi < x.toInt) (ho : offs[(x.toInt - lo).toNat]? = some off) (ht : (pc : Int) + off = (tgt : Int)) (k : ze_V G n ad E cells slots tgt lv st) : ze_V G n ad E cells slots pc lv (.int x :: st) := fun H locs ls hP hD hS hl => lv_tableIn C.x C.b d h1 h2 ho ht (k H locs ls hP hD hS hl)
theorem ze_tableOut {dflt lo hi : Int} {offs : Array Int} {len : Nat} {x : Int32} (tgt : Nat) (C : ze_C G cc Ts own rm nL) (d : decode cc pc = .ok (.tableswitch dflt lo hi offs, len)) (h : x.toInt < lo ∨ hi < x.toInt) (ht : (pc : Int) + dflt = (tgt : Int)) (k : ze_V G n ad E cells slots tgt lv st) : ze_V G n ad E cells slots pc lv (.int x :: st) := fun H locs ls hP hD hS hl => lv_tableOut C.x C.b d h ht (k H locs ls hP hD hS hl)
/-- the word of a getfield: the object's class is number ci of the worlds' classes, the field its number j -/
def ze_Fl (Ts : List Cond) (own : String) (idx ci j : Nat) : Prop := ∃ (C : String) (T : u_T) (N : Nat), vwCl[ci]? = some (C, T, N) ∧ j < N ∧ (∀ w ∈ u_ws C T N, w ∈ Ts) ∧ Cond.fieldLink own idx (T j).1 (T j).2.1 (T j).2.2.1 ∈ Ts
def ze_Fp (Ts : List Cond) (own : String) (idx ci j : Nat) (ty : FieldType) (fin : Bool) : Prop := ∃ (C : String) (T : u_T) (N : Nat) (ty0 : Nat → FieldType), vwCl[ci]? = some (C, T, N) ∧ j < N ∧ (∀ w ∈ u_ws C T N, w ∈ Ts) ∧ Cond.fieldLink own idx (T j).1 (T j).2.1 (T j).2.2.1 ∈ Ts ∧ (∀ k, k < N → parseFieldDescriptor (T k).2.2.1 = some (ty0 k)) ∧ (∀ a, a < N → ∀ b, b < N → a ≠ b → (T a).2.1 ≠ (T b).2.1) ∧ (T j).2.2.2 = fin ∧ (fin = true → (T j).1 = own) ∧ parseFieldDescriptor (T j).2.2.1 = some ty
theorem ze_getf {k ci j idx : Nat} {fs : List Value} {v : Value} (C : ze_C G cc Ts own rm nL) (hF : ze_Fl Ts own idx ci j) (hk : k < n) (hE : E k = .inr (ci, fs)) (hv : fs[j]? = some v) (d : decode cc pc = .ok (.getfield idx, 3)) (kk : ze_V G n ad E cells slots (pc + 3) lv (v :: st)) : ze_V G n ad E cells slots pc lv (.ref (ad k) :: st) := by
  intro H locs ls hP hD hS hl
  obtain ⟨Cn, T, N, h1, h2, h3, h4⟩ := hF
  exact va_get (D := ze_D G) C.x C.b C.ts h3 C.ow C.K hP k (ze_w_eq hk hE) h1 j h2 (C.ts _ h4) (fun _ h => h) hv d (kk H locs ls hP hD hS hl)
theorem ze_putf {k ci j idx : Nat} {fs : List Value} {v : Value} {ty : FieldType} (C : ze_C G cc Ts own rm nL) (hF : ze_Fp Ts own idx ci j ty false) (hk : k < n) (hE : E k = .inr (ci, fs)) (hn : narrow ty v = v) (hf : fits ty v = true) (hj : j < fs.length) (d : decode cc pc = .ok (.putfield idx, 3)) (kk : ze_V G n ad (va_up E k (.inr (ci, fs.set j v))) cells slots (pc + 3) lv st) : ze_V G n ad E cells slots pc lv (v :: .ref (ad k) :: st) := by
  intro H locs ls hP hD hS hl
  obtain ⟨Cn, T, N, ty0, h1, h2, h3, h4, h5, h6, h7, hown, h8⟩ := hF
  refine va_put (D := ze_D G) C.x C.b C.ts h3 ty0 h5 h6 C.ow C.K hP hD hS k (ze_w_eq hk hE) h1 j h2 (C.ts _ h4) (fun _ h => h) h7 h8 hn hf hj d (fun H1 locs1 hP1 hD1 hS1 => ?_)
  rw [ze_w_set hk] at hP1 hD1
  exact kk H1 locs1 ls hP1 hD1 hS1 hl
theorem ze_putF {k ci j idx : Nat} {fs : List Value} {v : Value} {ty : FieldType} (C : ze_C G cc Ts own rm nL) (hF : ze_Fp Ts own idx ci j ty true) (hin : (ze_me G).name = "<init>") (hk : k < n) (hE : E k = .inr (ci, fs)) (hn : narrow ty v = v) (hf : fits ty v = true) (hj : j < fs.length) (d : decode cc pc = .ok (.putfield idx, 3)) (kk : ze_V G n ad (va_up E k (.inr (ci, fs.set j v))) cells slots (pc + 3) lv st) : ze_V G n ad E cells slots pc lv (v :: .ref (ad k) :: st) := by
  intro H locs ls hP hD hS hl
  obtain ⟨Cn, T, N, ty0, h1, h2, h3, h4, h5, h6, h7, hown, h8⟩ := hF
  refine va_putF (D := ze_D G) C.x C.b C.ts h3 ty0 h5 h6 C.ow C.K hP hD hS k (ze_w_eq hk hE) h1 j h2 (C.ts _ h4) (fun _ h => h) h7 hin (hown rfl) h8 hn hf hj d (fun H1 locs1 hP1 hD1 hS1 => ?_)
  rw [ze_w_set hk] at hP1 hD1
  exact kk H1 locs1 ls hP1 hD1 hS1 hl
theorem ze_iald {k len i : Nat} {f : Nat → Int32} (C : ze_C G cc Ts own rm nL) (hk : k < n) (hE : E k = .inl (ze_i G 0, len, .inl f)) (hi : i < len) (hlen : len < 2 ^ 31) (d : decode cc pc = .ok (.iaload, 1)) (kk : ze_V G n ad E cells slots (pc + 1) lv (.int (f i) :: st)) : ze_V G n ad E cells slots pc lv (.int (nI i) :: .ref (ad k) :: st) := by
  intro H locs ls hP hD hS hl
  refine va_iald (D := ze_D G) C.x C.b C.K hP k 0 (ze_w_eq hk hE) rfl (vp_in_nI hi hlen) d ?_
  rw [nI_clamp (Nat.lt_trans hi hlen)]
  exact kk H locs ls hP hD hS hl
theorem ze_iast {k len i : Nat} {f : Nat → Int32} {x : Int32} (C : ze_C G cc Ts own rm nL) (hk : k < n) (hE : E k = .inl (ze_i G 0, len, .inl f)) (hi : i < len) (hlen : len < 2 ^ 31) (d : decode cc pc = .ok (.iastore, 1)) (kk : ze_V G n ad (va_up E k (.inl (ze_i G 0, len, .inl (upd f i x)))) cells slots (pc + 1) lv st) : ze_V G n ad E cells slots pc lv (.int x :: .int (nI i) :: .ref (ad k) :: st) := by
  intro H locs ls hP hD hS hl
  refine va_iast (D := ze_D G) C.x C.b C.K hP hD hS k 0 (ze_w_eq hk hE) rfl (vp_in_nI hi hlen) d (fun H1 locs1 hP1 hD1 hS1 => ?_)
  rw [nI_clamp (Nat.lt_trans hi hlen), ze_w_set hk] at hP1 hD1
  exact kk H1 locs1 ls hP1 hD1 hS1 hl
theorem ze_zald {k len i : Nat} {f : Nat → Int32} (C : ze_C G cc Ts own rm nL) (hk : k < n) (hE : E k = .inl (ze_i G 1, len, .inl f)) (hi : i < len) (hlen : len < 2 ^ 31) (d : decode cc pc = .ok (.baload, 1)) (kk : ze_V G n ad E cells slots (pc + 1) lv (.int (f i) :: st)) : ze_V G n ad E cells slots pc lv (.int (nI i) :: .ref (ad k) :: st) := by
  intro H locs ls hP hD hS hl
  refine va_zald (D := ze_D G) C.x C.b C.K hP k 1 (ze_w_eq hk hE) rfl (vp_in_nI hi hlen) d ?_
  rw [nI_clamp (Nat.lt_trans hi hlen)]
  exact kk H locs ls hP hD hS hl
theorem ze_zast {k len i : Nat} {f : Nat → Int32} {x : Int32} (C : ze_C G cc Ts own rm nL) (hk : k < n) (hE : E k = .inl (ze_i G 1, len, .inl f)) (hi : i < len) (hlen : len < 2 ^ 31) (hx : vp_nar .boolean x = x) (d : decode cc pc = .ok (.bastore, 1)) (kk : ze_V G n ad (va_up E k (.inl (ze_i G 1, len, .inl (upd f i x)))) cells slots (pc + 1) lv st) : ze_V G n ad E cells slots pc lv (.int x :: .int (nI i) :: .ref (ad k) :: st) := by
  intro H locs ls hP hD hS hl
  refine va_zast (D := ze_D G) C.x C.b C.K hP hD hS k 1 (ze_w_eq hk hE) rfl (vp_in_nI hi hlen) d (fun H1 locs1 hP1 hD1 hS1 => ?_)
  rw [nI_clamp (Nat.lt_trans hi hlen), hx, ze_w_set hk] at hP1 hD1
  exact kk H1 locs1 ls hP1 hD1 hS1 hl
theorem ze_aald {k len i a : Nat} {f : Nat → Option Nat} (C : ze_C G cc Ts own rm nL) (hk : k < n) (hE : E k = .inl (ze_i G 2, len, .inr (.inr (.inr (.inr f))))) (hi : i < len) (hlen : len < 2 ^ 31) (ha : f i = some a) (d : decode cc pc = .ok (.aaload, 1)) (kk : ze_V G n ad E cells slots (pc + 1) lv (.ref a :: st)) : ze_V G n ad E cells slots pc lv (.int (nI i) :: .ref (ad k) :: st) := by
  intro H locs ls hP hD hS hl
  refine va_aldq (D := ze_D G) C.x C.b C.K hP k 2 (ze_w_eq hk hE) rfl (vp_in_nI hi hlen) d ?_
  rw [nI_clamp (Nat.lt_trans hi hlen), ha]
  exact kk H locs ls hP hD hS hl
theorem ze_aast {k len i q ci : Nat} {f : Nat → Option Nat} {vs : List Value} {T : u_T} {N : Nat} (C : ze_C G cc Ts own rm nL) (hk : k < n) (hE : E k = .inl (ze_i G 2, len, .inr (.inr (.inr (.inr f))))) (hi : i < len) (hlen : len < 2 ^ 31) (hq : q < n) (hEq : E q = .inr (ci, vs)) (hc : vwCl[ci]? = some (ze_RT, T, N)) (d : decode cc pc = .ok (.aastore, 1)) (kk : ze_V G n ad (va_up E k (.inl (ze_i G 2, len, .inr (.inr (.inr (.inr (va_up f i (some (ad q))))))))) cells slots (pc + 1) lv st) : ze_V G n ad E cells slots pc lv (.ref (ad q) :: .int (nI i) :: .ref (ad k) :: st) := by
  intro H locs ls hP hD hS hl
  refine va_astq (D := ze_D G) (r := (ze_RT, T, N)) C.x C.b C.K hP hD hS k 2 q ci (ze_w_eq hk hE) rfl (ze_w_eq hq hEq) hc (vp_in_nI hi hlen) d (fun H1 locs1 hP1 hD1 hS1 => ?_)
  rw [nI_clamp (Nat.lt_trans hi hlen), ze_w_set hk] at hP1 hD1
  exact kk H1 locs1 ls hP1 hD1 hS1 hl
theorem ze_copy {k0 k1 n0 n1 sp dp len idx : Nat} {f g : Nat → Int32} (C : ze_C G cc Ts own rm nL) (h1 : Cond.methodLink own idx arraycopyName ∈ Ts) (h2 : Cond.native arraycopyName ∈ Ts) (h3 : Cond.static arraycopyName ∈ Ts) (h4 : Cond.initialized "java/lang/System" ∈ Ts) (hk0 : k0 < n) (hk1 : k1 < n) (hE0 : E k0 = .inl (ze_i G 0, n0, .inl f)) (hE1 : E k1 = .inl (ze_i G 0, n1, .inl g)) (b0 : sp + len ≤ n0) (b1 : dp + len ≤ n1) (l0 : n0 < 2 ^ 31) (l1 : n1 < 2 ^ 31) (hf : 1 ≤ rm.frames) (hlo : (st.map fun v => v.category).sum + (nativeFrameWords "java/lang/System" "arraycopy" 5 + 11) ≤ rm.locals) (d : decode cc pc = .ok (.invokestatic idx, 3)) (kk : ze_V G n ad (va_up E k1 (.inl (ze_i G 0, n1, .inl (va_cpy f g sp dp len)))) cells slots (pc + 3) lv st) : ze_V G n ad E cells slots pc lv (.int (nI len) :: .int (nI dp) :: .ref (ad k1) :: .int (nI sp) :: .ref (ad k0) :: st) := by
  intro H locs ls hP hD hS hl
  have hR := C.R
  have c1 : (nI sp).toNatClampNeg = sp := nI_clamp (by omega)
  have c2 : (nI dp).toNatClampNeg = dp := nI_clamp (by omega)
  have c3 : (nI len).toNatClampNeg = len := nI_clamp (by omega)
  refine va_copyi (D := ze_D G) C.x C.b (C.ml.trans hl.1.symm) C.ow (C.ts _ h1) (C.ts _ h2) (C.ts _ h3) (C.ts _ h4) C.K hP hD hS k0 k1 0 0 (ze_w_eq hk0 hE0) (ze_w_eq hk1 hE1) rfl rfl rfl (nI_pos (by omega)) (nI_pos (by omega)) (nI_pos (by omega)) (by rw [c1, c3]; exact b0) (by rw [c2, c3]; exact b1) (fun i _ => rfl) (by rw [hR]; exact hf) (by rw [hR]; exact hlo) d (fun H1 locs1 hP1 hD1 hS1 => ?_)
  rw [c1, c2, c3, ze_w_set hk1] at hP1 hD1
  exact kk H1 locs1 ls hP1 hD1 hS1 hl
theorem ze_cont {H : Heap} {locs : List Loc} {ls : Array Slot} {st0 rest : List Value} {a : Array Value} {po : ze_Po} (hr : va_Run (ze_p G) (ze_l G) (ze_e G) (ze_R G) (ze_s G) (ze_m G) (ze_a G) (ze_b G) (ze_me G) (ze_c G) H locs cells slots mc ms (F0 (ze_m G) pc ls st0) rest (ze_Qc (ze_D G) (ze_i G) (ze_Af n ad H.size) po a) (ze_Af n ad H.size))
    (hD : va_D (ze_A G) (ze_w n ad E)) (hA : ∀ q, (ze_s G).heap.size ≤ q → ze_A G q) (hS : va_S (ze_A G) (ze_s G).heap H locs) (hl : lv_has ls (ze_nL G) lv)
    (kk : ∀ (v : Option Value) (n' : Nat) (ad' : Nat → Nat) (E' : Nat → va_E), po v n' ad' E' → ze_V G n' ad' E' (cells + mc) (slots + ms) (pc + 3) lv (v.toList ++ rest)) :
    W (ze_p G) (ze_l G) (ze_e G) (ze_R G) (ze_s G) (ze_m G) (ze_a G) (ze_b G) (ze_me G) (ze_c G) H locs cells slots (ze_Q G) (F0 (ze_m G) pc ls st0) := by
  intro T hT X
  obtain ⟨v, st₀, t, T', L, h0, X', hL, e1, e2, ⟨⟨v', n', ad', E', hv, hp, hP', hK', hD'⟩, hz, hk⟩, st⟩ := hr T hT X
  cases hv
  rw [h0] at hz hk
  have sub : ∀ q, ze_Af n ad H.size q → ze_A G q := by
    intro q hq
    rcases hq with ⟨k, h1, rfl⟩ | h
    · exact hD.2 k _ (ze_w_get h1)
    · exact hA q (Nat.le_trans hS.1 h)
  obtain ⟨t2, a1, b1⟩ := kk v n' ad' E' hp T'.heap (locs ++ L) ls (by rw [e1]; exact hP') (hD'.weaken (fun k q _ h => sub q.1 h))
    ⟨Nat.le_trans hS.1 (by rw [e1]; exact hz), fun q h1 h2 => by
      rw [e1, hk q (Nat.lt_of_lt_of_le h1 hS.1) (fun z => h2 (sub q z))]
      exact hS.2.1 q h1 h2, fun q hq => by
      rcases List.mem_append.mp hq with h | h
      · exact hS.2.2 q h
      · exact sub _ (hL q h)⟩ hl T' rfl X'
  exact ⟨t2, st t2 a1, b1⟩
theorem ze_blind {D : va_G} {ids : Nat → ClassId} {av : List Value} {sz : Nat} : FrameBlind (va_Pc av (fun U => U.heap.size = sz ∧ va_P D vwCl (ze_w n ad E) U.heap ∧ va_K D vwCl (ze_ty ids) U ∧ va_D (fun _ => True) (ze_w n ad E) ∧ ze_N U)) := fun a U g mk q => by
  obtain ⟨q0, q1, qP, qK, qD, qN⟩ := q
  exact ⟨q0, q1, qP, va_K.moved (u := U) (U := U.calling g mk a) (Vm.Alike.refl U.vm) qK, qD, ze_N.same (u := U) (U := U.calling g mk a) rfl qN⟩
theorem ze_norm {c2 s2 : Nat} {st' : List Value} (h1 : cells = c2) (h2 : slots = s2) (h3 : st = st') (k : ze_V G n ad E c2 s2 pc lv st') : ze_V G n ad E cells slots pc lv st := by subst h1; subst h2; subst h3; exact k
/-- an invokevirtual's words and room -/
def ze_Kv (Ts : List Cond) (own : String) (idx : Nat) (y : MethodName) (ws : List Cond) (rm rm' : Room) (ci na : Nat) : Prop := ∃ (bytes : ByteArray) (maxL : Nat) (ret : Option FieldType) (ws' : List Cond) (Cn : String) (T : u_T) (N : Nat), GoodIn Ts (wsV own idx Cn y ws) ∧ ws = Cond.code y bytes maxL ret :: ws' ∧ (y.cls = Cn ∧ y.cls ≠ "java/lang/invoke/MethodHandle" ∧ y.cls ≠ "java/lang/invoke/VarHandle" ∧ (parseMethodDescriptor y.desc).map (fun d => d.parameters.length) = some na) ∧ (rm'.frames + 1 ≤ rm.frames ∧ 8 + (maxL + 11) + rm'.locals ≤ rm.locals) ∧ vwCl[ci]? = some (Cn, T, N)
theorem ze_callV {y : MethodName} {ws : List Cond} {rm' : Room} {idx k ci : Nat} {fs As : List Value} {po : ze_Po} {stk : List Value} (C : ze_C G cc Ts own rm nL) (M : ze_M (ze_l G) (ze_D G) (ze_i G) y ws rm' rm'.cells rm'.slots n ad E (.ref (ad k) :: As) po) (hK : ze_Kv Ts own idx y ws rm rm' ci As.length) (hk : k < n) (hE : E k = .inr (ci, fs)) (hstk : stk = As.reverse ++ .ref (ad k) :: st) (hsum : (st.map fun v => v.category).sum ≤ 8) (hcs : cells + rm'.cells ≤ rm.cells ∧ slots + rm'.slots ≤ rm.slots) (d : decode cc pc = .ok (.invokevirtual idx, 3))
    (kk : ∀ (v : Option Value) (n' : Nat) (ad' : Nat → Nat) (E' : Nat → va_E), po v n' ad' E' → ze_V G n' ad' E' (cells + rm'.cells) (slots + rm'.slots) (pc + 3) lv (v.toList ++ st)) : ze_V G n ad E cells slots pc lv stk := by
  intro H locs ls hP hD hS hl
  obtain ⟨bytes, maxL, ret, ws', Cn, T, N, h1, h2, h3, h4, h5⟩ := hK
  have hR := C.R
  refine ze_cont (va_runV (As := As) (rest := st) (C := Cn) (b := ad k) ⟨C.x, C.b, C.ml, C.ow, C.ts⟩ (M H.size) (cwV As.length C.ts h1 h2 rfl rfl h3 (by rw [hR]; exact h4)) ⟨ze_blind, va_recv C.K hP h5 (ze_w_eq hk hE), fun U hU hW => ⟨rfl, by rw [hU], by rw [hU]; exact hP, va_K.moved hW.alike C.K, hD.weaken (fun _ _ _ _ => trivial), C.N.warm hW⟩⟩ rfl rfl hl.1 (by exact hstk) (lv_room hsum) d (by rw [hR]; exact hcs)) hD C.A hS hl kk
/-- an invokestatic's words and room -/
def ze_Ks (Ts : List Cond) (own : String) (idx : Nat) (y : MethodName) (ws : List Cond) (rm rm' : Room) (na : Nat) : Prop := ∃ (bytes : ByteArray) (maxL : Nat) (ret : Option FieldType) (ws' : List Cond), GoodIn Ts (va_wsS own idx y ws) ∧ ws = Cond.code y bytes maxL ret :: ws' ∧ (y.cls ≠ "java/lang/invoke/MethodHandle" ∧ y.cls ≠ "java/lang/invoke/VarHandle" ∧ (parseMethodDescriptor y.desc).map (fun d => d.parameters.length) = some na) ∧ (rm'.frames + 1 ≤ rm.frames ∧ 8 + (maxL + 11) + rm'.locals ≤ rm.locals)
theorem ze_callS {y : MethodName} {ws : List Cond} {rm' : Room} {idx : Nat} {As : List Value} {po : ze_Po} {stk : List Value} (C : ze_C G cc Ts own rm nL) (M : ze_M (ze_l G) (ze_D G) (ze_i G) y ws rm' rm'.cells rm'.slots n ad E As po) (hK : ze_Ks Ts own idx y ws rm rm' As.length) (hstk : stk = As.reverse ++ st) (hsum : (st.map fun v => v.category).sum ≤ 8) (hcs : cells + rm'.cells ≤ rm.cells ∧ slots + rm'.slots ≤ rm.slots) (d : decode cc pc = .ok (.invokestatic idx, 3))
    (kk : ∀ (v : Option Value) (n' : Nat) (ad' : Nat → Nat) (E' : Nat → va_E), po v n' ad' E' → ze_V G n' ad' E' (cells + rm'.cells) (slots + rm'.slots) (pc + 3) lv (v.toList ++ st)) : ze_V G n ad E cells slots pc lv stk := by
  intro H locs ls hP hD hS hl
  obtain ⟨bytes, maxL, ret, ws', h1, h2, h3, h4⟩ := hK
  have hR := C.R
  refine ze_cont (va_runS (As := As) (rest := st) ⟨C.x, C.b, C.ml, C.ow, C.ts⟩ (M H.size) (va_cwS As.length C.ts h1 h2 rfl rfl h3 (by rw [hR]; exact h4)) ⟨ze_blind, fun U hU hW => ⟨rfl, by rw [hU], by rw [hU]; exact hP, va_K.moved hW.alike C.K, hD.weaken (fun _ _ _ _ => trivial), C.N.warm hW⟩⟩ rfl rfl hl.1 (by exact hstk) (lv_room hsum) d (by rw [hR]; exact hcs)) hD C.A hS hl kk
/-- a private static method of a nest mate -/
def ze_Kn (Ts : List Cond) (y : MethodName) (ws : List Cond) (rm rm' : Room) (na : Nat) : Prop := ∃ (bytes : ByteArray) (maxL : Nat) (ret : Option FieldType) (ws' : List Cond), GoodIn Ts ws ∧ ws = Cond.code y bytes maxL ret :: ws' ∧ Cond.initialized y.cls ∈ Ts ∧ Cond.static y ∈ Ts ∧ (y.cls ≠ "java/lang/invoke/MethodHandle" ∧ y.cls ≠ "java/lang/invoke/VarHandle" ∧ (parseMethodDescriptor y.desc).map (fun d => d.parameters.length) = some na) ∧ (rm'.frames + 1 ≤ rm.frames ∧ 8 + (maxL + 11) + rm'.locals ≤ rm.locals)
theorem ze_callSN {y : MethodName} {ws : List Cond} {rm' : Room} {idx : Nat} {host : String} {As : List Value} {po : ze_Po} {stk : List Value} (C : ze_C G cc Ts own rm nL) (hN : va_Nw (.methodLinkNest own idx y host) (ze_s G)) (M : ze_M (ze_l G) (ze_D G) (ze_i G) y ws rm' rm'.cells rm'.slots n ad E As po) (hK : ze_Kn Ts y ws rm rm' As.length) (hstk : stk = As.reverse ++ st) (hsum : (st.map fun v => v.category).sum ≤ 8) (hcs : cells + rm'.cells ≤ rm.cells ∧ slots + rm'.slots ≤ rm.slots) (d : decode cc pc = .ok (.invokestatic idx, 3))
    (kk : ∀ (v : Option Value) (n' : Nat) (ad' : Nat → Nat) (E' : Nat → va_E), po v n' ad' E' → ze_V G n' ad' E' (cells + rm'.cells) (slots + rm'.slots) (pc + 3) lv (v.toList ++ st)) : ze_V G n ad E cells slots pc lv stk := by
  intro H locs ls hP hD hS hl
  obtain ⟨bytes, maxL, ret, ws', h1, h2, h3, h4, h5, h6⟩ := hK
  have hR := C.R
  refine ze_cont (va_runSN (As := As) (rest := st) (host := host) ⟨C.x, C.b, C.ml, C.ow, C.ts⟩ (M H.size) ⟨va_cnB As.length C.ts h1 h2 rfl rfl hN (C.ts _ h3) h5 (by rw [hR]; exact h6), C.ts _ h4, trivial⟩ ⟨ze_blind, fun U hU hW => ⟨rfl, by rw [hU], by rw [hU]; exact hP, va_K.moved hW.alike C.K, hD.weaken (fun _ _ _ _ => trivial), C.N.warm hW⟩⟩ rfl rfl hl.1 (by exact hstk) (lv_room hsum) d (by rw [hR]; exact hcs)) hD C.A hS hl kk
end ZER
section ZEN
variable {G : ze_G} {cc : ByteArray} {Ts : List Cond} {own : String} {rm : Room} {nL : Nat} {n : Nat} {ad : Nat → Nat} {E : Nat → va_E} {cells slots pc : Nat} {lv : List (Nat × Value)} {st : List Value} {mc ms : Nat} {post : ze_Po}
theorem ze_newi {len : Nat} (C : ze_C G cc Ts own rm nL) (harr : Cond.arrayClass .int ∈ Ts) (hlen : len < 1000) (hc : cells + 1 ≤ rm.cells) (hs : slots + len ≤ rm.slots) (d : decode cc pc = .ok (.newarray .int, 2))
    (kk : ∀ ad' : Nat → Nat, (∀ k, k < n → ad' k = ad k) → ze_V G (n + 1) ad' (va_up E n (.inl (ze_i G 0, len, .inl (fun _ => 0)))) (cells + 1) (slots + len) (pc + 2) lv (.ref (ad' n) :: st)) : ze_V G n ad E cells slots pc lv (.int (nI len) :: st) := by
  intro H locs ls hP hD hS hl
  have hR := C.R
  refine va_newa (D := ze_D G) C.x C.b (atype := .int) (C.ts _ harr) (ty := .int) rfl C.K hP hD hS C.A (n := nI len) (N' := len) (a0 := (len, .inl (fun _ => 0))) (fun cA => rfl) (nI_pos (by omega)) (nI_clamp (by omega)) (by show len * 4 ≤ 536870912; omega) (by rw [hR]; exact hc) (by rw [hR]; exact hs) d (fun q cA H1 hK1 hP1 hD1 hS1 => ?_)
  have e : cA = ze_i G 0 := by
    have h1 := (hK1.2 3 (cA, .int) rfl).2
    have h2 := (C.K.2 0 (ze_i G 0, .int) rfl).2
    exact Option.some.inj (h1.symm.trans h2)
  subst e
  rw [ze_w_push] at hP1 hD1
  have h := kk (va_up ad n q) (fun k hk => va_up_ne _ _ (by omega)) H1 locs ls hP1 hD1 hS1 hl
  rw [va_up_self] at h
  exact h
theorem ze_newz {len : Nat} (C : ze_C G cc Ts own rm nL) (harr : Cond.arrayClass .boolean ∈ Ts) (hlen : len < 1000) (hc : cells + 1 ≤ rm.cells) (hs : slots + len ≤ rm.slots) (d : decode cc pc = .ok (.newarray .boolean, 2))
    (kk : ∀ ad' : Nat → Nat, (∀ k, k < n → ad' k = ad k) → ze_V G (n + 1) ad' (va_up E n (.inl (ze_i G 1, len, .inl (fun _ => 0)))) (cells + 1) (slots + len) (pc + 2) lv (.ref (ad' n) :: st)) : ze_V G n ad E cells slots pc lv (.int (nI len) :: st) := by
  intro H locs ls hP hD hS hl
  have hR := C.R
  refine va_newa (D := ze_D G) C.x C.b (atype := .boolean) (C.ts _ harr) (ty := .boolean) rfl C.K hP hD hS C.A (n := nI len) (N' := len) (a0 := (len, .inl (fun _ => 0))) (fun cA => rfl) (nI_pos (by omega)) (nI_clamp (by omega)) (by show len * 1 ≤ 536870912; omega) (by rw [hR]; exact hc) (by rw [hR]; exact hs) d (fun q cA H1 hK1 hP1 hD1 hS1 => ?_)
  have e : cA = ze_i G 1 := by
    have h1 := (hK1.2 3 (cA, .boolean) rfl).2
    have h2 := (C.K.2 1 (ze_i G 1, .boolean) rfl).2
    exact Option.some.inj (h1.symm.trans h2)
  subst e
  rw [ze_w_push] at hP1 hD1
  have h := kk (va_up ad n q) (fun k hk => va_up_ne _ _ (by omega)) H1 locs ls hP1 hD1 hS1 hl
  rw [va_up_self] at h
  exact h
theorem ze_newq {len idx : Nat} (C : ze_C G cc Ts own rm nL) (hcl : Cond.classLink own idx ze_RT ∈ Ts) (hov : va_AO ze_RT (ze_s G)) (hlen : len < 1000) (hc : cells + 1 ≤ rm.cells) (hs : slots + len ≤ rm.slots) (d : decode cc pc = .ok (.anewarray idx, 3))
    (kk : ∀ ad' : Nat → Nat, (∀ k, k < n → ad' k = ad k) → ze_V G (n + 1) ad' (va_up E n (.inl (ze_i G 2, len, .inr (.inr (.inr (.inr (fun _ => none))))))) (cells + 1) (slots + len) (pc + 3) lv (.ref (ad' n) :: st)) : ze_V G n ad E cells slots pc lv (.int (nI len) :: st) := by
  intro H locs ls hP hD hS hl
  have hR := C.R
  refine va_newq (D := ze_D G) C.x C.b C.ow (C.ts _ hcl) hov C.K hP hD hS C.A (n := nI len) (N' := len) (nI_pos (by omega)) (nI_clamp (by omega)) (by omega) (by rw [hR]; exact hc) (by rw [hR]; exact hs) d (fun q cA H1 hK1 hP1 hD1 hS1 => ?_)
  have e : cA = ze_i G 2 := by
    obtain ⟨k1, c1, -, -, -, h1⟩ := (hK1.2 3 (cA, .object ze_RT) rfl).2
    obtain ⟨k2, c2, -, -, -, h2⟩ := (C.K.2 2 (ze_i G 2, .object ze_RT) rfl).2
    exact Option.some.inj (h1.symm.trans h2)
  subst e
  rw [ze_w_push] at hP1 hD1
  have h := kk (va_up ad n q) (fun k hk => va_up_ne _ _ (by omega)) H1 locs ls hP1 hD1 hS1 hl
  rw [va_up_self] at h
  exact h
/-- the words of a new -/
def ze_Fn (Ts : List Cond) (own : String) (idx ci : Nat) (fs : List Value) : Prop := ∃ (C : String) (T : u_T) (N : Nat) (ty : Nat → FieldType), vwCl[ci]? = some (C, T, N) ∧ (∀ w ∈ u_ws C T N, w ∈ Ts) ∧ (∀ k, k < N → parseFieldDescriptor (T k).2.2.1 = some (ty k)) ∧ Cond.classLink own idx C ∈ Ts ∧ Cond.instantiable C N ∈ Ts ∧ Cond.initialized C ∈ Ts ∧ (∀ j, j < N → defaultValue (ty j) = vp_V fs j) ∧ N = fs.length
theorem ze_new {idx ci : Nat} {fs : List Value} (C : ze_C G cc Ts own rm nL) (hF : ze_Fn Ts own idx ci fs) (hc : cells + 1 ≤ rm.cells) (hs : slots + fs.length ≤ rm.slots) (d : decode cc pc = .ok (.new idx, 3))
    (kk : ∀ ad' : Nat → Nat, (∀ k, k < n → ad' k = ad k) → ze_V G (n + 1) ad' (va_up E n (.inr (ci, fs))) (cells + 1) (slots + fs.length) (pc + 3) lv (.ref (ad' n) :: st)) : ze_V G n ad E cells slots pc lv st := by
  intro H locs ls hP hD hS hl
  have hR := C.R
  obtain ⟨Cn, T, N, ty, h1, h2, h3, h4, h5, h6, h7, h8⟩ := hF
  subst h8
  refine va_new (D := ze_D G) C.x C.b C.ts h2 ty h3 C.ow (C.ts _ h4) (C.ts _ h5) (C.ts _ h6) C.K hP hD hS C.A h1 h7 (by rw [hR]; exact hc) (by rw [hR]; exact hs) d (fun q H1 hP1 hD1 hS1 => ?_)
  rw [ze_w_push] at hP1 hD1
  have h := kk (va_up ad n q) (fun k hk => va_up_ne _ _ (by omega)) H1 locs ls hP1 hD1 hS1 hl
  rw [va_up_self] at h
  exact h
theorem ze_objInit {idx k : Nat} (C : ze_C G cc Ts own rm nL) (h1 : Cond.methodLink own idx Lib.objectInit ∈ Ts) (h2 : Cond.instanceMethod Lib.objectInit ∈ Ts) (h3 : Cond.code Lib.objectInit ⟨#[0xb1]⟩ 1 none ∈ Ts) (hf : 1 ≤ rm.frames) (hlo : (st.map fun v => v.category).sum + 12 ≤ rm.locals) (d : decode cc pc = .ok (.invokespecial idx, 3)) (kk : ze_V G n ad E cells slots (pc + 3) lv st) : ze_V G n ad E cells slots pc lv (.ref (ad k) :: st) := by
  intro H locs ls hP hD hS hl
  have hR := C.R
  refine W.objInit C.x C.b C.ow (C.ts _ h1) (C.ts _ h2) (C.ts _ h3) rfl (by rw [C.ml]; exact hl.1) rfl d (by rw [hR]; exact hf) ?_ ?_
  · rw [hR]
    have : (F0 (ze_m G) pc ls (.ref (ad k) :: st)).monitorRoom = 0 := rfl
    rw [this]
    omega
  · exact kk H locs ls hP hD hS hl
/-- a constructor: of a class (methodLink), or private to a nest mate (methodLinkNest) -/
def ze_Ki (Ts : List Cond) (own : String) (idx : Nat) (y : MethodName) (ws : List Cond) (rm rm' : Room) (na : Nat) : Prop := ∃ (bytes : ByteArray) (maxL : Nat) (ws' : List Cond), GoodIn Ts ws ∧ ws = Cond.code y bytes maxL none :: ws' ∧ Cond.initialized y.cls ∈ Ts ∧ Cond.methodLink own idx y ∈ Ts ∧ Cond.instanceMethod y ∈ Ts ∧ y.name = "<init>" ∧ (y.cls ≠ "java/lang/invoke/MethodHandle" ∧ y.cls ≠ "java/lang/invoke/VarHandle" ∧ (parseMethodDescriptor y.desc).map (fun d => d.parameters.length) = some na) ∧ (rm'.frames + 1 ≤ rm.frames ∧ 8 + (maxL + 11) + rm'.locals ≤ rm.locals)
theorem ze_callI {y : MethodName} {ws : List Cond} {rm' : Room} {idx k : Nat} {As : List Value} {po : ze_Po} {stk : List Value} (C : ze_C G cc Ts own rm nL) (M : ze_M (ze_l G) (ze_D G) (ze_i G) y ws rm' rm'.cells rm'.slots n ad E (.ref (ad k) :: As) po) (hK : ze_Ki Ts own idx y ws rm rm' As.length) (hstk : stk = As.reverse ++ .ref (ad k) :: st) (hsum : (st.map fun v => v.category).sum ≤ 8) (hcs : cells + rm'.cells ≤ rm.cells ∧ slots + rm'.slots ≤ rm.slots) (d : decode cc pc = .ok (.invokespecial idx, 3))
    (kk : ∀ (v : Option Value) (n' : Nat) (ad' : Nat → Nat) (E' : Nat → va_E), po v n' ad' E' → ze_V G n' ad' E' (cells + rm'.cells) (slots + rm'.slots) (pc + 3) lv (v.toList ++ st)) : ze_V G n ad E cells slots pc lv stk := by
  intro H locs ls hP hD hS hl
  obtain ⟨bytes, maxL, ws', h1, h2, h3, h4, h5, h6, h7, h8⟩ := hK
  have hR := C.R
  refine ze_cont (va_runI (As := As) (rest := st) (b := ad k) ⟨C.x, C.b, C.ml, C.ow, C.ts⟩ (M H.size) (cwI As.length C.ts h1 h2 rfl rfl (C.ts _ h3) (C.ts _ h4) (C.ts _ h5) h6 h7 (by rw [hR]; exact h8)) ⟨ze_blind, fun U hU hW => ⟨rfl, by rw [hU], by rw [hU]; exact hP, va_K.moved hW.alike C.K, hD.weaken (fun _ _ _ _ => trivial), C.N.warm hW⟩⟩ rfl rfl hl.1 (by exact hstk) (lv_room hsum) d (by rw [hR]; exact hcs)) hD C.A hS hl kk
def ze_Kj (Ts : List Cond) (y : MethodName) (ws : List Cond) (rm rm' : Room) (na : Nat) : Prop := ∃ (bytes : ByteArray) (maxL : Nat) (ws' : List Cond), GoodIn Ts ws ∧ ws = Cond.code y bytes maxL none :: ws' ∧ Cond.initialized y.cls ∈ Ts ∧ Cond.instanceMethod y ∈ Ts ∧ y.name = "<init>" ∧ (y.cls ≠ "java/lang/invoke/MethodHandle" ∧ y.cls ≠ "java/lang/invoke/VarHandle" ∧ (parseMethodDescriptor y.desc).map (fun d => d.parameters.length) = some na) ∧ (rm'.frames + 1 ≤ rm.frames ∧ 8 + (maxL + 11) + rm'.locals ≤ rm.locals)
theorem ze_callIN {y : MethodName} {ws : List Cond} {rm' : Room} {idx k : Nat} {host : String} {As : List Value} {po : ze_Po} {stk : List Value} (C : ze_C G cc Ts own rm nL) (hN : va_Nw (.methodLinkNest own idx y host) (ze_s G)) (M : ze_M (ze_l G) (ze_D G) (ze_i G) y ws rm' rm'.cells rm'.slots n ad E (.ref (ad k) :: As) po) (hK : ze_Kj Ts y ws rm rm' As.length) (hstk : stk = As.reverse ++ .ref (ad k) :: st) (hsum : (st.map fun v => v.category).sum ≤ 8) (hcs : cells + rm'.cells ≤ rm.cells ∧ slots + rm'.slots ≤ rm.slots) (d : decode cc pc = .ok (.invokespecial idx, 3))
    (kk : ∀ (v : Option Value) (n' : Nat) (ad' : Nat → Nat) (E' : Nat → va_E), po v n' ad' E' → ze_V G n' ad' E' (cells + rm'.cells) (slots + rm'.slots) (pc + 3) lv (v.toList ++ st)) : ze_V G n ad E cells slots pc lv stk := by
  intro H locs ls hP hD hS hl
  obtain ⟨bytes, maxL, ws', h1, h2, h3, h5, h6, h7, h8⟩ := hK
  have hR := C.R
  refine ze_cont (va_runIN (As := As) (rest := st) (b := ad k) (host := host) ⟨C.x, C.b, C.ml, C.ow, C.ts⟩ (M H.size) ⟨va_cnB As.length C.ts h1 h2 rfl rfl hN (C.ts _ h3) h7 (by rw [hR]; exact h8), h6, C.ts _ h5⟩ ⟨ze_blind, fun U hU hW => ⟨rfl, by rw [hU], by rw [hU]; exact hP, va_K.moved hW.alike C.K, hD.weaken (fun _ _ _ _ => trivial), C.N.warm hW⟩⟩ rfl rfl hl.1 (by exact hstk) (lv_room hsum) d (by rw [hR]; exact hcs)) hD C.A hS hl kk
end ZEN
end
section
/-! THE STATE of class and reference, and the 48 cells that hold it: 0 the executor, 1 its tables, 2 held, 3 + 3 i the table i (0..7 the slots, 8 input, 9 workA, 10 workB, 11 spare) with its keys and values behind it; 39 the reference, 40.. its arrays. -/
abbrev ze_T : Type := (Nat → Int32) × (Nat → Int32) × Nat × Bool
abbrev ze_XS : Type := Nat × (Nat → ze_T) × (Nat → Bool) × Int64
/-- memory, moved, typed, made, cost, level; the arrays typedKey, typedValue, count, keys, values, madeKey, madeValue, path -/
abbrev ze_MS : Type := Nat × Int64 × Nat × Nat × Nat × Nat × (Nat → Nat → Int32)
def ze_bi (b : Bool) : Int32 := if b then 1 else 0
def ze_ct (ids : Nat → ClassId) (ad : Nat → Nat) (i : Nat) (t : ze_T) (r : Nat) : va_E :=
  if r = 0 then .inr (ze_kT, [.ref (ad (4 + 3 * i)), .ref (ad (5 + 3 * i)), .int (nI t.2.2.1), .int (ze_bi t.2.2.2)])
  else if r = 1 then .inl (ids 0, 60, .inl t.1) else .inl (ids 0, 60, .inl t.2.1)
def ze_EX (ids : Nat → ClassId) (ad : Nat → Nat) (x : ze_XS) (k : Nat) : va_E :=
  if k = 0 then .inr (ze_kX, [.int (nI x.1), .ref (ad 1), .ref (ad 2), .ref (ad 27), .ref (ad 30), .ref (ad 33), .ref (ad 36), .long x.2.2.2])
  else if k = 1 then .inl (ids 2, 8, .inr (.inr (.inr (.inr (fun j => some (ad (3 + 3 * j)))))))
  else if k = 2 then .inl (ids 1, 8, .inl (fun j => ze_bi (x.2.2.1 j)))
  else ze_ct ids ad (k / 3 - 1) (x.2.1 (k / 3 - 1)) (k % 3)
def ze_al (j : Nat) : Nat := if j = 2 then 8 else if j = 3 then 480 else if j = 4 then 480 else if j = 7 then 3 else 60
def ze_EM (ids : Nat → ClassId) (ad : Nat → Nat) (x : ze_MS) (k : Nat) : va_E :=
  if k = 39 then .inr (ze_kM, [.int (nI x.1), .long x.2.1, .int (nI x.2.2.1), .ref (ad 40), .ref (ad 41), .ref (ad 42), .ref (ad 43), .ref (ad 44), .int (nI x.2.2.2.1), .ref (ad 45), .ref (ad 46), .long (lN x.2.2.2.2.1), .int (nI x.2.2.2.2.2.1), .ref (ad 47)])
  else .inl (ids 0, ze_al (k - 40), .inl (x.2.2.2.2.2.2 (k - 40)))
def ze_E (ids : Nat → ClassId) (ad : Nat → Nat) (x : ze_XS) (ms : ze_MS) : Nat → va_E := fun k => if k < 39 then ze_EX ids ad x k else ze_EM ids ad ms k
section ZES
variable {ids : Nat → ClassId} {ad : Nat → Nat} {x : ze_XS} {ms : ze_MS} {M : Nat} {T : Nat → ze_T} {hd : Nat → Bool} {mv : Int64}
theorem ze_E_x : ze_E ids ad (M, T, hd, mv) ms 0 = .inr (ze_kX, [.int (nI M), .ref (ad 1), .ref (ad 2), .ref (ad 27), .ref (ad 30), .ref (ad 33), .ref (ad 36), .long mv]) := rfl
theorem ze_E_tabs : ze_E ids ad x ms 1 = .inl (ids 2, 8, .inr (.inr (.inr (.inr (fun j => some (ad (3 + 3 * j))))))) := rfl
theorem ze_E_held : ze_E ids ad (M, T, hd, mv) ms 2 = .inl (ids 1, 8, .inl (fun j => ze_bi (hd j))) := rfl
theorem ze_E_ct {i r : Nat} (hi : i < 12) (hr : r < 3) : ze_E ids ad x ms (3 + 3 * i + r) = ze_ct ids ad i (x.2.1 i) r := by
  have h1 : 3 + 3 * i + r < 39 := by omega
  have h2 : (3 + 3 * i + r) / 3 - 1 = i := by omega
  have h3 : (3 + 3 * i + r) % 3 = r := by omega
  have n0 : ¬ 3 + 3 * i + r = 0 := by omega
  have n1 : ¬ 3 + 3 * i + r = 1 := by omega
  have n2 : ¬ 3 + 3 * i + r = 2 := by omega
  simp only [ze_E, ze_EX, h1, if_true, n0, n1, n2, if_false, h2, h3]
theorem ze_E_t {i : Nat} (hi : i < 12) : ze_E ids ad (M, T, hd, mv) ms (3 + 3 * i) = .inr (ze_kT, [.ref (ad (4 + 3 * i)), .ref (ad (5 + 3 * i)), .int (nI (T i).2.2.1), .int (ze_bi (T i).2.2.2)]) := ze_E_ct (r := 0) hi (by decide)
theorem ze_E_k {i : Nat} (hi : i < 12) : ze_E ids ad (M, T, hd, mv) ms (4 + 3 * i) = .inl (ids 0, 60, .inl (T i).1) := by
  have h := ze_E_ct (ids := ids) (ad := ad) (x := (M, T, hd, mv)) (ms := ms) (r := 1) hi (by decide)
  rw [show 3 + 3 * i + 1 = 4 + 3 * i by omega] at h
  exact h
theorem ze_E_v {i : Nat} (hi : i < 12) : ze_E ids ad (M, T, hd, mv) ms (5 + 3 * i) = .inl (ids 0, 60, .inl (T i).2.1) := by
  have h := ze_E_ct (ids := ids) (ad := ad) (x := (M, T, hd, mv)) (ms := ms) (r := 2) hi (by decide)
  rw [show 3 + 3 * i + 2 = 5 + 3 * i by omega] at h
  exact h
theorem ze_E_m {mem : Nat} {mvd : Int64} {ty ma co le : Nat} {Ar : Nat → Nat → Int32} : ze_E ids ad x (mem, mvd, ty, ma, co, le, Ar) 39 = .inr (ze_kM, [.int (nI mem), .long mvd, .int (nI ty), .ref (ad 40), .ref (ad 41), .ref (ad 42), .ref (ad 43), .ref (ad 44), .int (nI ma), .ref (ad 45), .ref (ad 46), .long (lN co), .int (nI le), .ref (ad 47)]) := rfl
theorem ze_E_a {j : Nat} {mem : Nat} {mvd : Int64} {ty ma co le : Nat} {Ar : Nat → Nat → Int32} : ze_E ids ad x (mem, mvd, ty, ma, co, le, Ar) (40 + j) = .inl (ids 0, ze_al j, .inl (Ar j)) := by
  have h1 : ¬ 40 + j < 39 := by omega
  have h2 : ¬ 40 + j = 39 := by omega
  have h3 : 40 + j - 40 = j := by omega
  simp only [ze_E, ze_EM, h1, h2, if_false, h3]
theorem ze_up_ct {i r : Nat} {t : ze_T} {e : va_E} (hi : i < 12) (hr : r < 3) (he : e = ze_ct ids ad i t r) (ho : ∀ q, q < 3 → q ≠ r → ze_ct ids ad i t q = ze_ct ids ad i (T i) q) : va_up (ze_E ids ad (M, T, hd, mv) ms) (3 + 3 * i + r) e = ze_E ids ad (M, va_up T i t, hd, mv) ms := by
  funext k
  by_cases hk : k = 3 + 3 * i + r
  · subst hk
    rw [va_up_self, ze_E_ct hi hr, he]
    simp only [va_up_self]
  · rw [va_up_ne _ _ hk]
    by_cases h39 : k < 39
    · by_cases h3 : k < 3
      · have : k = 0 ∨ k = 1 ∨ k = 2 := by omega
        rcases this with rfl | rfl | rfl <;> rfl
      · by_cases hki : k / 3 - 1 = i
        · have e1 : k = 3 + 3 * i + k % 3 := by omega
          have hq : k % 3 < 3 := Nat.mod_lt _ (by decide)
          generalize k % 3 = q at e1 hq
          subst e1
          rw [ze_E_ct hi hq, ze_E_ct hi hq]
          simp only [va_up_self]
          exact (ho q hq (by omega)).symm
        · have n0 : ¬ k = 0 := by omega
          have n1 : ¬ k = 1 := by omega
          have n2 : ¬ k = 2 := by omega
          simp only [ze_E, ze_EX, h39, if_true, n0, n1, n2, if_false, va_up_ne _ _ hki]
    · simp only [ze_E, h39, if_false]
theorem ze_up_k {i : Nat} {f : Nat → Int32} (hi : i < 12) : va_up (ze_E ids ad (M, T, hd, mv) ms) (4 + 3 * i) (.inl (ids 0, 60, .inl f)) = ze_E ids ad (M, va_up T i (f, (T i).2), hd, mv) ms := by
  have h := ze_up_ct (ids := ids) (ad := ad) (M := M) (T := T) (hd := hd) (mv := mv) (ms := ms) (r := 1) (t := (f, (T i).2)) (e := .inl (ids 0, 60, .inl f)) hi (by decide) rfl (fun q hq hn => by
    have : q = 0 ∨ q = 2 := by omega
    rcases this with rfl | rfl <;> rfl)
  rw [show 3 + 3 * i + 1 = 4 + 3 * i by omega] at h
  exact h
theorem ze_up_v {i : Nat} {f : Nat → Int32} (hi : i < 12) : va_up (ze_E ids ad (M, T, hd, mv) ms) (5 + 3 * i) (.inl (ids 0, 60, .inl f)) = ze_E ids ad (M, va_up T i ((T i).1, f, (T i).2.2), hd, mv) ms := by
  have h := ze_up_ct (ids := ids) (ad := ad) (M := M) (T := T) (hd := hd) (mv := mv) (ms := ms) (r := 2) (t := ((T i).1, f, (T i).2.2)) (e := .inl (ids 0, 60, .inl f)) hi (by decide) rfl (fun q hq hn => by
    have : q = 0 ∨ q = 1 := by omega
    rcases this with rfl | rfl <;> rfl)
  rw [show 3 + 3 * i + 2 = 5 + 3 * i by omega] at h
  exact h
theorem ze_up_t {i n : Nat} {o : Bool} (hi : i < 12) : va_up (ze_E ids ad (M, T, hd, mv) ms) (3 + 3 * i) (.inr (ze_kT, [.ref (ad (4 + 3 * i)), .ref (ad (5 + 3 * i)), .int (nI n), .int (ze_bi o)])) = ze_E ids ad (M, va_up T i ((T i).1, (T i).2.1, n, o), hd, mv) ms :=
  ze_up_ct (r := 0) (t := ((T i).1, (T i).2.1, n, o)) hi (by decide) rfl (fun q hq hn => by
    have : q = 1 ∨ q = 2 := by omega
    rcases this with rfl | rfl <;> rfl)
theorem ze_up_held {f : Nat → Int32} {hd' : Nat → Bool} (hf : f = fun j => ze_bi (hd' j)) : va_up (ze_E ids ad (M, T, hd, mv) ms) 2 (.inl (ids 1, 8, .inl f)) = ze_E ids ad (M, T, hd', mv) ms := by
  subst hf
  funext k
  by_cases hk : k = 2
  · subst hk; rfl
  · rw [va_up_ne _ _ hk]
    simp only [ze_E, ze_EX, hk, if_false]
theorem ze_up_mv {mv' : Int64} : va_up (ze_E ids ad (M, T, hd, mv) ms) 0 (.inr (ze_kX, [.int (nI M), .ref (ad 1), .ref (ad 2), .ref (ad 27), .ref (ad 30), .ref (ad 33), .ref (ad 36), .long mv'])) = ze_E ids ad (M, T, hd, mv') ms := by
  funext k
  by_cases hk : k = 0
  · subst hk; rfl
  · rw [va_up_ne _ _ hk]
    simp only [ze_E, ze_EX, hk, if_false]
theorem ze_up_m {ms' : ze_MS} {e : va_E} (he : e = ze_EM ids ad ms' 39) (h : ms'.2.2.2.2.2.2 = ms.2.2.2.2.2.2) : va_up (ze_E ids ad x ms) 39 e = ze_E ids ad x ms' := by
  funext k
  by_cases hk : k = 39
  · subst hk; rw [va_up_self, he]; rfl
  · rw [va_up_ne _ _ hk]
    simp only [ze_E, ze_EM, hk, if_false, h]
theorem ze_up_a {j : Nat} {f : Nat → Int32} {mem : Nat} {mvd : Int64} {ty ma co le : Nat} {Ar : Nat → Nat → Int32} : va_up (ze_E ids ad x (mem, mvd, ty, ma, co, le, Ar)) (40 + j) (.inl (ids 0, ze_al j, .inl f)) = ze_E ids ad x (mem, mvd, ty, ma, co, le, va_up Ar j f) := by
  funext k
  by_cases hk : k = 40 + j
  · subst hk; rw [va_up_self, ze_E_a]; simp only [va_up_self]
  · rw [va_up_ne _ _ hk]
    by_cases h39 : k < 39
    · simp only [ze_E, h39, if_true]
    · by_cases h40 : k = 39
      · subst h40; rfl
      · have : k - 40 ≠ j := by omega
        simp only [ze_E, ze_EM, h39, h40, if_false, va_up_ne _ _ this]
theorem ze_up_eta {α : Type} (T : Nat → α) (i : Nat) : va_up T i (T i) = T := by
  funext j
  by_cases h : j = i
  · subst h; rw [va_up_self]
  · rw [va_up_ne _ _ h]
variable {i : Nat} {f g : Nat → Int32} {c : Nat} {o : Bool}
theorem ze_F_t (hi : i < 12) : ze_E ids ad (M, va_up T i (f, g, c, o), hd, mv) ms (3 + 3 * i) = .inr (ze_kT, [.ref (ad (4 + 3 * i)), .ref (ad (5 + 3 * i)), .int (nI c), .int (ze_bi o)]) := by
  rw [ze_E_t hi, va_up_self]
theorem ze_F_k (hi : i < 12) : ze_E ids ad (M, va_up T i (f, g, c, o), hd, mv) ms (4 + 3 * i) = .inl (ids 0, 60, .inl f) := by
  rw [ze_E_k hi, va_up_self]
theorem ze_F_v (hi : i < 12) : ze_E ids ad (M, va_up T i (f, g, c, o), hd, mv) ms (5 + 3 * i) = .inl (ids 0, 60, .inl g) := by
  rw [ze_E_v hi, va_up_self]
theorem ze_O_t {j : Nat} {t : ze_T} (hj : j < 12) (hn : j ≠ i) : ze_E ids ad (M, va_up T i t, hd, mv) ms (3 + 3 * j) = .inr (ze_kT, [.ref (ad (4 + 3 * j)), .ref (ad (5 + 3 * j)), .int (nI (T j).2.2.1), .int (ze_bi (T j).2.2.2)]) := by
  rw [ze_E_t hj, va_up_ne _ _ hn]
theorem ze_O_k {j : Nat} {t : ze_T} (hj : j < 12) (hn : j ≠ i) : ze_E ids ad (M, va_up T i t, hd, mv) ms (4 + 3 * j) = .inl (ids 0, 60, .inl (T j).1) := by
  rw [ze_E_k hj, va_up_ne _ _ hn]
theorem ze_O_v {j : Nat} {t : ze_T} (hj : j < 12) (hn : j ≠ i) : ze_E ids ad (M, va_up T i t, hd, mv) ms (5 + 3 * j) = .inl (ids 0, 60, .inl (T j).2.1) := by
  rw [ze_E_v hj, va_up_ne _ _ hn]
theorem ze_W_t {c' : Nat} {o' : Bool} (hi : i < 12) : va_up (ze_E ids ad (M, va_up T i (f, g, c, o), hd, mv) ms) (3 + 3 * i) (.inr (ze_kT, [.ref (ad (4 + 3 * i)), .ref (ad (5 + 3 * i)), .int (nI c'), .int (ze_bi o')])) = ze_E ids ad (M, va_up T i (f, g, c', o'), hd, mv) ms := by
  rw [ze_up_t hi, va_up_self, bx_uu]
theorem ze_W_k {f' : Nat → Int32} (hi : i < 12) : va_up (ze_E ids ad (M, va_up T i (f, g, c, o), hd, mv) ms) (4 + 3 * i) (.inl (ids 0, 60, .inl f')) = ze_E ids ad (M, va_up T i (f', g, c, o), hd, mv) ms := by
  rw [ze_up_k hi, va_up_self, bx_uu]
theorem ze_W_v {g' : Nat → Int32} (hi : i < 12) : va_up (ze_E ids ad (M, va_up T i (f, g, c, o), hd, mv) ms) (5 + 3 * i) (.inl (ids 0, 60, .inl g')) = ze_E ids ad (M, va_up T i (f, g', c, o), hd, mv) ms := by
  rw [ze_up_v hi, va_up_self, bx_uu]
end ZES
/-- the room of a method that makes nothing, k calls above the ground -/
def ze_rm (k : Nat) : Room := { frames := k, cells := 0, slots := 0, locals := 64 * k }
theorem ze_rml {k k' n : Nat} (h : k' < k) (hn : n ≤ 40) : (ze_rm k').frames + 1 ≤ (ze_rm k).frames ∧ 8 + (n + 11) + (ze_rm k').locals ≤ (ze_rm k).locals := ⟨h, by show 8 + (n + 11) + 64 * k' ≤ 64 * k; omega⟩
/-- nothing of the world has changed -/
def ze_p0 (n : Nat) (ad : Nat → Nat) (E : Nat → va_E) (P : Option Value → Prop) : ze_Po := fun v n' ad' E' => n = n' ∧ ad = ad' ∧ E = E' ∧ P v
/-- the class's state is new, the reference's as it was -/
def ze_pX (ids : Nat → ClassId) (ad : Nat → Nat) (ms : ze_MS) (P : Option Value → ze_XS → Prop) : ze_Po := fun v n' ad' E' => 48 = n' ∧ ad = ad' ∧ ∃ x', ze_E ids ad x' ms = E' ∧ P v x'
def ze_pM (ids : Nat → ClassId) (ad : Nat → Nat) (x : ze_XS) (P : Option Value → ze_MS → Prop) : ze_Po := fun v n' ad' E' => 48 = n' ∧ ad = ad' ∧ ∃ ms', ze_E ids ad x ms' = E' ∧ P v ms'
abbrev ze_MX (l : Launch) (D : va_G) (ids : Nat → ClassId) (ad : Nat → Nat) (ms : ze_MS) (y : MethodName) (ws : List Cond) (k : Nat) (x : ze_XS) (av : List Value) (P : Option Value → ze_XS → Prop) : Prop := ze_M l D ids y ws (ze_rm k) 0 0 48 ad (ze_E ids ad x ms) av (ze_pX ids ad ms P)
abbrev ze_MM (l : Launch) (D : va_G) (ids : Nat → ClassId) (ad : Nat → Nat) (x : ze_XS) (y : MethodName) (ws : List Cond) (k : Nat) (ms : ze_MS) (av : List Value) (P : Option Value → ze_MS → Prop) : Prop := ze_M l D ids y ws (ze_rm k) 0 0 48 ad (ze_E ids ad x ms) av (ze_pM ids ad x P)
end
section
/-! PURE: rows, their orders, the stable sorting by insertion, the places by rank, the sorted rows without repeats -/
abbrev ze_Row : Type := Int32 × Int32
/-- the order o: 0 by key, 1 by value, else by key and value -/
def ze_lt (o : Nat) (a b : ze_Row) : Bool :=
  if o = 0 then decide (a.1.toInt < b.1.toInt)
  else if o = 1 then decide (a.2.toInt < b.2.toInt)
  else decide (a.1.toInt < b.1.toInt ∨ (a.1.toInt = b.1.toInt ∧ a.2.toInt < b.2.toInt))
theorem ze_lt_iff (o : Nat) (a b : ze_Row) : ze_lt o a b = true ↔ ((o = 0 ∧ a.1.toInt < b.1.toInt) ∨ (o = 1 ∧ a.2.toInt < b.2.toInt) ∨ (o ≠ 0 ∧ o ≠ 1 ∧ (a.1.toInt < b.1.toInt ∨ (a.1.toInt = b.1.toInt ∧ a.2.toInt < b.2.toInt)))) := by
  unfold ze_lt
  split
  · rename_i h; subst h; simp
  · split
    · rename_i h; subst h; simp
    · rename_i h0 h1; simp [h0, h1]
theorem ze_lt_asym {o : Nat} {a b : ze_Row} (h : ze_lt o a b = true) : ze_lt o b a = false := by
  refine Bool.eq_false_iff.mpr (fun h2 => ?_)
  rw [ze_lt_iff] at h h2
  omega
theorem ze_lt_ntr {o : Nat} {a b c : ze_Row} (h1 : ze_lt o a b = false) (h2 : ze_lt o b c = false) : ze_lt o a c = false := by
  refine Bool.eq_false_iff.mpr (fun h3 => ?_)
  have h1 := Bool.eq_false_iff.mp h1
  have h2 := Bool.eq_false_iff.mp h2
  rw [ne_eq, ze_lt_iff] at h1 h2
  rw [ze_lt_iff] at h3
  omega
theorem ze_lt_trans {o : Nat} {a b c : ze_Row} (h1 : ze_lt o a b = true) (h2 : ze_lt o b c = true) : ze_lt o a c = true := by
  rw [ze_lt_iff] at h1 h2 ⊢
  omega
theorem ze_lt_tri {a b : ze_Row} (h1 : ze_lt 2 a b = false) (h2 : ze_lt 2 b a = false) : a = b := by
  have h1 := Bool.eq_false_iff.mp h1
  have h2 := Bool.eq_false_iff.mp h2
  rw [ne_eq, ze_lt_iff] at h1 h2
  have e1 : a.1.toInt = b.1.toInt := by omega
  have e2 : a.2.toInt = b.2.toInt := by omega
  exact Prod.ext (Int32.toInt_inj.mp e1) (Int32.toInt_inj.mp e2)
theorem ze_lt_irr {o : Nat} {a : ze_Row} : ze_lt o a a = false := by
  refine Bool.eq_false_iff.mpr (fun h => ?_)
  rw [ze_lt_iff] at h
  omega
/-- insertion into a list that lies backwards -/
def ze_insG {α : Type} (lt : α → α → Bool) (r : α) : List α → List α
  | [] => [r]
  | e :: Q => if lt r e = true then e :: ze_insG lt r Q else r :: e :: Q
def ze_srtG {α : Type} (lt : α → α → Bool) (L : List α) : List α := (L.foldl (fun Q r => ze_insG lt r Q) []).reverse
def ze_srt (o : Nat) (L : List ze_Row) : List ze_Row := ze_srtG (ze_lt o) L
theorem ze_insG_perm {α : Type} (lt : α → α → Bool) (r : α) : ∀ Q : List α, (ze_insG lt r Q).Perm (r :: Q)
  | [] => List.Perm.refl _
  | e :: Q => by
    by_cases h : lt r e = true
    · simp only [ze_insG, h, if_true]
      exact ((ze_insG_perm lt r Q).cons e).trans (List.Perm.swap r e Q)
    · simp only [ze_insG, h]
      exact List.Perm.refl _
theorem ze_fold_perm {α : Type} (lt : α → α → Bool) : ∀ (L Q : List α), (L.foldl (fun Q r => ze_insG lt r Q) Q).Perm (L ++ Q)
  | [], Q => List.Perm.refl _
  | a :: L, Q => by
    rw [List.foldl_cons]
    exact (ze_fold_perm lt L _).trans (((ze_insG_perm lt a Q).append_left L).trans List.perm_middle)
theorem ze_srtG_perm {α : Type} (lt : α → α → Bool) (L : List α) : (ze_srtG lt L).Perm L := by
  have h := ze_fold_perm lt L []
  rw [List.append_nil] at h
  exact (List.reverse_perm _).trans h
theorem ze_insG_map {α β : Type} {φ : α → β} {lt : β → β → Bool} (r : α) : ∀ Q : List α, (ze_insG (fun a b => lt (φ a) (φ b)) r Q).map φ = ze_insG lt (φ r) (Q.map φ)
  | [] => rfl
  | e :: Q => by
    by_cases h : lt (φ r) (φ e) = true
    · simp only [ze_insG, h, if_true, List.map_cons, ze_insG_map r Q]
    · simp only [ze_insG, h, List.map_cons]
      rfl
theorem ze_fold_map {α β : Type} {φ : α → β} {lt : β → β → Bool} : ∀ (L Q : List α), (L.foldl (fun Q r => ze_insG (fun a b => lt (φ a) (φ b)) r Q) Q).map φ = (L.map φ).foldl (fun Q r => ze_insG lt r Q) (Q.map φ)
  | [], Q => rfl
  | a :: L, Q => by
    rw [List.foldl_cons, ze_fold_map L, ze_insG_map, List.map_cons, List.foldl_cons]
theorem ze_srtG_map {α β : Type} {φ : α → β} {lt : β → β → Bool} (L : List α) : (ze_srtG (fun a b => lt (φ a) (φ b)) L).map φ = ze_srtG lt (L.map φ) := by
  unfold ze_srtG
  rw [List.map_reverse, ze_fold_map]
  rfl
/-- a before b: smaller, or not greater and of a smaller number -/
def ze_bf (lt : Nat → Nat → Bool) (a b : Nat) : Bool := lt a b || (!lt b a && decide (a < b))
theorem ze_bf_asym {lt : Nat → Nat → Bool} (as : ∀ a b, lt a b = true → lt b a = false) {a b : Nat} (h : ze_bf lt a b = true) : ze_bf lt b a = false := by
  unfold ze_bf at h ⊢
  cases h1 : lt a b with
  | true => simp [as a b h1]
  | false =>
    rw [h1] at h
    simp only [Bool.false_or, Bool.and_eq_true, Bool.not_eq_true', decide_eq_true_eq] at h
    rw [h.1]
    simp only [Bool.not_false, Bool.true_and, Bool.false_or, decide_eq_false_iff_not]
    omega
theorem ze_bf_irr {lt : Nat → Nat → Bool} (as : ∀ a b, lt a b = true → lt b a = false) {a : Nat} : ze_bf lt a a = false := by
  refine Bool.eq_false_iff.mpr (fun h => ?_)
  have := ze_bf_asym as h
  rw [h] at this
  cases this
theorem ze_bf_nlt {lt : Nat → Nat → Bool} (as : ∀ a b, lt a b = true → lt b a = false) {a b : Nat} (h : ze_bf lt a b = true) : lt b a = false := by
  unfold ze_bf at h
  cases h1 : lt a b with
  | true => exact as a b h1
  | false =>
    rw [h1] at h
    simp only [Bool.false_or, Bool.and_eq_true, Bool.not_eq_true'] at h
    exact h.1
theorem ze_insG_pw {lt : Nat → Nat → Bool} (as : ∀ a b, lt a b = true → lt b a = false) (nt : ∀ a b c, lt a b = false → lt b c = false → lt a c = false) (k : Nat) : ∀ Q : List Nat, Q.Pairwise (fun a b => ze_bf lt b a = true) → (∀ e ∈ Q, e < k) → (ze_insG lt k Q).Pairwise (fun a b => ze_bf lt b a = true)
  | [], _, _ => by simp [ze_insG]
  | e :: Q, hQ, hk => by
    obtain ⟨h1, h2⟩ := List.pairwise_cons.mp hQ
    by_cases h : lt k e = true
    · simp only [ze_insG, h, if_true]
      refine List.pairwise_cons.mpr ⟨fun z hz => ?_, ze_insG_pw as nt k Q h2 (fun z hz => hk z (List.mem_cons_of_mem _ hz))⟩
      rcases List.mem_cons.mp ((ze_insG_perm lt k Q).mem_iff.mp hz) with rfl | hz
      · simp [ze_bf, h]
      · exact h1 z hz
    · have h' : lt k e = false := Bool.eq_false_iff.mpr h
      simp only [ze_insG, h]
      refine List.pairwise_cons.mpr ⟨fun z hz => ?_, hQ⟩
      have hzk := hk z hz
      have hkz : lt k z = false := by
        rcases List.mem_cons.mp hz with rfl | hz
        · exact h'
        · exact nt k e z h' (ze_bf_nlt as (h1 z hz))
      simp [ze_bf, hkz, hzk]
theorem ze_fold_pw {lt : Nat → Nat → Bool} (as : ∀ a b, lt a b = true → lt b a = false) (nt : ∀ a b c, lt a b = false → lt b c = false → lt a c = false) : ∀ n : Nat, ((List.range n).foldl (fun Q r => ze_insG lt r Q) []).Pairwise (fun a b => ze_bf lt b a = true)
  | 0 => List.Pairwise.nil
  | n + 1 => by
    rw [List.range_succ, List.foldl_append]
    refine ze_insG_pw as nt n _ (ze_fold_pw as nt n) (fun e he => ?_)
    have h := (ze_fold_perm lt (List.range n) []).mem_iff.mp he
    rw [List.append_nil] at h
    exact List.mem_range.mp h
theorem ze_rank_at {lt : Nat → Nat → Bool} (as : ∀ a b, lt a b = true → lt b a = false) : ∀ (I : List Nat), I.Pairwise (fun a b => ze_bf lt a b = true) → ∀ (p i : Nat), I[p]? = some i → I.countP (fun j => ze_bf lt j i) = p
  | [], _, p, i, h => by simp at h
  | a :: I, hp, 0, i, h => by
    obtain ⟨h1, h2⟩ := List.pairwise_cons.mp hp
    simp only [List.getElem?_cons_zero, Option.some.injEq] at h
    subst h
    rw [List.countP_eq_zero]
    intro z hz
    rcases List.mem_cons.mp hz with rfl | hz
    · rw [ze_bf_irr as]; simp
    · rw [ze_bf_asym as (h1 z hz)]; simp
  | a :: I, hp, p + 1, i, h => by
    obtain ⟨h1, h2⟩ := List.pairwise_cons.mp hp
    rw [List.getElem?_cons_succ] at h
    rw [List.countP_cons_of_pos (p := fun j => ze_bf lt j i) (h1 i (List.mem_of_getElem? h)), ze_rank_at as I h2 p i h]
abbrev ze_li (o : Nat) (L : List ze_Row) : Nat → Nat → Bool := fun a b => ze_lt o (L.getD a (0, 0)) (L.getD b (0, 0))
theorem ze_li_as (o : Nat) (L : List ze_Row) : ∀ a b, ze_li o L a b = true → ze_li o L b a = false := fun a b h => ze_lt_asym (a := L.getD a (0, 0)) (b := L.getD b (0, 0)) h
theorem ze_li_nt (o : Nat) (L : List ze_Row) : ∀ a b c, ze_li o L a b = false → ze_li o L b c = false → ze_li o L a c = false := fun a b c h1 h2 => ze_lt_ntr (a := L.getD a (0, 0)) (b := L.getD b (0, 0)) (c := L.getD c (0, 0)) h1 h2
/-- how many rows stand before row i in the stable order -/
def ze_rk (o : Nat) (L : List ze_Row) (i : Nat) : Nat := (List.range L.length).countP (fun j => ze_bf (ze_li o L) j i)
def ze_ix (o : Nat) (L : List ze_Row) : List Nat := ze_srtG (ze_li o L) (List.range L.length)
theorem ze_ix_perm (o : Nat) (L : List ze_Row) : (ze_ix o L).Perm (List.range L.length) := ze_srtG_perm _ _
theorem ze_ix_pw (o : Nat) (L : List ze_Row) : (ze_ix o L).Pairwise (fun a b => ze_bf (ze_li o L) a b = true) := by
  have h := ze_fold_pw (lt := ze_li o L) (ze_li_as o L) (ze_li_nt o L) L.length
  unfold ze_ix ze_srtG
  rw [List.pairwise_reverse]
  exact h
theorem ze_ix_map (o : Nat) (L : List ze_Row) : ze_srt o L = (ze_ix o L).map (fun a => L.getD a (0, 0)) := by
  have h := ze_srtG_map (φ := fun a => L.getD a (0, 0)) (lt := ze_lt o) (List.range L.length)
  have hL : (List.range L.length).map (fun a => L.getD a (0, 0)) = L := by
    apply List.ext_getElem?
    intro j
    by_cases hj : j < L.length
    · simp [hj]
    · simp [hj]
  rw [hL] at h
  exact h.symm
theorem ze_rk_eq {o : Nat} {L : List ze_Row} {p i : Nat} (h : (ze_ix o L)[p]? = some i) : ze_rk o L i = p := by
  rw [ze_rk, ← (ze_ix_perm o L).countP_eq]
  exact ze_rank_at (lt := ze_li o L) (ze_li_as o L) _ (ze_ix_pw o L) p i h
theorem ze_ix_rk {o : Nat} {L : List ze_Row} {i : Nat} (hi : i < L.length) : (ze_ix o L)[ze_rk o L i]? = some i := by
  obtain ⟨p, hp⟩ := List.getElem?_of_mem ((ze_ix_perm o L).mem_iff.mpr (List.mem_range.mpr hi))
  rw [ze_rk_eq hp]
  exact hp
theorem ze_srt_perm (o : Nat) (L : List ze_Row) : (ze_srt o L).Perm L := ze_srtG_perm _ _
theorem ze_srt_len (o : Nat) (L : List ze_Row) : (ze_srt o L).length = L.length := (ze_srt_perm o L).length_eq
theorem ze_rk_lt {o : Nat} {L : List ze_Row} {i : Nat} (hi : i < L.length) : ze_rk o L i < L.length := by
  have h := (List.getElem?_eq_some_iff.mp (ze_ix_rk (o := o) hi)).1
  rw [(ze_ix_perm o L).length_eq, List.length_range] at h
  exact h
theorem ze_rk_inj {o : Nat} {L : List ze_Row} {i j : Nat} (hi : i < L.length) (hj : j < L.length) (h : ze_rk o L i = ze_rk o L j) : i = j := by
  have h1 := ze_ix_rk (o := o) hi
  have h2 := ze_ix_rk (o := o) hj
  rw [h, h2] at h1
  exact (Option.some.inj h1).symm
theorem ze_rk_sur {o : Nat} {L : List ze_Row} {p : Nat} (hp : p < L.length) : ∃ i, i < L.length ∧ ze_rk o L i = p := by
  have hl : p < (ze_ix o L).length := by rw [(ze_ix_perm o L).length_eq, List.length_range]; exact hp
  refine ⟨(ze_ix o L)[p], ?_, ze_rk_eq (List.getElem?_eq_getElem hl)⟩
  exact List.mem_range.mp ((ze_ix_perm o L).mem_iff.mp (List.getElem_mem hl))
theorem ze_srt_rk {o : Nat} {L : List ze_Row} {i : Nat} (hi : i < L.length) : (ze_srt o L)[ze_rk o L i]? = L[i]? := by
  rw [ze_ix_map, List.getElem?_map, ze_ix_rk hi]
  simp [hi]
theorem ze_srt_pw (o : Nat) (L : List ze_Row) : (ze_srt o L).Pairwise (fun a b => ze_lt o b a = false) := by
  rw [ze_ix_map, List.pairwise_map]
  exact (ze_ix_pw o L).imp (fun {a b} h => ze_bf_nlt (lt := ze_li o L) (ze_li_as o L) h)
/-- one step of the sorting: the rows behind r are greater, the row ahead of it isn't -/
theorem ze_ins_app {α : Type} {lt : α → α → Bool} {r : α} : ∀ (A B : List α), (∀ e ∈ A, lt r e = true) → ze_insG lt r (A ++ B) = A ++ ze_insG lt r B
  | [], B, _ => rfl
  | e :: A, B, h => by
    have he := h e List.mem_cons_self
    simp only [List.cons_append, ze_insG, he, if_true]
    rw [ze_ins_app A B (fun z hz => h z (List.mem_cons_of_mem _ hz))]
theorem ze_ins_split {α : Type} {lt : α → α → Bool} {r : α} {P1 P2 : List α} (h2 : ∀ e ∈ P2, lt r e = true) (h1 : ∀ e, P1.getLast? = some e → lt r e = false) : ze_insG lt r (P1 ++ P2).reverse = (P1 ++ r :: P2).reverse := by
  rw [List.reverse_append, ze_ins_app _ _ (fun e he => h2 e (List.mem_reverse.mp he))]
  have : ze_insG lt r P1.reverse = r :: P1.reverse := by
    cases hq : P1.reverse with
    | nil => rfl
    | cons e Q =>
      have hl : P1.getLast? = some e := by rw [← List.head?_reverse, hq]; rfl
      simp only [ze_insG, h1 e hl]
      rfl
  rw [this]
  simp
theorem ze_srt_snoc (o : Nat) (L : List ze_Row) (r : ze_Row) : ze_srt o (L ++ [r]) = (ze_insG (ze_lt o) r (ze_srt o L).reverse).reverse := by
  unfold ze_srt ze_srtG
  rw [List.foldl_append, List.reverse_reverse]
  rfl
/-- without repeats -/
def ze_dd (S : List ze_Row) : List ze_Row := S.foldl (fun K r => if K.getLast? = some r then K else K ++ [r]) []
theorem ze_dd_snoc (S : List ze_Row) (r : ze_Row) : ze_dd (S ++ [r]) = if (ze_dd S).getLast? = some r then ze_dd S else ze_dd S ++ [r] := by
  unfold ze_dd
  rw [List.foldl_append]
  rfl
theorem ze_dd_gen : ∀ (S K : List ze_Row), K.Pairwise (fun a b => ze_lt 2 a b = true) → (∀ a ∈ K, ∀ b ∈ S, ze_lt 2 b a = false) → S.Pairwise (fun a b => ze_lt 2 b a = false) →
    (S.foldl (fun K r => if K.getLast? = some r then K else K ++ [r]) K).Pairwise (fun a b => ze_lt 2 a b = true) ∧ ∀ r, r ∈ S.foldl (fun K r => if K.getLast? = some r then K else K ++ [r]) K ↔ r ∈ K ∨ r ∈ S
  | [], K, h1, _, _ => ⟨h1, fun r => by simp⟩
  | s :: S, K, h1, h2, h3 => by
    obtain ⟨h4, h5⟩ := List.pairwise_cons.mp h3
    rw [List.foldl_cons]
    by_cases hl : K.getLast? = some s
    · rw [if_pos hl]
      obtain ⟨g1, g2⟩ := ze_dd_gen S K h1 (fun a ha b hb => h2 a ha b (List.mem_cons_of_mem _ hb)) h5
      refine ⟨g1, fun r => ?_⟩
      rw [g2 r, List.mem_cons]
      constructor
      · rintro (h | h)
        · exact Or.inl h
        · exact Or.inr (Or.inr h)
      · rintro (h | rfl | h)
        · exact Or.inl h
        · exact Or.inl (List.mem_of_getLast? hl)
        · exact Or.inr h
    · rw [if_neg hl]
      have key : ∀ a ∈ K, ze_lt 2 a s = true := by
        intro a ha
        have hsa := h2 a ha s List.mem_cons_self
        cases hq : ze_lt 2 a s with
        | true => rfl
        | false =>
          have e := ze_lt_tri hq hsa
          subst e
          exfalso
          obtain ⟨K', z, rfl⟩ : ∃ K' z, K = K' ++ [z] := by
            rcases List.eq_nil_or_concat K with rfl | ⟨K', z, h⟩
            · cases ha
            · exact ⟨K', z, by simpa using h⟩
          rcases List.mem_append.mp ha with h | h
          · have hz := (List.pairwise_append.mp h1).2.2 a h z (List.mem_singleton.mpr rfl)
            rw [h2 z (by simp) a List.mem_cons_self] at hz
            cases hz
          · rw [List.mem_singleton.mp h] at hl
            simp at hl
      obtain ⟨g1, g2⟩ := ze_dd_gen S (K ++ [s]) (List.pairwise_append.mpr ⟨h1, List.pairwise_singleton _ _, fun a ha b hb => by rw [List.mem_singleton.mp hb]; exact key a ha⟩) (fun a ha b hb => by
        rcases List.mem_append.mp ha with h | h
        · exact h2 a h b (List.mem_cons_of_mem _ hb)
        · rw [List.mem_singleton.mp h]; exact h4 b hb) h5
      refine ⟨g1, fun r => ?_⟩
      rw [g2 r, List.mem_append, List.mem_singleton, List.mem_cons, or_assoc]
theorem ze_dd_ok {S : List ze_Row} (h : S.Pairwise (fun a b => ze_lt 2 b a = false)) : (ze_dd S).Pairwise (fun a b => ze_lt 2 a b = true) ∧ ∀ r, r ∈ ze_dd S ↔ r ∈ S := by
  obtain ⟨g1, g2⟩ := ze_dd_gen S [] List.Pairwise.nil (fun a ha => by cases ha) h
  exact ⟨g1, fun r => by rw [ze_dd, g2 r]; simp⟩
/-- two lists that rise and have the same members are one -/
theorem ze_up_uniq {A B : List ze_Row} (hA : A.Pairwise (fun a b => ze_lt 2 a b = true)) (hB : B.Pairwise (fun a b => ze_lt 2 a b = true)) (h : ∀ r, r ∈ A ↔ r ∈ B) : A = B := by
  have nd : ∀ {X : List ze_Row}, X.Pairwise (fun a b => ze_lt 2 a b = true) → X.Nodup := fun hX => hX.imp (fun {a b} h e => by
    subst e
    rw [ze_lt_irr] at h
    cases h)
  refine List.Perm.eq_of_pairwise (le := fun a b => ze_lt 2 a b = true) (fun a b _ _ h1 h2 => ?_) hA hB ((List.perm_ext_iff_of_nodup (nd hA) (nd hB)).mpr h)
  rw [ze_lt_asym h1] at h2
  cases h2
end
section
/-! PURE: the union of two bags row by row; the merge of two sorted lists -/
def ze_tm (kind a b : Nat) : Nat := if kind = 0 then max a b else if kind = 1 then min a b else if kind = 2 then a - b else a + b
def ze_pick : List ze_Row → List ze_Row → Option ze_Row
  | [], [] => none
  | [], b :: _ => some b
  | a :: _, [] => some a
  | a :: _, b :: _ => if ze_lt 2 b a = true then some b else some a
/-- how many rows at the head are r -/
def ze_rep (r : ze_Row) : List ze_Row → Nat
  | [] => 0
  | a :: A => if a = r then ze_rep r A + 1 else 0
def ze_mg (kind : Nat) : Nat → List ze_Row → List ze_Row → List ze_Row
  | 0, _, _ => []
  | k + 1, A, B => match ze_pick A B with
    | none => []
    | some r => List.replicate (ze_tm kind (ze_rep r A) (ze_rep r B)) r ++ ze_mg kind k (A.drop (ze_rep r A)) (B.drop (ze_rep r B))
def ze_un (A B : List ze_Row) : List ze_Row := ze_dd (ze_srt 2 (A ++ B))
def ze_cmb (kind : Nat) (A B : List ze_Row) : List ze_Row := (ze_un A B).flatMap (fun r => List.replicate (ze_tm kind (A.count r) (B.count r)) r)
abbrev ze_so (A : List ze_Row) : Prop := A.Pairwise (fun a b => ze_lt 2 b a = false)
abbrev ze_ri (A : List ze_Row) : Prop := A.Pairwise (fun a b => ze_lt 2 a b = true)
theorem ze_un_ri (A B : List ze_Row) : ze_ri (ze_un A B) := (ze_dd_ok (ze_srt_pw 2 _)).1
theorem ze_un_mem (A B : List ze_Row) (r : ze_Row) : r ∈ ze_un A B ↔ r ∈ A ∨ r ∈ B := by
  rw [ze_un, (ze_dd_ok (ze_srt_pw 2 _)).2 r, (ze_srt_perm 2 _).mem_iff, List.mem_append]
theorem ze_un_self (A : List ze_Row) : ze_un A A = ze_dd (ze_srt 2 A) := by
  refine ze_up_uniq (ze_un_ri A A) (ze_dd_ok (ze_srt_pw 2 _)).1 (fun r => ?_)
  rw [ze_un_mem, (ze_dd_ok (ze_srt_pw 2 _)).2 r, (ze_srt_perm 2 _).mem_iff]
  simp
theorem ze_gt_of {a x r : ze_Row} (h1 : ze_lt 2 r a = true) (h2 : ze_lt 2 x a = false) : ze_lt 2 r x = true := by
  cases h : ze_lt 2 r x with
  | true => rfl
  | false =>
    rw [ze_lt_ntr h h2] at h1
    cases h1
theorem ze_rep_ok (r : ze_Row) : ∀ A : List ze_Row, ze_so A → (∀ x ∈ A, ze_lt 2 x r = false) → (∀ x ∈ A.drop (ze_rep r A), ze_lt 2 r x = true) ∧ A.count r = ze_rep r A ∧ (∀ x, x ≠ r → A.count x = (A.drop (ze_rep r A)).count x) ∧ (∀ x, x ∈ A → x = r ∨ x ∈ A.drop (ze_rep r A)) ∧ ze_rep r A ≤ A.length
  | [], _, _ => by simp [ze_rep]
  | a :: A, hs, hr => by
    obtain ⟨h1, h2⟩ := List.pairwise_cons.mp hs
    by_cases ha : a = r
    · subst ha
      obtain ⟨g1, g2, g3, g4, g5⟩ := ze_rep_ok a A h2 (fun x hx => hr x (List.mem_cons_of_mem _ hx))
      simp only [ze_rep, if_true, List.drop_succ_cons]
      refine ⟨g1, by rw [List.count_cons_self, g2], fun x hx => by rw [List.count_cons_of_ne (Ne.symm hx), g3 x hx], fun x hx => ?_, by simp; omega⟩
      rcases List.mem_cons.mp hx with rfl | hx
      · exact Or.inl rfl
      · exact g4 x hx
    · simp only [ze_rep, ha, if_false, List.drop_zero]
      have hra : ze_lt 2 r a = true := by
        cases h : ze_lt 2 r a with
        | true => rfl
        | false => exact absurd (ze_lt_tri (hr a List.mem_cons_self) h) ha
      have hall : ∀ x ∈ a :: A, ze_lt 2 r x = true := by
        intro x hx
        rcases List.mem_cons.mp hx with rfl | hx
        · exact hra
        · exact ze_gt_of hra (h1 x hx)
      refine ⟨hall, ?_, by simp, fun x hx => Or.inr hx, Nat.zero_le _⟩
      rw [List.count_eq_zero]
      intro hx
      have := hall r hx
      rw [ze_lt_irr] at this
      cases this
theorem ze_so_drop {A : List ze_Row} (h : ze_so A) (k : Nat) : ze_so (A.drop k) := List.Pairwise.sublist (List.drop_sublist k A) h
theorem ze_pick_none {A B : List ze_Row} (h : ze_pick A B = none) : A = [] ∧ B = [] := by
  cases A <;> cases B <;> simp [ze_pick] at h ⊢
  split at h <;> cases h
theorem ze_pick_ok {A B : List ze_Row} {r : ze_Row} (hA : ze_so A) (hB : ze_so B) (h : ze_pick A B = some r) : (r ∈ A ∨ r ∈ B) ∧ (∀ x ∈ A, ze_lt 2 x r = false) ∧ (∀ x ∈ B, ze_lt 2 x r = false) := by
  have hd : ∀ {a : ze_Row} {L : List ze_Row}, ze_so (a :: L) → ∀ x ∈ a :: L, ze_lt 2 x a = false := by
    intro a L hL x hx
    rcases List.mem_cons.mp hx with rfl | hx
    · exact ze_lt_irr
    · exact (List.pairwise_cons.mp hL).1 x hx
  cases A with
  | nil =>
    cases B with
    | nil => simp [ze_pick] at h
    | cons b B =>
      simp only [ze_pick, Option.some.injEq] at h
      subst h
      exact ⟨Or.inr List.mem_cons_self, (fun x hx => absurd hx List.not_mem_nil), hd hB⟩
  | cons a A =>
    cases B with
    | nil =>
      simp only [ze_pick, Option.some.injEq] at h
      subst h
      exact ⟨Or.inl List.mem_cons_self, hd hA, (fun x hx => absurd hx List.not_mem_nil)⟩
    | cons b B =>
      by_cases hb : ze_lt 2 b a = true
      · simp only [ze_pick, hb, if_true, Option.some.injEq] at h
        subst h
        refine ⟨Or.inr List.mem_cons_self, fun x hx => ze_lt_ntr (hd hA x hx) (ze_lt_asym hb), hd hB⟩
      · simp only [ze_pick, hb] at h
        have h : a = r := by simpa using h
        subst h
        exact ⟨Or.inl List.mem_cons_self, hd hA, fun x hx => ze_lt_ntr (hd hB x hx) (Bool.eq_false_iff.mpr hb)⟩
theorem ze_mg_ok (kind : Nat) : ∀ (k : Nat) (A B D : List ze_Row), ze_so A → ze_so B → ze_ri D → (∀ r, r ∈ D ↔ r ∈ A ∨ r ∈ B) → A.length + B.length ≤ k → ze_mg kind k A B = D.flatMap (fun r => List.replicate (ze_tm kind (A.count r) (B.count r)) r)
  | 0, A, B, D, _, _, _, hm, hl => by
    have hA : A = [] := List.eq_nil_of_length_eq_zero (by omega)
    have hB : B = [] := List.eq_nil_of_length_eq_zero (by omega)
    subst hA; subst hB
    cases D with
    | nil => rfl
    | cons d D => simpa using (hm d).mp List.mem_cons_self
  | k + 1, A, B, D, hA, hB, hD, hm, hl => by
    cases hp : ze_pick A B with
    | none =>
      obtain ⟨rfl, rfl⟩ := ze_pick_none hp
      cases D with
      | nil => rfl
      | cons d D => simpa using (hm d).mp List.mem_cons_self
    | some r =>
      obtain ⟨p1, p2, p3⟩ := ze_pick_ok hA hB hp
      obtain ⟨a1, a2, a3, a4, a5⟩ := ze_rep_ok r A hA p2
      obtain ⟨b1, b2, b3, b4, b5⟩ := ze_rep_ok r B hB p3
      cases D with
      | nil => exact absurd ((hm r).mpr p1) (by simp)
      | cons d D =>
        obtain ⟨d1, d2⟩ := List.pairwise_cons.mp hD
        have hdr : d = r := by
          have hrd : ze_lt 2 d r = false := by
            rcases (hm d).mp List.mem_cons_self with h | h
            · exact p2 d h
            · exact p3 d h
          rcases List.mem_cons.mp ((hm r).mpr p1) with h | h
          · exact h.symm
          · rw [d1 r h] at hrd
            cases hrd
        subst hdr
        have ne : ∀ x ∈ D, x ≠ d := fun x hx e => by
          have := d1 x hx
          rw [e, ze_lt_irr] at this
          cases this
        have hmem : 1 ≤ ze_rep d A + ze_rep d B := by
          rw [← a2, ← b2]
          rcases p1 with h | h
          · have := List.count_pos_iff.mpr h; omega
          · have := List.count_pos_iff.mpr h; omega
        have ih := ze_mg_ok kind k (A.drop (ze_rep d A)) (B.drop (ze_rep d B)) D (ze_so_drop hA _) (ze_so_drop hB _) d2 (fun x => ?_) (by rw [List.length_drop, List.length_drop]; omega)
        · simp only [ze_mg, hp]
          rw [ih, List.flatMap_cons, a2, b2]
          congr 1
          rw [List.flatMap_def, List.flatMap_def]
          congr 1
          apply List.map_congr_left
          intro x hx
          rw [a3 x (ne x hx), b3 x (ne x hx)]
        · constructor
          · intro hx
            rcases (hm x).mp (List.mem_cons_of_mem _ hx) with h | h
            · exact Or.inl ((a4 x h).resolve_left (ne x hx))
            · exact Or.inr ((b4 x h).resolve_left (ne x hx))
          · intro h
            have hx : x ∈ d :: D := (hm x).mpr (h.imp List.mem_of_mem_drop List.mem_of_mem_drop)
            have hlt : ze_lt 2 d x = true := h.elim (a1 x) (b1 x)
            rcases List.mem_cons.mp hx with rfl | hx
            · rw [ze_lt_irr] at hlt; cases hlt
            · exact hx
/-- the merge of the sorted bags is the union row by row, each as often as the kind says -/
theorem ze_mg_cmb (kind : Nat) (A B : List ze_Row) (k : Nat) (hk : A.length + B.length ≤ k) : ze_mg kind k (ze_srt 2 A) (ze_srt 2 B) = ze_cmb kind A B := by
  rw [ze_mg_ok kind k _ _ (ze_un A B) (ze_srt_pw 2 A) (ze_srt_pw 2 B) (ze_un_ri A B) (fun r => by rw [ze_un_mem, (ze_srt_perm 2 A).mem_iff, (ze_srt_perm 2 B).mem_iff]) (by rw [ze_srt_len, ze_srt_len]; exact hk)]
  unfold ze_cmb
  congr 1
  funext r
  rw [(ze_srt_perm 2 A).count_eq, (ze_srt_perm 2 B).count_eq]
end
section
/-! PURE: groups. The keys in the order of their first rows, their sums, the rows whose keys come later than the first q keys -/
def ze_dk (L : List ze_Row) : List Int32 := L.foldl (fun K r => if r.1 ∈ K then K else K ++ [r.1]) []
def ze_sum (k : Int32) (L : List ze_Row) : Int32 := L.foldl (fun s r => if r.1 = k then s + r.2 else s) 0
def ze_grp (L : List ze_Row) : List ze_Row := (ze_dk L).map (fun k => (k, ze_sum k L))
/-- the rows that are left behind the first q keys -/
def ze_lf (L : List ze_Row) (q : Nat) : List ze_Row := L.filter (fun r => !decide (r.1 ∈ (ze_dk L).take q))
theorem ze_dk_snoc (L : List ze_Row) (r : ze_Row) : ze_dk (L ++ [r]) = if r.1 ∈ ze_dk L then ze_dk L else ze_dk L ++ [r.1] := by
  unfold ze_dk
  rw [List.foldl_append]
  rfl
theorem ze_sum_snoc (k : Int32) (L : List ze_Row) (r : ze_Row) : ze_sum k (L ++ [r]) = if r.1 = k then ze_sum k L + r.2 else ze_sum k L := by
  unfold ze_sum
  rw [List.foldl_append]
  rfl
theorem ze_snoc_ind {α : Type} {P : List α → Prop} (h0 : P []) (hs : ∀ L r, P L → P (L ++ [r])) (L : List α) : P L := by
  have : ∀ R : List α, P R.reverse := by
    intro R
    induction R with
    | nil => exact h0
    | cons a R ih =>
      rw [List.reverse_cons]
      exact hs _ a ih
  have h := this L.reverse
  rwa [List.reverse_reverse] at h
theorem ze_dk_mem (k : Int32) (L : List ze_Row) : k ∈ ze_dk L ↔ ∃ r ∈ L, r.1 = k := by
  refine ze_snoc_ind (P := fun L => k ∈ ze_dk L ↔ ∃ r ∈ L, r.1 = k) ?_ ?_ L
  · simp [ze_dk]
  · intro L r ih
    rw [ze_dk_snoc]
    by_cases h : r.1 ∈ ze_dk L
    · rw [if_pos h, ih]
      constructor
      · rintro ⟨x, hx, e⟩
        exact ⟨x, List.mem_append_left _ hx, e⟩
      · rintro ⟨x, hx, e⟩
        rcases List.mem_append.mp hx with hx | hx
        · exact ⟨x, hx, e⟩
        · rw [List.mem_singleton.mp hx] at e
          rw [← ih, ← e]
          exact h
    · rw [if_neg h, List.mem_append, ih, List.mem_singleton]
      constructor
      · rintro (⟨x, hx, e⟩ | e)
        · exact ⟨x, List.mem_append_left _ hx, e⟩
        · exact ⟨r, by simp, e.symm⟩
      · rintro ⟨x, hx, e⟩
        rcases List.mem_append.mp hx with hx | hx
        · exact Or.inl ⟨x, hx, e⟩
        · rw [List.mem_singleton.mp hx] at e
          exact Or.inr e.symm
theorem ze_dk_nodup (L : List ze_Row) : (ze_dk L).Nodup := by
  refine ze_snoc_ind (P := fun L => (ze_dk L).Nodup) ?_ ?_ L
  · simp [ze_dk]
  · intro L r ih
    rw [ze_dk_snoc]
    by_cases h : r.1 ∈ ze_dk L
    · rw [if_pos h]; exact ih
    · rw [if_neg h]
      refine List.pairwise_append.mpr ⟨ih, List.pairwise_singleton _ _, fun a ha b hb => ?_⟩
      rw [List.mem_singleton.mp hb]
      intro e
      exact h (e ▸ ha)
theorem ze_dk_len (L : List ze_Row) : (ze_dk L).length ≤ L.length := by
  refine ze_snoc_ind (P := fun L => (ze_dk L).length ≤ L.length) ?_ ?_ L
  · simp [ze_dk]
  · intro L r ih
    rw [ze_dk_snoc]
    by_cases h : r.1 ∈ ze_dk L
    · rw [if_pos h]; simp; omega
    · rw [if_neg h]; simp; omega
theorem ze_dk_filter (p : Int32 → Bool) (L : List ze_Row) : ze_dk (L.filter (fun r => p r.1)) = (ze_dk L).filter p := by
  refine ze_snoc_ind (P := fun L => ze_dk (L.filter (fun r => p r.1)) = (ze_dk L).filter p) ?_ ?_ L
  · simp [ze_dk]
  · intro L r ih
    rw [List.filter_append, ze_dk_snoc]
    by_cases hp : p r.1 = true
    · have e1 : [r].filter (fun r => p r.1) = [r] := by simp [hp]
      rw [e1, ze_dk_snoc, ih]
      by_cases h : r.1 ∈ ze_dk L
      · rw [if_pos h, if_pos (List.mem_filter.mpr ⟨h, hp⟩)]
      · rw [if_neg h, if_neg (fun q => h (List.mem_filter.mp q).1), List.filter_append]
        simp [hp]
    · have e1 : [r].filter (fun r => p r.1) = [] := by simp [hp]
      rw [e1, List.append_nil, ih]
      by_cases h : r.1 ∈ ze_dk L
      · rw [if_pos h]
      · rw [if_neg h, List.filter_append]
        simp [hp]
theorem ze_sum_filter (p : Int32 → Bool) (k : Int32) (hk : p k = true) (L : List ze_Row) : ze_sum k (L.filter (fun r => p r.1)) = ze_sum k L := by
  refine ze_snoc_ind (P := fun L => ze_sum k (L.filter (fun r => p r.1)) = ze_sum k L) ?_ ?_ L
  · rfl
  · intro L r ih
    rw [List.filter_append, ze_sum_snoc]
    by_cases hp : p r.1 = true
    · have e1 : [r].filter (fun r => p r.1) = [r] := by simp [hp]
      rw [e1, ze_sum_snoc, ih]
    · have e1 : [r].filter (fun r => p r.1) = [] := by simp [hp]
      have hne : ¬ r.1 = k := fun e => hp (e ▸ hk)
      rw [e1, List.append_nil, ih, if_neg hne]
theorem ze_sum_none (k : Int32) (L : List ze_Row) (h : k ∉ ze_dk L) : ze_sum k L = 0 := by
  revert h
  refine ze_snoc_ind (P := fun L => k ∉ ze_dk L → ze_sum k L = 0) ?_ ?_ L
  · intro _; rfl
  · intro L r ih h
    have h1 : ¬ r.1 = k := fun e => h ((ze_dk_mem k _).mpr ⟨r, by simp, e⟩)
    have h2 : k ∉ ze_dk L := fun q => by
      obtain ⟨x, hx, e⟩ := (ze_dk_mem k L).mp q
      exact h ((ze_dk_mem k _).mpr ⟨x, List.mem_append_left _ hx, e⟩)
    rw [ze_sum_snoc, if_neg h1, ih h2]
theorem ze_drop_filter {α : Type} [DecidableEq α] : ∀ (K : List α) (q : Nat), K.Nodup → K.filter (fun k => !decide (k ∈ K.take q)) = K.drop q
  | [], q, _ => by simp
  | a :: K, 0, _ => by simp
  | a :: K, q + 1, h => by
    obtain ⟨h1, h2⟩ := List.pairwise_cons.mp h
    have ih := ze_drop_filter K q h2
    rw [List.take_succ_cons, List.drop_succ_cons, List.filter_cons, ← ih]
    simp only [List.mem_cons, true_or, decide_true, Bool.not_true, Bool.false_eq_true, if_false]
    apply List.filter_congr
    intro k hk
    have : k ≠ a := fun e => h1 k hk e.symm
    simp [this]
/-- what is left behind q keys, behind the first e keys of it: what is left behind q + e keys -/
theorem ze_dk_lf (L : List ze_Row) (q : Nat) : ze_dk (ze_lf L q) = (ze_dk L).drop q := by
  unfold ze_lf
  rw [ze_dk_filter (fun k => !decide (k ∈ (ze_dk L).take q)) L]
  exact ze_drop_filter _ q (ze_dk_nodup L)
theorem ze_lf_lf (L : List ze_Row) (q e : Nat) : (ze_lf L q).filter (fun r => !decide (r.1 ∈ (ze_dk (ze_lf L q)).take e)) = ze_lf L (q + e) := by
  rw [ze_dk_lf]
  unfold ze_lf
  rw [List.filter_filter]
  apply List.filter_congr
  intro r _
  rw [List.take_add]
  simp only [List.mem_append]
  by_cases h1 : r.1 ∈ (ze_dk L).take q <;> by_cases h2 : r.1 ∈ ((ze_dk L).drop q).take e <;> simp [h1, h2]
theorem ze_sum_lf (L : List ze_Row) (q : Nat) {k : Int32} (hk : k ∈ ze_dk (ze_lf L q)) : ze_sum k (ze_lf L q) = ze_sum k L := by
  obtain ⟨r, hr, e⟩ := (ze_dk_mem _ _).mp hk
  have h := (List.mem_filter.mp hr).2
  rw [e] at h
  exact ze_sum_filter (fun k => !decide (k ∈ (ze_dk L).take q)) k h L
theorem ze_lf_nil {L : List ze_Row} {q : Nat} : ze_lf L q = [] ↔ (ze_dk L).length ≤ q := by
  constructor
  · intro h
    have h2 := ze_dk_lf L q
    rw [h] at h2
    have : ((ze_dk L).drop q).length = 0 := by rw [← h2]; rfl
    rw [List.length_drop] at this
    omega
  · intro h
    unfold ze_lf
    rw [List.filter_eq_nil_iff]
    intro r hr
    have : r.1 ∈ (ze_dk L).take q := by
      rw [List.take_of_length_le h]
      exact (ze_dk_mem _ _).mpr ⟨r, hr, rfl⟩
    simp [this]
theorem ze_lf_0 (L : List ze_Row) : ze_lf L 0 = L := by
  unfold ze_lf
  simp
end
section
/-! PURE: two columns that hold a list of rows from a place on -/
def ze_Hl (f g : Nat → Int32) (k : Nat) (L : List ze_Row) : Prop := ∀ (p : Nat) (r : ze_Row), L[p]? = some r → f (k + p) = r.1 ∧ g (k + p) = r.2
section ZEH
variable {f g f' g' : Nat → Int32} {k q : Nat} {L A B : List ze_Row} {r : ze_Row} {a b : Int32}
theorem ze_Hl_nil : ze_Hl f g k [] := fun p r h => by simp at h
theorem ze_Hl_eq (h : ze_Hl f g k L) (he : ∀ p, k ≤ p → p < k + L.length → f' p = f p ∧ g' p = g p) : ze_Hl f' g' k L := by
  intro p r hp
  have hl := (List.getElem?_eq_some_iff.mp hp).1
  obtain ⟨e1, e2⟩ := he (k + p) (by omega) (by omega)
  obtain ⟨h1, h2⟩ := h p r hp
  exact ⟨e1.trans h1, e2.trans h2⟩
theorem ze_Hl_app : ze_Hl f g k (A ++ B) ↔ ze_Hl f g k A ∧ ze_Hl f g (k + A.length) B := by
  constructor
  · intro h
    refine ⟨fun p r hp => h p r ?_, fun p r hp => ?_⟩
    · rw [List.getElem?_append_left (List.getElem?_eq_some_iff.mp hp).1]
      exact hp
    · have := h (A.length + p) r (by rw [List.getElem?_append_right (by omega), Nat.add_sub_cancel_left]; exact hp)
      rw [← Nat.add_assoc] at this
      exact this
  · rintro ⟨h1, h2⟩ p r hp
    by_cases hl : p < A.length
    · rw [List.getElem?_append_left hl] at hp
      exact h1 p r hp
    · rw [List.getElem?_append_right (by omega)] at hp
      have := h2 (p - A.length) r hp
      rw [show k + A.length + (p - A.length) = k + p by omega] at this
      exact this
theorem ze_Hl_one : ze_Hl f g k [r] ↔ f k = r.1 ∧ g k = r.2 := by
  constructor
  · intro h
    exact h 0 r rfl
  · intro h p x hp
    cases p with
    | zero =>
      simp only [List.getElem?_cons_zero, Option.some.injEq] at hp
      subst hp
      exact h
    | succ p => simp at hp
theorem ze_Hl_cons : ze_Hl f g k (r :: L) ↔ (f k = r.1 ∧ g k = r.2) ∧ ze_Hl f g (k + 1) L := by
  have h := ze_Hl_app (f := f) (g := g) (k := k) (A := [r]) (B := L)
  rw [ze_Hl_one] at h
  exact h
theorem ze_upd_ne {f : Nat → Int32} {q j : Nat} {a : Int32} (h : j ≠ q) : upd f q a j = f j := pk_un h
theorem ze_Hl_upd (h : ze_Hl f g k L) (hq : q < k ∨ k + L.length ≤ q) : ze_Hl (upd f q a) (upd g q b) k L :=
  ze_Hl_eq h (fun p h1 h2 => ⟨pk_un (by omega), pk_un (by omega)⟩)
theorem ze_Hl_updf (h : ze_Hl f g k L) (hq : q < k ∨ k + L.length ≤ q) : ze_Hl (upd f q a) g k L :=
  ze_Hl_eq h (fun p h1 h2 => ⟨pk_un (by omega), rfl⟩)
theorem ze_Hl_updg (h : ze_Hl f g k L) (hq : q < k ∨ k + L.length ≤ q) : ze_Hl f (upd g q b) k L :=
  ze_Hl_eq h (fun p h1 h2 => ⟨rfl, pk_un (by omega)⟩)
theorem ze_Hl_snoc (h : ze_Hl f g k L) : ze_Hl (upd f (k + L.length) r.1) (upd g (k + L.length) r.2) k (L ++ [r]) := by
  rw [ze_Hl_app, ze_Hl_one]
  exact ⟨ze_Hl_upd h (Or.inr (Nat.le_refl _)), pk_us, pk_us⟩
theorem ze_Hl_row (h : ze_Hl f g k L) {p : Nat} (hp : p < L.length) : L[p]? = some (f (k + p), g (k + p)) := by
  obtain ⟨h1, h2⟩ := h p L[p] (List.getElem?_eq_getElem hp)
  rw [List.getElem?_eq_getElem hp, h1, h2]
theorem ze_Hl_cpy {sp dp : Nat} (h : ze_Hl f g sp L) : ze_Hl (va_cpy f f' sp dp L.length) (va_cpy g g' sp dp L.length) dp L := by
  intro p r hp
  have hl := (List.getElem?_eq_some_iff.mp hp).1
  obtain ⟨h1, h2⟩ := h p r hp
  rw [pk_cpy_in (by omega) (by omega), pk_cpy_in (by omega) (by omega), show sp + (dp + p - dp) = sp + p by omega]
  exact ⟨h1, h2⟩
theorem ze_Hl_set {p : Nat} (h : ze_Hl f g k L) (hp : p < L.length) : ze_Hl (upd f (k + p) r.1) (upd g (k + p) r.2) k (L.set p r) := by
  intro j x hj
  by_cases e : j = p
  · subst e
    rw [List.getElem?_set_self hp] at hj
    cases hj
    exact ⟨pk_us, pk_us⟩
  · rw [List.getElem?_set_ne (Ne.symm e)] at hj
    obtain ⟨h1, h2⟩ := h j x hj
    exact ⟨(pk_un (by omega)).trans h1, (pk_un (by omega)).trans h2⟩
end ZEH
end
section
/-! THE VALUE that class and reference both keep: input, slots, transfers, frames; and what each call makes of it -/
def ze_sz (n : Nat) : Nat := (n + 3) / 4
/-- passes: from r runs, with M frames, at most k of them -/
def ze_ps (M : Nat) : Nat → Nat → Nat
  | 0, _ => 0
  | k + 1, r => if 1 < r then ze_ps M k ((r + (M - 1) - 1) / (M - 1)) + 1 else 0
def ze_sc (M n : Nat) : Nat := 2 * ze_sz n * (1 + ze_ps M 60 ((ze_sz n + M - 1) / M))
def ze_rm4 (M : Nat) : Nat := 4 * (M - 2)
/-- the cost of the rounds of group from the key q on -/
def ze_gc (e : Nat) (L : List ze_Row) : Nat → Nat → Nat
  | 0, _ => 0
  | k + 1, q => if q < (ze_dk L).length then ze_sz (ze_lf L q).length + ze_sz (ze_lf L (q + e)).length + ze_gc e L k (q + e) else 0
def ze_dg (M : Nat) (v : Int32) (lev : Nat) : Nat := (v.toInt % (((M - 1) * (M - 1) * (M - 1) : Nat) : Int)).toNat / (M - 1) ^ lev % (M - 1)
/-- the rows of A joined with those of B, A's rows outside -/
def ze_jr (A B : List ze_Row) : List ze_Row := A.flatMap (fun a => (B.filter (fun b => decide (b.1 = a.2))).map (fun b => (a.1, b.2)))
/-- B in chunks of w rows -/
def ze_jc (w : Nat) (A : List ze_Row) : Nat → List ze_Row → List ze_Row
  | 0, _ => []
  | k + 1, B => if B = [] then [] else ze_jr A (B.take w) ++ ze_jc w A k (B.drop w)
def ze_pt (M lev p : Nat) (f : ze_Row → Int32) (A : List ze_Row) : List ze_Row := A.filter (fun r => decide (ze_dg M (f r) lev = p))
/-- the join at a level, k levels above the last: rows and cost -/
def ze_jn (M : Nat) : Nat → List ze_Row → List ze_Row → List ze_Row × Nat
  | 0, A, B => if A = [] ∨ B = [] then ([], 0) else (ze_jc (ze_rm4 M) A B.length B, ze_sz B.length + (B.length + ze_rm4 M - 1) / ze_rm4 M * ze_sz A.length)
  | k + 1, A, B => if A = [] ∨ B = [] then ([], 0)
    else if B.length ≤ ze_rm4 M then (ze_jc (ze_rm4 M) A B.length B, ze_sz B.length + (B.length + ze_rm4 M - 1) / ze_rm4 M * ze_sz A.length)
    else ((List.range (M - 1)).flatMap (fun p => (ze_jn M k (ze_pt M (2 - k) p (fun r => r.2) A) (ze_pt M (2 - k) p (fun r => r.1) B)).1),
      ze_sz A.length + ze_sz B.length + ((List.range (M - 1)).map (fun p => ze_sz (ze_pt M (2 - k) p (fun r => r.2) A).length + ze_sz (ze_pt M (2 - k) p (fun r => r.1) B).length + (ze_jn M k (ze_pt M (2 - k) p (fun r => r.2) A) (ze_pt M (2 - k) p (fun r => r.1) B)).2)).sum)
/-- input, slots, moved, frames -/
abbrev ze_Sg : Type := List ze_Row × (Nat → Option (List ze_Row)) × Int64 × Nat
def ze_isS (s : Int32) : Bool := decide (0 ≤ s.toInt ∧ s.toInt < 8)
def ze_n (s : Int32) : Nat := s.toInt.toNat
def sp_put (σ : ze_Sg) (k v : Int32) : Int32 × ze_Sg := if σ.1.length = 60 then (0, σ) else (1, (σ.1 ++ [(k, v)], σ.2))
def sp_store (σ : ze_Sg) (into : Int32) : Int32 × ze_Sg :=
  if ze_isS into = false then (-1, σ) else match σ.2.1 (ze_n into) with
    | some _ => (-3, σ)
    | none => (nI σ.1.length, ([], va_up σ.2.1 (ze_n into) (some σ.1), σ.2.2.1 + lN (ze_sz σ.1.length), σ.2.2.2))
def sp_drop (σ : ze_Sg) (s : Int32) : Int32 × ze_Sg :=
  if ze_isS s = false then (-1, σ) else match σ.2.1 (ze_n s) with
    | none => (-2, σ)
    | some L => (nI L.length, (σ.1, va_up σ.2.1 (ze_n s) none, σ.2.2))
def sp_rows (σ : ze_Sg) (s : Int32) : Int32 := if ze_isS s = false then -1 else match σ.2.1 (ze_n s) with
  | none => -1
  | some L => nI L.length
def sp_at (f : ze_Row → Int32) (σ : ze_Sg) (s p : Int32) : Int32 := if ze_isS s = false then 0 else match σ.2.1 (ze_n s) with
  | none => 0
  | some L => if p.toInt < 0 then 0 else match L[p.toInt.toNat]? with
    | none => 0
    | some r => f r
def sp_fin (σ : ze_Sg) (j : Nat) (q : List ze_Row × Nat) : Int32 × ze_Sg := if 60 < q.1.length then (-4, σ) else (nI q.1.length, (σ.1, va_up σ.2.1 j (some q.1), σ.2.2.1 + lN q.2, σ.2.2.2))
def sp_op (σ : ze_Sg) (ok : Bool) (a b into : Int32) (f : List ze_Row → List ze_Row → List ze_Row × Nat) : Int32 × ze_Sg :=
  if (ok && ze_isS a && ze_isS b && ze_isS into) = false then (-1, σ) else match σ.2.1 (ze_n a), σ.2.1 (ze_n b) with
    | some A, some B => match σ.2.1 (ze_n into) with
      | some _ => (-3, σ)
      | none => sp_fin σ (ze_n into) (f A B)
    | _, _ => (-2, σ)
def sp_sort (σ : ze_Sg) (from_ order into : Int32) : Int32 × ze_Sg := sp_op σ (decide (0 ≤ order.toInt ∧ order.toInt ≤ 2)) from_ from_ into (fun A _ => (ze_srt (ze_n order) A, ze_sc σ.2.2.2 A.length))
def ze_sel (low high : Int32) (A : List ze_Row) : List ze_Row := A.filter (fun r => decide (low ≤ r.1 ∧ r.1 ≤ high))
def sp_select (σ : ze_Sg) (from_ low high into : Int32) : Int32 × ze_Sg := sp_op σ true from_ from_ into (fun A _ => (ze_sel low high A, ze_sz A.length + ze_sz (ze_sel low high A).length))
def sp_distinct (σ : ze_Sg) (from_ into : Int32) : Int32 × ze_Sg := sp_op σ true from_ from_ into (fun A _ => (ze_un A A, ze_sc σ.2.2.2 A.length + ze_sz A.length + ze_sz (ze_un A A).length))
def sp_group (σ : ze_Sg) (from_ into : Int32) : Int32 × ze_Sg := sp_op σ true from_ from_ into (fun A _ => (ze_grp A, ze_gc (ze_rm4 σ.2.2.2) A 60 0 + ze_sz (ze_grp A).length))
def sp_combine (σ : ze_Sg) (kind a b into : Int32) : Int32 × ze_Sg := sp_op σ (decide (0 ≤ kind.toInt ∧ kind.toInt ≤ 3)) a b into (fun A B => (ze_cmb (ze_n kind) A B, ze_sc σ.2.2.2 A.length + ze_sc σ.2.2.2 B.length + ze_sz A.length + ze_sz B.length + ze_sz (ze_cmb (ze_n kind) A B).length))
def sp_join (σ : ze_Sg) (a b into : Int32) : Int32 × ze_Sg := sp_op σ true a b into (fun A B => ((ze_jn σ.2.2.2 3 A B).1, (ze_jn σ.2.2.2 3 A B).2 + ze_sz (ze_jn σ.2.2.2 3 A B).1.length))
def sp_blocks (σ : ze_Sg) : Nat := ((List.range 8).map (fun j => match σ.2.1 j with
  | none => 0
  | some L => ze_sz L.length)).sum
/-- a table holds the rows L -/
def ze_H (t : ze_T) (L : List ze_Row) : Prop := t.2.2.1 = L.length ∧ L.length ≤ 60 ∧ ze_Hl t.1 t.2.1 0 L
/-- a table that was made of the rows L, of which it has room for 60 -/
def ze_Hu (t : ze_T) (L : List ze_Row) : Prop := t.2.2.1 = min L.length 60 ∧ t.2.2.2 = decide (60 < L.length) ∧ ze_Hl t.1 t.2.1 0 (L.take 60)
theorem ze_H_row {t : ze_T} {L : List ze_Row} {i : Nat} (h : ze_H t L) (hi : i < L.length) : L[i]? = some (t.1 i, t.2.1 i) := by
  have := ze_Hl_row h.2.2 hi
  rwa [Nat.zero_add] at this
theorem ze_Hu_H {t : ze_T} {L : List ze_Row} (h : ze_Hu t L) (hl : ¬ 60 < L.length) : ze_H t L := by
  obtain ⟨h1, h2, h3⟩ := h
  rw [List.take_of_length_le (by omega)] at h3
  exact ⟨by rw [h1]; omega, by omega, h3⟩
theorem ze_Hu_0 {f g : Nat → Int32} : ze_Hu (f, g, 0, false) [] := ⟨rfl, rfl, ze_Hl_nil⟩
/-- one more row -/
theorem ze_Hu_snoc {f g : Nat → Int32} {c : Nat} {o : Bool} {L : List ze_Row} {r : ze_Row} (h : ze_Hu (f, g, c, o) L) : ze_Hu (if c < 60 then (upd f c r.1, upd g c r.2, c + 1, o) else (f, g, c, true)) (L ++ [r]) := by
  obtain ⟨h1, h2, h3⟩ := h
  simp only at h1 h2 h3
  by_cases hc : c < 60
  · have hL : L.length = c := by omega
    rw [if_pos hc]
    refine ⟨by simp; omega, by rw [h2]; simp; omega, ?_⟩
    rw [List.take_of_length_le (by omega)] at h3
    rw [List.take_of_length_le (by simp; omega)]
    have := ze_Hl_snoc (r := r) h3
    rw [Nat.zero_add, hL] at this
    exact this
  · rw [if_neg hc]
    refine ⟨by simp; omega, by simp; omega, ?_⟩
    simp only
    rw [List.take_append_of_le_length (by omega)]
    exact h3
/-- the class's state x has the value σ -/
def ze_rX (x : ze_XS) (σ : ze_Sg) : Prop := x.1 = σ.2.2.2 ∧ 3 ≤ σ.2.2.2 ∧ σ.2.2.2 ≤ 6 ∧ x.2.2.2 = σ.2.2.1 ∧ ze_H (x.2.1 8) σ.1 ∧ (∀ j, j < 8 → σ.2.1 j = none → x.2.2.1 j = false) ∧ (∀ j, j < 8 → ∀ L, σ.2.1 j = some L → x.2.2.1 j = true ∧ ze_H (x.2.1 j) L)
end
section
/-! PURE: what the reference's searches find -/
theorem ze_nxt_some {A B D1 D2 : List ze_Row} {r : ze_Row} (hD : ze_un A B = D1 ++ D2) (hr : r ∈ A ∨ r ∈ B) (hgt : ∀ z, D1.getLast? = some z → ze_lt 2 z r = true) (hmin : ∀ x, (x ∈ A ∨ x ∈ B) → (∀ z, D1.getLast? = some z → ze_lt 2 z x = true) → ze_lt 2 x r = false) : ∃ D3, D2 = r :: D3 := by
  have hri := ze_un_ri A B
  rw [hD] at hri
  obtain ⟨r1, r2, r3⟩ := List.pairwise_append.mp hri
  have hrD : r ∈ D1 ++ D2 := by rw [← hD]; exact (ze_un_mem A B r).mpr hr
  have hr2 : r ∈ D2 := by
    rcases List.mem_append.mp hrD with h | h
    · exfalso
      rcases List.eq_nil_or_concat D1 with e | ⟨K, z, e⟩
      · rw [e] at h; cases h
      · have hz : D1.getLast? = some z := by rw [e]; simp
        have h1 := hgt z hz
        rw [e] at h r1
        simp only [List.concat_eq_append] at h r1
        rcases List.mem_append.mp h with h | h
        · have h2 := (List.pairwise_append.mp r1).2.2 r h z (by simp)
          rw [ze_lt_asym h1] at h2
          cases h2
        · rw [List.mem_singleton.mp h, ze_lt_irr] at h1
          cases h1
    · exact h
  cases D2 with
  | nil => cases hr2
  | cons d D3 =>
    refine ⟨D3, ?_⟩
    have hd : d ∈ A ∨ d ∈ B := (ze_un_mem A B d).mp (by rw [hD]; simp)
    have h1 := hmin d hd (fun z hz => r3 z (List.mem_of_getLast? hz) d List.mem_cons_self)
    rcases List.mem_cons.mp hr2 with e | h
    · rw [e]
    · rw [(List.pairwise_cons.mp r2).1 r h] at h1
      cases h1
theorem ze_nxt_none {A B D1 D2 : List ze_Row} (hD : ze_un A B = D1 ++ D2) (hn : ∀ x, (x ∈ A ∨ x ∈ B) → ∃ z, D1.getLast? = some z ∧ ze_lt 2 z x = false) : D2 = [] := by
  cases D2 with
  | nil => rfl
  | cons d D3 =>
    exfalso
    have hri := ze_un_ri A B
    rw [hD] at hri
    obtain ⟨r1, r2, r3⟩ := List.pairwise_append.mp hri
    obtain ⟨z, hz, h⟩ := hn d ((ze_un_mem A B d).mp (by rw [hD]; simp))
    rw [r3 z (List.mem_of_getLast? hz) d List.mem_cons_self] at h
    cases h
theorem ze_dk_app (P : List ze_Row) : ∀ Q : List ze_Row, ∃ K, ze_dk (P ++ Q) = ze_dk P ++ K := by
  intro Q
  refine ze_snoc_ind (P := fun Q => ∃ K, ze_dk (P ++ Q) = ze_dk P ++ K) ⟨[], by simp⟩ ?_ Q
  rintro Q r ⟨K, h⟩
  rw [← List.append_assoc, ze_dk_snoc, h]
  by_cases hr : r.1 ∈ ze_dk P ++ K
  · exact ⟨K, by rw [if_pos hr]⟩
  · exact ⟨K ++ [r.1], by rw [if_neg hr, List.append_assoc]⟩
/-- the first row of its key: its rank is the number of keys ahead of it -/
theorem ze_rank_first {L : List ze_Row} {i : Nat} {r : ze_Row} (hi : L[i]? = some r) (hf : r.1 ∉ ze_dk (L.take i)) : (ze_dk L)[(ze_dk (L.take i)).length]? = some r.1 := by
  have hlt := (List.getElem?_eq_some_iff.mp hi).1
  have e1 : L.take (i + 1) = L.take i ++ [r] := by
    rw [List.take_succ, hi]
    rfl
  obtain ⟨K, hK⟩ := ze_dk_app (L.take (i + 1)) (L.drop (i + 1))
  rw [List.take_append_drop, e1, ze_dk_snoc, if_neg hf] at hK
  rw [hK, List.append_assoc, List.getElem?_append_right (Nat.le_refl _)]
  simp
theorem ze_rank_lt {L : List ze_Row} {i ρ : Nat} {k : Int32} (hk : k ∈ ze_dk (L.take i)) (hρ : (ze_dk L)[ρ]? = some k) : ρ < (ze_dk (L.take i)).length := by
  obtain ⟨K, hK⟩ := ze_dk_app (L.take i) (L.drop i)
  rw [List.take_append_drop] at hK
  obtain ⟨p, hp⟩ := List.getElem?_of_mem hk
  have hpl := (List.getElem?_eq_some_iff.mp hp).1
  have h2 : (ze_dk L)[p]? = some k := by rw [hK, List.getElem?_append_left hpl]; exact hp
  have hnd := ze_dk_nodup L
  obtain ⟨l1, g1⟩ := List.getElem?_eq_some_iff.mp hρ
  obtain ⟨l2, g2⟩ := List.getElem?_eq_some_iff.mp h2
  have : ρ = p := (List.getElem_inj hnd).mp (g1.trans g2.symm)
  omega
theorem ze_rank_take {L : List ze_Row} {ρ q : Nat} {k : Int32} (hρ : (ze_dk L)[ρ]? = some k) : k ∈ (ze_dk L).take q ↔ ρ < q := by
  obtain ⟨l1, g1⟩ := List.getElem?_eq_some_iff.mp hρ
  constructor
  · intro h
    obtain ⟨p, hp⟩ := List.getElem?_of_mem h
    obtain ⟨l2, g2⟩ := List.getElem?_eq_some_iff.mp hp
    rw [List.length_take] at l2
    rw [List.getElem_take] at g2
    have : ρ = p := (List.getElem_inj (ze_dk_nodup L)).mp (g1.trans g2.symm)
    omega
  · intro h
    refine List.mem_of_getElem? (i := ρ) ?_
    rw [List.getElem?_take_of_lt h]
    exact hρ
theorem ze_sum_app (k : Int32) (P : List ze_Row) : ∀ Q : List ze_Row, k ∉ ze_dk P → ze_sum k (P ++ Q) = ze_sum k Q := by
  intro Q h
  refine ze_snoc_ind (P := fun Q => ze_sum k (P ++ Q) = ze_sum k Q) (by rw [List.append_nil, ze_sum_none k P h]; rfl) ?_ Q
  intro Q r ih
  rw [← List.append_assoc, ze_sum_snoc, ze_sum_snoc, ih]
end
section
theorem fl_T_9 {c0 : Cond} : ze_Fl (c0 :: ze_B) R_T 9 ze_kT 0 := ⟨R_T, F_T, 4, rfl, by decide, fun w h => List.mem_cons_of_mem _ (in_T w h), List.mem_cons_of_mem _ zw_28⟩
theorem fp_T_9 {c0 : Cond} : ze_Fp (c0 :: ze_B) R_T 9 ze_kT 0 (.array .int) true := ⟨R_T, F_T, 4, zt_T, rfl, by decide, fun w h => List.mem_cons_of_mem _ (in_T w h), List.mem_cons_of_mem _ zw_28, zt_T_ok, zn_T, rfl, (fun _ => rfl), by decide +kernel⟩
theorem fl_X_83 {c0 : Cond} : ze_Fl (c0 :: ze_B) R_X 83 ze_kT 0 := ⟨R_T, F_T, 4, rfl, by decide, fun w h => List.mem_cons_of_mem _ (in_T w h), List.mem_cons_of_mem _ zw_29⟩
theorem fl_T_15 {c0 : Cond} : ze_Fl (c0 :: ze_B) R_T 15 ze_kT 1 := ⟨R_T, F_T, 4, rfl, by decide, fun w h => List.mem_cons_of_mem _ (in_T w h), List.mem_cons_of_mem _ zw_30⟩
theorem fp_T_15 {c0 : Cond} : ze_Fp (c0 :: ze_B) R_T 15 ze_kT 1 (.array .int) true := ⟨R_T, F_T, 4, zt_T, rfl, by decide, fun w h => List.mem_cons_of_mem _ (in_T w h), List.mem_cons_of_mem _ zw_30, zt_T_ok, zn_T, rfl, (fun _ => rfl), by decide +kernel⟩
theorem fl_X_87 {c0 : Cond} : ze_Fl (c0 :: ze_B) R_X 87 ze_kT 1 := ⟨R_T, F_T, 4, rfl, by decide, fun w h => List.mem_cons_of_mem _ (in_T w h), List.mem_cons_of_mem _ zw_31⟩
theorem fl_T_18 {c0 : Cond} : ze_Fl (c0 :: ze_B) R_T 18 ze_kT 2 := ⟨R_T, F_T, 4, rfl, by decide, fun w h => List.mem_cons_of_mem _ (in_T w h), List.mem_cons_of_mem _ zw_32⟩
theorem fp_T_18 {c0 : Cond} : ze_Fp (c0 :: ze_B) R_T 18 ze_kT 2 .int false := ⟨R_T, F_T, 4, zt_T, rfl, by decide, fun w h => List.mem_cons_of_mem _ (in_T w h), List.mem_cons_of_mem _ zw_32, zt_T_ok, zn_T, rfl, (fun _ => rfl), by decide +kernel⟩
theorem fl_X_50 {c0 : Cond} : ze_Fl (c0 :: ze_B) R_X 50 ze_kT 2 := ⟨R_T, F_T, 4, rfl, by decide, fun w h => List.mem_cons_of_mem _ (in_T w h), List.mem_cons_of_mem _ zw_33⟩
theorem fp_X_50 {c0 : Cond} : ze_Fp (c0 :: ze_B) R_X 50 ze_kT 2 .int false := ⟨R_T, F_T, 4, zt_T, rfl, by decide, fun w h => List.mem_cons_of_mem _ (in_T w h), List.mem_cons_of_mem _ zw_33, zt_T_ok, zn_T, rfl, (fun h => by cases h), by decide +kernel⟩
theorem fl_T_22 {c0 : Cond} : ze_Fl (c0 :: ze_B) R_T 22 ze_kT 3 := ⟨R_T, F_T, 4, rfl, by decide, fun w h => List.mem_cons_of_mem _ (in_T w h), List.mem_cons_of_mem _ zw_34⟩
theorem fp_T_22 {c0 : Cond} : ze_Fp (c0 :: ze_B) R_T 22 ze_kT 3 .boolean false := ⟨R_T, F_T, 4, zt_T, rfl, by decide, fun w h => List.mem_cons_of_mem _ (in_T w h), List.mem_cons_of_mem _ zw_34, zt_T_ok, zn_T, rfl, (fun _ => rfl), by decide +kernel⟩
theorem fl_X_117 {c0 : Cond} : ze_Fl (c0 :: ze_B) R_X 117 ze_kT 3 := ⟨R_T, F_T, 4, rfl, by decide, fun w h => List.mem_cons_of_mem _ (in_T w h), List.mem_cons_of_mem _ zw_35⟩
theorem fp_X_117 {c0 : Cond} : ze_Fp (c0 :: ze_B) R_X 117 ze_kT 3 .boolean false := ⟨R_T, F_T, 4, zt_T, rfl, by decide, fun w h => List.mem_cons_of_mem _ (in_T w h), List.mem_cons_of_mem _ zw_35, zt_T_ok, zn_T, rfl, (fun h => by cases h), by decide +kernel⟩
theorem fl_X_18 {c0 : Cond} : ze_Fl (c0 :: ze_B) R_X 18 ze_kX 0 := ⟨R_X, F_X, 8, rfl, by decide, fun w h => List.mem_cons_of_mem _ (in_X w h), List.mem_cons_of_mem _ zw_46⟩
theorem fp_X_18 {c0 : Cond} : ze_Fp (c0 :: ze_B) R_X 18 ze_kX 0 .int true := ⟨R_X, F_X, 8, zt_X, rfl, by decide, fun w h => List.mem_cons_of_mem _ (in_X w h), List.mem_cons_of_mem _ zw_46, zt_X_ok, zn_X, rfl, (fun _ => rfl), by decide +kernel⟩
theorem fl_X_24 {c0 : Cond} : ze_Fl (c0 :: ze_B) R_X 24 ze_kX 1 := ⟨R_X, F_X, 8, rfl, by decide, fun w h => List.mem_cons_of_mem _ (in_X w h), List.mem_cons_of_mem _ zw_47⟩
theorem fp_X_24 {c0 : Cond} : ze_Fp (c0 :: ze_B) R_X 24 ze_kX 1 (.array (.object "BlockExecutor$Table")) true := ⟨R_X, F_X, 8, zt_X, rfl, by decide, fun w h => List.mem_cons_of_mem _ (in_X w h), List.mem_cons_of_mem _ zw_47, zt_X_ok, zn_X, rfl, (fun _ => rfl), by decide +kernel⟩
theorem fl_X_29 {c0 : Cond} : ze_Fl (c0 :: ze_B) R_X 29 ze_kX 2 := ⟨R_X, F_X, 8, rfl, by decide, fun w h => List.mem_cons_of_mem _ (in_X w h), List.mem_cons_of_mem _ zw_48⟩
theorem fp_X_29 {c0 : Cond} : ze_Fp (c0 :: ze_B) R_X 29 ze_kX 2 (.array .boolean) true := ⟨R_X, F_X, 8, zt_X, rfl, by decide, fun w h => List.mem_cons_of_mem _ (in_X w h), List.mem_cons_of_mem _ zw_48, zt_X_ok, zn_X, rfl, (fun _ => rfl), by decide +kernel⟩
theorem fl_X_33 {c0 : Cond} : ze_Fl (c0 :: ze_B) R_X 33 ze_kX 3 := ⟨R_X, F_X, 8, rfl, by decide, fun w h => List.mem_cons_of_mem _ (in_X w h), List.mem_cons_of_mem _ zw_49⟩
theorem fp_X_33 {c0 : Cond} : ze_Fp (c0 :: ze_B) R_X 33 ze_kX 3 (.object "BlockExecutor$Table") true := ⟨R_X, F_X, 8, zt_X, rfl, by decide, fun w h => List.mem_cons_of_mem _ (in_X w h), List.mem_cons_of_mem _ zw_49, zt_X_ok, zn_X, rfl, (fun _ => rfl), by decide +kernel⟩
theorem fl_X_37 {c0 : Cond} : ze_Fl (c0 :: ze_B) R_X 37 ze_kX 4 := ⟨R_X, F_X, 8, rfl, by decide, fun w h => List.mem_cons_of_mem _ (in_X w h), List.mem_cons_of_mem _ zw_50⟩
theorem fp_X_37 {c0 : Cond} : ze_Fp (c0 :: ze_B) R_X 37 ze_kX 4 (.object "BlockExecutor$Table") true := ⟨R_X, F_X, 8, zt_X, rfl, by decide, fun w h => List.mem_cons_of_mem _ (in_X w h), List.mem_cons_of_mem _ zw_50, zt_X_ok, zn_X, rfl, (fun _ => rfl), by decide +kernel⟩
theorem fl_X_40 {c0 : Cond} : ze_Fl (c0 :: ze_B) R_X 40 ze_kX 5 := ⟨R_X, F_X, 8, rfl, by decide, fun w h => List.mem_cons_of_mem _ (in_X w h), List.mem_cons_of_mem _ zw_51⟩
theorem fp_X_40 {c0 : Cond} : ze_Fp (c0 :: ze_B) R_X 40 ze_kX 5 (.object "BlockExecutor$Table") true := ⟨R_X, F_X, 8, zt_X, rfl, by decide, fun w h => List.mem_cons_of_mem _ (in_X w h), List.mem_cons_of_mem _ zw_51, zt_X_ok, zn_X, rfl, (fun _ => rfl), by decide +kernel⟩
theorem fl_X_43 {c0 : Cond} : ze_Fl (c0 :: ze_B) R_X 43 ze_kX 6 := ⟨R_X, F_X, 8, rfl, by decide, fun w h => List.mem_cons_of_mem _ (in_X w h), List.mem_cons_of_mem _ zw_52⟩
theorem fp_X_43 {c0 : Cond} : ze_Fp (c0 :: ze_B) R_X 43 ze_kX 6 (.object "BlockExecutor$Table") true := ⟨R_X, F_X, 8, zt_X, rfl, by decide, fun w h => List.mem_cons_of_mem _ (in_X w h), List.mem_cons_of_mem _ zw_52, zt_X_ok, zn_X, rfl, (fun _ => rfl), by decide +kernel⟩
theorem fl_X_46 {c0 : Cond} : ze_Fl (c0 :: ze_B) R_X 46 ze_kX 7 := ⟨R_X, F_X, 8, rfl, by decide, fun w h => List.mem_cons_of_mem _ (in_X w h), List.mem_cons_of_mem _ zw_53⟩
theorem fp_X_46 {c0 : Cond} : ze_Fp (c0 :: ze_B) R_X 46 ze_kX 7 .long false := ⟨R_X, F_X, 8, zt_X, rfl, by decide, fun w h => List.mem_cons_of_mem _ (in_X w h), List.mem_cons_of_mem _ zw_53, zt_X_ok, zn_X, rfl, (fun _ => rfl), by decide +kernel⟩
theorem fl_M_34 {c0 : Cond} : ze_Fl (c0 :: ze_B) R_M 34 ze_kM 0 := ⟨R_M, F_M, 14, rfl, by decide, fun w h => List.mem_cons_of_mem _ (in_M w h), List.mem_cons_of_mem _ zw_252⟩
theorem fp_M_34 {c0 : Cond} : ze_Fp (c0 :: ze_B) R_M 34 ze_kM 0 .int true := ⟨R_M, F_M, 14, zt_M, rfl, by decide, fun w h => List.mem_cons_of_mem _ (in_M w h), List.mem_cons_of_mem _ zw_252, zt_M_ok, zn_M, rfl, (fun _ => rfl), by decide +kernel⟩
theorem fl_M_51 {c0 : Cond} : ze_Fl (c0 :: ze_B) R_M 51 ze_kM 1 := ⟨R_M, F_M, 14, rfl, by decide, fun w h => List.mem_cons_of_mem _ (in_M w h), List.mem_cons_of_mem _ zw_253⟩
theorem fp_M_51 {c0 : Cond} : ze_Fp (c0 :: ze_B) R_M 51 ze_kM 1 .long false := ⟨R_M, F_M, 14, zt_M, rfl, by decide, fun w h => List.mem_cons_of_mem _ (in_M w h), List.mem_cons_of_mem _ zw_253, zt_M_ok, zn_M, rfl, (fun _ => rfl), by decide +kernel⟩
theorem fl_M_44 {c0 : Cond} : ze_Fl (c0 :: ze_B) R_M 44 ze_kM 2 := ⟨R_M, F_M, 14, rfl, by decide, fun w h => List.mem_cons_of_mem _ (in_M w h), List.mem_cons_of_mem _ zw_254⟩
theorem fp_M_44 {c0 : Cond} : ze_Fp (c0 :: ze_B) R_M 44 ze_kM 2 .int false := ⟨R_M, F_M, 14, zt_M, rfl, by decide, fun w h => List.mem_cons_of_mem _ (in_M w h), List.mem_cons_of_mem _ zw_254, zt_M_ok, zn_M, rfl, (fun _ => rfl), by decide +kernel⟩
theorem fl_M_7 {c0 : Cond} : ze_Fl (c0 :: ze_B) R_M 7 ze_kM 3 := ⟨R_M, F_M, 14, rfl, by decide, fun w h => List.mem_cons_of_mem _ (in_M w h), List.mem_cons_of_mem _ zw_255⟩
theorem fp_M_7 {c0 : Cond} : ze_Fp (c0 :: ze_B) R_M 7 ze_kM 3 (.array .int) true := ⟨R_M, F_M, 14, zt_M, rfl, by decide, fun w h => List.mem_cons_of_mem _ (in_M w h), List.mem_cons_of_mem _ zw_255, zt_M_ok, zn_M, rfl, (fun _ => rfl), by decide +kernel⟩
theorem fl_M_13 {c0 : Cond} : ze_Fl (c0 :: ze_B) R_M 13 ze_kM 4 := ⟨R_M, F_M, 14, rfl, by decide, fun w h => List.mem_cons_of_mem _ (in_M w h), List.mem_cons_of_mem _ zw_256⟩
theorem fp_M_13 {c0 : Cond} : ze_Fp (c0 :: ze_B) R_M 13 ze_kM 4 (.array .int) true := ⟨R_M, F_M, 14, zt_M, rfl, by decide, fun w h => List.mem_cons_of_mem _ (in_M w h), List.mem_cons_of_mem _ zw_256, zt_M_ok, zn_M, rfl, (fun _ => rfl), by decide +kernel⟩
theorem fl_M_16 {c0 : Cond} : ze_Fl (c0 :: ze_B) R_M 16 ze_kM 5 := ⟨R_M, F_M, 14, rfl, by decide, fun w h => List.mem_cons_of_mem _ (in_M w h), List.mem_cons_of_mem _ zw_257⟩
theorem fp_M_16 {c0 : Cond} : ze_Fp (c0 :: ze_B) R_M 16 ze_kM 5 (.array .int) true := ⟨R_M, F_M, 14, zt_M, rfl, by decide, fun w h => List.mem_cons_of_mem _ (in_M w h), List.mem_cons_of_mem _ zw_257, zt_M_ok, zn_M, rfl, (fun _ => rfl), by decide +kernel⟩
theorem fl_M_19 {c0 : Cond} : ze_Fl (c0 :: ze_B) R_M 19 ze_kM 6 := ⟨R_M, F_M, 14, rfl, by decide, fun w h => List.mem_cons_of_mem _ (in_M w h), List.mem_cons_of_mem _ zw_258⟩
theorem fp_M_19 {c0 : Cond} : ze_Fp (c0 :: ze_B) R_M 19 ze_kM 6 (.array .int) true := ⟨R_M, F_M, 14, zt_M, rfl, by decide, fun w h => List.mem_cons_of_mem _ (in_M w h), List.mem_cons_of_mem _ zw_258, zt_M_ok, zn_M, rfl, (fun _ => rfl), by decide +kernel⟩
theorem fl_M_22 {c0 : Cond} : ze_Fl (c0 :: ze_B) R_M 22 ze_kM 7 := ⟨R_M, F_M, 14, rfl, by decide, fun w h => List.mem_cons_of_mem _ (in_M w h), List.mem_cons_of_mem _ zw_259⟩
theorem fp_M_22 {c0 : Cond} : ze_Fp (c0 :: ze_B) R_M 22 ze_kM 7 (.array .int) true := ⟨R_M, F_M, 14, zt_M, rfl, by decide, fun w h => List.mem_cons_of_mem _ (in_M w h), List.mem_cons_of_mem _ zw_259, zt_M_ok, zn_M, rfl, (fun _ => rfl), by decide +kernel⟩
theorem fl_M_55 {c0 : Cond} : ze_Fl (c0 :: ze_B) R_M 55 ze_kM 8 := ⟨R_M, F_M, 14, rfl, by decide, fun w h => List.mem_cons_of_mem _ (in_M w h), List.mem_cons_of_mem _ zw_260⟩
theorem fp_M_55 {c0 : Cond} : ze_Fp (c0 :: ze_B) R_M 55 ze_kM 8 .int false := ⟨R_M, F_M, 14, zt_M, rfl, by decide, fun w h => List.mem_cons_of_mem _ (in_M w h), List.mem_cons_of_mem _ zw_260, zt_M_ok, zn_M, rfl, (fun _ => rfl), by decide +kernel⟩
theorem fl_M_25 {c0 : Cond} : ze_Fl (c0 :: ze_B) R_M 25 ze_kM 9 := ⟨R_M, F_M, 14, rfl, by decide, fun w h => List.mem_cons_of_mem _ (in_M w h), List.mem_cons_of_mem _ zw_261⟩
theorem fp_M_25 {c0 : Cond} : ze_Fp (c0 :: ze_B) R_M 25 ze_kM 9 (.array .int) true := ⟨R_M, F_M, 14, zt_M, rfl, by decide, fun w h => List.mem_cons_of_mem _ (in_M w h), List.mem_cons_of_mem _ zw_261, zt_M_ok, zn_M, rfl, (fun _ => rfl), by decide +kernel⟩
theorem fl_M_28 {c0 : Cond} : ze_Fl (c0 :: ze_B) R_M 28 ze_kM 10 := ⟨R_M, F_M, 14, rfl, by decide, fun w h => List.mem_cons_of_mem _ (in_M w h), List.mem_cons_of_mem _ zw_262⟩
theorem fp_M_28 {c0 : Cond} : ze_Fp (c0 :: ze_B) R_M 28 ze_kM 10 (.array .int) true := ⟨R_M, F_M, 14, zt_M, rfl, by decide, fun w h => List.mem_cons_of_mem _ (in_M w h), List.mem_cons_of_mem _ zw_262, zt_M_ok, zn_M, rfl, (fun _ => rfl), by decide +kernel⟩
theorem fl_M_58 {c0 : Cond} : ze_Fl (c0 :: ze_B) R_M 58 ze_kM 11 := ⟨R_M, F_M, 14, rfl, by decide, fun w h => List.mem_cons_of_mem _ (in_M w h), List.mem_cons_of_mem _ zw_263⟩
theorem fp_M_58 {c0 : Cond} : ze_Fp (c0 :: ze_B) R_M 58 ze_kM 11 .long false := ⟨R_M, F_M, 14, zt_M, rfl, by decide, fun w h => List.mem_cons_of_mem _ (in_M w h), List.mem_cons_of_mem _ zw_263, zt_M_ok, zn_M, rfl, (fun _ => rfl), by decide +kernel⟩
theorem fl_M_98 {c0 : Cond} : ze_Fl (c0 :: ze_B) R_M 98 ze_kM 12 := ⟨R_M, F_M, 14, rfl, by decide, fun w h => List.mem_cons_of_mem _ (in_M w h), List.mem_cons_of_mem _ zw_264⟩
theorem fp_M_98 {c0 : Cond} : ze_Fp (c0 :: ze_B) R_M 98 ze_kM 12 .int false := ⟨R_M, F_M, 14, zt_M, rfl, by decide, fun w h => List.mem_cons_of_mem _ (in_M w h), List.mem_cons_of_mem _ zw_264, zt_M_ok, zn_M, rfl, (fun _ => rfl), by decide +kernel⟩
theorem fl_M_31 {c0 : Cond} : ze_Fl (c0 :: ze_B) R_M 31 ze_kM 13 := ⟨R_M, F_M, 14, rfl, by decide, fun w h => List.mem_cons_of_mem _ (in_M w h), List.mem_cons_of_mem _ zw_265⟩
theorem fp_M_31 {c0 : Cond} : ze_Fp (c0 :: ze_B) R_M 31 ze_kM 13 (.array .int) true := ⟨R_M, F_M, 14, zt_M, rfl, by decide, fun w h => List.mem_cons_of_mem _ (in_M w h), List.mem_cons_of_mem _ zw_265, zt_M_ok, zn_M, rfl, (fun _ => rfl), by decide +kernel⟩
theorem ki_L_15 {c0 : Cond} {rm rm' : Room} (h : (rm'.frames + 1 ≤ rm.frames ∧ 8 + (3 + 11) + rm'.locals ≤ rm.locals)) : ze_Ki (c0 :: ze_B) R_L 15 y_X_init ws_X_init rm rm' 1 := ⟨b_X_init, 3, ze_B, ze_gc_ (ze_gcons zw_11 ze_gB), rfl, List.mem_cons_of_mem _ zw_1, List.mem_cons_of_mem _ zw_9, List.mem_cons_of_mem _ zw_10, rfl, by decide +kernel, h⟩
theorem ks_X_9 {c0 : Cond} {rm rm' : Room} (h : (rm'.frames + 1 ≤ rm.frames ∧ 8 + (2 + 11) + rm'.locals ≤ rm.locals)) : ze_Ks (c0 :: ze_B) R_X 9 y_J_max ws_J_max rm rm' 2 := ⟨b_J_max, 2, (some .int), ze_B, ze_gc_ (ze_gcons zw_15 (ze_gcons zw_16 (ze_gcons zw_2 (ze_gcons zw_17 ze_gB)))), rfl, by decide +kernel, h⟩
theorem ks_X_15 {c0 : Cond} {rm rm' : Room} (h : (rm'.frames + 1 ≤ rm.frames ∧ 8 + (2 + 11) + rm'.locals ≤ rm.locals)) : ze_Ks (c0 :: ze_B) R_X 15 y_J_min ws_J_min rm rm' 2 := ⟨b_J_min, 2, (some .int), ze_B, ze_gc_ (ze_gcons zw_18 (ze_gcons zw_19 (ze_gcons zw_2 (ze_gcons zw_20 ze_gB)))), rfl, by decide +kernel, h⟩
theorem kv_L_21 {c0 : Cond} {rm rm' : Room} (h : (rm'.frames + 1 ≤ rm.frames ∧ 8 + (3 + 11) + rm'.locals ≤ rm.locals)) : ze_Kv (c0 :: ze_B) R_L 21 y_X_put ws_X_put rm rm' ze_kX 2 := ⟨b_X_put, 3, (some .boolean), ze_B, R_X, F_X, 8, ze_gc_ (ze_gcons zw_72 (ze_gcons zw_73 (ze_gcons zw_74 (ze_gcons zw_1 (ze_gcons zw_75 ze_gB))))), rfl, by decide +kernel, h, rfl⟩
theorem kv_X_53 {c0 : Cond} {rm rm' : Room} (h : (rm'.frames + 1 ≤ rm.frames ∧ 8 + (3 + 11) + rm'.locals ≤ rm.locals)) : ze_Kv (c0 :: ze_B) R_X 53 y_T_append ws_T_append rm rm' ze_kT 2 := ⟨b_T_append, 3, none, ze_B, R_T, F_T, 4, ze_gc_ (ze_gcons zw_76 (ze_gcons zw_77 (ze_gcons zw_78 (ze_gcons zw_3 (ze_gcons zw_79 ze_gB))))), rfl, by decide +kernel, h, rfl⟩
theorem kv_L_26 {c0 : Cond} {rm rm' : Room} (h : (rm'.frames + 1 ≤ rm.frames ∧ 8 + (2 + 11) + rm'.locals ≤ rm.locals)) : ze_Kv (c0 :: ze_B) R_L 26 y_X_store ws_X_store rm rm' ze_kX 1 := ⟨b_X_store, 2, (some .int), ze_B, R_X, F_X, 8, ze_gc_ (ze_gcons zw_80 (ze_gcons zw_81 (ze_gcons zw_82 (ze_gcons zw_1 (ze_gcons zw_83 ze_gB))))), rfl, by decide +kernel, h, rfl⟩
theorem ks_X_57 {c0 : Cond} {rm rm' : Room} (h : (rm'.frames + 1 ≤ rm.frames ∧ 8 + (1 + 11) + rm'.locals ≤ rm.locals)) : ze_Ks (c0 :: ze_B) R_X 57 y_X_isSlot ws_X_isSlot rm rm' 1 := ⟨b_X_isSlot, 1, (some .boolean), ze_B, ze_gc_ (ze_gcons zw_84 (ze_gcons zw_85 (ze_gcons zw_1 (ze_gcons zw_86 ze_gB)))), rfl, by decide +kernel, h⟩
theorem kv_X_61 {c0 : Cond} {rm rm' : Room} (h : (rm'.frames + 1 ≤ rm.frames ∧ 8 + (2 + 11) + rm'.locals ≤ rm.locals)) : ze_Kv (c0 :: ze_B) R_X 61 y_T_copyFrom ws_T_copyFrom rm rm' ze_kT 1 := ⟨b_T_copyFrom, 2, none, ze_B, R_T, F_T, 4, ze_gc_ (ze_gcons zw_87 (ze_gcons zw_88 (ze_gcons zw_89 (ze_gcons zw_3 (ze_gcons zw_90 ze_gB))))), rfl, by decide +kernel, h, rfl⟩
theorem kv_X_65 {c0 : Cond} {rm rm' : Room} (h : (rm'.frames + 1 ≤ rm.frames ∧ 8 + (1 + 11) + rm'.locals ≤ rm.locals)) : ze_Kv (c0 :: ze_B) R_X 65 y_T_clear ws_T_clear rm rm' ze_kT 0 := ⟨b_T_clear, 1, none, ze_B, R_T, F_T, 4, ze_gc_ (ze_gcons zw_94 (ze_gcons zw_95 (ze_gcons zw_96 (ze_gcons zw_3 (ze_gcons zw_97 ze_gB))))), rfl, by decide +kernel, h, rfl⟩
theorem ks_X_68 {c0 : Cond} {rm rm' : Room} (h : (rm'.frames + 1 ≤ rm.frames ∧ 8 + (1 + 11) + rm'.locals ≤ rm.locals)) : ze_Ks (c0 :: ze_B) R_X 68 y_X_sizeOf ws_X_sizeOf rm rm' 1 := ⟨b_X_sizeOf, 1, (some .int), ze_B, ze_gc_ (ze_gcons zw_98 (ze_gcons zw_99 (ze_gcons zw_1 (ze_gcons zw_100 ze_gB)))), rfl, by decide +kernel, h⟩
theorem ks_X_121 {c0 : Cond} {rm rm' : Room} (h : (rm'.frames + 1 ≤ rm.frames ∧ 8 + (2 + 11) + rm'.locals ≤ rm.locals)) : ze_Ks (c0 :: ze_B) R_X 121 y_X_dividedUp ws_X_dividedUp rm rm' 2 := ⟨b_X_dividedUp, 2, (some .int), ze_B, ze_gc_ (ze_gcons zw_101 (ze_gcons zw_102 (ze_gcons zw_1 (ze_gcons zw_103 ze_gB)))), rfl, by decide +kernel, h⟩
theorem kv_X_72 {c0 : Cond} {rm rm' : Room} (h : (rm'.frames + 1 ≤ rm.frames ∧ 8 + (5 + 11) + rm'.locals ≤ rm.locals)) : ze_Kv (c0 :: ze_B) R_X 72 y_X_finish ws_X_finish rm rm' ze_kX 2 := ⟨b_X_finish, 5, (some .int), ze_B, R_X, F_X, 8, ze_gc_ (ze_gcons zw_104 (ze_gcons zw_106 (ze_gcons zs_0 (ze_gcons zw_1 (ze_gcons zw_107 ze_gB))))), rfl, by decide +kernel, h, rfl⟩
theorem kv_L_31 {c0 : Cond} {rm rm' : Room} (h : (rm'.frames + 1 ≤ rm.frames ∧ 8 + (2 + 11) + rm'.locals ≤ rm.locals)) : ze_Kv (c0 :: ze_B) R_L 31 y_X_drop ws_X_drop rm rm' ze_kX 1 := ⟨b_X_drop, 2, (some .int), ze_B, R_X, F_X, 8, ze_gc_ (ze_gcons zw_108 (ze_gcons zw_109 (ze_gcons zw_110 (ze_gcons zw_1 (ze_gcons zw_111 ze_gB))))), rfl, by decide +kernel, h, rfl⟩
theorem kv_L_35 {c0 : Cond} {rm rm' : Room} (h : (rm'.frames + 1 ≤ rm.frames ∧ 8 + (2 + 11) + rm'.locals ≤ rm.locals)) : ze_Kv (c0 :: ze_B) R_L 35 y_X_rows ws_X_rows rm rm' ze_kX 1 := ⟨b_X_rows, 2, (some .int), ze_B, R_X, F_X, 8, ze_gc_ (ze_gcons zw_112 (ze_gcons zw_113 (ze_gcons zw_114 (ze_gcons zw_1 (ze_gcons zw_115 ze_gB))))), rfl, by decide +kernel, h, rfl⟩
theorem kv_X_76 {c0 : Cond} {rm rm' : Room} (h : (rm'.frames + 1 ≤ rm.frames ∧ 8 + (2 + 11) + rm'.locals ≤ rm.locals)) : ze_Kv (c0 :: ze_B) R_X 76 y_X_holdsTable ws_X_holdsTable rm rm' ze_kX 1 := ⟨b_X_holdsTable, 2, (some .boolean), ze_B, R_X, F_X, 8, ze_gc_ (ze_gcons zw_116 (ze_gcons zw_118 (ze_gcons zs_1 (ze_gcons zw_1 (ze_gcons zw_119 ze_gB))))), rfl, by decide +kernel, h, rfl⟩
theorem kv_L_39 {c0 : Cond} {rm rm' : Room} (h : (rm'.frames + 1 ≤ rm.frames ∧ 8 + (3 + 11) + rm'.locals ≤ rm.locals)) : ze_Kv (c0 :: ze_B) R_L 39 y_X_key ws_X_key rm rm' ze_kX 2 := ⟨b_X_key, 3, (some .int), ze_B, R_X, F_X, 8, ze_gc_ (ze_gcons zw_120 (ze_gcons zw_121 (ze_gcons zw_122 (ze_gcons zw_1 (ze_gcons zw_123 ze_gB))))), rfl, by decide +kernel, h, rfl⟩
theorem kv_X_79 {c0 : Cond} {rm rm' : Room} (h : (rm'.frames + 1 ≤ rm.frames ∧ 8 + (3 + 11) + rm'.locals ≤ rm.locals)) : ze_Kv (c0 :: ze_B) R_X 79 y_X_holdsRow ws_X_holdsRow rm rm' ze_kX 2 := ⟨b_X_holdsRow, 3, (some .boolean), ze_B, R_X, F_X, 8, ze_gc_ (ze_gcons zw_124 (ze_gcons zw_126 (ze_gcons zs_2 (ze_gcons zw_1 (ze_gcons zw_127 ze_gB))))), rfl, by decide +kernel, h, rfl⟩
theorem kv_L_44 {c0 : Cond} {rm rm' : Room} (h : (rm'.frames + 1 ≤ rm.frames ∧ 8 + (3 + 11) + rm'.locals ≤ rm.locals)) : ze_Kv (c0 :: ze_B) R_L 44 y_X_value ws_X_value rm rm' ze_kX 2 := ⟨b_X_value, 3, (some .int), ze_B, R_X, F_X, 8, ze_gc_ (ze_gcons zw_128 (ze_gcons zw_129 (ze_gcons zw_130 (ze_gcons zw_1 (ze_gcons zw_131 ze_gB))))), rfl, by decide +kernel, h, rfl⟩
theorem kv_L_48 {c0 : Cond} {rm rm' : Room} (h : (rm'.frames + 1 ≤ rm.frames ∧ 8 + (6 + 11) + rm'.locals ≤ rm.locals)) : ze_Kv (c0 :: ze_B) R_L 48 y_X_sort ws_X_sort rm rm' ze_kX 3 := ⟨b_X_sort, 6, (some .int), ze_B, R_X, F_X, 8, ze_gc_ (ze_gcons zw_132 (ze_gcons zw_133 (ze_gcons zw_134 (ze_gcons zw_1 (ze_gcons zw_135 ze_gB))))), rfl, by decide +kernel, h, rfl⟩
theorem kv_X_90 {c0 : Cond} {rm rm' : Room} (h : (rm'.frames + 1 ≤ rm.frames ∧ 8 + (4 + 11) + rm'.locals ≤ rm.locals)) : ze_Kv (c0 :: ze_B) R_X 90 y_X_refusalOf ws_X_refusalOf rm rm' ze_kX 3 := ⟨b_X_refusalOf, 4, (some .int), ze_B, R_X, F_X, 8, ze_gc_ (ze_gcons zw_136 (ze_gcons zw_138 (ze_gcons zs_3 (ze_gcons zw_1 (ze_gcons zw_139 ze_gB))))), rfl, by decide +kernel, h, rfl⟩
theorem kv_X_94 {c0 : Cond} {rm rm' : Room} (h : (rm'.frames + 1 ≤ rm.frames ∧ 8 + (6 + 11) + rm'.locals ≤ rm.locals)) : ze_Kv (c0 :: ze_B) R_X 94 y_T_arrange ws_T_arrange rm rm' ze_kT 1 := ⟨b_T_arrange, 6, none, ze_B, R_T, F_T, 4, ze_gc_ (ze_gcons zw_140 (ze_gcons zw_141 (ze_gcons zw_142 (ze_gcons zw_3 (ze_gcons zw_143 ze_gB))))), rfl, by decide +kernel, h, rfl⟩
theorem ks_X_174 {c0 : Cond} {rm rm' : Room} (h : (rm'.frames + 1 ≤ rm.frames ∧ 8 + (2 + 11) + rm'.locals ≤ rm.locals)) : ze_Ks (c0 :: ze_B) R_X 174 y_I_compare ws_I_compare rm rm' 2 := ⟨b_I_compare, 2, (some .int), ze_B, ze_gc_ (ze_gcons zw_147 (ze_gcons zw_148 (ze_gcons zw_6 (ze_gcons zw_149 ze_gB)))), rfl, by decide +kernel, h⟩
theorem kv_X_98 {c0 : Cond} {rm rm' : Room} (h : (rm'.frames + 1 ≤ rm.frames ∧ 8 + (5 + 11) + rm'.locals ≤ rm.locals)) : ze_Kv (c0 :: ze_B) R_X 98 y_X_sortCost ws_X_sortCost rm rm' ze_kX 1 := ⟨b_X_sortCost, 5, (some .long), ze_B, R_X, F_X, 8, ze_gc_ (ze_gcons zw_150 (ze_gcons zw_152 (ze_gcons zs_4 (ze_gcons zw_1 (ze_gcons zw_153 ze_gB))))), rfl, by decide +kernel, h, rfl⟩
theorem kv_L_53 {c0 : Cond} {rm rm' : Room} (h : (rm'.frames + 1 ≤ rm.frames ∧ 8 + (9 + 11) + rm'.locals ≤ rm.locals)) : ze_Kv (c0 :: ze_B) R_L 53 y_X_select ws_X_select rm rm' ze_kX 4 := ⟨b_X_select, 9, (some .int), ze_B, R_X, F_X, 8, ze_gc_ (ze_gcons zw_155 (ze_gcons zw_156 (ze_gcons zw_157 (ze_gcons zw_1 (ze_gcons zw_158 ze_gB))))), rfl, by decide +kernel, h, rfl⟩
theorem kv_L_58 {c0 : Cond} {rm rm' : Room} (h : (rm'.frames + 1 ≤ rm.frames ∧ 8 + (6 + 11) + rm'.locals ≤ rm.locals)) : ze_Kv (c0 :: ze_B) R_L 58 y_X_distinct ws_X_distinct rm rm' ze_kX 2 := ⟨b_X_distinct, 6, (some .int), ze_B, R_X, F_X, 8, ze_gc_ (ze_gcons zw_159 (ze_gcons zw_160 (ze_gcons zw_161 (ze_gcons zw_1 (ze_gcons zw_162 ze_gB))))), rfl, by decide +kernel, h, rfl⟩
theorem kv_X_102 {c0 : Cond} {rm rm' : Room} (h : (rm'.frames + 1 ≤ rm.frames ∧ 8 + (3 + 11) + rm'.locals ≤ rm.locals)) : ze_Kv (c0 :: ze_B) R_X 102 y_T_dropRepeats ws_T_dropRepeats rm rm' ze_kT 0 := ⟨b_T_dropRepeats, 3, none, ze_B, R_T, F_T, 4, ze_gc_ (ze_gcons zw_163 (ze_gcons zw_164 (ze_gcons zw_165 (ze_gcons zw_3 (ze_gcons zw_166 ze_gB))))), rfl, by decide +kernel, h, rfl⟩
theorem kv_L_62 {c0 : Cond} {rm rm' : Room} (h : (rm'.frames + 1 ≤ rm.frames ∧ 8 + (8 + 11) + rm'.locals ≤ rm.locals)) : ze_Kv (c0 :: ze_B) R_L 62 y_X_group ws_X_group rm rm' ze_kX 2 := ⟨b_X_group, 8, (some .int), ze_B, R_X, F_X, 8, ze_gc_ (ze_gcons zw_167 (ze_gcons zw_168 (ze_gcons zw_169 (ze_gcons zw_1 (ze_gcons zw_170 ze_gB))))), rfl, by decide +kernel, h, rfl⟩
theorem kv_X_105 {c0 : Cond} {rm rm' : Room} (h : (rm'.frames + 1 ≤ rm.frames ∧ 8 + (8 + 11) + rm'.locals ≤ rm.locals)) : ze_Kv (c0 :: ze_B) R_X 105 y_X_groupOneRound ws_X_groupOneRound rm rm' ze_kX 2 := ⟨b_X_groupOneRound, 8, none, ze_B, R_X, F_X, 8, ze_gc_ (ze_gcons zw_171 (ze_gcons zw_173 (ze_gcons zs_5 (ze_gcons zw_1 (ze_gcons zw_174 ze_gB))))), rfl, by decide +kernel, h, rfl⟩
theorem kv_X_126 {c0 : Cond} {rm rm' : Room} (h : (rm'.frames + 1 ≤ rm.frames ∧ 8 + (4 + 11) + rm'.locals ≤ rm.locals)) : ze_Kv (c0 :: ze_B) R_X 126 y_T_placeOfKey ws_T_placeOfKey rm rm' ze_kT 2 := ⟨b_T_placeOfKey, 4, (some .int), ze_B, R_T, F_T, 4, ze_gc_ (ze_gcons zw_175 (ze_gcons zw_176 (ze_gcons zw_177 (ze_gcons zw_3 (ze_gcons zw_178 ze_gB))))), rfl, by decide +kernel, h, rfl⟩
theorem kv_X_129 {c0 : Cond} {rm rm' : Room} (h : (rm'.frames + 1 ≤ rm.frames ∧ 8 + (1 + 11) + rm'.locals ≤ rm.locals)) : ze_Kv (c0 :: ze_B) R_X 129 y_X_rowsInMemory ws_X_rowsInMemory rm rm' ze_kX 0 := ⟨b_X_rowsInMemory, 1, (some .int), ze_B, R_X, F_X, 8, ze_gc_ (ze_gcons zw_179 (ze_gcons zw_181 (ze_gcons zs_6 (ze_gcons zw_1 (ze_gcons zw_182 ze_gB))))), rfl, by decide +kernel, h, rfl⟩
theorem kv_L_66 {c0 : Cond} {rm rm' : Room} (h : (rm'.frames + 1 ≤ rm.frames ∧ 8 + (9 + 11) + rm'.locals ≤ rm.locals)) : ze_Kv (c0 :: ze_B) R_L 66 y_X_combine ws_X_combine rm rm' ze_kX 4 := ⟨b_X_combine, 9, (some .int), ze_B, R_X, F_X, 8, ze_gc_ (ze_gcons zw_183 (ze_gcons zw_184 (ze_gcons zw_185 (ze_gcons zw_1 (ze_gcons zw_186 ze_gB))))), rfl, by decide +kernel, h, rfl⟩
theorem kv_X_109 {c0 : Cond} {rm rm' : Room} (h : (rm'.frames + 1 ≤ rm.frames ∧ 8 + (13 + 11) + rm'.locals ≤ rm.locals)) : ze_Kv (c0 :: ze_B) R_X 109 y_X_mergeBags ws_X_mergeBags rm rm' ze_kX 2 := ⟨b_X_mergeBags, 13, none, ze_B, R_X, F_X, 8, ze_gc_ (ze_gcons zw_187 (ze_gcons zw_189 (ze_gcons zs_7 (ze_gcons zw_1 (ze_gcons zw_190 ze_gB))))), rfl, by decide +kernel, h, rfl⟩
theorem kv_X_133 {c0 : Cond} {rm rm' : Room} (h : (rm'.frames + 1 ≤ rm.frames ∧ 8 + (4 + 11) + rm'.locals ≤ rm.locals)) : ze_Kv (c0 :: ze_B) R_X 133 y_X_isNextFromA ws_X_isNextFromA rm rm' ze_kX 2 := ⟨b_X_isNextFromA, 4, (some .boolean), ze_B, R_X, F_X, 8, ze_gc_ (ze_gcons zw_191 (ze_gcons zw_193 (ze_gcons zs_8 (ze_gcons zw_1 (ze_gcons zw_194 ze_gB))))), rfl, by decide +kernel, h, rfl⟩
theorem ks_X_142 {c0 : Cond} {rm rm' : Room} (h : (rm'.frames + 1 ≤ rm.frames ∧ 8 + (6 + 11) + rm'.locals ≤ rm.locals)) : ze_Ks (c0 :: ze_B) R_X 142 y_X_compareRows ws_X_compareRows rm rm' 5 := ⟨b_X_compareRows, 6, (some .int), ze_B, ze_gc_ (ze_gcons zw_195 (ze_gcons zw_145 (ze_gcons zw_1 (ze_gcons zw_146 ze_gB)))), rfl, by decide +kernel, h⟩
theorem kv_X_136 {c0 : Cond} {rm rm' : Room} (h : (rm'.frames + 1 ≤ rm.frames ∧ 8 + (5 + 11) + rm'.locals ≤ rm.locals)) : ze_Kv (c0 :: ze_B) R_X 136 y_T_repeatsFrom ws_T_repeatsFrom rm rm' ze_kT 3 := ⟨b_T_repeatsFrom, 5, (some .int), ze_B, R_T, F_T, 4, ze_gc_ (ze_gcons zw_196 (ze_gcons zw_197 (ze_gcons zw_198 (ze_gcons zw_3 (ze_gcons zw_199 ze_gB))))), rfl, by decide +kernel, h, rfl⟩
theorem ks_X_139 {c0 : Cond} {rm rm' : Room} (h : (rm'.frames + 1 ≤ rm.frames ∧ 8 + (3 + 11) + rm'.locals ≤ rm.locals)) : ze_Ks (c0 :: ze_B) R_X 139 y_X_timesInResult ws_X_timesInResult rm rm' 3 := ⟨b_X_timesInResult, 3, (some .int), ze_B, ze_gc_ (ze_gcons zw_200 (ze_gcons zw_201 (ze_gcons zw_1 (ze_gcons zw_202 ze_gB)))), rfl, by decide +kernel, h⟩
theorem kv_L_70 {c0 : Cond} {rm rm' : Room} (h : (rm'.frames + 1 ≤ rm.frames ∧ 8 + (8 + 11) + rm'.locals ≤ rm.locals)) : ze_Kv (c0 :: ze_B) R_L 70 y_X_join ws_X_join rm rm' ze_kX 3 := ⟨b_X_join, 8, (some .int), ze_B, R_X, F_X, 8, ze_gc_ (ze_gcons zw_203 (ze_gcons zw_204 (ze_gcons zw_205 (ze_gcons zw_1 (ze_gcons zw_206 ze_gB))))), rfl, by decide +kernel, h, rfl⟩
theorem kv_X_113 {c0 : Cond} {rm rm' : Room} (h : (rm'.frames + 1 ≤ rm.frames ∧ 8 + (14 + 11) + rm'.locals ≤ rm.locals)) : ze_Kv (c0 :: ze_B) R_X 113 y_X_joinRanges ws_X_joinRanges rm rm' ze_kX 6 := ⟨b_X_joinRanges, 14, (some .long), ze_B, R_X, F_X, 8, ze_gc_ (ze_gcons zw_207 (ze_gcons zw_209 (ze_gcons zs_9 (ze_gcons zw_1 (ze_gcons zw_210 ze_gB))))), rfl, by decide +kernel, h, rfl⟩
theorem kv_X_146 {c0 : Cond} {rm rm' : Room} (h : (rm'.frames + 1 ≤ rm.frames ∧ 8 + (10 + 11) + rm'.locals ≤ rm.locals)) : ze_Kv (c0 :: ze_B) R_X 146 y_X_joinByChunks ws_X_joinByChunks rm rm' ze_kX 5 := ⟨b_X_joinByChunks, 10, (some .long), ze_B, R_X, F_X, 8, ze_gc_ (ze_gcons zw_211 (ze_gcons zw_213 (ze_gcons zs_10 (ze_gcons zw_1 (ze_gcons zw_214 ze_gB))))), rfl, by decide +kernel, h, rfl⟩
theorem kv_X_158 {c0 : Cond} {rm rm' : Room} (h : (rm'.frames + 1 ≤ rm.frames ∧ 8 + (8 + 11) + rm'.locals ≤ rm.locals)) : ze_Kv (c0 :: ze_B) R_X 158 y_X_joinWithChunk ws_X_joinWithChunk rm rm' ze_kX 5 := ⟨b_X_joinWithChunk, 8, none, ze_B, R_X, F_X, 8, ze_gc_ (ze_gcons zw_215 (ze_gcons zw_217 (ze_gcons zs_11 (ze_gcons zw_1 (ze_gcons zw_218 ze_gB))))), rfl, by decide +kernel, h, rfl⟩
theorem kv_X_150 {c0 : Cond} {rm rm' : Room} (h : (rm'.frames + 1 ≤ rm.frames ∧ 8 + (8 + 11) + rm'.locals ≤ rm.locals)) : ze_Kv (c0 :: ze_B) R_X 150 y_X_partition ws_X_partition rm rm' ze_kX 5 := ⟨b_X_partition, 8, none, ze_B, R_X, F_X, 8, ze_gc_ (ze_gcons zw_219 (ze_gcons zw_221 (ze_gcons zs_12 (ze_gcons zw_1 (ze_gcons zw_222 ze_gB))))), rfl, by decide +kernel, h, rfl⟩
theorem kv_X_162 {c0 : Cond} {rm rm' : Room} (h : (rm'.frames + 1 ≤ rm.frames ∧ 8 + (6 + 11) + rm'.locals ≤ rm.locals)) : ze_Kv (c0 :: ze_B) R_X 162 y_X_digitOf ws_X_digitOf rm rm' ze_kX 2 := ⟨b_X_digitOf, 6, (some .int), ze_B, R_X, F_X, 8, ze_gc_ (ze_gcons zw_223 (ze_gcons zw_225 (ze_gcons zs_13 (ze_gcons zw_1 (ze_gcons zw_226 ze_gB))))), rfl, by decide +kernel, h, rfl⟩
theorem ks_X_171 {c0 : Cond} {rm rm' : Room} (h : (rm'.frames + 1 ≤ rm.frames ∧ 8 + (3 + 11) + rm'.locals ≤ rm.locals)) : ze_Ks (c0 :: ze_B) R_X 171 y_J_floorMod ws_J_floorMod rm rm' 2 := ⟨b_J_floorMod, 3, (some .int), ze_B, ze_gc_ (ze_gcons zw_227 (ze_gcons zw_228 (ze_gcons zw_2 (ze_gcons zw_229 ze_gB)))), rfl, by decide +kernel, h⟩
theorem kv_X_154 {c0 : Cond} {rm rm' : Room} (h : (rm'.frames + 1 ≤ rm.frames ∧ 8 + (7 + 11) + rm'.locals ≤ rm.locals)) : ze_Kv (c0 :: ze_B) R_X 154 y_X_endOfPart ws_X_endOfPart rm rm' ze_kX 5 := ⟨b_X_endOfPart, 7, (some .int), ze_B, R_X, F_X, 8, ze_gc_ (ze_gcons zw_231 (ze_gcons zw_233 (ze_gcons zs_14 (ze_gcons zw_1 (ze_gcons zw_234 ze_gB))))), rfl, by decide +kernel, h, rfl⟩
theorem kv_L_74 {c0 : Cond} {rm rm' : Room} (h : (rm'.frames + 1 ≤ rm.frames ∧ 8 + (1 + 11) + rm'.locals ≤ rm.locals)) : ze_Kv (c0 :: ze_B) R_L 74 y_X_transfers ws_X_transfers rm rm' ze_kX 0 := ⟨b_X_transfers, 1, (some .long), ze_B, R_X, F_X, 8, ze_gc_ (ze_gcons zw_235 (ze_gcons zw_236 (ze_gcons zw_237 (ze_gcons zw_1 (ze_gcons zw_238 ze_gB))))), rfl, by decide +kernel, h, rfl⟩
theorem kv_L_79 {c0 : Cond} {rm rm' : Room} (h : (rm'.frames + 1 ≤ rm.frames ∧ 8 + (3 + 11) + rm'.locals ≤ rm.locals)) : ze_Kv (c0 :: ze_B) R_L 79 y_X_blocks ws_X_blocks rm rm' ze_kX 0 := ⟨b_X_blocks, 3, (some .int), ze_B, R_X, F_X, 8, ze_gc_ (ze_gcons zw_239 (ze_gcons zw_240 (ze_gcons zw_241 (ze_gcons zw_1 (ze_gcons zw_242 ze_gB))))), rfl, by decide +kernel, h, rfl⟩
theorem ks_L_9 {c0 : Cond} {rm rm' : Room} (h : (rm'.frames + 1 ≤ rm.frames ∧ 8 + (2 + 11) + rm'.locals ≤ rm.locals)) : ze_Ks (c0 :: ze_B) R_L 9 y_L_cell ws_L_cell rm rm' 2 := ⟨b_L_cell, 2, (some .int), ze_B, ze_gc_ (ze_gcons zw_243 (ze_gcons zw_244 (ze_gcons zw_0 (ze_gcons zw_245 ze_gB)))), rfl, by decide +kernel, h⟩
theorem ki_L_20 {c0 : Cond} {rm rm' : Room} (h : (rm'.frames + 1 ≤ rm.frames ∧ 8 + (3 + 11) + rm'.locals ≤ rm.locals)) : ze_Ki (c0 :: ze_B) R_L 20 y_M_init ws_M_init rm rm' 1 := ⟨b_M_init, 3, ze_B, ze_gc_ (ze_gcons zw_250 ze_gB), rfl, List.mem_cons_of_mem _ zw_4, List.mem_cons_of_mem _ zw_248, List.mem_cons_of_mem _ zw_249, rfl, by decide +kernel, h⟩
theorem kv_L_25 {c0 : Cond} {rm rm' : Room} (h : (rm'.frames + 1 ≤ rm.frames ∧ 8 + (3 + 11) + rm'.locals ≤ rm.locals)) : ze_Kv (c0 :: ze_B) R_L 25 y_M_put ws_M_put rm rm' ze_kM 2 := ⟨b_M_put, 3, (some .boolean), ze_B, R_M, F_M, 14, ze_gc_ (ze_gcons zw_295 (ze_gcons zw_296 (ze_gcons zw_297 (ze_gcons zw_4 (ze_gcons zw_298 ze_gB))))), rfl, by decide +kernel, h, rfl⟩
theorem kv_L_30 {c0 : Cond} {rm rm' : Room} (h : (rm'.frames + 1 ≤ rm.frames ∧ 8 + (3 + 11) + rm'.locals ≤ rm.locals)) : ze_Kv (c0 :: ze_B) R_L 30 y_M_store ws_M_store rm rm' ze_kM 1 := ⟨b_M_store, 3, (some .int), ze_B, R_M, F_M, 14, ze_gc_ (ze_gcons zw_299 (ze_gcons zw_300 (ze_gcons zw_301 (ze_gcons zw_4 (ze_gcons zw_302 ze_gB))))), rfl, by decide +kernel, h, rfl⟩
theorem ks_M_47 {c0 : Cond} {rm rm' : Room} (h : (rm'.frames + 1 ≤ rm.frames ∧ 8 + (1 + 11) + rm'.locals ≤ rm.locals)) : ze_Ks (c0 :: ze_B) R_M 47 y_M_slot ws_M_slot rm rm' 1 := ⟨b_M_slot, 1, (some .boolean), ze_B, ze_gc_ (ze_gcons zw_303 (ze_gcons zw_304 (ze_gcons zw_4 (ze_gcons zw_305 ze_gB)))), rfl, by decide +kernel, h⟩
theorem ks_M_38 {c0 : Cond} {rm rm' : Room} (h : (rm'.frames + 1 ≤ rm.frames ∧ 8 + (1 + 11) + rm'.locals ≤ rm.locals)) : ze_Ks (c0 :: ze_B) R_M 38 y_M_size ws_M_size rm rm' 1 := ⟨b_M_size, 1, (some .int), ze_B, ze_gc_ (ze_gcons zw_306 (ze_gcons zw_307 (ze_gcons zw_4 (ze_gcons zw_308 ze_gB)))), rfl, by decide +kernel, h⟩
theorem kv_L_34 {c0 : Cond} {rm rm' : Room} (h : (rm'.frames + 1 ≤ rm.frames ∧ 8 + (3 + 11) + rm'.locals ≤ rm.locals)) : ze_Kv (c0 :: ze_B) R_L 34 y_M_drop ws_M_drop rm rm' ze_kM 1 := ⟨b_M_drop, 3, (some .int), ze_B, R_M, F_M, 14, ze_gc_ (ze_gcons zw_309 (ze_gcons zw_310 (ze_gcons zw_311 (ze_gcons zw_4 (ze_gcons zw_312 ze_gB))))), rfl, by decide +kernel, h, rfl⟩
theorem kv_L_38 {c0 : Cond} {rm rm' : Room} (h : (rm'.frames + 1 ≤ rm.frames ∧ 8 + (2 + 11) + rm'.locals ≤ rm.locals)) : ze_Kv (c0 :: ze_B) R_L 38 y_M_rows ws_M_rows rm rm' ze_kM 1 := ⟨b_M_rows, 2, (some .int), ze_B, R_M, F_M, 14, ze_gc_ (ze_gcons zw_313 (ze_gcons zw_314 (ze_gcons zw_315 (ze_gcons zw_4 (ze_gcons zw_316 ze_gB))))), rfl, by decide +kernel, h, rfl⟩
theorem kv_L_43 {c0 : Cond} {rm rm' : Room} (h : (rm'.frames + 1 ≤ rm.frames ∧ 8 + (3 + 11) + rm'.locals ≤ rm.locals)) : ze_Kv (c0 :: ze_B) R_L 43 y_M_key ws_M_key rm rm' ze_kM 2 := ⟨b_M_key, 3, (some .int), ze_B, R_M, F_M, 14, ze_gc_ (ze_gcons zw_317 (ze_gcons zw_318 (ze_gcons zw_319 (ze_gcons zw_4 (ze_gcons zw_320 ze_gB))))), rfl, by decide +kernel, h, rfl⟩
theorem kv_L_47 {c0 : Cond} {rm rm' : Room} (h : (rm'.frames + 1 ≤ rm.frames ∧ 8 + (3 + 11) + rm'.locals ≤ rm.locals)) : ze_Kv (c0 :: ze_B) R_L 47 y_M_value ws_M_value rm rm' ze_kM 2 := ⟨b_M_value, 3, (some .int), ze_B, R_M, F_M, 14, ze_gc_ (ze_gcons zw_321 (ze_gcons zw_322 (ze_gcons zw_323 (ze_gcons zw_4 (ze_gcons zw_324 ze_gB))))), rfl, by decide +kernel, h, rfl⟩
theorem kv_L_52 {c0 : Cond} {rm rm' : Room} (h : (rm'.frames + 1 ≤ rm.frames ∧ 8 + (9 + 11) + rm'.locals ≤ rm.locals)) : ze_Kv (c0 :: ze_B) R_L 52 y_M_sort ws_M_sort rm rm' ze_kM 3 := ⟨b_M_sort, 9, (some .int), ze_B, R_M, F_M, 14, ze_gc_ (ze_gcons zw_325 (ze_gcons zw_326 (ze_gcons zw_327 (ze_gcons zw_4 (ze_gcons zw_328 ze_gB))))), rfl, by decide +kernel, h, rfl⟩
theorem kv_M_65 {c0 : Cond} {rm rm' : Room} (h : (rm'.frames + 1 ≤ rm.frames ∧ 8 + (5 + 11) + rm'.locals ≤ rm.locals)) : ze_Kv (c0 :: ze_B) R_M 65 y_M_refuse ws_M_refuse rm rm' ze_kM 4 := ⟨b_M_refuse, 5, (some .int), ze_B, R_M, F_M, 14, ze_gc_ (ze_gcons zw_329 (ze_gcons zw_331 (ze_gcons zs_15 (ze_gcons zw_4 (ze_gcons zw_332 ze_gB))))), rfl, by decide +kernel, h, rfl⟩
theorem kv_M_69 {c0 : Cond} {rm rm' : Room} (h : (rm'.frames + 1 ≤ rm.frames ∧ 8 + (8 + 11) + rm'.locals ≤ rm.locals)) : ze_Kv (c0 :: ze_B) R_M 69 y_M_before ws_M_before rm rm' ze_kM 4 := ⟨b_M_before, 8, (some .boolean), ze_B, R_M, F_M, 14, ze_gc_ (ze_gcons zw_333 (ze_gcons zw_335 (ze_gcons zs_16 (ze_gcons zw_4 (ze_gcons zw_336 ze_gB))))), rfl, by decide +kernel, h, rfl⟩
theorem ks_M_61 {c0 : Cond} {rm rm' : Room} (h : (rm'.frames + 1 ≤ rm.frames ∧ 8 + (4 + 11) + rm'.locals ≤ rm.locals)) : ze_Ks (c0 :: ze_B) R_M 61 y_M_compare ws_M_compare rm rm' 4 := ⟨b_M_compare, 4, (some .int), ze_B, ze_gc_ (ze_gcons zw_337 (ze_gcons zw_338 (ze_gcons zw_4 (ze_gcons zw_339 ze_gB)))), rfl, by decide +kernel, h⟩
theorem kv_M_73 {c0 : Cond} {rm rm' : Room} (h : (rm'.frames + 1 ≤ rm.frames ∧ 8 + (5 + 11) + rm'.locals ≤ rm.locals)) : ze_Kv (c0 :: ze_B) R_M 73 y_M_sortCost ws_M_sortCost rm rm' ze_kM 1 := ⟨b_M_sortCost, 5, (some .long), ze_B, R_M, F_M, 14, ze_gc_ (ze_gcons zw_340 (ze_gcons zw_342 (ze_gcons zs_17 (ze_gcons zw_4 (ze_gcons zw_343 ze_gB))))), rfl, by decide +kernel, h, rfl⟩
theorem kv_M_77 {c0 : Cond} {rm rm' : Room} (h : (rm'.frames + 1 ≤ rm.frames ∧ 8 + (3 + 11) + rm'.locals ≤ rm.locals)) : ze_Kv (c0 :: ze_B) R_M 77 y_M_finish ws_M_finish rm rm' ze_kM 1 := ⟨b_M_finish, 3, (some .int), ze_B, R_M, F_M, 14, ze_gc_ (ze_gcons zw_345 (ze_gcons zw_347 (ze_gcons zs_18 (ze_gcons zw_4 (ze_gcons zw_348 ze_gB))))), rfl, by decide +kernel, h, rfl⟩
theorem kv_L_57 {c0 : Cond} {rm rm' : Room} (h : (rm'.frames + 1 ≤ rm.frames ∧ 8 + (8 + 11) + rm'.locals ≤ rm.locals)) : ze_Kv (c0 :: ze_B) R_L 57 y_M_select ws_M_select rm rm' ze_kM 4 := ⟨b_M_select, 8, (some .int), ze_B, R_M, F_M, 14, ze_gc_ (ze_gcons zw_349 (ze_gcons zw_350 (ze_gcons zw_351 (ze_gcons zw_4 (ze_gcons zw_352 ze_gB))))), rfl, by decide +kernel, h, rfl⟩
theorem kv_M_80 {c0 : Cond} {rm rm' : Room} (h : (rm'.frames + 1 ≤ rm.frames ∧ 8 + (3 + 11) + rm'.locals ≤ rm.locals)) : ze_Kv (c0 :: ze_B) R_M 80 y_M_make ws_M_make rm rm' ze_kM 2 := ⟨b_M_make, 3, none, ze_B, R_M, F_M, 14, ze_gc_ (ze_gcons zw_353 (ze_gcons zw_355 (ze_gcons zs_19 (ze_gcons zw_4 (ze_gcons zw_356 ze_gB))))), rfl, by decide +kernel, h, rfl⟩
theorem kv_L_61 {c0 : Cond} {rm rm' : Room} (h : (rm'.frames + 1 ≤ rm.frames ∧ 8 + (5 + 11) + rm'.locals ≤ rm.locals)) : ze_Kv (c0 :: ze_B) R_L 61 y_M_distinct ws_M_distinct rm rm' ze_kM 2 := ⟨b_M_distinct, 5, (some .int), ze_B, R_M, F_M, 14, ze_gc_ (ze_gcons zw_357 (ze_gcons zw_358 (ze_gcons zw_359 (ze_gcons zw_4 (ze_gcons zw_360 ze_gB))))), rfl, by decide +kernel, h, rfl⟩
theorem kv_M_84 {c0 : Cond} {rm rm' : Room} (h : (rm'.frames + 1 ≤ rm.frames ∧ 8 + (9 + 11) + rm'.locals ≤ rm.locals)) : ze_Kv (c0 :: ze_B) R_M 84 y_M_next ws_M_next rm rm' ze_kM 3 := ⟨b_M_next, 9, (some .int), ze_B, R_M, F_M, 14, ze_gc_ (ze_gcons zw_361 (ze_gcons zw_363 (ze_gcons zs_20 (ze_gcons zw_4 (ze_gcons zw_364 ze_gB))))), rfl, by decide +kernel, h, rfl⟩
theorem kv_L_69 {c0 : Cond} {rm rm' : Room} (h : (rm'.frames + 1 ≤ rm.frames ∧ 8 + (11 + 11) + rm'.locals ≤ rm.locals)) : ze_Kv (c0 :: ze_B) R_L 69 y_M_combine ws_M_combine rm rm' ze_kM 4 := ⟨b_M_combine, 11, (some .int), ze_B, R_M, F_M, 14, ze_gc_ (ze_gcons zw_365 (ze_gcons zw_366 (ze_gcons zw_367 (ze_gcons zw_4 (ze_gcons zw_368 ze_gB))))), rfl, by decide +kernel, h, rfl⟩
theorem kv_M_88 {c0 : Cond} {rm rm' : Room} (h : (rm'.frames + 1 ≤ rm.frames ∧ 8 + (6 + 11) + rm'.locals ≤ rm.locals)) : ze_Kv (c0 :: ze_B) R_M 88 y_M_times ws_M_times rm rm' ze_kM 3 := ⟨b_M_times, 6, (some .int), ze_B, R_M, F_M, 14, ze_gc_ (ze_gcons zw_369 (ze_gcons zw_371 (ze_gcons zs_21 (ze_gcons zw_4 (ze_gcons zw_372 ze_gB))))), rfl, by decide +kernel, h, rfl⟩
theorem kv_L_65 {c0 : Cond} {rm rm' : Room} (h : (rm'.frames + 1 ≤ rm.frames ∧ 8 + (8 + 11) + rm'.locals ≤ rm.locals)) : ze_Kv (c0 :: ze_B) R_L 65 y_M_group ws_M_group rm rm' ze_kM 2 := ⟨b_M_group, 8, (some .int), ze_B, R_M, F_M, 14, ze_gc_ (ze_gcons zw_373 (ze_gcons zw_374 (ze_gcons zw_375 (ze_gcons zw_4 (ze_gcons zw_376 ze_gB))))), rfl, by decide +kernel, h, rfl⟩
theorem kv_M_91 {c0 : Cond} {rm rm' : Room} (h : (rm'.frames + 1 ≤ rm.frames ∧ 8 + (8 + 11) + rm'.locals ≤ rm.locals)) : ze_Kv (c0 :: ze_B) R_M 91 y_M_rank ws_M_rank rm rm' ze_kM 2 := ⟨b_M_rank, 8, (some .int), ze_B, R_M, F_M, 14, ze_gc_ (ze_gcons zw_377 (ze_gcons zw_379 (ze_gcons zs_22 (ze_gcons zw_4 (ze_gcons zw_380 ze_gB))))), rfl, by decide +kernel, h, rfl⟩
theorem kv_M_95 {c0 : Cond} {rm rm' : Room} (h : (rm'.frames + 1 ≤ rm.frames ∧ 8 + (5 + 11) + rm'.locals ≤ rm.locals)) : ze_Kv (c0 :: ze_B) R_M 95 y_M_behind ws_M_behind rm rm' ze_kM 2 := ⟨b_M_behind, 5, (some .int), ze_B, R_M, F_M, 14, ze_gc_ (ze_gcons zw_381 (ze_gcons zw_383 (ze_gcons zs_23 (ze_gcons zw_4 (ze_gcons zw_384 ze_gB))))), rfl, by decide +kernel, h, rfl⟩
theorem kv_L_73 {c0 : Cond} {rm rm' : Room} (h : (rm'.frames + 1 ≤ rm.frames ∧ 8 + (6 + 11) + rm'.locals ≤ rm.locals)) : ze_Kv (c0 :: ze_B) R_L 73 y_M_join ws_M_join rm rm' ze_kM 3 := ⟨b_M_join, 6, (some .int), ze_B, R_M, F_M, 14, ze_gc_ (ze_gcons zw_385 (ze_gcons zw_386 (ze_gcons zw_387 (ze_gcons zw_4 (ze_gcons zw_388 ze_gB))))), rfl, by decide +kernel, h, rfl⟩
theorem kv_M_119 {c0 : Cond} {rm rm' : Room} (h : (rm'.frames + 1 ≤ rm.frames ∧ 8 + (9 + 11) + rm'.locals ≤ rm.locals)) : ze_Kv (c0 :: ze_B) R_M 119 y_M_visit ws_M_visit rm rm' ze_kM 2 := ⟨b_M_visit, 9, (some .boolean), ze_B, R_M, F_M, 14, ze_gc_ (ze_gcons zw_389 (ze_gcons zw_391 (ze_gcons zs_24 (ze_gcons zw_4 (ze_gcons zw_392 ze_gB))))), rfl, by decide +kernel, h, rfl⟩
theorem kv_M_107 {c0 : Cond} {rm rm' : Room} (h : (rm'.frames + 1 ≤ rm.frames ∧ 8 + (7 + 11) + rm'.locals ≤ rm.locals)) : ze_Kv (c0 :: ze_B) R_M 107 y_M_many ws_M_many rm rm' ze_kM 3 := ⟨b_M_many, 7, (some .int), ze_B, R_M, F_M, 14, ze_gc_ (ze_gcons zw_393 (ze_gcons zw_395 (ze_gcons zs_25 (ze_gcons zw_4 (ze_gcons zw_396 ze_gB))))), rfl, by decide +kernel, h, rfl⟩
theorem kv_M_104 {c0 : Cond} {rm rm' : Room} (h : (rm'.frames + 1 ≤ rm.frames ∧ 8 + (3 + 11) + rm'.locals ≤ rm.locals)) : ze_Kv (c0 :: ze_B) R_M 104 y_M_here ws_M_here rm rm' ze_kM 1 := ⟨b_M_here, 3, (some .boolean), ze_B, R_M, F_M, 14, ze_gc_ (ze_gcons zw_397 (ze_gcons zw_399 (ze_gcons zs_26 (ze_gcons zw_4 (ze_gcons zw_400 ze_gB))))), rfl, by decide +kernel, h, rfl⟩
theorem kv_M_101 {c0 : Cond} {rm rm' : Room} (h : (rm'.frames + 1 ≤ rm.frames ∧ 8 + (6 + 11) + rm'.locals ≤ rm.locals)) : ze_Kv (c0 :: ze_B) R_M 101 y_M_digit ws_M_digit rm rm' ze_kM 2 := ⟨b_M_digit, 6, (some .int), ze_B, R_M, F_M, 14, ze_gc_ (ze_gcons zw_401 (ze_gcons zw_403 (ze_gcons zs_27 (ze_gcons zw_4 (ze_gcons zw_404 ze_gB))))), rfl, by decide +kernel, h, rfl⟩
theorem kv_M_115 {c0 : Cond} {rm rm' : Room} (h : (rm'.frames + 1 ≤ rm.frames ∧ 8 + (8 + 11) + rm'.locals ≤ rm.locals)) : ze_Kv (c0 :: ze_B) R_M 115 y_M_chunks ws_M_chunks rm rm' ze_kM 3 := ⟨b_M_chunks, 8, none, ze_B, R_M, F_M, 14, ze_gc_ (ze_gcons zw_405 (ze_gcons zw_407 (ze_gcons zs_28 (ze_gcons zw_4 (ze_gcons zw_408 ze_gB))))), rfl, by decide +kernel, h, rfl⟩
theorem kv_M_111 {c0 : Cond} {rm rm' : Room} (h : (rm'.frames + 1 ≤ rm.frames ∧ 8 + (7 + 11) + rm'.locals ≤ rm.locals)) : ze_Kv (c0 :: ze_B) R_M 111 y_M_chunk ws_M_chunk rm rm' ze_kM 4 := ⟨b_M_chunk, 7, none, ze_B, R_M, F_M, 14, ze_gc_ (ze_gcons zw_409 (ze_gcons zw_411 (ze_gcons zs_29 (ze_gcons zw_4 (ze_gcons zw_412 ze_gB))))), rfl, by decide +kernel, h, rfl⟩
theorem kv_L_78 {c0 : Cond} {rm rm' : Room} (h : (rm'.frames + 1 ≤ rm.frames ∧ 8 + (1 + 11) + rm'.locals ≤ rm.locals)) : ze_Kv (c0 :: ze_B) R_L 78 y_M_transfers ws_M_transfers rm rm' ze_kM 0 := ⟨b_M_transfers, 1, (some .long), ze_B, R_M, F_M, 14, ze_gc_ (ze_gcons zw_413 (ze_gcons zw_414 (ze_gcons zw_415 (ze_gcons zw_4 (ze_gcons zw_416 ze_gB))))), rfl, by decide +kernel, h, rfl⟩
theorem kv_L_83 {c0 : Cond} {rm rm' : Room} (h : (rm'.frames + 1 ≤ rm.frames ∧ 8 + (3 + 11) + rm'.locals ≤ rm.locals)) : ze_Kv (c0 :: ze_B) R_L 83 y_M_blocks ws_M_blocks rm rm' ze_kM 0 := ⟨b_M_blocks, 3, (some .int), ze_B, R_M, F_M, 14, ze_gc_ (ze_gcons zw_417 (ze_gcons zw_418 (ze_gcons zw_419 (ze_gcons zw_4 (ze_gcons zw_420 ze_gB))))), rfl, by decide +kernel, h, rfl⟩
theorem kn_T_32 {c0 : Cond} {rm rm' : Room} (h : (rm'.frames + 1 ≤ rm.frames ∧ 8 + (6 + 11) + rm'.locals ≤ rm.locals)) : ze_Kn (c0 :: ze_B) y_X_compareRows ws_X_compareRows rm rm' 5 := ⟨b_X_compareRows, 6, (some .int), ze_B, ze_gc_ (ze_gcons zw_146 ze_gB), rfl, List.mem_cons_of_mem _ zw_1, List.mem_cons_of_mem _ zw_145, by decide +kernel, h⟩
theorem kj_X_28 {c0 : Cond} {rm rm' : Room} (h : (rm'.frames + 1 ≤ rm.frames ∧ 8 + (1 + 11) + rm'.locals ≤ rm.locals)) : ze_Kj (c0 :: ze_B) y_T_init ws_T_init rm rm' 0 := ⟨b_T_init, 1, ze_B, ze_gc_ (ze_gcons zw_26 ze_gB), rfl, List.mem_cons_of_mem _ zw_3, List.mem_cons_of_mem _ zw_25, rfl, by decide +kernel, h⟩
end
section
def ze_cmp (x y : Int32) : Int32 := if x < y then -1 else if x = y then 0 else 1
set_option maxRecDepth 100000 in
set_option maxHeartbeats 4000000 in
theorem c_I_compare (l : Launch) (D : va_G) (ids : Nat → ClassId) (n : Nat) (ad : Nat → Nat) (E : Nat → va_E) (x y : Int32) : ze_M l D ids y_I_compare ws_I_compare (ze_rm 1) 0 0 n ad E [.int x, .int y] (ze_p0 n ad E (fun v => v = some (.int (ze_cmp x y)))) := by
  refine ze_enter (cc := b_I_compare) (maxL := 2) (ret := (some .int)) (by decide +kernel) rfl (Nat.le_of_ble_eq_true rfl) ?_
  rintro G rfl rfl rfl - C Rt
  refine ze_lv (lv' := [(0, .int x), (1, .int y)]) rfl ?_
  refine ze_iload_n C d_I_compare_0 0 rfl rfl ?_
  refine ze_iload_n C d_I_compare_1 1 rfl rfl ?_
  refine ze_icmp_ge 9 C d_I_compare_2 (by decide) (fun h2 => ?_) (fun h2 => ?_)
  · refine ze_iload_n C d_I_compare_9 0 rfl rfl ?_
    refine ze_iload_n C d_I_compare_10 1 rfl rfl ?_
    refine ze_icmp_ne 18 C d_I_compare_11 (by decide) (fun h11 => ?_) (fun h11 => ?_)
    · refine ze_iconst (v := nI 1) C d_I_compare_18 (by decide) ?_
      exact ze_iret C Rt d_I_compare_19 (⟨rfl, rfl, rfl, by simp only [ze_cmp]; first | rw [if_pos (by first | assumption | exact Int32.not_le.mp (by assumption))] | (rw [if_neg (by first | assumption | exact Int32.not_lt.mpr (by assumption)), if_pos (by first | assumption | (rename_i hh; exact Decidable.not_not.mp hh))]; rfl) | (rw [if_neg (by first | assumption | exact Int32.not_lt.mpr (by assumption)), if_neg (by assumption)]; rfl)⟩)
    · refine ze_iconst (v := nI 0) C d_I_compare_14 (by decide) ?_
      refine ze_goto 19 C d_I_compare_15 (by decide) ?_
      exact ze_iret C Rt d_I_compare_19 (⟨rfl, rfl, rfl, by simp only [ze_cmp]; first | rw [if_pos (by first | assumption | exact Int32.not_le.mp (by assumption))] | (rw [if_neg (by first | assumption | exact Int32.not_lt.mpr (by assumption)), if_pos (by first | assumption | (rename_i hh; exact Decidable.not_not.mp hh))]; rfl) | (rw [if_neg (by first | assumption | exact Int32.not_lt.mpr (by assumption)), if_neg (by assumption)]; rfl)⟩)
  · refine ze_iconst (v := -1) C d_I_compare_5 (by decide) ?_
    refine ze_goto 19 C d_I_compare_6 (by decide) ?_
    exact ze_iret C Rt d_I_compare_19 (⟨rfl, rfl, rfl, by simp only [ze_cmp]; first | rw [if_pos (by first | assumption | exact Int32.not_le.mp (by assumption))] | (rw [if_neg (by first | assumption | exact Int32.not_lt.mpr (by assumption)), if_pos (by first | assumption | (rename_i hh; exact Decidable.not_not.mp hh))]; rfl) | (rw [if_neg (by first | assumption | exact Int32.not_lt.mpr (by assumption)), if_neg (by assumption)]; rfl)⟩)

set_option maxRecDepth 100000 in
set_option maxHeartbeats 4000000 in
theorem c_J_max (l : Launch) (D : va_G) (ids : Nat → ClassId) (n : Nat) (ad : Nat → Nat) (E : Nat → va_E) (x y : Int32) : ze_M l D ids y_J_max ws_J_max (ze_rm 1) 0 0 n ad E [.int x, .int y] (ze_p0 n ad E (fun v => v = some (.int (if x < y then y else x)))) := by
  refine ze_enter (cc := b_J_max) (maxL := 2) (ret := (some .int)) (by decide +kernel) rfl (Nat.le_of_ble_eq_true rfl) ?_
  rintro G rfl rfl rfl - C Rt
  refine ze_lv (lv' := [(0, .int x), (1, .int y)]) rfl ?_
  refine ze_iload_n C d_J_max_0 0 rfl rfl ?_
  refine ze_iload_n C d_J_max_1 1 rfl rfl ?_
  refine ze_icmp_lt 9 C d_J_max_2 (by decide) (fun h2 => ?_) (fun h2 => ?_)
  · refine ze_iload_n C d_J_max_9 1 rfl rfl ?_
    exact ze_iret C Rt d_J_max_10 (⟨rfl, rfl, rfl, by first | rw [if_pos (by assumption)] | rw [if_neg (by assumption)]⟩)
  · refine ze_iload_n C d_J_max_5 0 rfl rfl ?_
    refine ze_goto 10 C d_J_max_6 (by decide) ?_
    exact ze_iret C Rt d_J_max_10 (⟨rfl, rfl, rfl, by first | rw [if_pos (by assumption)] | rw [if_neg (by assumption)]⟩)

set_option maxRecDepth 100000 in
set_option maxHeartbeats 4000000 in
theorem c_J_min (l : Launch) (D : va_G) (ids : Nat → ClassId) (n : Nat) (ad : Nat → Nat) (E : Nat → va_E) (x y : Int32) : ze_M l D ids y_J_min ws_J_min (ze_rm 1) 0 0 n ad E [.int x, .int y] (ze_p0 n ad E (fun v => v = some (.int (if y < x then y else x)))) := by
  refine ze_enter (cc := b_J_min) (maxL := 2) (ret := (some .int)) (by decide +kernel) rfl (Nat.le_of_ble_eq_true rfl) ?_
  rintro G rfl rfl rfl - C Rt
  refine ze_lv (lv' := [(0, .int x), (1, .int y)]) rfl ?_
  refine ze_iload_n C d_J_min_0 0 rfl rfl ?_
  refine ze_iload_n C d_J_min_1 1 rfl rfl ?_
  refine ze_icmp_gt 9 C d_J_min_2 (by decide) (fun h2 => ?_) (fun h2 => ?_)
  · refine ze_iload_n C d_J_min_9 1 rfl rfl ?_
    exact ze_iret C Rt d_J_min_10 (⟨rfl, rfl, rfl, by first | rw [if_pos (by assumption)] | rw [if_neg (by assumption)]⟩)
  · refine ze_iload_n C d_J_min_5 0 rfl rfl ?_
    refine ze_goto 10 C d_J_min_6 (by decide) ?_
    exact ze_iret C Rt d_J_min_10 (⟨rfl, rfl, rfl, by first | rw [if_pos (by assumption)] | rw [if_neg (by assumption)]⟩)

set_option maxRecDepth 100000 in
set_option maxHeartbeats 4000000 in
theorem c_T_clear (l : Launch) (D : va_G) (ids : Nat → ClassId) (ad : Nat → Nat) (ms : ze_MS) (M : Nat) (T : Nat → ze_T) (hd : Nat → Bool) (mv : Int64) (i : Nat) (hi : i < 12) (f g : Nat → Int32) (c : Nat) (o : Bool)  : ze_MX l D ids ad ms y_T_clear ws_T_clear 1 (M, va_up T i (f, g, c, o), hd, mv) [.ref (ad (3 + 3 * i))] (fun v x' => v = none ∧ x' = (M, va_up T i (f, g, 0, false), hd, mv)) := by
  refine ze_enter (cc := b_T_clear) (maxL := 1) (ret := none) (by decide +kernel) rfl (Nat.le_of_ble_eq_true rfl) ?_
  rintro G rfl rfl rfl - C Rt
  refine ze_lv (lv' := [(0, .ref (ad (3 + 3 * i)))]) rfl ?_
  refine ze_aload_n C d_T_clear_0 0 rfl rfl ?_
  refine ze_iconst (v := nI 0) C d_T_clear_1 (by decide) ?_
  refine ze_putf (k := 3 + 3 * i) C fp_T_18 (by omega) (ze_F_t (i := i) hi) rfl rfl (Nat.le_of_ble_eq_true rfl) d_T_clear_2 ?_
  refine ze_eqE (ze_W_t (i := i) (c' := 0) (o' := o) hi) ?_
  refine ze_aload_n C d_T_clear_5 0 rfl rfl ?_
  refine ze_iconst (v := ze_bi false) C d_T_clear_6 (by decide) ?_
  refine ze_putf (k := 3 + 3 * i) C fp_T_22 (by omega) (ze_F_t (i := i) hi) rfl rfl (Nat.le_of_ble_eq_true rfl) d_T_clear_7 ?_
  refine ze_eqE (ze_W_t (i := i) (c' := 0) (o' := false) hi) ?_
  exact ze_vret C Rt d_T_clear_10 (⟨rfl, rfl, _, rfl, rfl, rfl⟩)

set_option maxRecDepth 100000 in
set_option maxHeartbeats 4000000 in
theorem c_T_append (l : Launch) (D : va_G) (ids : Nat → ClassId) (ad : Nat → Nat) (ms : ze_MS) (M : Nat) (T : Nat → ze_T) (hd : Nat → Bool) (mv : Int64) (i : Nat) (hi : i < 12) (f g : Nat → Int32) (c : Nat) (o : Bool) (hc : c ≤ 60) (key value : Int32) : ze_MX l D ids ad ms y_T_append ws_T_append 1 (M, va_up T i (f, g, c, o), hd, mv) [.ref (ad (3 + 3 * i)), .int key, .int value] (fun v x' => v = none ∧ x' = (M, va_up T i (if c < 60 then (upd f c key, upd g c value, c + 1, o) else (f, g, c, true)), hd, mv)) := by
  refine ze_enter (cc := b_T_append) (maxL := 3) (ret := none) (by decide +kernel) rfl (Nat.le_of_ble_eq_true rfl) ?_
  rintro G rfl rfl rfl - C Rt
  refine ze_lv (lv' := [(0, .ref (ad (3 + 3 * i))), (1, .int key), (2, .int value)]) rfl ?_
  refine ze_aload_n C d_T_append_0 0 rfl rfl ?_
  refine ze_getf (k := 3 + 3 * i) C fl_T_18 (by omega) (ze_F_t (i := i) hi) rfl d_T_append_1 ?_
  refine ze_bipush (v := nI 60) C d_T_append_4 (by decide) ?_
  refine ze_icmp_ltN 15 C d_T_append_6 (by decide) (by omega) (by omega) (fun h6 => ?_) (fun h6 => ?_)
  · refine ze_aload_n C d_T_append_15 0 rfl rfl ?_
    refine ze_getf (k := 3 + 3 * i) C fl_T_9 (by omega) (ze_F_t (i := i) hi) rfl d_T_append_16 ?_
    refine ze_aload_n C d_T_append_19 0 rfl rfl ?_
    refine ze_getf (k := 3 + 3 * i) C fl_T_18 (by omega) (ze_F_t (i := i) hi) rfl d_T_append_20 ?_
    refine ze_iload_n C d_T_append_23 1 rfl rfl ?_
    refine ze_iast (k := 4 + 3 * i) (i := c) C (by omega) (ze_F_k (i := i) hi) (by omega) (by decide) d_T_append_24 ?_
    refine ze_eqE (ze_W_k (i := i) hi) ?_
    refine ze_aload_n C d_T_append_25 0 rfl rfl ?_
    refine ze_getf (k := 3 + 3 * i) C fl_T_15 (by omega) (ze_F_t (i := i) hi) rfl d_T_append_26 ?_
    refine ze_aload_n C d_T_append_29 0 rfl rfl ?_
    refine ze_getf (k := 3 + 3 * i) C fl_T_18 (by omega) (ze_F_t (i := i) hi) rfl d_T_append_30 ?_
    refine ze_iload_n C d_T_append_33 2 rfl rfl ?_
    refine ze_iast (k := 5 + 3 * i) (i := c) C (by omega) (ze_F_v (i := i) hi) (by omega) (by decide) d_T_append_34 ?_
    refine ze_eqE (ze_W_v (i := i) hi) ?_
    refine ze_aload_n C d_T_append_35 0 rfl rfl ?_
    refine ze_dup C d_T_append_36 rfl ?_
    refine ze_getf (k := 3 + 3 * i) C fl_T_18 (by omega) (ze_F_t (i := i) hi) rfl d_T_append_37 ?_
    refine ze_iconst (v := nI 1) C d_T_append_40 (by decide) ?_
    refine ze_iaddN C d_T_append_41 ?_
    refine ze_putf (k := 3 + 3 * i) C fp_T_18 (by omega) (ze_F_t (i := i) hi) rfl rfl (Nat.le_of_ble_eq_true rfl) d_T_append_42 ?_
    refine ze_eqE (ze_W_t (i := i) (c' := c + 1) (o' := o) hi) ?_
    exact ze_vret C Rt d_T_append_45 (⟨rfl, rfl, _, rfl, rfl, by rw [if_pos (by omega)]⟩)
  · refine ze_aload_n C d_T_append_9 0 rfl rfl ?_
    refine ze_iconst (v := ze_bi true) C d_T_append_10 (by decide) ?_
    refine ze_putf (k := 3 + 3 * i) C fp_T_22 (by omega) (ze_F_t (i := i) hi) rfl rfl (Nat.le_of_ble_eq_true rfl) d_T_append_11 ?_
    refine ze_eqE (ze_W_t (i := i) (c' := c) (o' := true) hi) ?_
    exact ze_vret C Rt d_T_append_14 (⟨rfl, rfl, _, rfl, rfl, by rw [if_neg (by omega)]⟩)

set_option maxRecDepth 100000 in
set_option maxHeartbeats 4000000 in
theorem c_T_placeOfKey (l : Launch) (D : va_G) (ids : Nat → ClassId) (ad : Nat → Nat) (ms : ze_MS) (M : Nat) (T : Nat → ze_T) (hd : Nat → Bool) (mv : Int64) (i : Nat) (hi : i < 12) (f g : Nat → Int32) (c : Nat) (o : Bool) (hc : c ≤ 60) (key : Int32) (start : Nat) (hs : start ≤ 60) : ze_MX l D ids ad ms y_T_placeOfKey ws_T_placeOfKey 1 (M, va_up T i (f, g, c, o), hd, mv) [.ref (ad (3 + 3 * i)), .int key, .int (nI start)] (fun v x' => ∃ p, v = some (.int (nI p)) ∧ x' = (M, va_up T i (f, g, c, o), hd, mv) ∧ start ≤ p ∧ (p ≤ c ∨ p = start) ∧ (∀ q, start ≤ q → q < p → f q ≠ key) ∧ (p < c → f p = key)) := by
  refine ze_enter (cc := b_T_placeOfKey) (maxL := 4) (ret := (some .int)) (by decide +kernel) rfl (Nat.le_of_ble_eq_true rfl) ?_
  rintro G rfl rfl rfl - C Rt
  refine ze_lv (lv' := [(0, .ref (ad (3 + 3 * i))), (1, .int key), (2, .int (nI start))]) rfl ?_
  have loop : ∀ (r p : Nat), c - p = r → start ≤ p → (p ≤ c ∨ p = start) → (∀ q, start ≤ q → q < p → f q ≠ key) → ze_V G 48 ad (ze_E (ze_i G) ad (M, va_up T i (f, g, c, o), hd, mv) ms) 0 0 2 [(3, .int (nI p)), (0, .ref (ad (3 + 3 * i))), (1, .int key), (2, .int (nI start))] [] := by
    intro r
    induction r using Nat.strongRecOn with
    | ind r ih =>
      intro p hr h1 h2 h3
      refine ze_iload_n C d_T_placeOfKey_2 0 rfl rfl ?_
      refine ze_aload_n C d_T_placeOfKey_3 1 rfl rfl ?_
      refine ze_getf (k := 3 + 3 * i) C fl_T_18 (by omega) (ze_F_t (i := i) hi) rfl d_T_placeOfKey_4 ?_
      refine ze_icmp_geN 26 C d_T_placeOfKey_7 (by decide) (by omega) (by omega) (fun h7 => ?_) (fun h7 => ?_)
      · refine ze_iload_n C d_T_placeOfKey_26 0 rfl rfl ?_
        exact ze_iret C Rt d_T_placeOfKey_27 (⟨rfl, rfl, _, rfl, p, rfl, rfl, h1, h2, h3, fun hp => absurd hp (by omega)⟩)
      · refine ze_aload_n C d_T_placeOfKey_10 1 rfl rfl ?_
        refine ze_getf (k := 3 + 3 * i) C fl_T_9 (by omega) (ze_F_t (i := i) hi) rfl d_T_placeOfKey_11 ?_
        refine ze_iload_n C d_T_placeOfKey_14 0 rfl rfl ?_
        refine ze_iald (k := 4 + 3 * i) (i := p) C (by omega) (ze_F_k (i := i) hi) (by omega) (by decide) d_T_placeOfKey_15 ?_
        refine ze_iload_n C d_T_placeOfKey_16 2 rfl rfl ?_
        refine ze_icmp_eq 26 C d_T_placeOfKey_17 (by decide) (fun h17 => ?_) (fun h17 => ?_)
        · refine ze_iload_n C d_T_placeOfKey_26 0 rfl rfl ?_
          exact ze_iret C Rt d_T_placeOfKey_27 (⟨rfl, rfl, _, rfl, p, rfl, rfl, h1, h2, h3, fun _ => h17⟩)
        · refine ze_iinc (j := 0) (v := nI (p + 1)) (lv' := [(3, .int (nI (p + 1))), (0, .ref (ad (3 + 3 * i))), (1, .int key), (2, .int (nI start))]) C d_T_placeOfKey_20 rfl (nI_1 _) (by decide) rfl ?_
          refine ze_goto 2 C d_T_placeOfKey_23 (by decide) ?_
          refine ze_sub [(3, .int (nI (p + 1))), (0, .ref (ad (3 + 3 * i))), (1, .int key), (2, .int (nI start))] [0, 1, 2, 3] rfl ?_
          refine ih (c - (p + 1)) (by omega) (p + 1) rfl (by omega) (by omega) (fun q q1 q2 => ?_)
          by_cases hq : q = p
          · subst hq; exact h17
          · exact h3 q q1 (by omega)
  refine ze_iload_n C d_T_placeOfKey_0 2 rfl rfl ?_
  refine ze_istore_n (lv' := [(3, .int (nI start)), (0, .ref (ad (3 + 3 * i))), (1, .int key), (2, .int (nI start))]) C d_T_placeOfKey_1 rfl (by decide) rfl ?_
  exact loop _ start rfl (Nat.le_refl _) (Or.inr rfl) (fun q q1 q2 => absurd q2 (by omega))

set_option maxRecDepth 100000 in
set_option maxHeartbeats 4000000 in
theorem c_T_repeatsFrom (l : Launch) (D : va_G) (ids : Nat → ClassId) (ad : Nat → Nat) (ms : ze_MS) (M : Nat) (T : Nat → ze_T) (hd : Nat → Bool) (mv : Int64) (i : Nat) (hi : i < 12) (f g : Nat → Int32) (c : Nat) (o : Bool) (L : List ze_Row) (hH : ze_H (f, g, c, o) L) (hc : c ≤ 60) (start : Nat) (hs : start ≤ c) (key value : Int32) : ze_MX l D ids ad ms y_T_repeatsFrom ws_T_repeatsFrom 1 (M, va_up T i (f, g, c, o), hd, mv) [.ref (ad (3 + 3 * i)), .int (nI start), .int key, .int value] (fun v x' => v = some (.int (nI (ze_rep (key, value) (L.drop start)))) ∧ x' = (M, va_up T i (f, g, c, o), hd, mv)) := by
  refine ze_enter (cc := b_T_repeatsFrom) (maxL := 5) (ret := (some .int)) (by decide +kernel) rfl (Nat.le_of_ble_eq_true rfl) ?_
  rintro G rfl rfl rfl - C Rt
  refine ze_lv (lv' := [(0, .ref (ad (3 + 3 * i))), (1, .int (nI start)), (2, .int key), (3, .int value)]) rfl ?_
  have loop : ∀ (r p : Nat), c - p = r → start ≤ p → p ≤ c → ze_rep (key, value) (L.drop start) = (p - start) + ze_rep (key, value) (L.drop p) → ze_V G 48 ad (ze_E (ze_i G) ad (M, va_up T i (f, g, c, o), hd, mv) ms) 0 0 3 [(4, .int (nI p)), (0, .ref (ad (3 + 3 * i))), (1, .int (nI start)), (2, .int key), (3, .int value)] [] := by
    intro r
    induction r using Nat.strongRecOn with
    | ind r ih =>
      intro p hr h1 h2 h3
      have hrow : p < c → L[p]? = some (f p, g p) := fun hp => ze_H_row hH (by have := hH.1; simp only at this; omega)
      have hdrop : p < c → L.drop p = (f p, g p) :: L.drop (p + 1) := fun hp => by
        obtain ⟨hl, he⟩ := List.getElem?_eq_some_iff.mp (hrow hp)
        rw [List.drop_eq_getElem_cons hl, he]
      refine ze_iload C d_T_repeatsFrom_3 0 rfl ?_
      refine ze_aload_n C d_T_repeatsFrom_5 1 rfl rfl ?_
      refine ze_getf (k := 3 + 3 * i) C fl_T_18 (by omega) (ze_F_t (i := i) hi) rfl d_T_repeatsFrom_6 ?_
      refine ze_icmp_geN 40 C d_T_repeatsFrom_9 (by decide) (by omega) (by omega) (fun h9 => ?_) (fun h9 => ?_)
      · refine ze_iload C d_T_repeatsFrom_40 0 rfl ?_
        refine ze_iload_n C d_T_repeatsFrom_42 2 rfl rfl ?_
        refine ze_isubN C d_T_repeatsFrom_43 (by omega) ?_
        exact ze_iret C Rt d_T_repeatsFrom_44 (⟨rfl, rfl, _, rfl, by rw [h3, List.drop_eq_nil_of_le (by have := hH.1; simp only at this; omega)]; simp only [ze_rep]; rw [Nat.add_zero], rfl⟩)
      · refine ze_aload_n C d_T_repeatsFrom_12 1 rfl rfl ?_
        refine ze_getf (k := 3 + 3 * i) C fl_T_9 (by omega) (ze_F_t (i := i) hi) rfl d_T_repeatsFrom_13 ?_
        refine ze_iload C d_T_repeatsFrom_16 0 rfl ?_
        refine ze_iald (k := 4 + 3 * i) (i := p) C (by omega) (ze_F_k (i := i) hi) (by omega) (by decide) d_T_repeatsFrom_18 ?_
        refine ze_iload_n C d_T_repeatsFrom_19 3 rfl rfl ?_
        refine ze_icmp_ne 40 C d_T_repeatsFrom_20 (by decide) (fun h20 => ?_) (fun h20 => ?_)
        · refine ze_iload C d_T_repeatsFrom_40 0 rfl ?_
          refine ze_iload_n C d_T_repeatsFrom_42 2 rfl rfl ?_
          refine ze_isubN C d_T_repeatsFrom_43 (by omega) ?_
          exact ze_iret C Rt d_T_repeatsFrom_44 (⟨rfl, rfl, _, rfl, by rw [h3, hdrop (by omega)]; simp only [ze_rep, Prod.mk.injEq, h20, false_and, if_false]; rw [Nat.add_zero], rfl⟩)
        · refine ze_aload_n C d_T_repeatsFrom_23 1 rfl rfl ?_
          refine ze_getf (k := 3 + 3 * i) C fl_T_15 (by omega) (ze_F_t (i := i) hi) rfl d_T_repeatsFrom_24 ?_
          refine ze_iload C d_T_repeatsFrom_27 0 rfl ?_
          refine ze_iald (k := 5 + 3 * i) (i := p) C (by omega) (ze_F_v (i := i) hi) (by omega) (by decide) d_T_repeatsFrom_29 ?_
          refine ze_iload_n C d_T_repeatsFrom_30 4 rfl rfl ?_
          refine ze_icmp_ne 40 C d_T_repeatsFrom_31 (by decide) (fun h31 => ?_) (fun h31 => ?_)
          · refine ze_iload C d_T_repeatsFrom_40 0 rfl ?_
            refine ze_iload_n C d_T_repeatsFrom_42 2 rfl rfl ?_
            refine ze_isubN C d_T_repeatsFrom_43 (by omega) ?_
            exact ze_iret C Rt d_T_repeatsFrom_44 (⟨rfl, rfl, _, rfl, by rw [h3, hdrop (by omega)]; simp only [ze_rep, Prod.mk.injEq, h31, and_false, if_false]; rw [Nat.add_zero], rfl⟩)
          · refine ze_iinc (j := 0) (v := nI (p + 1)) (lv' := [(4, .int (nI (p + 1))), (0, .ref (ad (3 + 3 * i))), (1, .int (nI start)), (2, .int key), (3, .int value)]) C d_T_repeatsFrom_34 rfl (nI_1 _) (by decide) rfl ?_
            refine ze_goto 3 C d_T_repeatsFrom_37 (by decide) ?_
            refine ze_sub [(4, .int (nI (p + 1))), (0, .ref (ad (3 + 3 * i))), (1, .int (nI start)), (2, .int key), (3, .int value)] [0, 1, 2, 3, 4] rfl ?_
            refine ih (c - (p + 1)) (by omega) (p + 1) rfl (by omega) (by omega) ?_
            rw [h3, hdrop h9]
            simp only [ze_rep, h20, h31, if_true]
            omega
  refine ze_iload_n C d_T_repeatsFrom_0 1 rfl rfl ?_
  refine ze_istore (lv' := [(4, .int (nI start)), (0, .ref (ad (3 + 3 * i))), (1, .int (nI start)), (2, .int key), (3, .int value)]) C d_T_repeatsFrom_1 (by decide) rfl ?_
  exact loop _ start rfl (Nat.le_refl _) hs (by omega)

theorem ze_cmp_lt {x y : Int32} : ze_cmp x y < 0 ↔ x.toInt < y.toInt := by
  unfold ze_cmp
  split
  · rename_i h; rw [Int32.lt_iff_toInt_lt] at h; simp [h]
  · rename_i h; rw [Int32.lt_iff_toInt_lt] at h
    split <;> simp [h]
theorem ze_cmp_eq {x y : Int32} : ze_cmp x y = 0 ↔ x.toInt = y.toInt := by
  unfold ze_cmp
  split
  · rename_i h; rw [Int32.lt_iff_toInt_lt] at h
    simp; omega
  · split
    · rename_i h; simp [h]
    · rename_i h; rw [← Int32.toInt_inj] at h; simp [h]
theorem ze_cmp_le {x y : Int32} : ze_cmp x y ≤ 0 ↔ ¬ y.toInt < x.toInt := by
  have h1 := ze_cmp_lt (x := x) (y := y)
  have h2 := ze_cmp_eq (x := x) (y := y)
  rw [Int32.le_iff_toInt_le]
  rw [Int32.lt_iff_toInt_lt] at h1
  rw [← Int32.toInt_inj] at h2
  simp only [show (0 : Int32).toInt = 0 from rfl] at h1 h2 ⊢
  omega
theorem ze_lt_iff' (o : Nat) (a b : ze_Row) : (ze_lt o a b = true) = ((o = 0 ∧ a.1.toInt < b.1.toInt) ∨ (o = 1 ∧ a.2.toInt < b.2.toInt) ∨ (o ≠ 0 ∧ o ≠ 1 ∧ (a.1.toInt < b.1.toInt ∨ (a.1.toInt = b.1.toInt ∧ a.2.toInt < b.2.toInt)))) := propext (ze_lt_iff o a b)

set_option maxRecDepth 100000 in
set_option maxHeartbeats 4000000 in
theorem c_X_compareRows (l : Launch) (D : va_G) (ids : Nat → ClassId) (n : Nat) (ad : Nat → Nat) (E : Nat → va_E) (o : Nat) (ho : o ≤ 2) (k v k2 v2 : Int32) : ze_M l D ids y_X_compareRows ws_X_compareRows (ze_rm 2) 0 0 n ad E [.int (nI o), .int k, .int v, .int k2, .int v2] (ze_p0 n ad E (fun w => ∃ r, w = some (.int r) ∧ (r < 0 ↔ ze_lt o (k, v) (k2, v2) = true) ∧ (r ≤ 0 ↔ ze_lt o (k2, v2) (k, v) = false))) := by
  refine ze_enter (cc := b_X_compareRows) (maxL := 6) (ret := (some .int)) (by decide +kernel) rfl (Nat.le_of_ble_eq_true rfl) ?_
  rintro G rfl rfl rfl - C Rt
  refine ze_lv (lv' := [(0, .int (nI o)), (1, .int k), (2, .int v), (3, .int k2), (4, .int v2)]) rfl ?_
  refine ze_iload_n C d_X_compareRows_0 0 rfl rfl ?_
  refine ze_iconst (v := nI 1) C d_X_compareRows_1 (by decide) ?_
  refine ze_icmp_neN 12 C d_X_compareRows_2 (by decide) (by omega) (by omega) (fun h2 => ?_) (fun h2 => ?_)
  · refine ze_iload_n C d_X_compareRows_12 1 rfl rfl ?_
    refine ze_iload_n C d_X_compareRows_13 3 rfl rfl ?_
    refine ze_callS (st := []) C (c_I_compare (ze_l G) (ze_D G) (ze_i G) n ad E k k2) (ks_X_174 (ze_rml (by decide) (by decide))) rfl (Nat.le_of_ble_eq_true rfl) ⟨Nat.le_of_ble_eq_true rfl, Nat.le_of_ble_eq_true rfl⟩ d_X_compareRows_14 ?_
    rintro _ _ _ _ ⟨rfl, rfl, rfl, rfl⟩
    refine ze_norm (c2 := 0) (s2 := 0) (st' := [.int (ze_cmp k k2)]) rfl rfl rfl ?_
    refine ze_istore (lv' := [(5, .int (ze_cmp k k2)), (0, .int (nI o)), (1, .int k), (2, .int v), (3, .int k2), (4, .int v2)]) C d_X_compareRows_17 (by decide) rfl ?_
    refine ze_iload_n C d_X_compareRows_19 1 rfl rfl ?_
    refine ze_if_eqN 28 C d_X_compareRows_20 (by decide) (by omega) (fun h20 => ?_) (fun h20 => ?_)
    · refine ze_iload C d_X_compareRows_28 0 rfl ?_
      exact ze_iret C Rt d_X_compareRows_30 (⟨rfl, rfl, rfl, _, rfl, by rw [ze_cmp_lt, ze_lt_iff]; simp only; omega, by rw [ze_cmp_le, ← Bool.not_eq_true, ze_lt_iff]; simp only; omega⟩)
    · refine ze_iload C d_X_compareRows_23 0 rfl ?_
      refine ze_if_eq 31 C d_X_compareRows_25 (by decide) (fun h25 => ?_) (fun h25 => ?_)
      · rw [ze_cmp_eq] at h25
        refine ze_iload_n C d_X_compareRows_31 3 rfl rfl ?_
        refine ze_iload C d_X_compareRows_32 5 rfl ?_
        refine ze_callS (st := []) C (c_I_compare (ze_l G) (ze_D G) (ze_i G) n ad E v v2) (ks_X_174 (ze_rml (by decide) (by decide))) rfl (Nat.le_of_ble_eq_true rfl) ⟨Nat.le_of_ble_eq_true rfl, Nat.le_of_ble_eq_true rfl⟩ d_X_compareRows_34 ?_
        rintro _ _ _ _ ⟨rfl, rfl, rfl, rfl⟩
        refine ze_norm (c2 := 0) (s2 := 0) (st' := [.int (ze_cmp v v2)]) rfl rfl rfl ?_
        exact ze_iret C Rt d_X_compareRows_37 (⟨rfl, rfl, rfl, _, rfl, by rw [ze_cmp_lt, ze_lt_iff]; simp only; omega, by rw [ze_cmp_le, ← Bool.not_eq_true, ze_lt_iff]; simp only; omega⟩)
      · rw [ze_cmp_eq] at h25
        refine ze_iload C d_X_compareRows_28 0 rfl ?_
        exact ze_iret C Rt d_X_compareRows_30 (⟨rfl, rfl, rfl, _, rfl, by rw [ze_cmp_lt, ze_lt_iff]; simp only; omega, by rw [ze_cmp_le, ← Bool.not_eq_true, ze_lt_iff]; simp only; omega⟩)
  · refine ze_iload_n C d_X_compareRows_5 2 rfl rfl ?_
    refine ze_iload C d_X_compareRows_6 4 rfl ?_
    refine ze_callS (st := []) C (c_I_compare (ze_l G) (ze_D G) (ze_i G) n ad E v v2) (ks_X_174 (ze_rml (by decide) (by decide))) rfl (Nat.le_of_ble_eq_true rfl) ⟨Nat.le_of_ble_eq_true rfl, Nat.le_of_ble_eq_true rfl⟩ d_X_compareRows_8 ?_
    rintro _ _ _ _ ⟨rfl, rfl, rfl, rfl⟩
    refine ze_norm (c2 := 0) (s2 := 0) (st' := [.int (ze_cmp v v2)]) rfl rfl rfl ?_
    exact ze_iret C Rt d_X_compareRows_11 (⟨rfl, rfl, rfl, _, rfl, by rw [ze_cmp_lt, ze_lt_iff]; simp only; omega, by rw [ze_cmp_le, ← Bool.not_eq_true, ze_lt_iff]; simp only; omega⟩)
end
section
theorem ze_Hl_step {f g : Nat → Int32} {p : Nat} {L : List ze_Row} (h : ze_Hl f g p (L.drop p)) (hp : p < L.length) : L[p]? = some (f p, g p) ∧ L.take (p + 1) = L.take p ++ [(f p, g p)] ∧ ze_Hl f g (p + 1) (L.drop (p + 1)) := by
  rw [List.drop_eq_getElem_cons hp, ze_Hl_cons] at h
  obtain ⟨⟨h1, h2⟩, h3⟩ := h
  have e : L[p] = (f p, g p) := Prod.ext h1.symm h2.symm
  have e2 : L[p]? = some (f p, g p) := by rw [List.getElem?_eq_getElem hp, e]
  refine ⟨e2, ?_, h3⟩
  rw [List.take_succ, e2]
  rfl
theorem ze_arr_exit {o : Nat} {L P1 P2 : List ze_Row} {p q : Nat} {f g : Nat → Int32} {key value : Int32} (hp : p < L.length) (hr : L[p]? = some (key, value)) (h1 : P1.length = q) (h2 : ze_srt o (L.take p) = P1 ++ P2) (h3 : ze_Hl f g 0 P1) (h4 : ze_Hl f g (q + 1) P2) (h5 : ze_Hl f g (p + 1) (L.drop (p + 1))) (h6 : ∀ e ∈ P2, ze_lt o (key, value) e = true) (h7 : ∀ e, P1.getLast? = some e → ze_lt o (key, value) e = false) :
    ze_Hl (upd f q key) (upd g q value) 0 (ze_srt o (L.take (p + 1))) ∧ ze_Hl (upd f q key) (upd g q value) (p + 1) (L.drop (p + 1)) := by
  have hlen : p = q + P2.length := by
    have := ze_srt_len o (L.take p)
    rw [h2, List.length_append, List.length_take] at this
    omega
  have e1 : L.take (p + 1) = L.take p ++ [(key, value)] := by
    rw [List.take_succ, hr]
    rfl
  refine ⟨?_, ze_Hl_upd h5 (Or.inl (by omega))⟩
  rw [e1, ze_srt_snoc, h2, ze_ins_split h6 h7, List.reverse_reverse, ze_Hl_app, ze_Hl_cons]
  refine ⟨ze_Hl_upd h3 (Or.inr (by omega)), ?_, ?_⟩
  · rw [h1, Nat.zero_add]
    exact ⟨pk_us, pk_us⟩
  · rw [h1, Nat.zero_add]
    exact ze_Hl_upd h4 (Or.inl (by omega))
theorem ze_arr_last {P1 : List ze_Row} {q : Nat} {f g : Nat → Int32} (h1 : P1.length = q) (h3 : ze_Hl f g 0 P1) (hq : 0 < q) : P1.getLast? = some (f (q - 1), g (q - 1)) := by
  have := ze_Hl_row h3 (p := q - 1) (by omega)
  rw [Nat.zero_add] at this
  rw [List.getLast?_eq_getElem?, h1]
  exact this
theorem ze_arr_step {o : Nat} {L P1 P2 : List ze_Row} {p q : Nat} {f g : Nat → Int32} {key value : Int32} (h1 : P1.length = q) (h2 : ze_srt o (L.take p) = P1 ++ P2) (hqp : q ≤ p) (h3 : ze_Hl f g 0 P1) (h4 : ze_Hl f g (q + 1) P2) (h5 : ze_Hl f g (p + 1) (L.drop (p + 1))) (h6 : ∀ e ∈ P2, ze_lt o (key, value) e = true) (hq : 0 < q) (hlt : ze_lt o (key, value) (f (q - 1), g (q - 1)) = true) :
    ∃ P1' P2' : List ze_Row, P1'.length = q - 1 ∧ ze_srt o (L.take p) = P1' ++ P2' ∧ ze_Hl (upd f q (f (q - 1))) (upd g q (g (q - 1))) 0 P1' ∧ ze_Hl (upd f q (f (q - 1))) (upd g q (g (q - 1))) (q - 1 + 1) P2' ∧ ze_Hl (upd f q (f (q - 1))) (upd g q (g (q - 1))) (p + 1) (L.drop (p + 1)) ∧ ∀ e ∈ P2', ze_lt o (key, value) e = true := by
  have hl := ze_arr_last h1 h3 hq
  rcases List.eq_nil_or_concat P1 with e | ⟨K, z, e⟩
  · rw [e] at h1
    simp at h1
    omega
  · rw [List.concat_eq_append] at e
    subst e
    rw [List.getLast?_append] at hl
    simp only [List.getLast?_singleton, Option.some_or, Option.some.injEq] at hl
    rw [List.length_append, List.length_singleton] at h1
    have hK := (ze_Hl_app.mp h3).1
    refine ⟨K, z :: P2, by omega, by rw [h2, List.append_assoc]; rfl, ze_Hl_upd hK (Or.inr (by omega)), ?_, ze_Hl_upd h5 (Or.inl (by omega)), fun e he => ?_⟩
    · rw [ze_Hl_cons, show q - 1 + 1 = q by omega]
      refine ⟨?_, ze_Hl_upd h4 (Or.inl (by omega))⟩
      rw [hl]
      exact ⟨pk_us, pk_us⟩
    · rcases List.mem_cons.mp he with rfl | he
      · rw [hl]; exact hlt
      · exact h6 e he

set_option maxRecDepth 100000 in
set_option maxHeartbeats 4000000 in
theorem c_T_copyFrom (l : Launch) (D : va_G) (ids : Nat → ClassId) (ad : Nat → Nat) (ms : ze_MS) (M : Nat) (T : Nat → ze_T) (hd : Nat → Bool) (mv : Int64) (i : Nat) (hi : i < 12) (f g : Nat → Int32) (c : Nat) (o : Bool) (j : Nat) (hj : j < 12) (hne : j ≠ i) (hcj : (T j).2.2.1 ≤ 60) : ze_MX l D ids ad ms y_T_copyFrom ws_T_copyFrom 2 (M, va_up T i (f, g, c, o), hd, mv) [.ref (ad (3 + 3 * i)), .ref (ad (3 + 3 * j))] (fun v x' => v = none ∧ x' = (M, va_up T i (va_cpy (T j).1 f 0 0 (T j).2.2.1, va_cpy (T j).2.1 g 0 0 (T j).2.2.1, (T j).2.2.1, false), hd, mv)) := by
  refine ze_enter (cc := b_T_copyFrom) (maxL := 2) (ret := none) (by decide +kernel) rfl (Nat.le_of_ble_eq_true rfl) ?_
  rintro G rfl rfl rfl - C Rt
  refine ze_lv (lv' := [(0, .ref (ad (3 + 3 * i))), (1, .ref (ad (3 + 3 * j)))]) rfl ?_
  refine ze_aload_n C d_T_copyFrom_0 1 rfl rfl ?_
  refine ze_getf (k := 3 + 3 * j) C fl_T_9 (by omega) (ze_O_t (j := j) hj hne) rfl d_T_copyFrom_1 ?_
  refine ze_iconst (v := nI 0) C d_T_copyFrom_4 (by decide) ?_
  refine ze_aload_n C d_T_copyFrom_5 0 rfl rfl ?_
  refine ze_getf (k := 3 + 3 * i) C fl_T_9 (by omega) (ze_F_t (i := i) hi) rfl d_T_copyFrom_6 ?_
  refine ze_iconst (v := nI 0) C d_T_copyFrom_9 (by decide) ?_
  refine ze_aload_n C d_T_copyFrom_10 1 rfl rfl ?_
  refine ze_getf (k := 3 + 3 * j) C fl_T_18 (by omega) (ze_O_t (j := j) hj hne) rfl d_T_copyFrom_11 ?_
  refine ze_copy (k0 := 4 + 3 * j) (k1 := 4 + 3 * i) (sp := 0) (dp := 0) (len := (T j).2.2.1) C (List.mem_cons_of_mem _ zw_91) (List.mem_cons_of_mem _ zw_93) (List.mem_cons_of_mem _ zw_92) (List.mem_cons_of_mem _ zw_5) (by omega) (by omega) (ze_O_k (j := j) hj hne) (ze_F_k (i := i) hi) (by omega) (by omega) (by decide) (by decide) (by decide) (Nat.le_of_ble_eq_true rfl) d_T_copyFrom_14 ?_
  refine ze_eqE (ze_W_k (i := i) hi) ?_
  refine ze_aload_n C d_T_copyFrom_17 1 rfl rfl ?_
  refine ze_getf (k := 3 + 3 * j) C fl_T_15 (by omega) (ze_O_t (j := j) hj hne) rfl d_T_copyFrom_18 ?_
  refine ze_iconst (v := nI 0) C d_T_copyFrom_21 (by decide) ?_
  refine ze_aload_n C d_T_copyFrom_22 0 rfl rfl ?_
  refine ze_getf (k := 3 + 3 * i) C fl_T_15 (by omega) (ze_F_t (i := i) hi) rfl d_T_copyFrom_23 ?_
  refine ze_iconst (v := nI 0) C d_T_copyFrom_26 (by decide) ?_
  refine ze_aload_n C d_T_copyFrom_27 1 rfl rfl ?_
  refine ze_getf (k := 3 + 3 * j) C fl_T_18 (by omega) (ze_O_t (j := j) hj hne) rfl d_T_copyFrom_28 ?_
  refine ze_copy (k0 := 5 + 3 * j) (k1 := 5 + 3 * i) (sp := 0) (dp := 0) (len := (T j).2.2.1) C (List.mem_cons_of_mem _ zw_91) (List.mem_cons_of_mem _ zw_93) (List.mem_cons_of_mem _ zw_92) (List.mem_cons_of_mem _ zw_5) (by omega) (by omega) (ze_O_v (j := j) hj hne) (ze_F_v (i := i) hi) (by omega) (by omega) (by decide) (by decide) (by decide) (Nat.le_of_ble_eq_true rfl) d_T_copyFrom_31 ?_
  refine ze_eqE (ze_W_v (i := i) hi) ?_
  refine ze_aload_n C d_T_copyFrom_34 0 rfl rfl ?_
  refine ze_aload_n C d_T_copyFrom_35 1 rfl rfl ?_
  refine ze_getf (k := 3 + 3 * j) C fl_T_18 (by omega) (ze_O_t (j := j) hj hne) rfl d_T_copyFrom_36 ?_
  refine ze_putf (k := 3 + 3 * i) C fp_T_18 (by omega) (ze_F_t (i := i) hi) rfl rfl (Nat.le_of_ble_eq_true rfl) d_T_copyFrom_39 ?_
  refine ze_eqE (ze_W_t (i := i) (c' := (T j).2.2.1) (o' := o) hi) ?_
  refine ze_aload_n C d_T_copyFrom_42 0 rfl rfl ?_
  refine ze_iconst (v := ze_bi false) C d_T_copyFrom_43 (by decide) ?_
  refine ze_putf (k := 3 + 3 * i) C fp_T_22 (by omega) (ze_F_t (i := i) hi) rfl rfl (Nat.le_of_ble_eq_true rfl) d_T_copyFrom_44 ?_
  refine ze_eqE (ze_W_t (i := i) (c' := (T j).2.2.1) (o' := false) hi) ?_
  exact ze_vret C Rt d_T_copyFrom_47 (⟨rfl, rfl, _, rfl, rfl, rfl⟩)

set_option maxRecDepth 100000 in
set_option maxHeartbeats 4000000 in
theorem c_T_dropRepeats (l : Launch) (D : va_G) (ids : Nat → ClassId) (ad : Nat → Nat) (ms : ze_MS) (M : Nat) (T : Nat → ze_T) (hd : Nat → Bool) (mv : Int64) (i : Nat) (hi : i < 12) (f g : Nat → Int32) (c : Nat) (o : Bool) (L : List ze_Row) (hH : ze_H (f, g, c, o) L) (hc : c ≤ 60) : ze_MX l D ids ad ms y_T_dropRepeats ws_T_dropRepeats 1 (M, va_up T i (f, g, c, o), hd, mv) [.ref (ad (3 + 3 * i))] (fun v x' => v = none ∧ ∃ f' g', x' = (M, va_up T i (f', g', (ze_dd L).length, o), hd, mv) ∧ ze_H (f', g', (ze_dd L).length, o) (ze_dd L)) := by
  refine ze_enter (cc := b_T_dropRepeats) (maxL := 3) (ret := none) (by decide +kernel) rfl (Nat.le_of_ble_eq_true rfl) ?_
  rintro G rfl rfl rfl - C Rt
  refine ze_lv (lv' := [(0, .ref (ad (3 + 3 * i)))]) rfl ?_
  have loop : ∀ (r : Nat) (p k : Nat) (f g : Nat → Int32), c - p = r → p ≤ c → k = (ze_dd (L.take p)).length → k ≤ p → ze_Hl f g 0 (ze_dd (L.take p)) → ze_Hl f g p (L.drop p) → ze_V G 48 ad (ze_E (ze_i G) ad (M, va_up T i (f, g, c, o), hd, mv) ms) 0 0 4 [(2, .int (nI p)), (1, .int (nI k)), (0, .ref (ad (3 + 3 * i)))] [] := by
    intro r
    induction r using Nat.strongRecOn with
    | ind r ih =>
      intro p k f g hr h1 h2 h3 h4 h5
      have hcL : c = L.length := hH.1
      refine ze_iload_n C d_T_dropRepeats_4 0 rfl rfl ?_
      refine ze_aload_n C d_T_dropRepeats_5 2 rfl rfl ?_
      refine ze_getf (k := 3 + 3 * i) C fl_T_18 (by omega) (ze_F_t (i := i) hi) rfl d_T_dropRepeats_6 ?_
      refine ze_icmp_geN 83 C d_T_dropRepeats_9 (by decide) (by omega) (by omega) (fun h9 => ?_) (fun h9 => ?_)
      · have hT : L.take p = L := List.take_of_length_le (by omega)
        rw [hT] at h2 h4
        refine ze_aload_n C d_T_dropRepeats_83 2 rfl rfl ?_
        refine ze_iload_n C d_T_dropRepeats_84 1 rfl rfl ?_
        refine ze_putf (k := 3 + 3 * i) C fp_T_18 (by omega) (ze_F_t (i := i) hi) rfl rfl (Nat.le_of_ble_eq_true rfl) d_T_dropRepeats_85 ?_
        refine ze_eqE (ze_W_t (i := i) (c' := k) (o' := o) hi) ?_
        exact ze_vret C Rt d_T_dropRepeats_88 (⟨rfl, rfl, _, rfl, rfl, f, g, by rw [h2], rfl, by omega, h4⟩)
      · refine ze_iload_n C d_T_dropRepeats_12 1 rfl rfl ?_
        refine ze_if_eqN 50 C d_T_dropRepeats_13 (by decide) (by omega) (fun h13 => ?_) (fun h13 => ?_)
        · have hlast : ¬ (ze_dd (L.take p)).getLast? = some (f p, g p) := fun q => by rw [List.eq_nil_of_length_eq_zero (h2.symm.trans h13)] at q; cases q
          refine ze_aload_n C d_T_dropRepeats_50 2 rfl rfl ?_
          refine ze_getf (k := 3 + 3 * i) C fl_T_9 (by omega) (ze_F_t (i := i) hi) rfl d_T_dropRepeats_51 ?_
          refine ze_iload_n C d_T_dropRepeats_54 1 rfl rfl ?_
          refine ze_aload_n C d_T_dropRepeats_55 2 rfl rfl ?_
          refine ze_getf (k := 3 + 3 * i) C fl_T_9 (by omega) (ze_F_t (i := i) hi) rfl d_T_dropRepeats_56 ?_
          refine ze_iload_n C d_T_dropRepeats_59 0 rfl rfl ?_
          refine ze_iald (k := 4 + 3 * i) (i := p) C (by omega) (ze_F_k (i := i) hi) (by omega) (by decide) d_T_dropRepeats_60 ?_
          refine ze_iast (k := 4 + 3 * i) (i := k) C (by omega) (ze_F_k (i := i) hi) (by omega) (by decide) d_T_dropRepeats_61 ?_
          refine ze_eqE (ze_W_k (i := i) hi) ?_
          refine ze_aload_n C d_T_dropRepeats_62 2 rfl rfl ?_
          refine ze_getf (k := 3 + 3 * i) C fl_T_15 (by omega) (ze_F_t (i := i) hi) rfl d_T_dropRepeats_63 ?_
          refine ze_iload_n C d_T_dropRepeats_66 1 rfl rfl ?_
          refine ze_aload_n C d_T_dropRepeats_67 2 rfl rfl ?_
          refine ze_getf (k := 3 + 3 * i) C fl_T_15 (by omega) (ze_F_t (i := i) hi) rfl d_T_dropRepeats_68 ?_
          refine ze_iload_n C d_T_dropRepeats_71 0 rfl rfl ?_
          refine ze_iald (k := 5 + 3 * i) (i := p) C (by omega) (ze_F_v (i := i) hi) (by omega) (by decide) d_T_dropRepeats_72 ?_
          refine ze_iast (k := 5 + 3 * i) (i := k) C (by omega) (ze_F_v (i := i) hi) (by omega) (by decide) d_T_dropRepeats_73 ?_
          refine ze_eqE (ze_W_v (i := i) hi) ?_
          refine ze_iinc (j := 1) (v := nI (k + 1)) (lv' := [(1, .int (nI (k + 1))), (2, .int (nI p)), (0, .ref (ad (3 + 3 * i)))]) C d_T_dropRepeats_74 rfl (nI_1 _) (by decide) rfl ?_
          refine ze_iinc (j := 1) (v := nI (p + 1)) (lv' := [(2, .int (nI (p + 1))), (1, .int (nI (k + 1))), (0, .ref (ad (3 + 3 * i)))]) C d_T_dropRepeats_77 rfl (nI_1 _) (by decide) rfl ?_
          refine ze_goto 4 C d_T_dropRepeats_80 (by decide) ?_
          refine ze_sub [(2, .int (nI (p + 1))), (1, .int (nI (k + 1))), (0, .ref (ad (3 + 3 * i)))] [0, 1, 2] rfl ?_
          obtain ⟨e1, e2, e3⟩ := ze_Hl_step h5 (by omega)
          have e4 : ze_dd (L.take (p + 1)) = ze_dd (L.take p) ++ [(f p, g p)] := by rw [e2, ze_dd_snoc, if_neg hlast]
          refine ih (c - (p + 1)) (by omega) (p + 1) (k + 1) _ _ rfl (by omega) (by rw [e4, List.length_append, ← h2]; rfl) (by omega) ?_ (ze_Hl_upd e3 (Or.inl (by omega)))
          rw [e4]
          have h6 := ze_Hl_snoc (r := (f p, g p)) h4
          rw [Nat.zero_add, ← h2] at h6
          exact h6
        · refine ze_aload_n C d_T_dropRepeats_16 2 rfl rfl ?_
          refine ze_getf (k := 3 + 3 * i) C fl_T_9 (by omega) (ze_F_t (i := i) hi) rfl d_T_dropRepeats_17 ?_
          refine ze_iload_n C d_T_dropRepeats_20 0 rfl rfl ?_
          refine ze_iald (k := 4 + 3 * i) (i := p) C (by omega) (ze_F_k (i := i) hi) (by omega) (by decide) d_T_dropRepeats_21 ?_
          refine ze_aload_n C d_T_dropRepeats_22 2 rfl rfl ?_
          refine ze_getf (k := 3 + 3 * i) C fl_T_9 (by omega) (ze_F_t (i := i) hi) rfl d_T_dropRepeats_23 ?_
          refine ze_iload_n C d_T_dropRepeats_26 1 rfl rfl ?_
          refine ze_iconst (v := nI 1) C d_T_dropRepeats_27 (by decide) ?_
          refine ze_isubN C d_T_dropRepeats_28 (by omega) ?_
          refine ze_iald (k := 4 + 3 * i) (i := k - 1) C (by omega) (ze_F_k (i := i) hi) (by omega) (by decide) d_T_dropRepeats_29 ?_
          refine ze_icmp_ne 50 C d_T_dropRepeats_30 (by decide) (fun h30 => ?_) (fun h30 => ?_)
          · have hlast : ¬ (ze_dd (L.take p)).getLast? = some (f p, g p) := fun q => by rw [ze_arr_last h2.symm h4 (by omega)] at q; exact h30 (congrArg Prod.fst (Option.some.inj q)).symm
            refine ze_aload_n C d_T_dropRepeats_50 2 rfl rfl ?_
            refine ze_getf (k := 3 + 3 * i) C fl_T_9 (by omega) (ze_F_t (i := i) hi) rfl d_T_dropRepeats_51 ?_
            refine ze_iload_n C d_T_dropRepeats_54 1 rfl rfl ?_
            refine ze_aload_n C d_T_dropRepeats_55 2 rfl rfl ?_
            refine ze_getf (k := 3 + 3 * i) C fl_T_9 (by omega) (ze_F_t (i := i) hi) rfl d_T_dropRepeats_56 ?_
            refine ze_iload_n C d_T_dropRepeats_59 0 rfl rfl ?_
            refine ze_iald (k := 4 + 3 * i) (i := p) C (by omega) (ze_F_k (i := i) hi) (by omega) (by decide) d_T_dropRepeats_60 ?_
            refine ze_iast (k := 4 + 3 * i) (i := k) C (by omega) (ze_F_k (i := i) hi) (by omega) (by decide) d_T_dropRepeats_61 ?_
            refine ze_eqE (ze_W_k (i := i) hi) ?_
            refine ze_aload_n C d_T_dropRepeats_62 2 rfl rfl ?_
            refine ze_getf (k := 3 + 3 * i) C fl_T_15 (by omega) (ze_F_t (i := i) hi) rfl d_T_dropRepeats_63 ?_
            refine ze_iload_n C d_T_dropRepeats_66 1 rfl rfl ?_
            refine ze_aload_n C d_T_dropRepeats_67 2 rfl rfl ?_
            refine ze_getf (k := 3 + 3 * i) C fl_T_15 (by omega) (ze_F_t (i := i) hi) rfl d_T_dropRepeats_68 ?_
            refine ze_iload_n C d_T_dropRepeats_71 0 rfl rfl ?_
            refine ze_iald (k := 5 + 3 * i) (i := p) C (by omega) (ze_F_v (i := i) hi) (by omega) (by decide) d_T_dropRepeats_72 ?_
            refine ze_iast (k := 5 + 3 * i) (i := k) C (by omega) (ze_F_v (i := i) hi) (by omega) (by decide) d_T_dropRepeats_73 ?_
            refine ze_eqE (ze_W_v (i := i) hi) ?_
            refine ze_iinc (j := 1) (v := nI (k + 1)) (lv' := [(1, .int (nI (k + 1))), (2, .int (nI p)), (0, .ref (ad (3 + 3 * i)))]) C d_T_dropRepeats_74 rfl (nI_1 _) (by decide) rfl ?_
            refine ze_iinc (j := 1) (v := nI (p + 1)) (lv' := [(2, .int (nI (p + 1))), (1, .int (nI (k + 1))), (0, .ref (ad (3 + 3 * i)))]) C d_T_dropRepeats_77 rfl (nI_1 _) (by decide) rfl ?_
            refine ze_goto 4 C d_T_dropRepeats_80 (by decide) ?_
            refine ze_sub [(2, .int (nI (p + 1))), (1, .int (nI (k + 1))), (0, .ref (ad (3 + 3 * i)))] [0, 1, 2] rfl ?_
            obtain ⟨e1, e2, e3⟩ := ze_Hl_step h5 (by omega)
            have e4 : ze_dd (L.take (p + 1)) = ze_dd (L.take p) ++ [(f p, g p)] := by rw [e2, ze_dd_snoc, if_neg hlast]
            refine ih (c - (p + 1)) (by omega) (p + 1) (k + 1) _ _ rfl (by omega) (by rw [e4, List.length_append, ← h2]; rfl) (by omega) ?_ (ze_Hl_upd e3 (Or.inl (by omega)))
            rw [e4]
            have h6 := ze_Hl_snoc (r := (f p, g p)) h4
            rw [Nat.zero_add, ← h2] at h6
            exact h6
          · refine ze_aload_n C d_T_dropRepeats_33 2 rfl rfl ?_
            refine ze_getf (k := 3 + 3 * i) C fl_T_15 (by omega) (ze_F_t (i := i) hi) rfl d_T_dropRepeats_34 ?_
            refine ze_iload_n C d_T_dropRepeats_37 0 rfl rfl ?_
            refine ze_iald (k := 5 + 3 * i) (i := p) C (by omega) (ze_F_v (i := i) hi) (by omega) (by decide) d_T_dropRepeats_38 ?_
            refine ze_aload_n C d_T_dropRepeats_39 2 rfl rfl ?_
            refine ze_getf (k := 3 + 3 * i) C fl_T_15 (by omega) (ze_F_t (i := i) hi) rfl d_T_dropRepeats_40 ?_
            refine ze_iload_n C d_T_dropRepeats_43 1 rfl rfl ?_
            refine ze_iconst (v := nI 1) C d_T_dropRepeats_44 (by decide) ?_
            refine ze_isubN C d_T_dropRepeats_45 (by omega) ?_
            refine ze_iald (k := 5 + 3 * i) (i := k - 1) C (by omega) (ze_F_v (i := i) hi) (by omega) (by decide) d_T_dropRepeats_46 ?_
            refine ze_icmp_eq 77 C d_T_dropRepeats_47 (by decide) (fun h47 => ?_) (fun h47 => ?_)
            · have hlast : (ze_dd (L.take p)).getLast? = some (f p, g p) := by rw [ze_arr_last h2.symm h4 (by omega), h30, h47]
              refine ze_iinc (j := 0) (v := nI (p + 1)) (lv' := [(2, .int (nI (p + 1))), (1, .int (nI k)), (0, .ref (ad (3 + 3 * i)))]) C d_T_dropRepeats_77 rfl (nI_1 _) (by decide) rfl ?_
              refine ze_goto 4 C d_T_dropRepeats_80 (by decide) ?_
              refine ze_sub [(2, .int (nI (p + 1))), (1, .int (nI k)), (0, .ref (ad (3 + 3 * i)))] [0, 1, 2] rfl ?_
              obtain ⟨e1, e2, e3⟩ := ze_Hl_step h5 (by omega)
              have e4 : ze_dd (L.take (p + 1)) = ze_dd (L.take p) := by rw [e2, ze_dd_snoc, if_pos hlast]
              exact ih (c - (p + 1)) (by omega) (p + 1) k f g rfl (by omega) (by rw [e4]; exact h2) (by omega) (by rw [e4]; exact h4) e3
            · have hlast : ¬ (ze_dd (L.take p)).getLast? = some (f p, g p) := fun q => by rw [ze_arr_last h2.symm h4 (by omega)] at q; exact h47 (congrArg Prod.snd (Option.some.inj q)).symm
              refine ze_aload_n C d_T_dropRepeats_50 2 rfl rfl ?_
              refine ze_getf (k := 3 + 3 * i) C fl_T_9 (by omega) (ze_F_t (i := i) hi) rfl d_T_dropRepeats_51 ?_
              refine ze_iload_n C d_T_dropRepeats_54 1 rfl rfl ?_
              refine ze_aload_n C d_T_dropRepeats_55 2 rfl rfl ?_
              refine ze_getf (k := 3 + 3 * i) C fl_T_9 (by omega) (ze_F_t (i := i) hi) rfl d_T_dropRepeats_56 ?_
              refine ze_iload_n C d_T_dropRepeats_59 0 rfl rfl ?_
              refine ze_iald (k := 4 + 3 * i) (i := p) C (by omega) (ze_F_k (i := i) hi) (by omega) (by decide) d_T_dropRepeats_60 ?_
              refine ze_iast (k := 4 + 3 * i) (i := k) C (by omega) (ze_F_k (i := i) hi) (by omega) (by decide) d_T_dropRepeats_61 ?_
              refine ze_eqE (ze_W_k (i := i) hi) ?_
              refine ze_aload_n C d_T_dropRepeats_62 2 rfl rfl ?_
              refine ze_getf (k := 3 + 3 * i) C fl_T_15 (by omega) (ze_F_t (i := i) hi) rfl d_T_dropRepeats_63 ?_
              refine ze_iload_n C d_T_dropRepeats_66 1 rfl rfl ?_
              refine ze_aload_n C d_T_dropRepeats_67 2 rfl rfl ?_
              refine ze_getf (k := 3 + 3 * i) C fl_T_15 (by omega) (ze_F_t (i := i) hi) rfl d_T_dropRepeats_68 ?_
              refine ze_iload_n C d_T_dropRepeats_71 0 rfl rfl ?_
              refine ze_iald (k := 5 + 3 * i) (i := p) C (by omega) (ze_F_v (i := i) hi) (by omega) (by decide) d_T_dropRepeats_72 ?_
              refine ze_iast (k := 5 + 3 * i) (i := k) C (by omega) (ze_F_v (i := i) hi) (by omega) (by decide) d_T_dropRepeats_73 ?_
              refine ze_eqE (ze_W_v (i := i) hi) ?_
              refine ze_iinc (j := 1) (v := nI (k + 1)) (lv' := [(1, .int (nI (k + 1))), (2, .int (nI p)), (0, .ref (ad (3 + 3 * i)))]) C d_T_dropRepeats_74 rfl (nI_1 _) (by decide) rfl ?_
              refine ze_iinc (j := 1) (v := nI (p + 1)) (lv' := [(2, .int (nI (p + 1))), (1, .int (nI (k + 1))), (0, .ref (ad (3 + 3 * i)))]) C d_T_dropRepeats_77 rfl (nI_1 _) (by decide) rfl ?_
              refine ze_goto 4 C d_T_dropRepeats_80 (by decide) ?_
              refine ze_sub [(2, .int (nI (p + 1))), (1, .int (nI (k + 1))), (0, .ref (ad (3 + 3 * i)))] [0, 1, 2] rfl ?_
              obtain ⟨e1, e2, e3⟩ := ze_Hl_step h5 (by omega)
              have e4 : ze_dd (L.take (p + 1)) = ze_dd (L.take p) ++ [(f p, g p)] := by rw [e2, ze_dd_snoc, if_neg hlast]
              refine ih (c - (p + 1)) (by omega) (p + 1) (k + 1) _ _ rfl (by omega) (by rw [e4, List.length_append, ← h2]; rfl) (by omega) ?_ (ze_Hl_upd e3 (Or.inl (by omega)))
              rw [e4]
              have h6 := ze_Hl_snoc (r := (f p, g p)) h4
              rw [Nat.zero_add, ← h2] at h6
              exact h6
  refine ze_iconst (v := nI 0) C d_T_dropRepeats_0 (by decide) ?_
  refine ze_istore_n (lv' := [(1, .int (nI 0)), (0, .ref (ad (3 + 3 * i)))]) C d_T_dropRepeats_1 rfl (by decide) rfl ?_
  refine ze_iconst (v := nI 0) C d_T_dropRepeats_2 (by decide) ?_
  refine ze_istore_n (lv' := [(2, .int (nI 0)), (1, .int (nI 0)), (0, .ref (ad (3 + 3 * i)))]) C d_T_dropRepeats_3 rfl (by decide) rfl ?_
  exact loop _ 0 0 f g rfl (Nat.zero_le _) rfl (Nat.le_refl _) ze_Hl_nil (by rw [List.drop_zero]; exact hH.2.2)

set_option maxRecDepth 100000 in
set_option maxHeartbeats 4000000 in
theorem c_T_arrange (l : Launch) (D : va_G) (ids : Nat → ClassId) (ad : Nat → Nat) (ms : ze_MS) (M : Nat) (T : Nat → ze_T) (hd : Nat → Bool) (mv : Int64) (i : Nat) (hi : i < 12) (f g : Nat → Int32) (c : Nat) (o : Bool) (L : List ze_Row) (hH : ze_H (f, g, c, o) L) (hc : c ≤ 60) (od : Nat) (ho : od ≤ 2) : ze_MX l D ids ad ms y_T_arrange ws_T_arrange 3 (M, va_up T i (f, g, c, o), hd, mv) [.ref (ad (3 + 3 * i)), .int (nI od)] (fun v x' => v = none ∧ ∃ f' g', x' = (M, va_up T i (f', g', c, o), hd, mv) ∧ ze_H (f', g', c, o) (ze_srt od L)) := by
  refine ze_enter (cc := b_T_arrange) (maxL := 6) (ret := none) (by decide +kernel) rfl (Nat.le_of_ble_eq_true rfl) ?_
  rintro G rfl rfl rfl - C Rt
  refine ze_lv (lv' := [(0, .ref (ad (3 + 3 * i))), (1, .int (nI od))]) rfl ?_
  have k0 : ze_Hl f g 0 L := hH.2.2
  have k12 : ze_Hl f g 0 (ze_srt od (L.take 1)) ∧ ze_Hl f g 1 (L.drop 1) := by
    cases L with
    | nil => exact ⟨ze_Hl_nil, ze_Hl_nil⟩
    | cons a L => rw [ze_Hl_cons] at k0; exact ⟨ze_Hl_one.mpr k0.1, k0.2⟩
  obtain ⟨k1, k2⟩ := k12
  have loop : ∀ (r : Nat) (p : Nat) (f g : Nat → Int32), c - p = r → 1 ≤ p ∧ p ≤ 61 → ze_Hl f g 0 (ze_srt od (L.take p)) → ze_Hl f g p (L.drop p) → ze_V G 48 ad (ze_E (ze_i G) ad (M, va_up T i (f, g, c, o), hd, mv) ms) 0 0 2 [(2, .int (nI p)), (0, .ref (ad (3 + 3 * i))), (1, .int (nI od))] [] := by
    intro r
    induction r using Nat.strongRecOn with
    | ind r ih =>
      intro p f g hr h1 h2 h3
      have hcL : c = L.length := hH.1
      refine ze_iload_n C d_T_arrange_2 0 rfl rfl ?_
      refine ze_aload_n C d_T_arrange_3 1 rfl rfl ?_
      refine ze_getf (k := 3 + 3 * i) C fl_T_18 (by omega) (ze_F_t (i := i) hi) rfl d_T_arrange_4 ?_
      refine ze_icmp_geN 122 C d_T_arrange_7 (by decide) (by omega) (by omega) (fun h7 => ?_) (fun h7 => ?_)
      · rw [List.take_of_length_le (by omega)] at h2
        exact ze_vret C Rt d_T_arrange_122 (⟨rfl, rfl, _, rfl, rfl, f, g, rfl, by rw [ze_srt_len]; exact hcL, by rw [ze_srt_len]; omega, h2⟩)
      · refine ze_aload_n C d_T_arrange_10 1 rfl rfl ?_
        refine ze_getf (k := 3 + 3 * i) C fl_T_9 (by omega) (ze_F_t (i := i) hi) rfl d_T_arrange_11 ?_
        refine ze_iload_n C d_T_arrange_14 0 rfl rfl ?_
        refine ze_iald (k := 4 + 3 * i) (i := p) C (by omega) (ze_F_k (i := i) hi) (by omega) (by decide) d_T_arrange_15 ?_
        refine ze_istore_n (lv' := [(3, .int (f p)), (2, .int (nI p)), (0, .ref (ad (3 + 3 * i))), (1, .int (nI od))]) C d_T_arrange_16 rfl (by decide) rfl ?_
        refine ze_aload_n C d_T_arrange_17 2 rfl rfl ?_
        refine ze_getf (k := 3 + 3 * i) C fl_T_15 (by omega) (ze_F_t (i := i) hi) rfl d_T_arrange_18 ?_
        refine ze_iload_n C d_T_arrange_21 1 rfl rfl ?_
        refine ze_iald (k := 5 + 3 * i) (i := p) C (by omega) (ze_F_v (i := i) hi) (by omega) (by decide) d_T_arrange_22 ?_
        refine ze_istore (lv' := [(4, .int (g p)), (3, .int (f p)), (2, .int (nI p)), (0, .ref (ad (3 + 3 * i))), (1, .int (nI od))]) C d_T_arrange_23 (by decide) rfl ?_
        refine ze_iload_n C d_T_arrange_25 2 rfl rfl ?_
        refine ze_istore (lv' := [(5, .int (nI p)), (4, .int (g p)), (3, .int (f p)), (2, .int (nI p)), (0, .ref (ad (3 + 3 * i))), (1, .int (nI od))]) C d_T_arrange_26 (by decide) rfl ?_
        obtain ⟨e1, e2, e3⟩ := ze_Hl_step h3 (by omega)
        have hsl : (ze_srt od (L.take p)).length = p := by rw [ze_srt_len, List.length_take]; omega
        generalize f p = key at e1 e2 ⊢
        generalize g p = value at e1 e2 ⊢
        have inner : ∀ (q : Nat) (f g : Nat → Int32) (P1 P2 : List ze_Row), P1.length = q → ze_srt od (L.take p) = P1 ++ P2 → ze_Hl f g 0 P1 → ze_Hl f g (q + 1) P2 → ze_Hl f g (p + 1) (L.drop (p + 1)) → (∀ e ∈ P2, ze_lt od (key, value) e = true) → ze_V G 48 ad (ze_E (ze_i G) ad (M, va_up T i (f, g, c, o), hd, mv) ms) 0 0 28 [(5, .int (nI q)), (4, .int value), (3, .int key), (2, .int (nI p)), (0, .ref (ad (3 + 3 * i))), (1, .int (nI od))] [] := by
          intro q
          induction q using Nat.strongRecOn with
          | ind q ihq =>
            intro f g P1 P2 g1 g2 g3 g4 g5 g6
            have hqp : q ≤ p := by rw [g2, List.length_append] at hsl; omega
            refine ze_iload C d_T_arrange_28 0 rfl ?_
            refine ze_if_leN 99 C d_T_arrange_30 (by decide) (by omega) (fun h30 => ?_) (fun h30 => ?_)
            · have hnl : ∀ e, P1.getLast? = some e → ze_lt od (key, value) e = false := fun e he => by rw [List.eq_nil_of_length_eq_zero (by omega : P1.length = 0)] at he; cases he
              refine ze_aload_n C d_T_arrange_99 4 rfl rfl ?_
              refine ze_getf (k := 3 + 3 * i) C fl_T_9 (by omega) (ze_F_t (i := i) hi) rfl d_T_arrange_100 ?_
              refine ze_iload C d_T_arrange_103 0 rfl ?_
              refine ze_iload_n C d_T_arrange_105 2 rfl rfl ?_
              refine ze_iast (k := 4 + 3 * i) (i := q) C (by omega) (ze_F_k (i := i) hi) (by omega) (by decide) d_T_arrange_106 ?_
              refine ze_eqE (ze_W_k (i := i) hi) ?_
              refine ze_aload_n C d_T_arrange_107 4 rfl rfl ?_
              refine ze_getf (k := 3 + 3 * i) C fl_T_15 (by omega) (ze_F_t (i := i) hi) rfl d_T_arrange_108 ?_
              refine ze_iload C d_T_arrange_111 0 rfl ?_
              refine ze_iload C d_T_arrange_113 1 rfl ?_
              refine ze_iast (k := 5 + 3 * i) (i := q) C (by omega) (ze_F_v (i := i) hi) (by omega) (by decide) d_T_arrange_115 ?_
              refine ze_eqE (ze_W_v (i := i) hi) ?_
              refine ze_iinc (j := 3) (v := nI (p + 1)) (lv' := [(2, .int (nI (p + 1))), (5, .int (nI q)), (4, .int value), (3, .int key), (0, .ref (ad (3 + 3 * i))), (1, .int (nI od))]) C d_T_arrange_116 rfl (nI_1 _) (by decide) rfl ?_
              refine ze_goto 2 C d_T_arrange_119 (by decide) ?_
              obtain ⟨k1, k2⟩ := ze_arr_exit (by omega) e1 g1 g2 g3 g4 g5 g6 hnl
              refine ze_sub [(2, .int (nI (p + 1))), (0, .ref (ad (3 + 3 * i))), (1, .int (nI od))] [0, 4, 5] rfl ?_
              exact ih (c - (p + 1)) (by omega) (p + 1) _ _ rfl ⟨by omega, by omega⟩ k1 k2
            · refine ze_iload_n C d_T_arrange_33 5 rfl rfl ?_
              refine ze_iload_n C d_T_arrange_34 2 rfl rfl ?_
              refine ze_iload C d_T_arrange_35 1 rfl ?_
              refine ze_aload_n C d_T_arrange_37 4 rfl rfl ?_
              refine ze_getf (k := 3 + 3 * i) C fl_T_9 (by omega) (ze_F_t (i := i) hi) rfl d_T_arrange_38 ?_
              refine ze_iload C d_T_arrange_41 0 rfl ?_
              refine ze_iconst (v := nI 1) C d_T_arrange_43 (by decide) ?_
              refine ze_isubN C d_T_arrange_44 (by omega) ?_
              refine ze_iald (k := 4 + 3 * i) (i := q - 1) C (by omega) (ze_F_k (i := i) hi) (by omega) (by decide) d_T_arrange_45 ?_
              refine ze_aload_n C d_T_arrange_46 4 rfl rfl ?_
              refine ze_getf (k := 3 + 3 * i) C fl_T_15 (by omega) (ze_F_t (i := i) hi) rfl d_T_arrange_47 ?_
              refine ze_iload C d_T_arrange_50 0 rfl ?_
              refine ze_iconst (v := nI 1) C d_T_arrange_52 (by decide) ?_
              refine ze_isubN C d_T_arrange_53 (by omega) ?_
              refine ze_iald (k := 5 + 3 * i) (i := q - 1) C (by omega) (ze_F_v (i := i) hi) (by omega) (by decide) d_T_arrange_54 ?_
              refine ze_callSN (st := []) C C.N.2.1 (c_X_compareRows (ze_l G) (ze_D G) (ze_i G) _ _ _ od ho key value (f (q - 1)) (g (q - 1))) (kn_T_32 (ze_rml (by decide) (by decide))) rfl (Nat.le_of_ble_eq_true rfl) ⟨Nat.le_of_ble_eq_true rfl, Nat.le_of_ble_eq_true rfl⟩ d_T_arrange_55 ?_
              rintro _ _ _ _ ⟨rfl, rfl, rfl, t, rfl, ht1, ht2⟩
              refine ze_norm (c2 := 0) (s2 := 0) (st' := [.int t]) rfl rfl rfl ?_
              refine ze_if_ge 99 C d_T_arrange_58 (by decide) (fun h58 => ?_) (fun h58 => ?_)
              · have hnl : ∀ e, P1.getLast? = some e → ze_lt od (key, value) e = false := fun e he => by
                  rw [ze_arr_last g1 g3 h30] at he
                  rw [← Option.some.inj he]
                  exact Bool.eq_false_iff.mpr (fun z => absurd (ht1.mpr z) (Int32.not_lt.mpr h58))
                refine ze_aload_n C d_T_arrange_99 4 rfl rfl ?_
                refine ze_getf (k := 3 + 3 * i) C fl_T_9 (by omega) (ze_F_t (i := i) hi) rfl d_T_arrange_100 ?_
                refine ze_iload C d_T_arrange_103 0 rfl ?_
                refine ze_iload_n C d_T_arrange_105 2 rfl rfl ?_
                refine ze_iast (k := 4 + 3 * i) (i := q) C (by omega) (ze_F_k (i := i) hi) (by omega) (by decide) d_T_arrange_106 ?_
                refine ze_eqE (ze_W_k (i := i) hi) ?_
                refine ze_aload_n C d_T_arrange_107 4 rfl rfl ?_
                refine ze_getf (k := 3 + 3 * i) C fl_T_15 (by omega) (ze_F_t (i := i) hi) rfl d_T_arrange_108 ?_
                refine ze_iload C d_T_arrange_111 0 rfl ?_
                refine ze_iload C d_T_arrange_113 1 rfl ?_
                refine ze_iast (k := 5 + 3 * i) (i := q) C (by omega) (ze_F_v (i := i) hi) (by omega) (by decide) d_T_arrange_115 ?_
                refine ze_eqE (ze_W_v (i := i) hi) ?_
                refine ze_iinc (j := 3) (v := nI (p + 1)) (lv' := [(2, .int (nI (p + 1))), (5, .int (nI q)), (4, .int value), (3, .int key), (0, .ref (ad (3 + 3 * i))), (1, .int (nI od))]) C d_T_arrange_116 rfl (nI_1 _) (by decide) rfl ?_
                refine ze_goto 2 C d_T_arrange_119 (by decide) ?_
                obtain ⟨k1, k2⟩ := ze_arr_exit (by omega) e1 g1 g2 g3 g4 g5 g6 hnl
                refine ze_sub [(2, .int (nI (p + 1))), (0, .ref (ad (3 + 3 * i))), (1, .int (nI od))] [0, 4, 5] rfl ?_
                exact ih (c - (p + 1)) (by omega) (p + 1) _ _ rfl ⟨by omega, by omega⟩ k1 k2
              · have hlt : ze_lt od (key, value) (f (q - 1), g (q - 1)) = true := ht1.mp (Int32.not_le.mp h58)
                refine ze_aload_n C d_T_arrange_61 4 rfl rfl ?_
                refine ze_getf (k := 3 + 3 * i) C fl_T_9 (by omega) (ze_F_t (i := i) hi) rfl d_T_arrange_62 ?_
                refine ze_iload C d_T_arrange_65 0 rfl ?_
                refine ze_aload_n C d_T_arrange_67 4 rfl rfl ?_
                refine ze_getf (k := 3 + 3 * i) C fl_T_9 (by omega) (ze_F_t (i := i) hi) rfl d_T_arrange_68 ?_
                refine ze_iload C d_T_arrange_71 0 rfl ?_
                refine ze_iconst (v := nI 1) C d_T_arrange_73 (by decide) ?_
                refine ze_isubN C d_T_arrange_74 (by omega) ?_
                refine ze_iald (k := 4 + 3 * i) (i := q - 1) C (by omega) (ze_F_k (i := i) hi) (by omega) (by decide) d_T_arrange_75 ?_
                refine ze_iast (k := 4 + 3 * i) (i := q) C (by omega) (ze_F_k (i := i) hi) (by omega) (by decide) d_T_arrange_76 ?_
                refine ze_eqE (ze_W_k (i := i) hi) ?_
                refine ze_aload_n C d_T_arrange_77 4 rfl rfl ?_
                refine ze_getf (k := 3 + 3 * i) C fl_T_15 (by omega) (ze_F_t (i := i) hi) rfl d_T_arrange_78 ?_
                refine ze_iload C d_T_arrange_81 0 rfl ?_
                refine ze_aload_n C d_T_arrange_83 4 rfl rfl ?_
                refine ze_getf (k := 3 + 3 * i) C fl_T_15 (by omega) (ze_F_t (i := i) hi) rfl d_T_arrange_84 ?_
                refine ze_iload C d_T_arrange_87 0 rfl ?_
                refine ze_iconst (v := nI 1) C d_T_arrange_89 (by decide) ?_
                refine ze_isubN C d_T_arrange_90 (by omega) ?_
                refine ze_iald (k := 5 + 3 * i) (i := q - 1) C (by omega) (ze_F_v (i := i) hi) (by omega) (by decide) d_T_arrange_91 ?_
                refine ze_iast (k := 5 + 3 * i) (i := q) C (by omega) (ze_F_v (i := i) hi) (by omega) (by decide) d_T_arrange_92 ?_
                refine ze_eqE (ze_W_v (i := i) hi) ?_
                refine ze_iinc (j := 0) (v := nI (q - 1)) (lv' := [(5, .int (nI (q - 1))), (4, .int value), (3, .int key), (2, .int (nI p)), (0, .ref (ad (3 + 3 * i))), (1, .int (nI od))]) C d_T_arrange_93 rfl (sb_m1 (by omega)) (by decide) rfl ?_
                refine ze_goto 28 C d_T_arrange_96 (by decide) ?_
                obtain ⟨P1', P2', k1, k2, k3, k4, k5, k6⟩ := ze_arr_step g1 g2 hqp g3 g4 g5 g6 h30 hlt
                exact ihq (q - 1) (by omega) _ _ P1' P2' k1 k2 k3 k4 k5 k6
        exact inner p f g (ze_srt od (L.take p)) [] hsl (by rw [List.append_nil]) h2 ze_Hl_nil e3 (fun e he => absurd he List.not_mem_nil)
  refine ze_iconst (v := nI 1) C d_T_arrange_0 (by decide) ?_
  refine ze_istore_n (lv' := [(2, .int (nI 1)), (0, .ref (ad (3 + 3 * i))), (1, .int (nI od))]) C d_T_arrange_1 rfl (by decide) rfl ?_
  exact loop _ 1 f g rfl ⟨Nat.le_refl _, by decide⟩ k1 k2
end
section
theorem ze_bi1 {b : Bool} (h : ¬ ze_bi b = 0) : b = true := by cases b with
  | true => rfl
  | false => exact absurd rfl h
theorem ze_bi0 {b : Bool} : ze_bi b = 0 ↔ b = false := by cases b <;> decide
theorem ze_hd_up {hd : Nat → Bool} {j : Nat} {b : Bool} : upd (fun q => ze_bi (hd q)) j (ze_bi b) = fun q => ze_bi (va_up hd j b q) := by
  funext q
  by_cases h : q = j
  · subst h; rw [pk_us, va_up_self]
  · rw [pk_un h, va_up_ne _ _ h]
theorem ze_isS_f1 {s : Int32} (h : s < 0) : ze_isS s = false := by
  rw [Int32.lt_iff_toInt_lt] at h
  simp only [show (0 : Int32).toInt = 0 from rfl] at h
  exact decide_eq_false (by omega)
theorem ze_isS_f2 {s : Int32} (h : nI 8 ≤ s) : ze_isS s = false := by
  rw [Int32.le_iff_toInt_le] at h
  simp only [show (nI 8).toInt = 8 from rfl] at h
  exact decide_eq_false (by omega)
theorem ze_isS_t {s : Int32} (h1 : ¬ s < 0) (h2 : ¬ nI 8 ≤ s) : ze_isS s = true := by
  rw [Int32.lt_iff_toInt_lt] at h1
  rw [Int32.le_iff_toInt_le] at h2
  simp only [show (0 : Int32).toInt = 0 from rfl] at h1
  simp only [show (nI 8).toInt = 8 from rfl] at h2
  exact decide_eq_true (by omega)
theorem ze_n_nI {j : Nat} (h : j < 2 ^ 31) : ze_n (nI j) = j := by
  unfold ze_n
  rw [nI_toInt h]
  exact Int.toNat_natCast j
theorem ze_isS_nI {s : Int32} (h : ze_isS s = true) : ∃ j, j < 8 ∧ s = nI j := by
  have h := of_decide_eq_true h
  obtain ⟨j, h1, h2⟩ := nI_of (x := s) (by
    rw [Int32.lt_iff_toInt_lt]
    simp only [show (0 : Int32).toInt = 0 from rfl]
    omega)
  refine ⟨j, ?_, h2⟩
  rw [h2, nI_toInt h1] at h
  omega
theorem ze_isS_j {j : Nat} (h : j < 8) : ze_isS (nI j) = true := decide_eq_true (by rw [nI_toInt (by omega)]; omega)
/-- the refusal of an operator -/
def ze_rf (hd : Nat → Bool) (a b into : Int32) : Int32 := if (ze_isS a && ze_isS b && ze_isS into) = false then -1 else if (hd (ze_n a) && hd (ze_n b)) = false then -2 else if hd (ze_n into) = true then -3 else 0

set_option maxRecDepth 100000 in
set_option maxHeartbeats 4000000 in
theorem c_X_isSlot (l : Launch) (D : va_G) (ids : Nat → ClassId) (n : Nat) (ad : Nat → Nat) (E : Nat → va_E) (s : Int32) : ze_M l D ids y_X_isSlot ws_X_isSlot (ze_rm 1) 0 0 n ad E [.int s] (ze_p0 n ad E (fun v => v = some (.int (ze_bi (ze_isS s))))) := by
  refine ze_enter (cc := b_X_isSlot) (maxL := 1) (ret := (some .boolean)) (by decide +kernel) rfl (Nat.le_of_ble_eq_true rfl) ?_
  rintro G rfl rfl rfl - C Rt
  refine ze_lv (lv' := [(0, .int s)]) rfl ?_
  refine ze_iload_n C d_X_isSlot_0 0 rfl rfl ?_
  refine ze_if_lt 14 C d_X_isSlot_1 (by decide) (fun h1 => ?_) (fun h1 => ?_)
  · refine ze_iconst (v := nI 0) C d_X_isSlot_14 (by decide) ?_
    exact ze_zret C Rt (by decide) d_X_isSlot_15 (⟨rfl, rfl, rfl, by rw [ze_isS_f1 h1]; rfl⟩)
  · refine ze_iload_n C d_X_isSlot_4 0 rfl rfl ?_
    refine ze_bipush (v := nI 8) C d_X_isSlot_5 (by decide) ?_
    refine ze_icmp_ge 14 C d_X_isSlot_7 (by decide) (fun h7 => ?_) (fun h7 => ?_)
    · refine ze_iconst (v := nI 0) C d_X_isSlot_14 (by decide) ?_
      exact ze_zret C Rt (by decide) d_X_isSlot_15 (⟨rfl, rfl, rfl, by rw [ze_isS_f2 h7]; rfl⟩)
    · refine ze_iconst (v := nI 1) C d_X_isSlot_10 (by decide) ?_
      refine ze_goto 15 C d_X_isSlot_11 (by decide) ?_
      exact ze_zret C Rt (by decide) d_X_isSlot_15 (⟨rfl, rfl, rfl, by rw [ze_isS_t h1 h7]; rfl⟩)

set_option maxRecDepth 100000 in
set_option maxHeartbeats 4000000 in
theorem c_X_dividedUp (l : Launch) (D : va_G) (ids : Nat → ClassId) (n : Nat) (ad : Nat → Nat) (E : Nat → va_E) (a b : Nat) (ha : a < 100000) (hb0 : 0 < b) (hb : b < 100000) : ze_M l D ids y_X_dividedUp ws_X_dividedUp (ze_rm 1) 0 0 n ad E [.int (nI a), .int (nI b)] (ze_p0 n ad E (fun v => v = some (.int (nI ((a + b - 1) / b))))) := by
  refine ze_enter (cc := b_X_dividedUp) (maxL := 2) (ret := (some .int)) (by decide +kernel) rfl (Nat.le_of_ble_eq_true rfl) ?_
  rintro G rfl rfl rfl - C Rt
  refine ze_lv (lv' := [(0, .int (nI a)), (1, .int (nI b))]) rfl ?_
  refine ze_iload_n C d_X_dividedUp_0 0 rfl rfl ?_
  refine ze_iload_n C d_X_dividedUp_1 1 rfl rfl ?_
  refine ze_iaddN C d_X_dividedUp_2 ?_
  refine ze_iconst (v := nI 1) C d_X_dividedUp_3 (by decide) ?_
  refine ze_isubN C d_X_dividedUp_4 (by omega) ?_
  refine ze_iload_n C d_X_dividedUp_5 1 rfl rfl ?_
  refine ze_idivN C d_X_dividedUp_6 (by omega) (by omega) (by omega) ?_
  exact ze_iret C Rt d_X_dividedUp_7 (⟨rfl, rfl, rfl, rfl⟩)

set_option maxRecDepth 100000 in
set_option maxHeartbeats 4000000 in
theorem c_X_sizeOf (l : Launch) (D : va_G) (ids : Nat → ClassId) (n : Nat) (ad : Nat → Nat) (E : Nat → va_E) (a : Nat) (ha : a < 50000) : ze_M l D ids y_X_sizeOf ws_X_sizeOf (ze_rm 2) 0 0 n ad E [.int (nI a)] (ze_p0 n ad E (fun v => v = some (.int (nI (ze_sz a))))) := by
  refine ze_enter (cc := b_X_sizeOf) (maxL := 1) (ret := (some .int)) (by decide +kernel) rfl (Nat.le_of_ble_eq_true rfl) ?_
  rintro G rfl rfl rfl - C Rt
  refine ze_lv (lv' := [(0, .int (nI a))]) rfl ?_
  refine ze_iload_n C d_X_sizeOf_0 0 rfl rfl ?_
  refine ze_iconst (v := nI 4) C d_X_sizeOf_1 (by decide) ?_
  refine ze_callS (st := []) C (c_X_dividedUp (ze_l G) (ze_D G) (ze_i G) _ _ _ a 4 (by omega) (by omega) (by omega)) (ks_X_121 (ze_rml (by decide) (by decide))) rfl (Nat.le_of_ble_eq_true rfl) ⟨Nat.le_of_ble_eq_true rfl, Nat.le_of_ble_eq_true rfl⟩ d_X_sizeOf_2 ?_
  rintro _ _ _ _ ⟨rfl, rfl, rfl, rfl⟩
  refine ze_norm (c2 := 0) (s2 := 0) (st' := [.int (nI ((a + 4 - 1) / 4))]) rfl rfl rfl ?_
  exact ze_iret C Rt d_X_sizeOf_5 (⟨rfl, rfl, rfl, rfl⟩)

set_option maxRecDepth 100000 in
set_option maxHeartbeats 4000000 in
theorem c_X_rowsInMemory (l : Launch) (D : va_G) (ids : Nat → ClassId) (ad : Nat → Nat) (ms : ze_MS) (M : Nat) (T : Nat → ze_T) (hd : Nat → Bool) (mv : Int64) (hM : 3 ≤ M ∧ M ≤ 6) : ze_MX l D ids ad ms y_X_rowsInMemory ws_X_rowsInMemory 1 (M, T, hd, mv) [.ref (ad 0)] (fun v x' => v = some (.int (nI (ze_rm4 M))) ∧ x' = (M, T, hd, mv)) := by
  refine ze_enter (cc := b_X_rowsInMemory) (maxL := 1) (ret := (some .int)) (by decide +kernel) rfl (Nat.le_of_ble_eq_true rfl) ?_
  rintro G rfl rfl rfl - C Rt
  refine ze_lv (lv' := [(0, .ref (ad 0))]) rfl ?_
  refine ze_iconst (v := nI 4) C d_X_rowsInMemory_0 (by decide) ?_
  refine ze_aload_n C d_X_rowsInMemory_1 0 rfl rfl ?_
  refine ze_getf C fl_X_18 (by decide) ze_E_x rfl d_X_rowsInMemory_2 ?_
  refine ze_iconst (v := nI 2) C d_X_rowsInMemory_5 (by decide) ?_
  refine ze_isubN C d_X_rowsInMemory_6 (by omega) ?_
  refine ze_imulN C d_X_rowsInMemory_7 ?_
  exact ze_iret C Rt d_X_rowsInMemory_8 (⟨rfl, rfl, _, rfl, rfl, rfl⟩)

set_option maxRecDepth 100000 in
set_option maxHeartbeats 4000000 in
theorem c_X_transfers (l : Launch) (D : va_G) (ids : Nat → ClassId) (ad : Nat → Nat) (ms : ze_MS) (M : Nat) (T : Nat → ze_T) (hd : Nat → Bool) (mv : Int64)  : ze_MX l D ids ad ms y_X_transfers ws_X_transfers 1 (M, T, hd, mv) [.ref (ad 0)] (fun v x' => v = some (.long mv) ∧ x' = (M, T, hd, mv)) := by
  refine ze_enter (cc := b_X_transfers) (maxL := 1) (ret := (some .long)) (by decide +kernel) rfl (Nat.le_of_ble_eq_true rfl) ?_
  rintro G rfl rfl rfl - C Rt
  refine ze_lv (lv' := [(0, .ref (ad 0))]) rfl ?_
  refine ze_aload_n C d_X_transfers_0 0 rfl rfl ?_
  refine ze_getf C fl_X_46 (by decide) ze_E_x rfl d_X_transfers_1 ?_
  exact ze_lret C Rt d_X_transfers_4 (⟨rfl, rfl, _, rfl, rfl, rfl⟩)

set_option maxRecDepth 100000 in
set_option maxHeartbeats 4000000 in
theorem c_X_holdsTable (l : Launch) (D : va_G) (ids : Nat → ClassId) (ad : Nat → Nat) (ms : ze_MS) (M : Nat) (T : Nat → ze_T) (hd : Nat → Bool) (mv : Int64) (s : Int32) : ze_MX l D ids ad ms y_X_holdsTable ws_X_holdsTable 2 (M, T, hd, mv) [.ref (ad 0), .int s] (fun v x' => v = some (.int (ze_bi (ze_isS s && hd (ze_n s)))) ∧ x' = (M, T, hd, mv)) := by
  refine ze_enter (cc := b_X_holdsTable) (maxL := 2) (ret := (some .boolean)) (by decide +kernel) rfl (Nat.le_of_ble_eq_true rfl) ?_
  rintro G rfl rfl rfl - C Rt
  refine ze_lv (lv' := [(0, .ref (ad 0)), (1, .int s)]) rfl ?_
  refine ze_iload_n C d_X_holdsTable_0 1 rfl rfl ?_
  refine ze_callS (st := []) C (c_X_isSlot (ze_l G) (ze_D G) (ze_i G) _ _ _ s) (ks_X_57 (ze_rml (by decide) (by decide))) rfl (Nat.le_of_ble_eq_true rfl) ⟨Nat.le_of_ble_eq_true rfl, Nat.le_of_ble_eq_true rfl⟩ d_X_holdsTable_1 ?_
  rintro _ _ _ _ ⟨rfl, rfl, rfl, rfl⟩
  refine ze_norm (c2 := 0) (s2 := 0) (st' := [.int (ze_bi (ze_isS s))]) rfl rfl rfl ?_
  refine ze_if_eq 20 C d_X_holdsTable_4 (by decide) (fun h4 => ?_) (fun h4 => ?_)
  · refine ze_iconst (v := nI 0) C d_X_holdsTable_20 (by decide) ?_
    exact ze_zret C Rt (by decide) d_X_holdsTable_21 (⟨rfl, rfl, _, rfl, by rw [ze_bi0.mp h4]; rfl, rfl⟩)
  · obtain ⟨j, hj, rfl⟩ := ze_isS_nI (ze_bi1 h4)
    refine ze_aload_n C d_X_holdsTable_7 0 rfl rfl ?_
    refine ze_getf C fl_X_29 (by decide) ze_E_x rfl d_X_holdsTable_8 ?_
    refine ze_iload_n C d_X_holdsTable_11 1 rfl rfl ?_
    refine ze_zald (k := 2) (i := j) C (by decide) ze_E_held (by omega) (by decide) d_X_holdsTable_12 ?_
    refine ze_if_eq 20 C d_X_holdsTable_13 (by decide) (fun h13 => ?_) (fun h13 => ?_)
    · refine ze_iconst (v := nI 0) C d_X_holdsTable_20 (by decide) ?_
      exact ze_zret C Rt (by decide) d_X_holdsTable_21 (⟨rfl, rfl, _, rfl, by rw [ze_isS_j hj, ze_n_nI (by omega), ze_bi0.mp h13]; rfl, rfl⟩)
    · refine ze_iconst (v := nI 1) C d_X_holdsTable_16 (by decide) ?_
      refine ze_goto 21 C d_X_holdsTable_17 (by decide) ?_
      exact ze_zret C Rt (by decide) d_X_holdsTable_21 (⟨rfl, rfl, _, rfl, by rw [ze_isS_j hj, ze_n_nI (by omega), ze_bi1 h13]; rfl, rfl⟩)

set_option maxRecDepth 100000 in
set_option maxHeartbeats 4000000 in
theorem c_X_refusalOf (l : Launch) (D : va_G) (ids : Nat → ClassId) (ad : Nat → Nat) (ms : ze_MS) (M : Nat) (T : Nat → ze_T) (hd : Nat → Bool) (mv : Int64) (a b into : Int32) : ze_MX l D ids ad ms y_X_refusalOf ws_X_refusalOf 2 (M, T, hd, mv) [.ref (ad 0), .int a, .int b, .int into] (fun v x' => v = some (.int (ze_rf hd a b into)) ∧ x' = (M, T, hd, mv)) := by
  refine ze_enter (cc := b_X_refusalOf) (maxL := 4) (ret := (some .int)) (by decide +kernel) rfl (Nat.le_of_ble_eq_true rfl) ?_
  rintro G rfl rfl rfl - C Rt
  refine ze_lv (lv' := [(0, .ref (ad 0)), (1, .int a), (2, .int b), (3, .int into)]) rfl ?_
  refine ze_iload_n C d_X_refusalOf_0 1 rfl rfl ?_
  refine ze_callS (st := []) C (c_X_isSlot (ze_l G) (ze_D G) (ze_i G) _ _ _ a) (ks_X_57 (ze_rml (by decide) (by decide))) rfl (Nat.le_of_ble_eq_true rfl) ⟨Nat.le_of_ble_eq_true rfl, Nat.le_of_ble_eq_true rfl⟩ d_X_refusalOf_1 ?_
  rintro _ _ _ _ ⟨rfl, rfl, rfl, rfl⟩
  refine ze_norm (c2 := 0) (s2 := 0) (st' := [.int (ze_bi (ze_isS a))]) rfl rfl rfl ?_
  refine ze_if_eq 21 C d_X_refusalOf_4 (by decide) (fun h4 => ?_) (fun h4 => ?_)
  · refine ze_iconst (v := -1) C d_X_refusalOf_21 (by decide) ?_
    exact ze_iret C Rt d_X_refusalOf_22 (⟨rfl, rfl, _, rfl, by simp only [ze_rf, ze_bi0.mp h4]; rfl, rfl⟩)
  · obtain ⟨ja, hja, rfl⟩ := ze_isS_nI (ze_bi1 h4)
    refine ze_iload_n C d_X_refusalOf_7 2 rfl rfl ?_
    refine ze_callS (st := []) C (c_X_isSlot (ze_l G) (ze_D G) (ze_i G) _ _ _ b) (ks_X_57 (ze_rml (by decide) (by decide))) rfl (Nat.le_of_ble_eq_true rfl) ⟨Nat.le_of_ble_eq_true rfl, Nat.le_of_ble_eq_true rfl⟩ d_X_refusalOf_8 ?_
    rintro _ _ _ _ ⟨rfl, rfl, rfl, rfl⟩
    refine ze_norm (c2 := 0) (s2 := 0) (st' := [.int (ze_bi (ze_isS b))]) rfl rfl rfl ?_
    refine ze_if_eq 21 C d_X_refusalOf_11 (by decide) (fun h11 => ?_) (fun h11 => ?_)
    · refine ze_iconst (v := -1) C d_X_refusalOf_21 (by decide) ?_
      exact ze_iret C Rt d_X_refusalOf_22 (⟨rfl, rfl, _, rfl, by simp only [ze_rf, ze_bi0.mp h11, Bool.and_false, Bool.false_and]; rfl, rfl⟩)
    · obtain ⟨jb, hjb, rfl⟩ := ze_isS_nI (ze_bi1 h11)
      refine ze_iload_n C d_X_refusalOf_14 3 rfl rfl ?_
      refine ze_callS (st := []) C (c_X_isSlot (ze_l G) (ze_D G) (ze_i G) _ _ _ into) (ks_X_57 (ze_rml (by decide) (by decide))) rfl (Nat.le_of_ble_eq_true rfl) ⟨Nat.le_of_ble_eq_true rfl, Nat.le_of_ble_eq_true rfl⟩ d_X_refusalOf_15 ?_
      rintro _ _ _ _ ⟨rfl, rfl, rfl, rfl⟩
      refine ze_norm (c2 := 0) (s2 := 0) (st' := [.int (ze_bi (ze_isS into))]) rfl rfl rfl ?_
      refine ze_if_ne 23 C d_X_refusalOf_18 (by decide) (fun h18 => ?_) (fun h18 => ?_)
      · obtain ⟨ji, hji, rfl⟩ := ze_isS_nI (ze_bi1 h18)
        refine ze_aload_n C d_X_refusalOf_23 0 rfl rfl ?_
        refine ze_getf C fl_X_29 (by decide) ze_E_x rfl d_X_refusalOf_24 ?_
        refine ze_iload_n C d_X_refusalOf_27 1 rfl rfl ?_
        refine ze_zald (k := 2) (i := ja) C (by decide) ze_E_held (by omega) (by decide) d_X_refusalOf_28 ?_
        refine ze_if_eq 41 C d_X_refusalOf_29 (by decide) (fun h29 => ?_) (fun h29 => ?_)
        · refine ze_bipush (v := -2) C d_X_refusalOf_41 (by decide) ?_
          exact ze_iret C Rt d_X_refusalOf_43 (⟨rfl, rfl, _, rfl, by simp only [ze_rf, ze_isS_j hja, ze_isS_j hjb, ze_isS_j hji, ze_n_nI (Nat.lt_trans hja (by decide : 8 < 2 ^ 31)), ze_n_nI (Nat.lt_trans hjb (by decide : 8 < 2 ^ 31)), ze_n_nI (Nat.lt_trans hji (by decide : 8 < 2 ^ 31)), ze_bi0.mp h29, Bool.false_and]; rfl, rfl⟩)
        · refine ze_aload_n C d_X_refusalOf_32 0 rfl rfl ?_
          refine ze_getf C fl_X_29 (by decide) ze_E_x rfl d_X_refusalOf_33 ?_
          refine ze_iload_n C d_X_refusalOf_36 2 rfl rfl ?_
          refine ze_zald (k := 2) (i := jb) C (by decide) ze_E_held (by omega) (by decide) d_X_refusalOf_37 ?_
          refine ze_if_ne 44 C d_X_refusalOf_38 (by decide) (fun h38 => ?_) (fun h38 => ?_)
          · refine ze_aload_n C d_X_refusalOf_44 0 rfl rfl ?_
            refine ze_getf C fl_X_29 (by decide) ze_E_x rfl d_X_refusalOf_45 ?_
            refine ze_iload_n C d_X_refusalOf_48 3 rfl rfl ?_
            refine ze_zald (k := 2) (i := ji) C (by decide) ze_E_held (by omega) (by decide) d_X_refusalOf_49 ?_
            refine ze_if_eq 56 C d_X_refusalOf_50 (by decide) (fun h50 => ?_) (fun h50 => ?_)
            · refine ze_iconst (v := nI 0) C d_X_refusalOf_56 (by decide) ?_
              exact ze_iret C Rt d_X_refusalOf_57 (⟨rfl, rfl, _, rfl, by simp only [ze_rf, ze_isS_j hja, ze_isS_j hjb, ze_isS_j hji, ze_n_nI (Nat.lt_trans hja (by decide : 8 < 2 ^ 31)), ze_n_nI (Nat.lt_trans hjb (by decide : 8 < 2 ^ 31)), ze_n_nI (Nat.lt_trans hji (by decide : 8 < 2 ^ 31)), ze_bi1 h29, ze_bi1 h38, ze_bi0.mp h50]; rfl, rfl⟩)
            · refine ze_bipush (v := -3) C d_X_refusalOf_53 (by decide) ?_
              exact ze_iret C Rt d_X_refusalOf_55 (⟨rfl, rfl, _, rfl, by simp only [ze_rf, ze_isS_j hja, ze_isS_j hjb, ze_isS_j hji, ze_n_nI (Nat.lt_trans hja (by decide : 8 < 2 ^ 31)), ze_n_nI (Nat.lt_trans hjb (by decide : 8 < 2 ^ 31)), ze_n_nI (Nat.lt_trans hji (by decide : 8 < 2 ^ 31)), ze_bi1 h29, ze_bi1 h38, ze_bi1 h50]; rfl, rfl⟩)
          · refine ze_bipush (v := -2) C d_X_refusalOf_41 (by decide) ?_
            exact ze_iret C Rt d_X_refusalOf_43 (⟨rfl, rfl, _, rfl, by simp only [ze_rf, ze_isS_j hja, ze_isS_j hjb, ze_isS_j hji, ze_n_nI (Nat.lt_trans hja (by decide : 8 < 2 ^ 31)), ze_n_nI (Nat.lt_trans hjb (by decide : 8 < 2 ^ 31)), ze_n_nI (Nat.lt_trans hji (by decide : 8 < 2 ^ 31)), ze_bi0.mp h38, Bool.and_false]; rfl, rfl⟩)
      · refine ze_iconst (v := -1) C d_X_refusalOf_21 (by decide) ?_
        exact ze_iret C Rt d_X_refusalOf_22 (⟨rfl, rfl, _, rfl, by simp only [ze_rf, ze_bi0.mp h18, Bool.and_false]; rfl, rfl⟩)

set_option maxRecDepth 100000 in
set_option maxHeartbeats 4000000 in
theorem c_X_finish (l : Launch) (D : va_G) (ids : Nat → ClassId) (ad : Nat → Nat) (ms : ze_MS) (M : Nat) (T : Nat → ze_T) (hd : Nat → Bool) (mv : Int64) (j : Nat) (hj : j < 8) (cost : Int64) : ze_MX l D ids ad ms y_X_finish ws_X_finish 1 (M, T, hd, mv) [.ref (ad 0), .int (nI j), .long cost] (fun v x' => if (T j).2.2.2 = true then v = some (.int (-4)) ∧ x' = (M, T, hd, mv) else v = some (.int (nI (T j).2.2.1)) ∧ x' = (M, T, va_up hd j true, mv + cost)) := by
  refine ze_enter (cc := b_X_finish) (maxL := 5) (ret := (some .int)) (by decide +kernel) rfl (Nat.le_of_ble_eq_true rfl) ?_
  rintro G rfl rfl rfl - C Rt
  refine ze_lv (lv' := [(0, .ref (ad 0)), (1, .int (nI j)), (2, .long cost)]) rfl ?_
  refine ze_aload_n C d_X_finish_0 0 rfl rfl ?_
  refine ze_getf C fl_X_24 (by decide) ze_E_x rfl d_X_finish_1 ?_
  refine ze_iload_n C d_X_finish_4 1 rfl rfl ?_
  refine ze_aald (k := 1) (i := j) C (by decide) ze_E_tabs (by omega) (by decide) rfl d_X_finish_5 ?_
  refine ze_astore (lv' := [(4, .ref (ad (3 + 3 * j))), (0, .ref (ad 0)), (1, .int (nI j)), (2, .long cost)]) C d_X_finish_6 (by decide) rfl ?_
  refine ze_aload C d_X_finish_8 0 rfl ?_
  refine ze_getf (k := 3 + 3 * j) C fl_X_117 (by omega) (ze_E_t (i := j) (by omega)) rfl d_X_finish_10 ?_
  refine ze_if_eq 19 C d_X_finish_13 (by decide) (fun h13 => ?_) (fun h13 => ?_)
  · refine ze_aload_n C d_X_finish_19 1 rfl rfl ?_
    refine ze_getf C fl_X_29 (by decide) ze_E_x rfl d_X_finish_20 ?_
    refine ze_iload_n C d_X_finish_23 2 rfl rfl ?_
    refine ze_iconst (v := ze_bi true) C d_X_finish_24 (by decide) ?_
    refine ze_zast (k := 2) (i := j) C (by decide) ze_E_held (by omega) (by decide) (by decide) d_X_finish_25 ?_
    refine ze_eqE (ze_up_held (hd' := va_up hd j true) ze_hd_up) ?_
    refine ze_aload_n C d_X_finish_26 1 rfl rfl ?_
    refine ze_dup C d_X_finish_27 rfl ?_
    refine ze_getf C fl_X_46 (by decide) ze_E_x rfl d_X_finish_28 ?_
    refine ze_lload_n C d_X_finish_31 3 rfl rfl ?_
    refine ze_ladd C d_X_finish_32 ?_
    refine ze_putf C fp_X_46 (by decide) ze_E_x rfl rfl (Nat.le_of_ble_eq_true rfl) d_X_finish_33 ?_
    refine ze_eqE ze_up_mv ?_
    refine ze_aload C d_X_finish_36 0 rfl ?_
    refine ze_getf (k := 3 + 3 * j) C fl_X_50 (by omega) (ze_E_t (i := j) (by omega)) rfl d_X_finish_38 ?_
    exact ze_iret C Rt d_X_finish_41 (⟨rfl, rfl, _, rfl, by dsimp only; rw [if_neg (by rw [ze_bi0.mp h13]; decide)]; exact ⟨rfl, rfl⟩⟩)
  · refine ze_bipush (v := -4) C d_X_finish_16 (by decide) ?_
    exact ze_iret C Rt d_X_finish_18 (⟨rfl, rfl, _, rfl, by dsimp only; rw [if_pos (ze_bi1 h13)]; exact ⟨rfl, rfl⟩⟩)

set_option maxRecDepth 100000 in
set_option maxHeartbeats 4000000 in
theorem c_X_sortCost (l : Launch) (D : va_G) (ids : Nat → ClassId) (ad : Nat → Nat) (ms : ze_MS) (M : Nat) (T : Nat → ze_T) (hd : Nat → Bool) (mv : Int64) (hM : 3 ≤ M ∧ M ≤ 6) (a : Nat) (ha : a ≤ 60) : ze_MX l D ids ad ms y_X_sortCost ws_X_sortCost 3 (M, T, hd, mv) [.ref (ad 0), .int (nI a)] (fun v x' => v = some (.long (lN (ze_sc M a))) ∧ x' = (M, T, hd, mv)) := by
  refine ze_enter (cc := b_X_sortCost) (maxL := 5) (ret := (some .long)) (by decide +kernel) rfl (Nat.le_of_ble_eq_true rfl) ?_
  rintro G rfl rfl rfl - C Rt
  refine ze_lv (lv' := [(0, .ref (ad 0)), (1, .int (nI a))]) rfl ?_
  have hsz : ze_sz a ≤ 60 := by unfold ze_sz; omega
  have loop : ∀ (r k q : Nat), 60 - k = r → k ≤ 60 → q ≤ 100 → k + ze_ps M (60 - k) q = ze_ps M 60 ((ze_sz a + M - 1) / M) → ze_V G 48 ad (ze_E (ze_i G) ad (M, T, hd, mv) ms) 0 0 17 [(4, .int (nI k)), (3, .int (nI q)), (2, .int (nI (ze_sz a))), (0, .ref (ad 0)), (1, .int (nI a))] [] := by
    intro r
    induction r using Nat.strongRecOn with
    | ind r ih =>
      intro k q hr h1 h2 h3
      refine ze_iload_n C d_X_sortCost_17 1 rfl rfl ?_
      refine ze_iconst (v := nI 1) C d_X_sortCost_18 (by decide) ?_
      refine ze_icmp_leN 46 C d_X_sortCost_19 (by decide) (by omega) (by omega) (fun h19 => ?_) (fun h19 => ?_)
      · refine ze_ldc2 (v := lN 2) C d_X_sortCost_46 (List.mem_cons_of_mem _ zw_154) ?_
        refine ze_iload_n C d_X_sortCost_49 2 rfl rfl ?_
        refine ze_i2lN C d_X_sortCost_50 (by omega) ?_
        refine ze_lmulN C d_X_sortCost_51 ?_
        refine ze_iconst (v := nI 1) C d_X_sortCost_52 (by decide) ?_
        refine ze_iload C d_X_sortCost_53 0 rfl ?_
        refine ze_iaddN C d_X_sortCost_55 ?_
        refine ze_i2lN C d_X_sortCost_56 (by omega) ?_
        refine ze_lmulN C d_X_sortCost_57 ?_
        exact ze_lret C Rt d_X_sortCost_58 (⟨rfl, rfl, _, rfl, by unfold ze_sc; cases hk : 60 - k with | zero => rw [hk, ze_ps] at h3; rw [← h3]; rfl | succ m => rw [hk, ze_ps, if_neg (by omega)] at h3; rw [← h3]; rfl, rfl⟩)
      · refine ze_iload C d_X_sortCost_22 0 rfl ?_
        refine ze_bipush (v := nI 60) C d_X_sortCost_24 (by decide) ?_
        refine ze_icmp_geN 46 C d_X_sortCost_26 (by decide) (by omega) (by omega) (fun h26 => ?_) (fun h26 => ?_)
        · refine ze_ldc2 (v := lN 2) C d_X_sortCost_46 (List.mem_cons_of_mem _ zw_154) ?_
          refine ze_iload_n C d_X_sortCost_49 2 rfl rfl ?_
          refine ze_i2lN C d_X_sortCost_50 (by omega) ?_
          refine ze_lmulN C d_X_sortCost_51 ?_
          refine ze_iconst (v := nI 1) C d_X_sortCost_52 (by decide) ?_
          refine ze_iload C d_X_sortCost_53 0 rfl ?_
          refine ze_iaddN C d_X_sortCost_55 ?_
          refine ze_i2lN C d_X_sortCost_56 (by omega) ?_
          refine ze_lmulN C d_X_sortCost_57 ?_
          exact ze_lret C Rt d_X_sortCost_58 (⟨rfl, rfl, _, rfl, by unfold ze_sc; rw [show 60 - k = 0 by omega, ze_ps] at h3; rw [← h3]; rfl, rfl⟩)
        · refine ze_iload_n C d_X_sortCost_29 1 rfl rfl ?_
          refine ze_aload_n C d_X_sortCost_30 3 rfl rfl ?_
          refine ze_getf C fl_X_18 (by decide) ze_E_x rfl d_X_sortCost_31 ?_
          refine ze_iconst (v := nI 1) C d_X_sortCost_34 (by decide) ?_
          refine ze_isubN C d_X_sortCost_35 (by omega) ?_
          refine ze_callS (st := []) C (c_X_dividedUp (ze_l G) (ze_D G) (ze_i G) _ _ _ q (M - 1) (by omega) (by omega) (by omega)) (ks_X_121 (ze_rml (by decide) (by decide))) rfl (Nat.le_of_ble_eq_true rfl) ⟨Nat.le_of_ble_eq_true rfl, Nat.le_of_ble_eq_true rfl⟩ d_X_sortCost_36 ?_
          rintro _ _ _ _ ⟨rfl, rfl, rfl, rfl⟩
          refine ze_norm (c2 := 0) (s2 := 0) (st' := [.int (nI ((q + (M - 1) - 1) / (M - 1)))]) rfl rfl rfl ?_
          refine ze_istore_n (lv' := [(3, .int (nI ((q + (M - 1) - 1) / (M - 1)))), (4, .int (nI k)), (2, .int (nI (ze_sz a))), (0, .ref (ad 0)), (1, .int (nI a))]) C d_X_sortCost_39 rfl (by decide) rfl ?_
          refine ze_iinc (j := 1) (v := nI (k + 1)) (lv' := [(4, .int (nI (k + 1))), (3, .int (nI ((q + (M - 1) - 1) / (M - 1)))), (2, .int (nI (ze_sz a))), (0, .ref (ad 0)), (1, .int (nI a))]) C d_X_sortCost_40 rfl (nI_1 _) (by decide) rfl ?_
          refine ze_goto 17 C d_X_sortCost_43 (by decide) ?_
          refine ze_sub [(4, .int (nI (k + 1))), (3, .int (nI ((q + (M - 1) - 1) / (M - 1)))), (2, .int (nI (ze_sz a))), (0, .ref (ad 0)), (1, .int (nI a))] [0, 1, 2, 3, 4] rfl ?_
          have hd1 : (q + (M - 1) - 1) / (M - 1) ≤ 100 := by
            have := Nat.div_le_self (q + (M - 1) - 1) (M - 1)
            have h2 : (q + (M - 1) - 1) / (M - 1) ≤ (q + (M - 1) - 1) / 2 := Nat.div_le_div_left (by omega) (by omega)
            omega
          refine ih (60 - (k + 1)) (by omega) (k + 1) _ rfl (by omega) hd1 ?_
          rw [← h3, show 60 - k = (60 - (k + 1)) + 1 by omega]
          rw [ze_ps, if_pos h19]
          omega
  refine ze_iload_n C d_X_sortCost_0 1 rfl rfl ?_
  refine ze_callS (st := []) C (c_X_sizeOf (ze_l G) (ze_D G) (ze_i G) _ _ _ a (by omega)) (ks_X_68 (ze_rml (by decide) (by decide))) rfl (Nat.le_of_ble_eq_true rfl) ⟨Nat.le_of_ble_eq_true rfl, Nat.le_of_ble_eq_true rfl⟩ d_X_sortCost_1 ?_
  rintro _ _ _ _ ⟨rfl, rfl, rfl, rfl⟩
  refine ze_norm (c2 := 0) (s2 := 0) (st' := [.int (nI (ze_sz a))]) rfl rfl rfl ?_
  refine ze_istore_n (lv' := [(2, .int (nI (ze_sz a))), (0, .ref (ad 0)), (1, .int (nI a))]) C d_X_sortCost_4 rfl (by decide) rfl ?_
  refine ze_iload_n C d_X_sortCost_5 0 rfl rfl ?_
  refine ze_aload_n C d_X_sortCost_6 1 rfl rfl ?_
  refine ze_getf C fl_X_18 (by decide) ze_E_x rfl d_X_sortCost_7 ?_
  refine ze_callS (st := []) C (c_X_dividedUp (ze_l G) (ze_D G) (ze_i G) _ _ _ (ze_sz a) M (by omega) (by omega) (by omega)) (ks_X_121 (ze_rml (by decide) (by decide))) rfl (Nat.le_of_ble_eq_true rfl) ⟨Nat.le_of_ble_eq_true rfl, Nat.le_of_ble_eq_true rfl⟩ d_X_sortCost_10 ?_
  rintro _ _ _ _ ⟨rfl, rfl, rfl, rfl⟩
  refine ze_norm (c2 := 0) (s2 := 0) (st' := [.int (nI ((ze_sz a + M - 1) / M))]) rfl rfl rfl ?_
  refine ze_istore_n (lv' := [(3, .int (nI ((ze_sz a + M - 1) / M))), (2, .int (nI (ze_sz a))), (0, .ref (ad 0)), (1, .int (nI a))]) C d_X_sortCost_13 rfl (by decide) rfl ?_
  refine ze_iconst (v := nI 0) C d_X_sortCost_14 (by decide) ?_
  refine ze_istore (lv' := [(4, .int (nI 0)), (3, .int (nI ((ze_sz a + M - 1) / M))), (2, .int (nI (ze_sz a))), (0, .ref (ad 0)), (1, .int (nI a))]) C d_X_sortCost_15 (by decide) rfl ?_
  have hq : (ze_sz a + M - 1) / M ≤ 100 := by have := Nat.div_le_self (ze_sz a + M - 1) M; omega
  exact loop _ 0 _ rfl (Nat.zero_le _) hq (Nat.zero_add _)
end
section
section ZEG
variable {G : ze_G} {ad : Nat → Nat} {ms : ze_MS} {M : Nat} {T : Nat → ze_T} {hd : Nat → Bool} {mv : Int64} {cells slots pc : Nat} {lv : List (Nat × Value)} {st : List Value} {ids : Nat → ClassId}
theorem ze_foc (i : Nat) : ze_E ids ad (M, T, hd, mv) ms = ze_E ids ad (M, va_up T i ((T i).1, (T i).2.1, (T i).2.2.1, (T i).2.2.2), hd, mv) ms := by
  rw [show ((T i).1, (T i).2.1, (T i).2.2.1, (T i).2.2.2) = T i from rfl, ze_up_eta]
theorem ze_genT (k : ∀ T1, T1 = T → ze_V G 48 ad (ze_E (ze_i G) ad (M, T1, hd, mv) ms) cells slots pc lv st) : ze_V G 48 ad (ze_E (ze_i G) ad (M, T, hd, mv) ms) cells slots pc lv st := k T rfl
end ZEG
theorem ze_upo {T T1 : Nat → ze_T} {i : Nat} {t : ze_T} (e : T1 = va_up T i t) : ∀ q, q ≠ i → T1 q = T q := fun q h => by rw [e, va_up_ne _ _ h]
theorem ze_ups {T T1 : Nat → ze_T} {i : Nat} {t : ze_T} (e : T1 = va_up T i t) : T1 i = t := by rw [e, va_up_self]
theorem ze_Hu_clr {T T1 : Nat → ze_T} {i : Nat} {f g : Nat → Int32} (e : T1 = va_up T i (f, g, 0, false)) : ze_Hu (T1 i) [] := by rw [ze_ups e]; exact ze_Hu_0
theorem ze_Hu_app {T T1 : Nat → ze_T} {i : Nat} {L : List ze_Row} {k v : Int32} (h : ze_Hu (T i) L) (e : T1 = va_up T i (if (T i).2.2.1 < 60 then (upd (T i).1 (T i).2.2.1 k, upd (T i).2.1 (T i).2.2.1 v, (T i).2.2.1 + 1, (T i).2.2.2) else ((T i).1, (T i).2.1, (T i).2.2.1, true))) : ze_Hu (T1 i) (L ++ [(k, v)]) := by
  rw [ze_ups e]
  exact ze_Hu_snoc (r := (k, v)) (f := (T i).1) (g := (T i).2.1) h
theorem ze_Hu_le {t : ze_T} {L : List ze_Row} (h : ze_Hu t L) : t.2.2.1 ≤ 60 := by rw [h.1]; exact Nat.min_le_right _ _
theorem ze_H_cpy {T T1 : Nat → ze_T} {i : Nat} {t : ze_T} {f g : Nat → Int32} {L : List ze_Row} (h : ze_H t L) (e : T1 = va_up T i (va_cpy t.1 f 0 0 t.2.2.1, va_cpy t.2.1 g 0 0 t.2.2.1, t.2.2.1, false)) : ze_H (T1 i) L ∧ (T1 i).2.2.2 = false := by
  rw [ze_ups e]
  refine ⟨⟨h.1, h.2.1, ?_⟩, rfl⟩
  have := ze_Hl_cpy (f' := f) (g' := g) (sp := 0) (dp := 0) h.2.2
  rw [← h.1] at this
  exact this
theorem ze_H_Hu {t : ze_T} {L : List ze_Row} (h : ze_H t L) (ho : t.2.2.2 = false) : ze_Hu t L := by
  refine ⟨by rw [h.1]; have := h.2.1; omega, by rw [ho]; have := h.2.1; simp; omega, ?_⟩
  rw [List.take_of_length_le h.2.1]
  exact h.2.2
section ZRX
variable {M : Nat} {T T1 : Nat → ze_T} {hd : Nat → Bool} {mv c : Int64} {inp inp' L : List ze_Row} {sl : Nat → Option (List ze_Row)} {i j : Nat}
theorem ze_rX_in (h : ze_rX (M, T, hd, mv) (inp, sl, mv, M)) (e : ∀ q, q ≠ 8 → T1 q = T q) (ht : ze_H (T1 8) inp') : ze_rX (M, T1, hd, mv) (inp', sl, mv, M) := by
  obtain ⟨h1, h2, h3, h4, h5, h6, h7⟩ := h
  refine ⟨h1, h2, h3, h4, ht, h6, fun q hq L hL => ?_⟩
  obtain ⟨a, b⟩ := h7 q hq L hL
  exact ⟨a, by simp only; rw [e q (by omega)]; exact b⟩
/-- a table that holds nothing of the value may change -/
theorem ze_rX_wk (h : ze_rX (M, T, hd, mv) (inp, sl, mv, M)) (hi : i ≠ 8) (hn : i < 8 → sl i = none) (e : ∀ q, q ≠ i → T1 q = T q) : ze_rX (M, T1, hd, mv) (inp, sl, mv, M) := by
  obtain ⟨h1, h2, h3, h4, h5, h6, h7⟩ := h
  refine ⟨h1, h2, h3, h4, by simp only; rw [e 8 (Ne.symm hi)]; exact h5, h6, fun q hq L hL => ?_⟩
  obtain ⟨a, b⟩ := h7 q hq L hL
  refine ⟨a, ?_⟩
  by_cases hqi : q = i
  · subst hqi
    have := hn hq
    simp only at hL
    rw [this] at hL
    cases hL
  · simp only
    rw [e q hqi]
    exact b
theorem ze_rX_fin (h : ze_rX (M, T, hd, mv) (inp, sl, mv, M)) (hj : j < 8) (hH : ze_H (T j) L) : ze_rX (M, T, va_up hd j true, mv + c) (inp, va_up sl j (some L), mv + c, M) := by
  obtain ⟨h1, h2, h3, h4, h5, h6, h7⟩ := h
  refine ⟨h1, h2, h3, rfl, h5, fun q hq hL => ?_, fun q hq K hL => ?_⟩
  · simp only at hL ⊢
    by_cases e : q = j
    · subst e; rw [va_up_self] at hL; cases hL
    · rw [va_up_ne _ _ e] at hL ⊢; exact h6 q hq hL
  · simp only at hL ⊢
    by_cases e : q = j
    · subst e; rw [va_up_self] at hL ⊢; cases hL; exact ⟨rfl, hH⟩
    · rw [va_up_ne _ _ e] at hL ⊢; exact h7 q hq K hL
theorem ze_rX_drop (h : ze_rX (M, T, hd, mv) (inp, sl, mv, M)) : ze_rX (M, T, va_up hd j false, mv) (inp, va_up sl j none, mv, M) := by
  obtain ⟨h1, h2, h3, h4, h5, h6, h7⟩ := h
  refine ⟨h1, h2, h3, rfl, h5, fun q hq hL => ?_, fun q hq K hL => ?_⟩
  · simp only at hL ⊢
    by_cases e : q = j
    · subst e; rw [va_up_self]
    · rw [va_up_ne _ _ e] at hL ⊢; exact h6 q hq hL
  · simp only at hL ⊢
    by_cases e : q = j
    · subst e; rw [va_up_self] at hL; cases hL
    · rw [va_up_ne _ _ e] at hL ⊢; exact h7 q hq K hL
theorem ze_rX_off (h : ze_rX (M, T, hd, mv) (inp, sl, mv, M)) (hj : j < 8) (hf : hd j = false) : sl j = none := by
  cases e : sl j with
  | none => rfl
  | some L => have := (h.2.2.2.2.2.2 j hj L e).1; simp only at this; rw [hf] at this; cases this
theorem ze_rX_on (h : ze_rX (M, T, hd, mv) (inp, sl, mv, M)) (hj : j < 8) (hf : hd j = true) : ∃ L, sl j = some L ∧ ze_H (T j) L := by
  cases e : sl j with
  | none => have := h.2.2.2.2.2.1 j hj e; simp only at this; rw [hf] at this; cases this
  | some L => exact ⟨L, rfl, (h.2.2.2.2.2.2 j hj L e).2⟩
end ZRX
end
section
theorem ze_sz_le (n : Nat) : ze_sz n ≤ n := by unfold ze_sz; omega
theorem ze_op_end {M : Nat} {T : Nat → ze_T} {hd : Nat → Bool} {mv cost : Int64} {inp : List ze_Row} {sl : Nat → Option (List ze_Row)} {j : Nat} {q : List ze_Row × Nat} {v : Option Value} {x' : ze_XS} (hR : ze_rX (M, T, hd, mv) (inp, sl, mv, M)) (hj : j < 8) (hu : ze_Hu (T j) q.1) (hc : ¬ 60 < q.1.length → cost = lN q.2)
    (hfin : if (T j).2.2.2 = true then v = some (.int (-4)) ∧ x' = (M, T, hd, mv) else v = some (.int (nI (T j).2.2.1)) ∧ x' = (M, T, va_up hd j true, mv + cost)) : ∃ r, v = some (.int r) ∧ r = (sp_fin (inp, sl, mv, M) j q).1 ∧ ze_rX x' (sp_fin (inp, sl, mv, M) j q).2 := by
  by_cases ho : (T j).2.2.2 = true
  · rw [if_pos ho] at hfin
    have h60 : 60 < q.1.length := by rw [hu.2.1] at ho; exact of_decide_eq_true ho
    refine ⟨_, hfin.1, ?_, ?_⟩
    · rw [sp_fin, if_pos h60]
    · rw [sp_fin, if_pos h60, hfin.2]; exact hR
  · rw [if_neg ho] at hfin
    have h60 : ¬ 60 < q.1.length := by rw [hu.2.1] at ho; intro h; exact ho (decide_eq_true h)
    have hH := ze_Hu_H hu h60
    refine ⟨_, hfin.1, ?_, ?_⟩
    · rw [sp_fin, if_neg h60, hH.1]
    · rw [sp_fin, if_neg h60, hfin.2, hc h60]; exact ze_rX_fin hR hj hH
theorem ze_rf_ne {M : Nat} {T : Nat → ze_T} {hd : Nat → Bool} {mv : Int64} {inp : List ze_Row} {sl : Nat → Option (List ze_Row)} {a b into : Int32} {f : List ze_Row → List ze_Row → List ze_Row × Nat} (hR : ze_rX (M, T, hd, mv) (inp, sl, mv, M)) (h : ¬ ze_rf hd a b into = 0) : sp_op (inp, sl, mv, M) true a b into f = (ze_rf hd a b into, (inp, sl, mv, M)) := by
  unfold sp_op
  unfold ze_rf at h ⊢
  by_cases hs : (ze_isS a && ze_isS b && ze_isS into) = false
  · rw [if_pos hs, if_pos (by rw [Bool.true_and]; exact hs)]
  · rw [if_neg hs] at h ⊢
    rw [if_neg (by rw [Bool.true_and]; exact hs)]
    simp only [Bool.not_eq_false, Bool.and_eq_true] at hs
    obtain ⟨ja, hja, rfl⟩ := ze_isS_nI hs.1.1
    obtain ⟨jb, hjb, rfl⟩ := ze_isS_nI hs.1.2
    obtain ⟨ji, hji, rfl⟩ := ze_isS_nI hs.2
    rw [ze_n_nI (by omega), ze_n_nI (by omega), ze_n_nI (by omega)] at h ⊢
    cases ha : hd ja with
    | false => simp [ze_rX_off hR hja ha]
    | true =>
      cases hb : hd jb with
      | false =>
        obtain ⟨A, hA, -⟩ := ze_rX_on hR hja ha
        simp [hA, ze_rX_off hR hjb hb]
      | true =>
        obtain ⟨A, hA, -⟩ := ze_rX_on hR hja ha
        obtain ⟨B, hB, -⟩ := ze_rX_on hR hjb hb
        cases hi : hd ji with
        | false => rw [ha, hb, hi] at h; exact absurd rfl h
        | true =>
          obtain ⟨I, hI, -⟩ := ze_rX_on hR hji hi
          simp [hA, hB, hI]
/-- the operator isn't refused: its slots, their rows -/
theorem ze_rf_0 {M : Nat} {T : Nat → ze_T} {hd : Nat → Bool} {mv : Int64} {inp : List ze_Row} {sl : Nat → Option (List ze_Row)} {a b into : Int32} (hR : ze_rX (M, T, hd, mv) (inp, sl, mv, M)) (h : ze_rf hd a b into = 0) : ∃ (ja jb ji : Nat) (A B : List ze_Row), ja < 8 ∧ jb < 8 ∧ ji < 8 ∧ a = nI ja ∧ b = nI jb ∧ into = nI ji ∧ ji ≠ ja ∧ ji ≠ jb ∧ sl ja = some A ∧ sl jb = some B ∧ sl ji = none ∧ ze_H (T ja) A ∧ ze_H (T jb) B ∧ ∀ f, sp_op (inp, sl, mv, M) true a b into f = sp_fin (inp, sl, mv, M) ji (f A B) := by
  unfold ze_rf at h
  by_cases hs : (ze_isS a && ze_isS b && ze_isS into) = false
  · rw [if_pos hs] at h; exact absurd h (by decide)
  · rw [if_neg hs] at h
    have hs0 := hs
    simp only [Bool.not_eq_false, Bool.and_eq_true] at hs
    obtain ⟨ja, hja, rfl⟩ := ze_isS_nI hs.1.1
    obtain ⟨jb, hjb, rfl⟩ := ze_isS_nI hs.1.2
    obtain ⟨ji, hji, rfl⟩ := ze_isS_nI hs.2
    have na := ze_n_nI (j := ja) (by omega)
    have nb := ze_n_nI (j := jb) (by omega)
    have ni := ze_n_nI (j := ji) (by omega)
    rw [na, nb, ni] at h
    by_cases hab : (hd ja && hd jb) = false
    · rw [if_pos hab] at h; exact absurd h (by decide)
    · rw [if_neg hab] at h
      simp only [Bool.not_eq_false, Bool.and_eq_true] at hab
      by_cases hi : hd ji = true
      · rw [if_pos hi] at h; exact absurd h (by decide)
      · have hi := Bool.eq_false_iff.mpr hi
        obtain ⟨A, hA, hTA⟩ := ze_rX_on hR hja hab.1
        obtain ⟨B, hB, hTB⟩ := ze_rX_on hR hjb hab.2
        have hI := ze_rX_off hR hji hi
        refine ⟨ja, jb, ji, A, B, hja, hjb, hji, rfl, rfl, rfl, fun e => ?_, fun e => ?_, hA, hB, hI, hTA, hTB, fun f => ?_⟩
        · rw [e, hab.1] at hi; cases hi
        · rw [e, hab.2] at hi; cases hi
        · unfold sp_op
          rw [if_neg (by rw [Bool.true_and]; exact hs0)]
          simp only [na, nb, ni, hA, hB, hI]
/-- the same, of one table -/
theorem ze_rf_01 {M : Nat} {T : Nat → ze_T} {hd : Nat → Bool} {mv : Int64} {inp : List ze_Row} {sl : Nat → Option (List ze_Row)} {a into : Int32} (hR : ze_rX (M, T, hd, mv) (inp, sl, mv, M)) (h : ze_rf hd a a into = 0) : ∃ (ja ji : Nat) (A : List ze_Row), ja < 8 ∧ ji < 8 ∧ a = nI ja ∧ into = nI ji ∧ ji ≠ ja ∧ sl ja = some A ∧ sl ji = none ∧ ze_H (T ja) A ∧ ∀ f, sp_op (inp, sl, mv, M) true a a into f = sp_fin (inp, sl, mv, M) ji (f A A) := by
  obtain ⟨ja, jb, ji, A, B, h1, h2, h3, h4, h5, h6, h7, h8, h9, h10, h11, h12, h13, h14⟩ := ze_rf_0 hR h
  have e : ja = jb := (nI_eq (by omega) (by omega)).mp (h4.symm.trans h5)
  subst e
  rw [h9] at h10
  cases h10
  exact ⟨ja, ji, A, h1, h3, h4, h6, h7, h9, h11, h12, h14⟩

set_option maxRecDepth 100000 in
set_option maxHeartbeats 4000000 in
theorem c_X_put (l : Launch) (D : va_G) (ids : Nat → ClassId) (ad : Nat → Nat) (ms : ze_MS) (M : Nat) (T : Nat → ze_T) (hd : Nat → Bool) (mv : Int64) (inp : List ze_Row) (sl : Nat → Option (List ze_Row)) (hR : ze_rX (M, T, hd, mv) (inp, sl, mv, M)) (k vv : Int32) : ze_MX l D ids ad ms y_X_put ws_X_put 20 (M, T, hd, mv) [.ref (ad 0), .int k, .int vv] (fun v x' => v = some (.int (sp_put (inp, sl, mv, M) k vv).1) ∧ ze_rX x' (sp_put (inp, sl, mv, M) k vv).2) := by
  refine ze_enter (cc := b_X_put) (maxL := 3) (ret := (some .boolean)) (by decide +kernel) rfl (Nat.le_of_ble_eq_true rfl) ?_
  rintro G rfl rfl rfl - C Rt
  refine ze_lv (lv' := [(0, .ref (ad 0)), (1, .int k), (2, .int vv)]) rfl ?_
  obtain ⟨-, hM3, hM6, -, hin, -, -⟩ := id hR
  simp only at hin hM3 hM6
  have hin1 : (T 8).2.2.1 = inp.length := hin.1
  have hin2 : inp.length ≤ 60 := hin.2.1
  refine ze_aload_n C d_X_put_0 0 rfl rfl ?_
  refine ze_getf C fl_X_33 (by decide) ze_E_x rfl d_X_put_1 ?_
  refine ze_getf (k := 3 + 3 * 8) C fl_X_50 (by decide) (ze_E_t (i := 8) (by omega)) rfl d_X_put_4 ?_
  refine ze_bipush (v := nI 60) C d_X_put_7 (by decide) ?_
  refine ze_icmp_ltN 14 C d_X_put_9 (by decide) (by omega) (by omega) (fun h9 => ?_) (fun h9 => ?_)
  · refine ze_aload_n C d_X_put_14 0 rfl rfl ?_
    refine ze_getf C fl_X_33 (by decide) ze_E_x rfl d_X_put_15 ?_
    refine ze_iload_n C d_X_put_18 1 rfl rfl ?_
    refine ze_iload_n C d_X_put_19 2 rfl rfl ?_
    refine ze_eqE (ze_foc 8) ?_
    refine ze_callV (st := []) C (c_T_append (ze_l G) (ze_D G) (ze_i G) ad ms M T hd mv 8 (by omega) _ _ _ _ (by omega) k vv) (kv_X_53 (ze_rml (by decide) (by decide))) (by decide) (ze_F_t (i := 8) (by omega)) rfl (Nat.le_of_ble_eq_true rfl) ⟨Nat.le_of_ble_eq_true rfl, Nat.le_of_ble_eq_true rfl⟩ d_X_put_20 ?_
    rintro _ _ _ _ ⟨rfl, rfl, _, rfl, rfl, rfl⟩
    refine ze_genT (fun T1 eT1 => ?_)
    refine ze_norm (c2 := 0) (s2 := 0) (st' := []) rfl rfl rfl ?_
    have hin' : ze_H (T1 8) (inp ++ [(k, vv)]) := by
      rw [ze_ups eT1, if_pos (by omega)]
      refine ⟨by simp; omega, by simp; omega, ?_⟩
      have h6 := ze_Hl_snoc (r := (k, vv)) hin.2.2
      rw [Nat.zero_add, ← hin1] at h6
      exact h6
    refine ze_iconst (v := nI 1) C d_X_put_23 (by decide) ?_
    exact ze_zret C Rt (by decide) d_X_put_24 (⟨rfl, rfl, _, rfl, by rw [sp_put, if_neg (by simp only; omega)]; rfl, by rw [sp_put, if_neg (by simp only; omega)]; exact ze_rX_in hR (ze_upo eT1) hin'⟩)
  · refine ze_iconst (v := nI 0) C d_X_put_12 (by decide) ?_
    exact ze_zret C Rt (by decide) d_X_put_13 (⟨rfl, rfl, _, rfl, by rw [sp_put, if_pos (by simp only; omega)]; rfl, by rw [sp_put, if_pos (by simp only; omega)]; exact hR⟩)

set_option maxRecDepth 100000 in
set_option maxHeartbeats 4000000 in
theorem c_X_store (l : Launch) (D : va_G) (ids : Nat → ClassId) (ad : Nat → Nat) (ms : ze_MS) (M : Nat) (T : Nat → ze_T) (hd : Nat → Bool) (mv : Int64) (inp : List ze_Row) (sl : Nat → Option (List ze_Row)) (hR : ze_rX (M, T, hd, mv) (inp, sl, mv, M)) (into : Int32) : ze_MX l D ids ad ms y_X_store ws_X_store 20 (M, T, hd, mv) [.ref (ad 0), .int into] (fun v x' => v = some (.int (sp_store (inp, sl, mv, M) into).1) ∧ ze_rX x' (sp_store (inp, sl, mv, M) into).2) := by
  refine ze_enter (cc := b_X_store) (maxL := 2) (ret := (some .int)) (by decide +kernel) rfl (Nat.le_of_ble_eq_true rfl) ?_
  rintro G rfl rfl rfl - C Rt
  refine ze_lv (lv' := [(0, .ref (ad 0)), (1, .int into)]) rfl ?_
  obtain ⟨-, hM3, hM6, -, hin, -, -⟩ := id hR
  simp only at hin hM3 hM6
  have hin1 : (T 8).2.2.1 = inp.length := hin.1
  have hin2 : inp.length ≤ 60 := hin.2.1
  refine ze_iload_n C d_X_store_0 1 rfl rfl ?_
  refine ze_callS (st := []) C (c_X_isSlot (ze_l G) (ze_D G) (ze_i G) _ _ _ into) (ks_X_57 (ze_rml (by decide) (by decide))) rfl (Nat.le_of_ble_eq_true rfl) ⟨Nat.le_of_ble_eq_true rfl, Nat.le_of_ble_eq_true rfl⟩ d_X_store_1 ?_
  rintro _ _ _ _ ⟨rfl, rfl, rfl, rfl⟩
  refine ze_norm (c2 := 0) (s2 := 0) (st' := [.int (ze_bi (ze_isS into))]) rfl rfl rfl ?_
  refine ze_if_ne 9 C d_X_store_4 (by decide) (fun h4 => ?_) (fun h4 => ?_)
  · obtain ⟨j, hj, rfl⟩ := ze_isS_nI (ze_bi1 h4)
    have hnj := ze_n_nI (j := j) (by omega)
    refine ze_aload_n C d_X_store_9 0 rfl rfl ?_
    refine ze_getf C fl_X_29 (by decide) ze_E_x rfl d_X_store_10 ?_
    refine ze_iload_n C d_X_store_13 1 rfl rfl ?_
    refine ze_zald (k := 2) (i := j) C (by decide) ze_E_held (by omega) (by decide) d_X_store_14 ?_
    refine ze_if_eq 21 C d_X_store_15 (by decide) (fun h15 => ?_) (fun h15 => ?_)
    · have hoff := ze_rX_off hR hj (ze_bi0.mp h15)
      have hsp : sp_store (inp, sl, mv, M) (nI j) = (nI inp.length, ([], va_up sl j (some inp), mv + lN (ze_sz inp.length), M)) := by rw [sp_store, if_neg (by rw [ze_isS_j hj]; decide)]; simp only [hnj, hoff]
      refine ze_aload_n C d_X_store_21 0 rfl rfl ?_
      refine ze_getf C fl_X_24 (by decide) ze_E_x rfl d_X_store_22 ?_
      refine ze_iload_n C d_X_store_25 1 rfl rfl ?_
      refine ze_aald (k := 1) (i := j) C (by decide) ze_E_tabs (by omega) (by decide) rfl d_X_store_26 ?_
      refine ze_aload_n C d_X_store_27 0 rfl rfl ?_
      refine ze_getf C fl_X_33 (by decide) ze_E_x rfl d_X_store_28 ?_
      refine ze_eqE (ze_foc j) ?_
      refine ze_callV (st := []) C (c_T_copyFrom (ze_l G) (ze_D G) (ze_i G) ad ms M T hd mv j (by omega) _ _ _ _ 8 (by decide) (by omega) (by omega)) (kv_X_61 (ze_rml (by decide) (by decide))) (by omega) (ze_F_t (i := j) (by omega)) rfl (Nat.le_of_ble_eq_true rfl) ⟨Nat.le_of_ble_eq_true rfl, Nat.le_of_ble_eq_true rfl⟩ d_X_store_31 ?_
      rintro _ _ _ _ ⟨rfl, rfl, _, rfl, rfl, rfl⟩
      refine ze_genT (fun T1 eT1 => ?_)
      refine ze_norm (c2 := 0) (s2 := 0) (st' := []) rfl rfl rfl ?_
      obtain ⟨hH1, ho1⟩ := ze_H_cpy hin eT1
      have hR1 := ze_rX_wk hR (by omega) (fun _ => hoff) (ze_upo eT1)
      refine ze_aload_n C d_X_store_34 0 rfl rfl ?_
      refine ze_getf C fl_X_33 (by decide) ze_E_x rfl d_X_store_35 ?_
      refine ze_eqE (ze_foc 8) ?_
      refine ze_callV (st := []) C (c_T_clear (ze_l G) (ze_D G) (ze_i G) ad ms M T1 hd mv 8 (by omega) _ _ _ _ ) (kv_X_65 (ze_rml (by decide) (by decide))) (by decide) (ze_F_t (i := 8) (by omega)) rfl (Nat.le_of_ble_eq_true rfl) ⟨Nat.le_of_ble_eq_true rfl, Nat.le_of_ble_eq_true rfl⟩ d_X_store_38 ?_
      rintro _ _ _ _ ⟨rfl, rfl, _, rfl, rfl, rfl⟩
      refine ze_genT (fun T2 eT2 => ?_)
      refine ze_norm (c2 := 0) (s2 := 0) (st' := []) rfl rfl rfl ?_
      have hR2 := ze_rX_in (inp' := []) hR1 (ze_upo eT2) (by rw [ze_ups eT2]; exact ⟨rfl, by decide, ze_Hl_nil⟩)
      have ej := ze_upo eT2 j (by omega)
      have hH2 : ze_H (T2 j) inp := by rw [ej]; exact hH1
      have ho2 : (T2 j).2.2.2 = false := by rw [ej]; exact ho1
      have hc2 : (T2 j).2.2.1 ≤ 60 := by rw [hH2.1]; omega
      refine ze_aload_n C d_X_store_41 0 rfl rfl ?_
      refine ze_iload_n C d_X_store_42 1 rfl rfl ?_
      refine ze_aload_n C d_X_store_43 0 rfl rfl ?_
      refine ze_getf C fl_X_24 (by decide) ze_E_x rfl d_X_store_44 ?_
      refine ze_iload_n C d_X_store_47 1 rfl rfl ?_
      refine ze_aald (k := 1) (i := j) C (by decide) ze_E_tabs (by omega) (by decide) rfl d_X_store_48 ?_
      refine ze_getf (k := 3 + 3 * j) C fl_X_50 (by omega) (ze_E_t (i := j) (by omega)) rfl d_X_store_49 ?_
      refine ze_callS (st := [.int (nI j), .ref (ad 0)]) C (c_X_sizeOf (ze_l G) (ze_D G) (ze_i G) _ _ _ ((T2 j).2.2.1) (by omega)) (ks_X_68 (ze_rml (by decide) (by decide))) rfl (Nat.le_of_ble_eq_true rfl) ⟨Nat.le_of_ble_eq_true rfl, Nat.le_of_ble_eq_true rfl⟩ d_X_store_52 ?_
      rintro _ _ _ _ ⟨rfl, rfl, rfl, rfl⟩
      refine ze_norm (c2 := 0) (s2 := 0) (st' := [.int (nI (ze_sz ((T2 j).2.2.1))), .int (nI j), .ref (ad 0)]) rfl rfl rfl ?_
      have hz52 := ze_sz_le ((T2 j).2.2.1)
      refine ze_i2lN C d_X_store_55 (by omega) ?_
      refine ze_callV (st := []) C (c_X_finish (ze_l G) (ze_D G) (ze_i G) ad ms M T2 hd mv j (by omega) (lN (ze_sz (T2 j).2.2.1))) (kv_X_72 (ze_rml (by decide) (by decide))) (by decide) ze_E_x rfl (Nat.le_of_ble_eq_true rfl) ⟨Nat.le_of_ble_eq_true rfl, Nat.le_of_ble_eq_true rfl⟩ d_X_store_56 ?_
      rintro _ _ _ _ ⟨rfl, rfl, x', rfl, hfin⟩
      obtain ⟨r, rfl, hr1, hr2⟩ := ze_op_end (q := (inp, ze_sz inp.length)) hR2 hj (ze_H_Hu hH2 ho2) (fun _ => by rw [hH2.1]) hfin
      refine ze_norm (c2 := 0) (s2 := 0) (st' := [.int r]) rfl rfl rfl ?_
      have e60 : ¬ 60 < inp.length := by omega
      rw [sp_fin, if_neg e60] at hr1 hr2
      exact ze_iret C Rt d_X_store_59 ⟨rfl, rfl, _, rfl, by rw [hsp, hr1], by rw [hsp]; exact hr2⟩
    · have hon := ze_bi1 h15
      obtain ⟨L, hL, -⟩ := ze_rX_on hR hj hon
      have hsp : sp_store (inp, sl, mv, M) (nI j) = (-3, (inp, sl, mv, M)) := by rw [sp_store, if_neg (by rw [ze_isS_j hj]; decide)]; simp only [hnj, hL]
      refine ze_bipush (v := -3) C d_X_store_18 (by decide) ?_
      exact ze_iret C Rt d_X_store_20 (⟨rfl, rfl, _, rfl, by rw [hsp], by rw [hsp]; exact hR⟩)
  · refine ze_iconst (v := -1) C d_X_store_7 (by decide) ?_
    exact ze_iret C Rt d_X_store_8 (⟨rfl, rfl, _, rfl, by rw [sp_store, if_pos (ze_bi0.mp h4)], by rw [sp_store, if_pos (ze_bi0.mp h4)]; exact hR⟩)

set_option maxRecDepth 100000 in
set_option maxHeartbeats 4000000 in
theorem c_X_drop (l : Launch) (D : va_G) (ids : Nat → ClassId) (ad : Nat → Nat) (ms : ze_MS) (M : Nat) (T : Nat → ze_T) (hd : Nat → Bool) (mv : Int64) (inp : List ze_Row) (sl : Nat → Option (List ze_Row)) (hR : ze_rX (M, T, hd, mv) (inp, sl, mv, M)) (s : Int32) : ze_MX l D ids ad ms y_X_drop ws_X_drop 20 (M, T, hd, mv) [.ref (ad 0), .int s] (fun v x' => v = some (.int (sp_drop (inp, sl, mv, M) s).1) ∧ ze_rX x' (sp_drop (inp, sl, mv, M) s).2) := by
  refine ze_enter (cc := b_X_drop) (maxL := 2) (ret := (some .int)) (by decide +kernel) rfl (Nat.le_of_ble_eq_true rfl) ?_
  rintro G rfl rfl rfl - C Rt
  refine ze_lv (lv' := [(0, .ref (ad 0)), (1, .int s)]) rfl ?_
  obtain ⟨-, hM3, hM6, -, hin, -, -⟩ := id hR
  simp only at hin hM3 hM6
  have hin1 : (T 8).2.2.1 = inp.length := hin.1
  have hin2 : inp.length ≤ 60 := hin.2.1
  refine ze_iload_n C d_X_drop_0 1 rfl rfl ?_
  refine ze_callS (st := []) C (c_X_isSlot (ze_l G) (ze_D G) (ze_i G) _ _ _ s) (ks_X_57 (ze_rml (by decide) (by decide))) rfl (Nat.le_of_ble_eq_true rfl) ⟨Nat.le_of_ble_eq_true rfl, Nat.le_of_ble_eq_true rfl⟩ d_X_drop_1 ?_
  rintro _ _ _ _ ⟨rfl, rfl, rfl, rfl⟩
  refine ze_norm (c2 := 0) (s2 := 0) (st' := [.int (ze_bi (ze_isS s))]) rfl rfl rfl ?_
  refine ze_if_ne 9 C d_X_drop_4 (by decide) (fun h4 => ?_) (fun h4 => ?_)
  · obtain ⟨j, hj, rfl⟩ := ze_isS_nI (ze_bi1 h4)
    have hnj := ze_n_nI (j := j) (by omega)
    refine ze_aload_n C d_X_drop_9 0 rfl rfl ?_
    refine ze_getf C fl_X_29 (by decide) ze_E_x rfl d_X_drop_10 ?_
    refine ze_iload_n C d_X_drop_13 1 rfl rfl ?_
    refine ze_zald (k := 2) (i := j) C (by decide) ze_E_held (by omega) (by decide) d_X_drop_14 ?_
    refine ze_if_ne 21 C d_X_drop_15 (by decide) (fun h15 => ?_) (fun h15 => ?_)
    · obtain ⟨L, hL, hL2⟩ := ze_rX_on hR hj (ze_bi1 h15)
      have hsp : sp_drop (inp, sl, mv, M) (nI j) = (nI L.length, (inp, va_up sl j none, mv, M)) := by rw [sp_drop, if_neg (by rw [ze_isS_j hj]; decide)]; simp only [hnj, hL]
      refine ze_aload_n C d_X_drop_21 0 rfl rfl ?_
      refine ze_getf C fl_X_29 (by decide) ze_E_x rfl d_X_drop_22 ?_
      refine ze_iload_n C d_X_drop_25 1 rfl rfl ?_
      refine ze_iconst (v := ze_bi false) C d_X_drop_26 (by decide) ?_
      refine ze_zast (k := 2) (i := j) C (by decide) ze_E_held (by omega) (by decide) (by decide) d_X_drop_27 ?_
      refine ze_eqE (ze_up_held (hd' := va_up hd j false) ze_hd_up) ?_
      refine ze_aload_n C d_X_drop_28 0 rfl rfl ?_
      refine ze_getf C fl_X_24 (by decide) ze_E_x rfl d_X_drop_29 ?_
      refine ze_iload_n C d_X_drop_32 1 rfl rfl ?_
      refine ze_aald (k := 1) (i := j) C (by decide) ze_E_tabs (by omega) (by decide) rfl d_X_drop_33 ?_
      refine ze_getf (k := 3 + 3 * j) C fl_X_50 (by omega) (ze_E_t (i := j) (by omega)) rfl d_X_drop_34 ?_
      exact ze_iret C Rt d_X_drop_37 (⟨rfl, rfl, _, rfl, by rw [hsp, hL2.1], by rw [hsp]; exact ze_rX_drop hR⟩)
    · have hoff := ze_rX_off hR hj (ze_bi0.mp h15)
      have hsp : sp_drop (inp, sl, mv, M) (nI j) = (-2, (inp, sl, mv, M)) := by rw [sp_drop, if_neg (by rw [ze_isS_j hj]; decide)]; simp only [hnj, hoff]
      refine ze_bipush (v := -2) C d_X_drop_18 (by decide) ?_
      exact ze_iret C Rt d_X_drop_20 (⟨rfl, rfl, _, rfl, by rw [hsp], by rw [hsp]; exact hR⟩)
  · refine ze_iconst (v := -1) C d_X_drop_7 (by decide) ?_
    exact ze_iret C Rt d_X_drop_8 (⟨rfl, rfl, _, rfl, by rw [sp_drop, if_pos (ze_bi0.mp h4)], by rw [sp_drop, if_pos (ze_bi0.mp h4)]; exact hR⟩)

set_option maxRecDepth 100000 in
set_option maxHeartbeats 4000000 in
theorem c_X_rows (l : Launch) (D : va_G) (ids : Nat → ClassId) (ad : Nat → Nat) (ms : ze_MS) (M : Nat) (T : Nat → ze_T) (hd : Nat → Bool) (mv : Int64) (inp : List ze_Row) (sl : Nat → Option (List ze_Row)) (hR : ze_rX (M, T, hd, mv) (inp, sl, mv, M)) (s : Int32) : ze_MX l D ids ad ms y_X_rows ws_X_rows 20 (M, T, hd, mv) [.ref (ad 0), .int s] (fun v x' => v = some (.int (sp_rows (inp, sl, mv, M) s)) ∧ ze_rX x' (inp, sl, mv, M)) := by
  refine ze_enter (cc := b_X_rows) (maxL := 2) (ret := (some .int)) (by decide +kernel) rfl (Nat.le_of_ble_eq_true rfl) ?_
  rintro G rfl rfl rfl - C Rt
  refine ze_lv (lv' := [(0, .ref (ad 0)), (1, .int s)]) rfl ?_
  obtain ⟨-, hM3, hM6, -, hin, -, -⟩ := id hR
  simp only at hin hM3 hM6
  have hin1 : (T 8).2.2.1 = inp.length := hin.1
  have hin2 : inp.length ≤ 60 := hin.2.1
  refine ze_aload_n C d_X_rows_0 0 rfl rfl ?_
  refine ze_iload_n C d_X_rows_1 1 rfl rfl ?_
  refine ze_callV (st := []) C (c_X_holdsTable (ze_l G) (ze_D G) (ze_i G) ad ms M T hd mv s) (kv_X_76 (ze_rml (by decide) (by decide))) (by decide) ze_E_x rfl (Nat.le_of_ble_eq_true rfl) ⟨Nat.le_of_ble_eq_true rfl, Nat.le_of_ble_eq_true rfl⟩ d_X_rows_2 ?_
  rintro _ _ _ _ ⟨rfl, rfl, _, rfl, rfl, rfl⟩
  refine ze_norm (c2 := 0) (s2 := 0) (st' := [.int (ze_bi (ze_isS s && hd (ze_n s)))]) rfl rfl rfl ?_
  refine ze_if_eq 20 C d_X_rows_5 (by decide) (fun h5 => ?_) (fun h5 => ?_)
  · have hsp : sp_rows (inp, sl, mv, M) s = -1 := by
      have hb := ze_bi0.mp h5
      rw [sp_rows]
      by_cases hs : ze_isS s = false
      · rw [if_pos hs]
      · obtain ⟨j, hj, rfl⟩ := ze_isS_nI (by simpa using hs)
        rw [ze_isS_j hj, Bool.true_and, ze_n_nI (by omega)] at hb
        rw [if_neg hs]
        simp only [ze_n_nI (Nat.lt_trans hj (by decide : 8 < 2 ^ 31)), ze_rX_off hR hj hb]
    refine ze_iconst (v := -1) C d_X_rows_20 (by decide) ?_
    exact ze_iret C Rt d_X_rows_21 (⟨rfl, rfl, _, rfl, by rw [hsp], hR⟩)
  · have hb := ze_bi1 h5
    rw [Bool.and_eq_true] at hb
    obtain ⟨j, hj, rfl⟩ := ze_isS_nI hb.1
    rw [ze_n_nI (by omega)] at hb
    obtain ⟨L, hL, hL2⟩ := ze_rX_on hR hj hb.2
    have hsp : sp_rows (inp, sl, mv, M) (nI j) = nI L.length := by rw [sp_rows, if_neg (by rw [ze_isS_j hj]; decide)]; simp only [ze_n_nI (Nat.lt_trans hj (by decide : 8 < 2 ^ 31)), hL]
    refine ze_aload_n C d_X_rows_8 0 rfl rfl ?_
    refine ze_getf C fl_X_24 (by decide) ze_E_x rfl d_X_rows_9 ?_
    refine ze_iload_n C d_X_rows_12 1 rfl rfl ?_
    refine ze_aald (k := 1) (i := j) C (by decide) ze_E_tabs (by omega) (by decide) rfl d_X_rows_13 ?_
    refine ze_getf (k := 3 + 3 * j) C fl_X_50 (by omega) (ze_E_t (i := j) (by omega)) rfl d_X_rows_14 ?_
    refine ze_goto 21 C d_X_rows_17 (by decide) ?_
    exact ze_iret C Rt d_X_rows_21 (⟨rfl, rfl, _, rfl, by rw [hsp]; rw [hL2.1], hR⟩)

theorem ze_hrow_neg {p : Int32} {n : Nat} (h : p < 0) : decide (0 ≤ p.toInt ∧ p.toInt < (n : Int)) = false := by
  rw [Int32.lt_iff_toInt_lt] at h
  simp only [show (0 : Int32).toInt = 0 from rfl] at h
  exact decide_eq_false (by omega)
theorem ze_hrow_big {p : Int32} {n : Nat} (h : nI n ≤ p) (hn : n ≤ 60) : decide (0 ≤ p.toInt ∧ p.toInt < (n : Int)) = false := by
  rw [Int32.le_iff_toInt_le, nI_toInt (by omega)] at h
  exact decide_eq_false (by omega)
theorem ze_hrow_ok {p : Int32} {n : Nat} (h1 : ¬ p < 0) (h2 : ¬ nI n ≤ p) (hn : n ≤ 60) : decide (0 ≤ p.toInt ∧ p.toInt < (n : Int)) = true := by
  rw [Int32.lt_iff_toInt_lt] at h1
  rw [Int32.le_iff_toInt_le, nI_toInt (by omega)] at h2
  simp only [show (0 : Int32).toInt = 0 from rfl] at h1
  exact decide_eq_true (by omega)

set_option maxRecDepth 100000 in
set_option maxHeartbeats 4000000 in
theorem c_X_holdsRow (l : Launch) (D : va_G) (ids : Nat → ClassId) (ad : Nat → Nat) (ms : ze_MS) (M : Nat) (T : Nat → ze_T) (hd : Nat → Bool) (mv : Int64) (inp : List ze_Row) (sl : Nat → Option (List ze_Row)) (hR : ze_rX (M, T, hd, mv) (inp, sl, mv, M)) (s p : Int32) : ze_MX l D ids ad ms y_X_holdsRow ws_X_holdsRow 19 (M, T, hd, mv) [.ref (ad 0), .int s, .int p] (fun v x' => v = some (.int (ze_bi ((ze_isS s && hd (ze_n s)) && decide (0 ≤ p.toInt ∧ p.toInt < ((T (ze_n s)).2.2.1 : Int))))) ∧ x' = (M, T, hd, mv)) := by
  refine ze_enter (cc := b_X_holdsRow) (maxL := 3) (ret := (some .boolean)) (by decide +kernel) rfl (Nat.le_of_ble_eq_true rfl) ?_
  rintro G rfl rfl rfl - C Rt
  refine ze_lv (lv' := [(0, .ref (ad 0)), (1, .int s), (2, .int p)]) rfl ?_
  refine ze_aload_n C d_X_holdsRow_0 0 rfl rfl ?_
  refine ze_iload_n C d_X_holdsRow_1 1 rfl rfl ?_
  refine ze_callV (st := []) C (c_X_holdsTable (ze_l G) (ze_D G) (ze_i G) ad ms M T hd mv s) (kv_X_76 (ze_rml (by decide) (by decide))) (by decide) ze_E_x rfl (Nat.le_of_ble_eq_true rfl) ⟨Nat.le_of_ble_eq_true rfl, Nat.le_of_ble_eq_true rfl⟩ d_X_holdsRow_2 ?_
  rintro _ _ _ _ ⟨rfl, rfl, _, rfl, rfl, rfl⟩
  refine ze_norm (c2 := 0) (s2 := 0) (st' := [.int (ze_bi (ze_isS s && hd (ze_n s)))]) rfl rfl rfl ?_
  refine ze_if_eq 29 C d_X_holdsRow_5 (by decide) (fun h5 => ?_) (fun h5 => ?_)
  · refine ze_iconst (v := nI 0) C d_X_holdsRow_29 (by decide) ?_
    exact ze_zret C Rt (by decide) d_X_holdsRow_30 (⟨rfl, rfl, _, rfl, by rw [ze_bi0.mp h5, Bool.false_and]; rfl, rfl⟩)
  · have hb0 := ze_bi1 h5
    have hb := hb0
    rw [Bool.and_eq_true] at hb
    obtain ⟨j, hj, rfl⟩ := ze_isS_nI hb.1
    have hnj := ze_n_nI (j := j) (by omega)
    rw [hnj] at hb
    obtain ⟨L, hL, hL2⟩ := ze_rX_on hR hj hb.2
    have hcj : (T j).2.2.1 ≤ 60 := by rw [hL2.1]; exact hL2.2.1
    refine ze_iload_n C d_X_holdsRow_8 2 rfl rfl ?_
    refine ze_if_lt 29 C d_X_holdsRow_9 (by decide) (fun h9 => ?_) (fun h9 => ?_)
    · refine ze_iconst (v := nI 0) C d_X_holdsRow_29 (by decide) ?_
      exact ze_zret C Rt (by decide) d_X_holdsRow_30 (⟨rfl, rfl, _, rfl, by rw [ze_hrow_neg h9, Bool.and_false]; rfl, rfl⟩)
    · refine ze_iload_n C d_X_holdsRow_12 2 rfl rfl ?_
      refine ze_aload_n C d_X_holdsRow_13 0 rfl rfl ?_
      refine ze_getf C fl_X_24 (by decide) ze_E_x rfl d_X_holdsRow_14 ?_
      refine ze_iload_n C d_X_holdsRow_17 1 rfl rfl ?_
      refine ze_aald (k := 1) (i := j) C (by decide) ze_E_tabs (by omega) (by decide) rfl d_X_holdsRow_18 ?_
      refine ze_getf (k := 3 + 3 * j) C fl_X_50 (by omega) (ze_E_t (i := j) (by omega)) rfl d_X_holdsRow_19 ?_
      refine ze_icmp_ge 29 C d_X_holdsRow_22 (by decide) (fun h22 => ?_) (fun h22 => ?_)
      · refine ze_iconst (v := nI 0) C d_X_holdsRow_29 (by decide) ?_
        exact ze_zret C Rt (by decide) d_X_holdsRow_30 (⟨rfl, rfl, _, rfl, by rw [hnj, ze_hrow_big h22 hcj, Bool.and_false]; rfl, rfl⟩)
      · refine ze_iconst (v := nI 1) C d_X_holdsRow_25 (by decide) ?_
        refine ze_goto 30 C d_X_holdsRow_26 (by decide) ?_
        exact ze_zret C Rt (by decide) d_X_holdsRow_30 (⟨rfl, rfl, _, rfl, by rw [hb0, hnj, ze_hrow_ok h9 h22 hcj]; rfl, rfl⟩)

theorem ze_at_no {f : ze_Row → Int32} {M : Nat} {T : Nat → ze_T} {hd : Nat → Bool} {mv : Int64} {inp : List ze_Row} {sl : Nat → Option (List ze_Row)} {s p : Int32} (hR : ze_rX (M, T, hd, mv) (inp, sl, mv, M)) (h : ((ze_isS s && hd (ze_n s)) && decide (0 ≤ p.toInt ∧ p.toInt < ((T (ze_n s)).2.2.1 : Int))) = false) : sp_at f (inp, sl, mv, M) s p = 0 := by
  unfold sp_at
  by_cases hs : ze_isS s = false
  · rw [if_pos hs]
  · rw [if_neg hs]
    obtain ⟨j, hj, rfl⟩ := ze_isS_nI (by simpa using hs)
    rw [ze_isS_j hj, Bool.true_and, ze_n_nI (by omega)] at h
    rw [ze_n_nI (by omega)]
    cases hd' : hd j with
    | false => simp [ze_rX_off hR hj hd']
    | true =>
      obtain ⟨L, hL, hL2⟩ := ze_rX_on hR hj hd'
      rw [hd', Bool.true_and, hL2.1] at h
      have h := of_decide_eq_false h
      simp only [hL]
      by_cases h0 : p.toInt < 0
      · rw [if_pos h0]
      · rw [if_neg h0, List.getElem?_eq_none (by omega)]
theorem ze_at_yes (f : ze_Row → Int32) {M : Nat} {T : Nat → ze_T} {hd : Nat → Bool} {mv : Int64} {inp : List ze_Row} {sl : Nat → Option (List ze_Row)} {s p : Int32} (hR : ze_rX (M, T, hd, mv) (inp, sl, mv, M)) (h : ((ze_isS s && hd (ze_n s)) && decide (0 ≤ p.toInt ∧ p.toInt < ((T (ze_n s)).2.2.1 : Int))) = true) : ∃ (j q : Nat) (L : List ze_Row), j < 8 ∧ q < L.length ∧ s = nI j ∧ p = nI q ∧ sl j = some L ∧ ze_H (T j) L ∧ sp_at f (inp, sl, mv, M) s p = f ((T j).1 q, (T j).2.1 q) := by
  simp only [Bool.and_eq_true, decide_eq_true_eq] at h
  obtain ⟨⟨h1, h2⟩, h3, h4⟩ := h
  obtain ⟨j, hj, rfl⟩ := ze_isS_nI h1
  have hnj := ze_n_nI (j := j) (by omega)
  rw [hnj] at h2 h4
  obtain ⟨L, hL, hL2⟩ := ze_rX_on hR hj h2
  rw [hL2.1] at h4
  obtain ⟨q, hq, rfl⟩ := nI_of (x := p) (by
    rw [Int32.lt_iff_toInt_lt]
    simp only [show (0 : Int32).toInt = 0 from rfl]
    omega)
  rw [nI_toInt hq] at h3 h4
  have hqL : q < L.length := by omega
  refine ⟨j, q, L, hj, hqL, rfl, rfl, hL, hL2, ?_⟩
  unfold sp_at
  rw [if_neg (by rw [h1]; decide), hnj]
  simp only [hL]
  rw [nI_toInt hq, if_neg (by omega), Int.toNat_natCast, ze_H_row hL2 hqL]

set_option maxRecDepth 100000 in
set_option maxHeartbeats 4000000 in
theorem c_X_key (l : Launch) (D : va_G) (ids : Nat → ClassId) (ad : Nat → Nat) (ms : ze_MS) (M : Nat) (T : Nat → ze_T) (hd : Nat → Bool) (mv : Int64) (inp : List ze_Row) (sl : Nat → Option (List ze_Row)) (hR : ze_rX (M, T, hd, mv) (inp, sl, mv, M)) (s p : Int32) : ze_MX l D ids ad ms y_X_key ws_X_key 20 (M, T, hd, mv) [.ref (ad 0), .int s, .int p] (fun v x' => v = some (.int (sp_at (fun r => r.1) (inp, sl, mv, M) s p)) ∧ ze_rX x' (inp, sl, mv, M)) := by
  refine ze_enter (cc := b_X_key) (maxL := 3) (ret := (some .int)) (by decide +kernel) rfl (Nat.le_of_ble_eq_true rfl) ?_
  rintro G rfl rfl rfl - C Rt
  refine ze_lv (lv' := [(0, .ref (ad 0)), (1, .int s), (2, .int p)]) rfl ?_
  obtain ⟨-, hM3, hM6, -, hin, -, -⟩ := id hR
  simp only at hin hM3 hM6
  have hin1 : (T 8).2.2.1 = inp.length := hin.1
  have hin2 : inp.length ≤ 60 := hin.2.1
  refine ze_aload_n C d_X_key_0 0 rfl rfl ?_
  refine ze_iload_n C d_X_key_1 1 rfl rfl ?_
  refine ze_iload_n C d_X_key_2 2 rfl rfl ?_
  refine ze_callV (st := []) C (c_X_holdsRow (ze_l G) (ze_D G) (ze_i G) ad ms M T hd mv inp sl hR s p) (kv_X_79 (ze_rml (by decide) (by decide))) (by decide) ze_E_x rfl (Nat.le_of_ble_eq_true rfl) ⟨Nat.le_of_ble_eq_true rfl, Nat.le_of_ble_eq_true rfl⟩ d_X_key_3 ?_
  rintro _ _ _ _ ⟨rfl, rfl, _, rfl, rfl, rfl⟩
  refine ze_norm (c2 := 0) (s2 := 0) (st' := [.int (ze_bi ((ze_isS s && hd (ze_n s)) && decide (0 ≤ p.toInt ∧ p.toInt < ((T (ze_n s)).2.2.1 : Int))))]) rfl rfl rfl ?_
  refine ze_if_eq 23 C d_X_key_6 (by decide) (fun h6 => ?_) (fun h6 => ?_)
  · have hsp : sp_at (fun r => r.1) (inp, sl, mv, M) s p = 0 := ze_at_no hR (ze_bi0.mp h6)
    refine ze_iconst (v := nI 0) C d_X_key_23 (by decide) ?_
    exact ze_iret C Rt d_X_key_24 (⟨rfl, rfl, _, rfl, by rw [hsp]; rfl, hR⟩)
  · obtain ⟨j, q, L, hj, hq, rfl, rfl, hL, hL2, hsp⟩ := ze_at_yes (fun r => r.1) hR (ze_bi1 h6)
    have hq60 : q < 60 := by have := hL2.2.1; omega
    refine ze_aload_n C d_X_key_9 0 rfl rfl ?_
    refine ze_getf C fl_X_24 (by decide) ze_E_x rfl d_X_key_10 ?_
    refine ze_iload_n C d_X_key_13 1 rfl rfl ?_
    refine ze_aald (k := 1) (i := j) C (by decide) ze_E_tabs (by omega) (by decide) rfl d_X_key_14 ?_
    refine ze_getf (k := 3 + 3 * j) C fl_X_83 (by omega) (ze_E_t (i := j) (by omega)) rfl d_X_key_15 ?_
    refine ze_iload_n C d_X_key_18 2 rfl rfl ?_
    refine ze_iald (k := 4 + 3 * j) (i := q) C (by omega) (ze_E_k (i := j) (by omega)) (by omega) (by decide) d_X_key_19 ?_
    refine ze_goto 24 C d_X_key_20 (by decide) ?_
    exact ze_iret C Rt d_X_key_24 (⟨rfl, rfl, _, rfl, by rw [hsp], hR⟩)

set_option maxRecDepth 100000 in
set_option maxHeartbeats 4000000 in
theorem c_X_value (l : Launch) (D : va_G) (ids : Nat → ClassId) (ad : Nat → Nat) (ms : ze_MS) (M : Nat) (T : Nat → ze_T) (hd : Nat → Bool) (mv : Int64) (inp : List ze_Row) (sl : Nat → Option (List ze_Row)) (hR : ze_rX (M, T, hd, mv) (inp, sl, mv, M)) (s p : Int32) : ze_MX l D ids ad ms y_X_value ws_X_value 20 (M, T, hd, mv) [.ref (ad 0), .int s, .int p] (fun v x' => v = some (.int (sp_at (fun r => r.2) (inp, sl, mv, M) s p)) ∧ ze_rX x' (inp, sl, mv, M)) := by
  refine ze_enter (cc := b_X_value) (maxL := 3) (ret := (some .int)) (by decide +kernel) rfl (Nat.le_of_ble_eq_true rfl) ?_
  rintro G rfl rfl rfl - C Rt
  refine ze_lv (lv' := [(0, .ref (ad 0)), (1, .int s), (2, .int p)]) rfl ?_
  obtain ⟨-, hM3, hM6, -, hin, -, -⟩ := id hR
  simp only at hin hM3 hM6
  have hin1 : (T 8).2.2.1 = inp.length := hin.1
  have hin2 : inp.length ≤ 60 := hin.2.1
  refine ze_aload_n C d_X_value_0 0 rfl rfl ?_
  refine ze_iload_n C d_X_value_1 1 rfl rfl ?_
  refine ze_iload_n C d_X_value_2 2 rfl rfl ?_
  refine ze_callV (st := []) C (c_X_holdsRow (ze_l G) (ze_D G) (ze_i G) ad ms M T hd mv inp sl hR s p) (kv_X_79 (ze_rml (by decide) (by decide))) (by decide) ze_E_x rfl (Nat.le_of_ble_eq_true rfl) ⟨Nat.le_of_ble_eq_true rfl, Nat.le_of_ble_eq_true rfl⟩ d_X_value_3 ?_
  rintro _ _ _ _ ⟨rfl, rfl, _, rfl, rfl, rfl⟩
  refine ze_norm (c2 := 0) (s2 := 0) (st' := [.int (ze_bi ((ze_isS s && hd (ze_n s)) && decide (0 ≤ p.toInt ∧ p.toInt < ((T (ze_n s)).2.2.1 : Int))))]) rfl rfl rfl ?_
  refine ze_if_eq 23 C d_X_value_6 (by decide) (fun h6 => ?_) (fun h6 => ?_)
  · have hsp : sp_at (fun r => r.2) (inp, sl, mv, M) s p = 0 := ze_at_no hR (ze_bi0.mp h6)
    refine ze_iconst (v := nI 0) C d_X_value_23 (by decide) ?_
    exact ze_iret C Rt d_X_value_24 (⟨rfl, rfl, _, rfl, by rw [hsp]; rfl, hR⟩)
  · obtain ⟨j, q, L, hj, hq, rfl, rfl, hL, hL2, hsp⟩ := ze_at_yes (fun r => r.2) hR (ze_bi1 h6)
    have hq60 : q < 60 := by have := hL2.2.1; omega
    refine ze_aload_n C d_X_value_9 0 rfl rfl ?_
    refine ze_getf C fl_X_24 (by decide) ze_E_x rfl d_X_value_10 ?_
    refine ze_iload_n C d_X_value_13 1 rfl rfl ?_
    refine ze_aald (k := 1) (i := j) C (by decide) ze_E_tabs (by omega) (by decide) rfl d_X_value_14 ?_
    refine ze_getf (k := 3 + 3 * j) C fl_X_87 (by omega) (ze_E_t (i := j) (by omega)) rfl d_X_value_15 ?_
    refine ze_iload_n C d_X_value_18 2 rfl rfl ?_
    refine ze_iald (k := 5 + 3 * j) (i := q) C (by omega) (ze_E_v (i := j) (by omega)) (by omega) (by decide) d_X_value_19 ?_
    refine ze_goto 24 C d_X_value_20 (by decide) ?_
    exact ze_iret C Rt d_X_value_24 (⟨rfl, rfl, _, rfl, by rw [hsp], hR⟩)
end
section
def ze_bk (sl : Nat → Option (List ze_Row)) (j : Nat) : Nat := match sl j with
  | none => 0
  | some L => ze_sz L.length
theorem ze_bk_sum (inp : List ze_Row) (sl : Nat → Option (List ze_Row)) (mv : Int64) (M : Nat) : sp_blocks (inp, sl, mv, M) = ((List.range 8).map (ze_bk sl)).sum := rfl
theorem ze_bk_succ (sl : Nat → Option (List ze_Row)) (p : Nat) : ((List.range (p + 1)).map (ze_bk sl)).sum = ((List.range p).map (ze_bk sl)).sum + ze_bk sl p := by
  rw [List.range_succ, List.map_append, List.sum_append]
  simp

set_option maxRecDepth 100000 in
set_option maxHeartbeats 4000000 in
theorem c_X_blocks (l : Launch) (D : va_G) (ids : Nat → ClassId) (ad : Nat → Nat) (ms : ze_MS) (M : Nat) (T : Nat → ze_T) (hd : Nat → Bool) (mv : Int64) (inp : List ze_Row) (sl : Nat → Option (List ze_Row)) (hR : ze_rX (M, T, hd, mv) (inp, sl, mv, M)) : ze_MX l D ids ad ms y_X_blocks ws_X_blocks 20 (M, T, hd, mv) [.ref (ad 0)] (fun v x' => v = some (.int (nI (sp_blocks (inp, sl, mv, M)))) ∧ ze_rX x' (inp, sl, mv, M)) := by
  refine ze_enter (cc := b_X_blocks) (maxL := 3) (ret := (some .int)) (by decide +kernel) rfl (Nat.le_of_ble_eq_true rfl) ?_
  rintro G rfl rfl rfl - C Rt
  refine ze_lv (lv' := [(0, .ref (ad 0))]) rfl ?_
  obtain ⟨-, hM3, hM6, -, hin, -, -⟩ := id hR
  simp only at hin hM3 hM6
  have loop : ∀ (r p t : Nat), 8 - p = r → p ≤ 8 → t = ((List.range p).map (ze_bk sl)).sum → t ≤ 60 * p → ze_V G 48 ad (ze_E (ze_i G) ad (M, T, hd, mv) ms) 0 0 4 [(2, .int (nI p)), (1, .int (nI t)), (0, .ref (ad 0))] [] := by
    intro r
    induction r using Nat.strongRecOn with
    | ind r ih =>
      intro p t hr h1 h2 h3
      refine ze_iload_n C d_X_blocks_4 0 rfl rfl ?_
      refine ze_bipush (v := nI 8) C d_X_blocks_5 (by decide) ?_
      refine ze_icmp_geN 40 C d_X_blocks_7 (by decide) (by omega) (by omega) (fun h7 => ?_) (fun h7 => ?_)
      · refine ze_iload_n C d_X_blocks_40 1 rfl rfl ?_
        exact ze_iret C Rt d_X_blocks_41 (⟨rfl, rfl, _, rfl, by rw [ze_bk_sum, h2, show p = 8 by omega], hR⟩)
      · refine ze_aload_n C d_X_blocks_10 2 rfl rfl ?_
        refine ze_getf C fl_X_29 (by decide) ze_E_x rfl d_X_blocks_11 ?_
        refine ze_iload_n C d_X_blocks_14 0 rfl rfl ?_
        refine ze_zald (k := 2) (i := p) C (by decide) ze_E_held (by omega) (by decide) d_X_blocks_15 ?_
        refine ze_if_eq 34 C d_X_blocks_16 (by decide) (fun h16 => ?_) (fun h16 => ?_)
        · have hoff := ze_rX_off hR (by omega) (ze_bi0.mp h16)
          refine ze_iinc (j := 0) (v := nI (p + 1)) (lv' := [(2, .int (nI (p + 1))), (1, .int (nI t)), (0, .ref (ad 0))]) C d_X_blocks_34 rfl (nI_1 _) (by decide) rfl ?_
          refine ze_goto 4 C d_X_blocks_37 (by decide) ?_
          refine ze_sub [(2, .int (nI (p + 1))), (1, .int (nI t)), (0, .ref (ad 0))] [0, 1, 2] rfl ?_
          exact ih (8 - (p + 1)) (by omega) (p + 1) _ rfl (by omega) (by rw [ze_bk_succ, h2, ze_bk, hoff]; rfl) (by omega)
        · obtain ⟨L, hL, hL2⟩ := ze_rX_on hR (by omega) (ze_bi1 h16)
          have hcp : (T p).2.2.1 ≤ 60 := by rw [hL2.1]; exact hL2.2.1
          refine ze_iload_n C d_X_blocks_19 1 rfl rfl ?_
          refine ze_aload_n C d_X_blocks_20 2 rfl rfl ?_
          refine ze_getf C fl_X_24 (by decide) ze_E_x rfl d_X_blocks_21 ?_
          refine ze_iload_n C d_X_blocks_24 0 rfl rfl ?_
          refine ze_aald (k := 1) (i := p) C (by decide) ze_E_tabs (by omega) (by decide) rfl d_X_blocks_25 ?_
          refine ze_getf (k := 3 + 3 * p) C fl_X_50 (by omega) (ze_E_t (i := p) (by omega)) rfl d_X_blocks_26 ?_
          refine ze_callS (st := [.int (nI t)]) C (c_X_sizeOf (ze_l G) (ze_D G) (ze_i G) _ _ _ ((T p).2.2.1) (by omega)) (ks_X_68 (ze_rml (by decide) (by decide))) rfl (Nat.le_of_ble_eq_true rfl) ⟨Nat.le_of_ble_eq_true rfl, Nat.le_of_ble_eq_true rfl⟩ d_X_blocks_29 ?_
          rintro _ _ _ _ ⟨rfl, rfl, rfl, rfl⟩
          refine ze_norm (c2 := 0) (s2 := 0) (st' := [.int (nI (ze_sz ((T p).2.2.1))), .int (nI t)]) rfl rfl rfl ?_
          have hz29 := ze_sz_le ((T p).2.2.1)
          refine ze_iaddN C d_X_blocks_32 ?_
          refine ze_istore_n (lv' := [(1, .int (nI (t + (ze_sz ((T p).2.2.1))))), (2, .int (nI p)), (0, .ref (ad 0))]) C d_X_blocks_33 rfl (by decide) rfl ?_
          refine ze_iinc (j := 1) (v := nI (p + 1)) (lv' := [(2, .int (nI (p + 1))), (1, .int (nI (t + (ze_sz ((T p).2.2.1))))), (0, .ref (ad 0))]) C d_X_blocks_34 rfl (nI_1 _) (by decide) rfl ?_
          refine ze_goto 4 C d_X_blocks_37 (by decide) ?_
          refine ze_sub [(2, .int (nI (p + 1))), (1, .int (nI (t + ze_sz (T p).2.2.1))), (0, .ref (ad 0))] [0, 1, 2] rfl ?_
          exact ih (8 - (p + 1)) (by omega) (p + 1) _ rfl (by omega) (by rw [ze_bk_succ, h2, ze_bk, hL]; simp only [hL2.1]) (by omega)
  refine ze_iconst (v := nI 0) C d_X_blocks_0 (by decide) ?_
  refine ze_istore_n (lv' := [(1, .int (nI 0)), (0, .ref (ad 0))]) C d_X_blocks_1 rfl (by decide) rfl ?_
  refine ze_iconst (v := nI 0) C d_X_blocks_2 (by decide) ?_
  refine ze_istore_n (lv' := [(2, .int (nI 0)), (1, .int (nI 0)), (0, .ref (ad 0))]) C d_X_blocks_3 rfl (by decide) rfl ?_
  exact loop _ 0 0 rfl (by decide) rfl (Nat.le_refl _)

theorem ze_ord_no {σ : ze_Sg} {fr order into : Int32} {M : Nat} (h : order < 0 ∨ ¬ order ≤ nI 2) : sp_sort σ fr order into = (-1, σ) := by
  have : decide (0 ≤ order.toInt ∧ order.toInt ≤ 2) = false := by
    refine decide_eq_false ?_
    rw [Int32.lt_iff_toInt_lt, Int32.le_iff_toInt_le] at h
    simp only [show (0 : Int32).toInt = 0 from rfl, show (nI 2).toInt = 2 from rfl] at h
    omega
  simp [sp_sort, sp_op, this]
theorem ze_ord_yes {order : Int32} (h1 : ¬ order < 0) (h2 : order ≤ nI 2) : ∃ od, od ≤ 2 ∧ order = nI od := by
  obtain ⟨od, h3, rfl⟩ := nI_of h1
  rw [nI_leI h3 (by decide)] at h2
  exact ⟨od, h2, rfl⟩
theorem ze_sort_op {σ : ze_Sg} {fr into : Int32} {od : Nat} (h : od ≤ 2) : sp_sort σ fr (nI od) into = sp_op σ true fr fr into (fun A _ => (ze_srt od A, ze_sc σ.2.2.2 A.length)) := by
  have h1 : decide (0 ≤ (nI od).toInt ∧ (nI od).toInt ≤ 2) = true := decide_eq_true (by rw [nI_toInt (by omega)]; omega)
  rw [sp_sort, h1, ze_n_nI (by omega)]

set_option maxRecDepth 100000 in
set_option maxHeartbeats 4000000 in
theorem c_X_sort (l : Launch) (D : va_G) (ids : Nat → ClassId) (ad : Nat → Nat) (ms : ze_MS) (M : Nat) (T : Nat → ze_T) (hd : Nat → Bool) (mv : Int64) (inp : List ze_Row) (sl : Nat → Option (List ze_Row)) (hR : ze_rX (M, T, hd, mv) (inp, sl, mv, M)) (fr order into : Int32) : ze_MX l D ids ad ms y_X_sort ws_X_sort 20 (M, T, hd, mv) [.ref (ad 0), .int fr, .int order, .int into] (fun v x' => v = some (.int (sp_sort (inp, sl, mv, M) fr order into).1) ∧ ze_rX x' (sp_sort (inp, sl, mv, M) fr order into).2) := by
  refine ze_enter (cc := b_X_sort) (maxL := 6) (ret := (some .int)) (by decide +kernel) rfl (Nat.le_of_ble_eq_true rfl) ?_
  rintro G rfl rfl rfl - C Rt
  refine ze_lv (lv' := [(0, .ref (ad 0)), (1, .int fr), (2, .int order), (3, .int into)]) rfl ?_
  obtain ⟨-, hM3, hM6, -, hin, -, -⟩ := id hR
  simp only at hin hM3 hM6
  refine ze_iload_n C d_X_sort_0 2 rfl rfl ?_
  refine ze_if_lt 9 C d_X_sort_1 (by decide) (fun h1 => ?_) (fun h1 => ?_)
  · refine ze_iconst (v := -1) C d_X_sort_9 (by decide) ?_
    exact ze_iret C Rt d_X_sort_10 (⟨rfl, rfl, _, rfl, by rw [ze_ord_no (M := 0) (Or.inl h1)], by rw [ze_ord_no (M := 0) (Or.inl h1)]; exact hR⟩)
  · refine ze_iload_n C d_X_sort_4 2 rfl rfl ?_
    refine ze_iconst (v := nI 2) C d_X_sort_5 (by decide) ?_
    refine ze_icmp_le 11 C d_X_sort_6 (by decide) (fun h6 => ?_) (fun h6 => ?_)
    · obtain ⟨od, hod, rfl⟩ := ze_ord_yes h1 h6
      have hsp0 := ze_sort_op (σ := (inp, sl, mv, M)) (fr := fr) (into := into) hod
      refine ze_aload_n C d_X_sort_11 0 rfl rfl ?_
      refine ze_iload_n C d_X_sort_12 1 rfl rfl ?_
      refine ze_iload_n C d_X_sort_13 1 rfl rfl ?_
      refine ze_iload_n C d_X_sort_14 3 rfl rfl ?_
      refine ze_callV (st := []) C (c_X_refusalOf (ze_l G) (ze_D G) (ze_i G) ad ms M T hd mv fr fr into) (kv_X_90 (ze_rml (by decide) (by decide))) (by decide) ze_E_x rfl (Nat.le_of_ble_eq_true rfl) ⟨Nat.le_of_ble_eq_true rfl, Nat.le_of_ble_eq_true rfl⟩ d_X_sort_15 ?_
      rintro _ _ _ _ ⟨rfl, rfl, _, rfl, rfl, rfl⟩
      refine ze_norm (c2 := 0) (s2 := 0) (st' := [.int (ze_rf hd fr fr into)]) rfl rfl rfl ?_
      refine ze_istore (lv' := [(4, .int (ze_rf hd fr fr into)), (0, .ref (ad 0)), (1, .int fr), (2, .int (nI od)), (3, .int into)]) C d_X_sort_18 (by decide) rfl ?_
      refine ze_iload C d_X_sort_20 0 rfl ?_
      refine ze_if_eq 28 C d_X_sort_22 (by decide) (fun h22 => ?_) (fun h22 => ?_)
      · obtain ⟨ja, ji, A, hja, hji, rfl, rfl, hne, hA, hI, hHA, hop⟩ := ze_rf_01 hR h22
        have hcA : (T ja).2.2.1 = A.length := hHA.1
        have hA60 : A.length ≤ 60 := hHA.2.1
        refine ze_sub [(0, .ref (ad 0)), (1, .int (nI ja)), (2, .int (nI od)), (3, .int (nI ji))] [1, 2, 3, 4] rfl ?_
        have hsp : sp_sort (inp, sl, mv, M) (nI ja) (nI od) (nI ji) = sp_fin (inp, sl, mv, M) ji (ze_srt od A, ze_sc M A.length) := by rw [hsp0, hop]
        refine ze_aload_n C d_X_sort_28 0 rfl rfl ?_
        refine ze_getf C fl_X_24 (by decide) ze_E_x rfl d_X_sort_29 ?_
        refine ze_iload_n C d_X_sort_32 3 rfl rfl ?_
        refine ze_aald (k := 1) (i := ji) C (by decide) ze_E_tabs (by omega) (by decide) rfl d_X_sort_33 ?_
        refine ze_astore (lv' := [(5, .ref (ad (3 + 3 * ji))), (0, .ref (ad 0)), (1, .int (nI ja)), (2, .int (nI od)), (3, .int (nI ji))]) C d_X_sort_34 (by decide) rfl ?_
        refine ze_aload C d_X_sort_36 0 rfl ?_
        refine ze_aload_n C d_X_sort_38 1 rfl rfl ?_
        refine ze_getf C fl_X_24 (by decide) ze_E_x rfl d_X_sort_39 ?_
        refine ze_iload_n C d_X_sort_42 2 rfl rfl ?_
        refine ze_aald (k := 1) (i := ja) C (by decide) ze_E_tabs (by omega) (by decide) rfl d_X_sort_43 ?_
        refine ze_eqE (ze_foc ji) ?_
        refine ze_callV (st := []) C (c_T_copyFrom (ze_l G) (ze_D G) (ze_i G) ad ms M T hd mv ji (by omega) (T ji).1 (T ji).2.1 (T ji).2.2.1 (T ji).2.2.2 ja (by omega) (by omega) (by omega)) (kv_X_61 (ze_rml (by decide) (by decide))) (by omega) (ze_F_t (i := ji) (by omega)) rfl (Nat.le_of_ble_eq_true rfl) ⟨Nat.le_of_ble_eq_true rfl, Nat.le_of_ble_eq_true rfl⟩ d_X_sort_44 ?_
        rintro _ _ _ _ ⟨rfl, rfl, _, rfl, rfl, rfl⟩
        refine ze_genT (fun T1 eT1 => ?_)
        refine ze_norm (c2 := 0) (s2 := 0) (st' := []) rfl rfl rfl ?_
        obtain ⟨hH1, ho1⟩ := ze_H_cpy hHA eT1
        have hR1 := ze_rX_wk hR (by omega) (fun _ => hI) (ze_upo eT1)
        have hc1 : (T1 ji).2.2.1 = A.length := hH1.1
        refine ze_aload C d_X_sort_47 0 rfl ?_
        refine ze_iload_n C d_X_sort_49 3 rfl rfl ?_
        refine ze_eqE (ze_foc ji) ?_
        refine ze_callV (st := []) C (c_T_arrange (ze_l G) (ze_D G) (ze_i G) ad ms M T1 hd mv ji (by omega) (T1 ji).1 (T1 ji).2.1 (T1 ji).2.2.1 (T1 ji).2.2.2 A hH1 (by omega) od hod) (kv_X_94 (ze_rml (by decide) (by decide))) (by omega) (ze_F_t (i := ji) (by omega)) rfl (Nat.le_of_ble_eq_true rfl) ⟨Nat.le_of_ble_eq_true rfl, Nat.le_of_ble_eq_true rfl⟩ d_X_sort_50 ?_
        rintro _ _ _ _ ⟨rfl, rfl, _, rfl, rfl, f2, g2, rfl, hs2⟩
        refine ze_genT (fun T2 eT2 => ?_)
        refine ze_norm (c2 := 0) (s2 := 0) (st' := []) rfl rfl rfl ?_
        have hH2 : ze_H (T2 ji) (ze_srt od A) := by rw [ze_ups eT2]; exact hs2
        have ho2 : (T2 ji).2.2.2 = false := by rw [ze_ups eT2]; exact ho1
        have hR2 := ze_rX_wk hR1 (by omega) (fun _ => hI) (ze_upo eT2)
        have hc2 : (T2 ji).2.2.1 = A.length := by rw [hH2.1, ze_srt_len]
        refine ze_aload_n C d_X_sort_53 1 rfl rfl ?_
        refine ze_iload_n C d_X_sort_54 4 rfl rfl ?_
        refine ze_aload_n C d_X_sort_55 1 rfl rfl ?_
        refine ze_aload C d_X_sort_56 0 rfl ?_
        refine ze_getf (k := 3 + 3 * ji) C fl_X_50 (by omega) (ze_E_t (i := ji) (by omega)) rfl d_X_sort_58 ?_
        refine ze_callV (st := [.int (nI ji), .ref (ad 0)]) C (c_X_sortCost (ze_l G) (ze_D G) (ze_i G) ad ms M T2 hd mv ⟨hM3, hM6⟩ (T2 ji).2.2.1 (by omega)) (kv_X_98 (ze_rml (by decide) (by decide))) (by decide) ze_E_x rfl (Nat.le_of_ble_eq_true rfl) ⟨Nat.le_of_ble_eq_true rfl, Nat.le_of_ble_eq_true rfl⟩ d_X_sort_61 ?_
        rintro _ _ _ _ ⟨rfl, rfl, _, rfl, rfl, rfl⟩
        refine ze_norm (c2 := 0) (s2 := 0) (st' := [.long (lN (ze_sc M (T2 ji).2.2.1)), .int (nI ji), .ref (ad 0)]) rfl rfl rfl ?_
        refine ze_callV (st := []) C (c_X_finish (ze_l G) (ze_D G) (ze_i G) ad ms M T2 hd mv ji (by omega) (lN (ze_sc M (T2 ji).2.2.1))) (kv_X_72 (ze_rml (by decide) (by decide))) (by decide) ze_E_x rfl (Nat.le_of_ble_eq_true rfl) ⟨Nat.le_of_ble_eq_true rfl, Nat.le_of_ble_eq_true rfl⟩ d_X_sort_64 ?_
        rintro _ _ _ _ ⟨rfl, rfl, x', rfl, hfin⟩
        obtain ⟨r, rfl, hr1, hr2⟩ := ze_op_end (q := (ze_srt od A, ze_sc M A.length)) hR2 hji (ze_H_Hu hH2 ho2) (fun _ => by rw [hc2]) hfin
        refine ze_norm (c2 := 0) (s2 := 0) (st' := [.int r]) rfl rfl rfl ?_
        exact ze_iret C Rt d_X_sort_67 ⟨rfl, rfl, _, rfl, by rw [hsp, hr1], by rw [hsp]; exact hr2⟩
      · refine ze_iload C d_X_sort_25 0 rfl ?_
        exact ze_iret C Rt d_X_sort_27 (⟨rfl, rfl, _, rfl, by rw [hsp0, ze_rf_ne hR h22], by rw [hsp0, ze_rf_ne hR h22]; exact hR⟩)
    · refine ze_iconst (v := -1) C d_X_sort_9 (by decide) ?_
      exact ze_iret C Rt d_X_sort_10 (⟨rfl, rfl, _, rfl, by rw [ze_ord_no (M := 0) (Or.inr h6)], by rw [ze_ord_no (M := 0) (Or.inr h6)]; exact hR⟩)

set_option maxRecDepth 100000 in
set_option maxHeartbeats 4000000 in
theorem c_X_distinct (l : Launch) (D : va_G) (ids : Nat → ClassId) (ad : Nat → Nat) (ms : ze_MS) (M : Nat) (T : Nat → ze_T) (hd : Nat → Bool) (mv : Int64) (inp : List ze_Row) (sl : Nat → Option (List ze_Row)) (hR : ze_rX (M, T, hd, mv) (inp, sl, mv, M)) (fr into : Int32) : ze_MX l D ids ad ms y_X_distinct ws_X_distinct 20 (M, T, hd, mv) [.ref (ad 0), .int fr, .int into] (fun v x' => v = some (.int (sp_distinct (inp, sl, mv, M) fr into).1) ∧ ze_rX x' (sp_distinct (inp, sl, mv, M) fr into).2) := by
  refine ze_enter (cc := b_X_distinct) (maxL := 6) (ret := (some .int)) (by decide +kernel) rfl (Nat.le_of_ble_eq_true rfl) ?_
  rintro G rfl rfl rfl - C Rt
  refine ze_lv (lv' := [(0, .ref (ad 0)), (1, .int fr), (2, .int into)]) rfl ?_
  obtain ⟨-, hM3, hM6, -, hin, -, -⟩ := id hR
  simp only at hin hM3 hM6
  refine ze_aload_n C d_X_distinct_0 0 rfl rfl ?_
  refine ze_iload_n C d_X_distinct_1 1 rfl rfl ?_
  refine ze_iload_n C d_X_distinct_2 1 rfl rfl ?_
  refine ze_iload_n C d_X_distinct_3 2 rfl rfl ?_
  refine ze_callV (st := []) C (c_X_refusalOf (ze_l G) (ze_D G) (ze_i G) ad ms M T hd mv fr fr into) (kv_X_90 (ze_rml (by decide) (by decide))) (by decide) ze_E_x rfl (Nat.le_of_ble_eq_true rfl) ⟨Nat.le_of_ble_eq_true rfl, Nat.le_of_ble_eq_true rfl⟩ d_X_distinct_4 ?_
  rintro _ _ _ _ ⟨rfl, rfl, _, rfl, rfl, rfl⟩
  refine ze_norm (c2 := 0) (s2 := 0) (st' := [.int (ze_rf hd fr fr into)]) rfl rfl rfl ?_
  refine ze_istore_n (lv' := [(3, .int (ze_rf hd fr fr into)), (0, .ref (ad 0)), (1, .int fr), (2, .int into)]) C d_X_distinct_7 rfl (by decide) rfl ?_
  refine ze_iload_n C d_X_distinct_8 0 rfl rfl ?_
  refine ze_if_eq 14 C d_X_distinct_9 (by decide) (fun h9 => ?_) (fun h9 => ?_)
  · obtain ⟨ja, ji, A, hja, hji, rfl, rfl, hne, hA, hI, hHA, hop⟩ := ze_rf_01 hR h9
    have hcA : (T ja).2.2.1 = A.length := hHA.1
    have hA60 : A.length ≤ 60 := hHA.2.1
    refine ze_sub [(0, .ref (ad 0)), (1, .int (nI ja)), (2, .int (nI ji))] [1, 2, 3] rfl ?_
    have hsp : sp_distinct (inp, sl, mv, M) (nI ja) (nI ji) = sp_fin (inp, sl, mv, M) ji (ze_un A A, ze_sc M A.length + ze_sz A.length + ze_sz (ze_un A A).length) := by rw [sp_distinct, hop]
    refine ze_aload_n C d_X_distinct_14 0 rfl rfl ?_
    refine ze_getf C fl_X_24 (by decide) ze_E_x rfl d_X_distinct_15 ?_
    refine ze_iload_n C d_X_distinct_18 2 rfl rfl ?_
    refine ze_aald (k := 1) (i := ji) C (by decide) ze_E_tabs (by omega) (by decide) rfl d_X_distinct_19 ?_
    refine ze_astore (lv' := [(4, .ref (ad (3 + 3 * ji))), (0, .ref (ad 0)), (1, .int (nI ja)), (2, .int (nI ji))]) C d_X_distinct_20 (by decide) rfl ?_
    refine ze_aload C d_X_distinct_22 0 rfl ?_
    refine ze_aload_n C d_X_distinct_24 1 rfl rfl ?_
    refine ze_getf C fl_X_24 (by decide) ze_E_x rfl d_X_distinct_25 ?_
    refine ze_iload_n C d_X_distinct_28 2 rfl rfl ?_
    refine ze_aald (k := 1) (i := ja) C (by decide) ze_E_tabs (by omega) (by decide) rfl d_X_distinct_29 ?_
    refine ze_eqE (ze_foc ji) ?_
    refine ze_callV (st := []) C (c_T_copyFrom (ze_l G) (ze_D G) (ze_i G) ad ms M T hd mv ji (by omega) (T ji).1 (T ji).2.1 (T ji).2.2.1 (T ji).2.2.2 ja (by omega) (by omega) (by omega)) (kv_X_61 (ze_rml (by decide) (by decide))) (by omega) (ze_F_t (i := ji) (by omega)) rfl (Nat.le_of_ble_eq_true rfl) ⟨Nat.le_of_ble_eq_true rfl, Nat.le_of_ble_eq_true rfl⟩ d_X_distinct_30 ?_
    rintro _ _ _ _ ⟨rfl, rfl, _, rfl, rfl, rfl⟩
    refine ze_genT (fun T1 eT1 => ?_)
    refine ze_norm (c2 := 0) (s2 := 0) (st' := []) rfl rfl rfl ?_
    obtain ⟨hH1, ho1⟩ := ze_H_cpy hHA eT1
    have hR1 := ze_rX_wk hR (by omega) (fun _ => hI) (ze_upo eT1)
    have hc1 : (T1 ji).2.2.1 = A.length := hH1.1
    refine ze_aload C d_X_distinct_33 0 rfl ?_
    refine ze_iconst (v := nI 2) C d_X_distinct_35 (by decide) ?_
    refine ze_eqE (ze_foc ji) ?_
    refine ze_callV (st := []) C (c_T_arrange (ze_l G) (ze_D G) (ze_i G) ad ms M T1 hd mv ji (by omega) (T1 ji).1 (T1 ji).2.1 (T1 ji).2.2.1 (T1 ji).2.2.2 A hH1 (by omega) 2 (by decide)) (kv_X_94 (ze_rml (by decide) (by decide))) (by omega) (ze_F_t (i := ji) (by omega)) rfl (Nat.le_of_ble_eq_true rfl) ⟨Nat.le_of_ble_eq_true rfl, Nat.le_of_ble_eq_true rfl⟩ d_X_distinct_36 ?_
    rintro _ _ _ _ ⟨rfl, rfl, _, rfl, rfl, f2, g2, rfl, hs2⟩
    refine ze_genT (fun T2 eT2 => ?_)
    refine ze_norm (c2 := 0) (s2 := 0) (st' := []) rfl rfl rfl ?_
    have hH2 : ze_H (T2 ji) (ze_srt 2 A) := by rw [ze_ups eT2]; exact hs2
    have ho2 : (T2 ji).2.2.2 = false := by rw [ze_ups eT2]; exact ho1
    have hR2 := ze_rX_wk hR1 (by omega) (fun _ => hI) (ze_upo eT2)
    have hc2 : (T2 ji).2.2.1 = A.length := by rw [hH2.1, ze_srt_len]
    refine ze_aload C d_X_distinct_39 0 rfl ?_
    refine ze_eqE (ze_foc ji) ?_
    refine ze_callV (st := []) C (c_T_dropRepeats (ze_l G) (ze_D G) (ze_i G) ad ms M T2 hd mv ji (by omega) (T2 ji).1 (T2 ji).2.1 (T2 ji).2.2.1 (T2 ji).2.2.2 (ze_srt 2 A) hH2 (by omega)) (kv_X_102 (ze_rml (by decide) (by decide))) (by omega) (ze_F_t (i := ji) (by omega)) rfl (Nat.le_of_ble_eq_true rfl) ⟨Nat.le_of_ble_eq_true rfl, Nat.le_of_ble_eq_true rfl⟩ d_X_distinct_41 ?_
    rintro _ _ _ _ ⟨rfl, rfl, _, rfl, rfl, f3, g3, rfl, hs3⟩
    refine ze_genT (fun T3 eT3 => ?_)
    refine ze_norm (c2 := 0) (s2 := 0) (st' := []) rfl rfl rfl ?_
    have hH3 : ze_H (T3 ji) (ze_un A A) := by rw [ze_ups eT3, ze_un_self]; exact hs3
    have ho3 : (T3 ji).2.2.2 = false := by rw [ze_ups eT3]; exact ho2
    have hR3 := ze_rX_wk hR2 (by omega) (fun _ => hI) (ze_upo eT3)
    have hc3 : (T3 ji).2.2.1 = (ze_un A A).length := hH3.1
    have hc60 : (ze_un A A).length ≤ 60 := hH3.2.1
    have ea : (T3 ja).2.2.1 = A.length := by rw [ze_upo eT3 ja (by omega), ze_upo eT2 ja (by omega), ze_upo eT1 ja (by omega)]; exact hcA
    refine ze_aload_n C d_X_distinct_44 1 rfl rfl ?_
    refine ze_getf C fl_X_24 (by decide) ze_E_x rfl d_X_distinct_45 ?_
    refine ze_iload_n C d_X_distinct_48 2 rfl rfl ?_
    refine ze_aald (k := 1) (i := ja) C (by decide) ze_E_tabs (by omega) (by decide) rfl d_X_distinct_49 ?_
    refine ze_getf (k := 3 + 3 * ja) C fl_X_50 (by omega) (ze_E_t (i := ja) (by omega)) rfl d_X_distinct_50 ?_
    refine ze_istore (lv' := [(5, .int (nI ((T3 ja).2.2.1))), (4, .ref (ad (3 + 3 * ji))), (0, .ref (ad 0)), (1, .int (nI ja)), (2, .int (nI ji))]) C d_X_distinct_53 (by decide) rfl ?_
    refine ze_aload_n C d_X_distinct_55 2 rfl rfl ?_
    refine ze_iload_n C d_X_distinct_56 4 rfl rfl ?_
    refine ze_aload_n C d_X_distinct_57 2 rfl rfl ?_
    refine ze_iload C d_X_distinct_58 0 rfl ?_
    refine ze_callV (st := [.int (nI ji), .ref (ad 0)]) C (c_X_sortCost (ze_l G) (ze_D G) (ze_i G) ad ms M T3 hd mv ⟨hM3, hM6⟩ (T3 ja).2.2.1 (by omega)) (kv_X_98 (ze_rml (by decide) (by decide))) (by decide) ze_E_x rfl (Nat.le_of_ble_eq_true rfl) ⟨Nat.le_of_ble_eq_true rfl, Nat.le_of_ble_eq_true rfl⟩ d_X_distinct_60 ?_
    rintro _ _ _ _ ⟨rfl, rfl, _, rfl, rfl, rfl⟩
    refine ze_norm (c2 := 0) (s2 := 0) (st' := [.long (lN (ze_sc M (T3 ja).2.2.1)), .int (nI ji), .ref (ad 0)]) rfl rfl rfl ?_
    refine ze_iload C d_X_distinct_63 0 rfl ?_
    refine ze_callS (st := [.long (lN (ze_sc M (T3 ja).2.2.1)), .int (nI ji), .ref (ad 0)]) C (c_X_sizeOf (ze_l G) (ze_D G) (ze_i G) _ _ _ ((T3 ja).2.2.1) (by omega)) (ks_X_68 (ze_rml (by decide) (by decide))) rfl (Nat.le_of_ble_eq_true rfl) ⟨Nat.le_of_ble_eq_true rfl, Nat.le_of_ble_eq_true rfl⟩ d_X_distinct_65 ?_
    rintro _ _ _ _ ⟨rfl, rfl, rfl, rfl⟩
    refine ze_norm (c2 := 0) (s2 := 0) (st' := [.int (nI (ze_sz ((T3 ja).2.2.1))), .long (lN (ze_sc M (T3 ja).2.2.1)), .int (nI ji), .ref (ad 0)]) rfl rfl rfl ?_
    have hz65 := ze_sz_le ((T3 ja).2.2.1)
    refine ze_i2lN C d_X_distinct_68 (by omega) ?_
    refine ze_laddN C d_X_distinct_69 ?_
    refine ze_aload C d_X_distinct_70 1 rfl ?_
    refine ze_getf (k := 3 + 3 * ji) C fl_X_50 (by omega) (ze_E_t (i := ji) (by omega)) rfl d_X_distinct_72 ?_
    refine ze_callS (st := [.long (lN (ze_sc M (T3 ja).2.2.1 + (ze_sz ((T3 ja).2.2.1)))), .int (nI ji), .ref (ad 0)]) C (c_X_sizeOf (ze_l G) (ze_D G) (ze_i G) _ _ _ ((T3 ji).2.2.1) (by omega)) (ks_X_68 (ze_rml (by decide) (by decide))) rfl (Nat.le_of_ble_eq_true rfl) ⟨Nat.le_of_ble_eq_true rfl, Nat.le_of_ble_eq_true rfl⟩ d_X_distinct_75 ?_
    rintro _ _ _ _ ⟨rfl, rfl, rfl, rfl⟩
    refine ze_norm (c2 := 0) (s2 := 0) (st' := [.int (nI (ze_sz ((T3 ji).2.2.1))), .long (lN (ze_sc M (T3 ja).2.2.1 + (ze_sz ((T3 ja).2.2.1)))), .int (nI ji), .ref (ad 0)]) rfl rfl rfl ?_
    have hz75 := ze_sz_le ((T3 ji).2.2.1)
    refine ze_i2lN C d_X_distinct_78 (by omega) ?_
    refine ze_laddN C d_X_distinct_79 ?_
    refine ze_callV (st := []) C (c_X_finish (ze_l G) (ze_D G) (ze_i G) ad ms M T3 hd mv ji (by omega) (lN (ze_sc M (T3 ja).2.2.1 + (ze_sz ((T3 ja).2.2.1)) + (ze_sz ((T3 ji).2.2.1))))) (kv_X_72 (ze_rml (by decide) (by decide))) (by decide) ze_E_x rfl (Nat.le_of_ble_eq_true rfl) ⟨Nat.le_of_ble_eq_true rfl, Nat.le_of_ble_eq_true rfl⟩ d_X_distinct_80 ?_
    rintro _ _ _ _ ⟨rfl, rfl, x', rfl, hfin⟩
    obtain ⟨r, rfl, hr1, hr2⟩ := ze_op_end (q := (ze_un A A, ze_sc M A.length + ze_sz A.length + ze_sz (ze_un A A).length)) hR3 hji (ze_H_Hu hH3 ho3) (fun _ => by rw [hc3, ea]) hfin
    refine ze_norm (c2 := 0) (s2 := 0) (st' := [.int r]) rfl rfl rfl ?_
    exact ze_iret C Rt d_X_distinct_83 ⟨rfl, rfl, _, rfl, by rw [hsp, hr1], by rw [hsp]; exact hr2⟩
  · refine ze_iload_n C d_X_distinct_12 0 rfl rfl ?_
    exact ze_iret C Rt d_X_distinct_13 (⟨rfl, rfl, _, rfl, by rw [sp_distinct, ze_rf_ne hR h9], by rw [sp_distinct, ze_rf_ne hR h9]; exact hR⟩)

theorem ze_sel_snoc (low high : Int32) (A : List ze_Row) (r : ze_Row) : ze_sel low high (A ++ [r]) = if low ≤ r.1 ∧ r.1 ≤ high then ze_sel low high A ++ [r] else ze_sel low high A := by
  unfold ze_sel
  rw [List.filter_append]
  by_cases h : low ≤ r.1 ∧ r.1 ≤ high
  · rw [if_pos h]; simp [h]
  · rw [if_neg h]; simp [h]
theorem ze_take_snoc {t : ze_T} {A : List ze_Row} {p : Nat} (h : ze_H t A) (hp : p < A.length) : A.take (p + 1) = A.take p ++ [(t.1 p, t.2.1 p)] := by
  rw [List.take_succ, ze_H_row h hp]
  rfl

set_option maxRecDepth 100000 in
set_option maxHeartbeats 4000000 in
theorem c_X_select (l : Launch) (D : va_G) (ids : Nat → ClassId) (ad : Nat → Nat) (ms : ze_MS) (M : Nat) (T : Nat → ze_T) (hd : Nat → Bool) (mv : Int64) (inp : List ze_Row) (sl : Nat → Option (List ze_Row)) (hR : ze_rX (M, T, hd, mv) (inp, sl, mv, M)) (fr low high into : Int32) : ze_MX l D ids ad ms y_X_select ws_X_select 20 (M, T, hd, mv) [.ref (ad 0), .int fr, .int low, .int high, .int into] (fun v x' => v = some (.int (sp_select (inp, sl, mv, M) fr low high into).1) ∧ ze_rX x' (sp_select (inp, sl, mv, M) fr low high into).2) := by
  refine ze_enter (cc := b_X_select) (maxL := 9) (ret := (some .int)) (by decide +kernel) rfl (Nat.le_of_ble_eq_true rfl) ?_
  rintro G rfl rfl rfl - C Rt
  refine ze_lv (lv' := [(0, .ref (ad 0)), (1, .int fr), (2, .int low), (3, .int high), (4, .int into)]) rfl ?_
  obtain ⟨-, hM3, hM6, -, hin, -, -⟩ := id hR
  simp only at hin hM3 hM6
  refine ze_aload_n C d_X_select_0 0 rfl rfl ?_
  refine ze_iload_n C d_X_select_1 1 rfl rfl ?_
  refine ze_iload_n C d_X_select_2 1 rfl rfl ?_
  refine ze_iload C d_X_select_3 4 rfl ?_
  refine ze_callV (st := []) C (c_X_refusalOf (ze_l G) (ze_D G) (ze_i G) ad ms M T hd mv fr fr into) (kv_X_90 (ze_rml (by decide) (by decide))) (by decide) ze_E_x rfl (Nat.le_of_ble_eq_true rfl) ⟨Nat.le_of_ble_eq_true rfl, Nat.le_of_ble_eq_true rfl⟩ d_X_select_5 ?_
  rintro _ _ _ _ ⟨rfl, rfl, _, rfl, rfl, rfl⟩
  refine ze_norm (c2 := 0) (s2 := 0) (st' := [.int (ze_rf hd fr fr into)]) rfl rfl rfl ?_
  refine ze_istore (lv' := [(5, .int (ze_rf hd fr fr into)), (0, .ref (ad 0)), (1, .int fr), (2, .int low), (3, .int high), (4, .int into)]) C d_X_select_8 (by decide) rfl ?_
  refine ze_iload C d_X_select_10 0 rfl ?_
  refine ze_if_eq 18 C d_X_select_12 (by decide) (fun h12 => ?_) (fun h12 => ?_)
  · obtain ⟨ja, ji, A, hja, hji, rfl, rfl, hne, hA, hI, hHA, hop⟩ := ze_rf_01 hR h12
    have hcA : (T ja).2.2.1 = A.length := hHA.1
    have hA60 : A.length ≤ 60 := hHA.2.1
    refine ze_sub [(0, .ref (ad 0)), (1, .int (nI ja)), (2, .int low), (3, .int high), (4, .int (nI ji))] [1, 2, 3, 4, 5] rfl ?_
    have hsp : sp_select (inp, sl, mv, M) (nI ja) low high (nI ji) = sp_fin (inp, sl, mv, M) ji (ze_sel low high A, ze_sz A.length + ze_sz (ze_sel low high A).length) := by rw [sp_select, hop]
    refine ze_aload_n C d_X_select_18 0 rfl rfl ?_
    refine ze_getf C fl_X_24 (by decide) ze_E_x rfl d_X_select_19 ?_
    refine ze_iload_n C d_X_select_22 1 rfl rfl ?_
    refine ze_aald (k := 1) (i := ja) C (by decide) ze_E_tabs (by omega) (by decide) rfl d_X_select_23 ?_
    refine ze_astore (lv' := [(6, .ref (ad (3 + 3 * ja))), (0, .ref (ad 0)), (1, .int (nI ja)), (2, .int low), (3, .int high), (4, .int (nI ji))]) C d_X_select_24 (by decide) rfl ?_
    refine ze_aload_n C d_X_select_26 1 rfl rfl ?_
    refine ze_getf C fl_X_24 (by decide) ze_E_x rfl d_X_select_27 ?_
    refine ze_iload C d_X_select_30 5 rfl ?_
    refine ze_aald (k := 1) (i := ji) C (by decide) ze_E_tabs (by omega) (by decide) rfl d_X_select_32 ?_
    refine ze_astore (lv' := [(7, .ref (ad (3 + 3 * ji))), (6, .ref (ad (3 + 3 * ja))), (0, .ref (ad 0)), (1, .int (nI ja)), (2, .int low), (3, .int high), (4, .int (nI ji))]) C d_X_select_33 (by decide) rfl ?_
    refine ze_aload C d_X_select_35 0 rfl ?_
    refine ze_eqE (ze_foc ji) ?_
    refine ze_callV (st := []) C (c_T_clear (ze_l G) (ze_D G) (ze_i G) ad ms M T hd mv ji (by omega) (T ji).1 (T ji).2.1 (T ji).2.2.1 (T ji).2.2.2 ) (kv_X_65 (ze_rml (by decide) (by decide))) (by omega) (ze_F_t (i := ji) (by omega)) rfl (Nat.le_of_ble_eq_true rfl) ⟨Nat.le_of_ble_eq_true rfl, Nat.le_of_ble_eq_true rfl⟩ d_X_select_37 ?_
    rintro _ _ _ _ ⟨rfl, rfl, _, rfl, rfl, rfl⟩
    refine ze_genT (fun T1 eT1 => ?_)
    refine ze_norm (c2 := 0) (s2 := 0) (st' := []) rfl rfl rfl ?_
    refine ze_iconst (v := nI 0) C d_X_select_40 (by decide) ?_
    refine ze_istore (lv' := [(8, .int (nI 0)), (7, .ref (ad (3 + 3 * ji))), (6, .ref (ad (3 + 3 * ja))), (0, .ref (ad 0)), (1, .int (nI ja)), (2, .int low), (3, .int high), (4, .int (nI ji))]) C d_X_select_41 (by decide) rfl ?_
    refine ze_sub [(8, .int (nI 0)), (7, .ref (ad (3 + 3 * ji))), (6, .ref (ad (3 + 3 * ja))), (0, .ref (ad 0)), (1, .int (nI ja)), (2, .int low), (3, .int high), (4, .int (nI ji))] [0, 1, 2, 3, 4, 5, 6, 7] rfl ?_
    have loop : ∀ (r p : Nat) (T2 : Nat → ze_T), A.length - p = r → p ≤ A.length → (∀ q, q ≠ ji → T2 q = T q) → ze_Hu (T2 ji) (ze_sel low high (A.take p)) → ze_V G 48 ad (ze_E (ze_i G) ad (M, T2, hd, mv) ms) 0 0 43 [(8, .int (nI p)), (7, .ref (ad (3 + 3 * ji))), (6, .ref (ad (3 + 3 * ja))), (0, .ref (ad 0)), (1, .int (nI ja)), (2, .int low), (3, .int high), (4, .int (nI ji))] [] := by
      intro r
      induction r using Nat.strongRecOn with
      | ind r ih =>
        intro p T2 hr g1 g2 g3
        have eA := g2 ja (by omega)
        have hHA2 : ze_H (T2 ja) A := by rw [eA]; exact hHA
        have hc2 : (T2 ja).2.2.1 = A.length := hHA2.1
        have hm2 := ze_Hu_le g3
        refine ze_iload C d_X_select_43 0 rfl ?_
        refine ze_aload C d_X_select_45 2 rfl ?_
        refine ze_getf (k := 3 + 3 * ja) C fl_X_50 (by omega) (ze_E_t (i := ja) (by omega)) rfl d_X_select_47 ?_
        refine ze_icmp_geN 104 C d_X_select_50 (by decide) (by omega) (by omega) (fun h50 => ?_) (fun h50 => ?_)
        · rw [List.take_of_length_le (by omega)] at g3
          have hR2 := ze_rX_wk hR (by omega) (fun _ => hI) g2
          refine ze_aload_n C d_X_select_104 3 rfl rfl ?_
          refine ze_iload C d_X_select_105 7 rfl ?_
          refine ze_aload C d_X_select_107 2 rfl ?_
          refine ze_getf (k := 3 + 3 * ja) C fl_X_50 (by omega) (ze_E_t (i := ja) (by omega)) rfl d_X_select_109 ?_
          refine ze_callS (st := [.int (nI ji), .ref (ad 0)]) C (c_X_sizeOf (ze_l G) (ze_D G) (ze_i G) _ _ _ ((T2 ja).2.2.1) (by omega)) (ks_X_68 (ze_rml (by decide) (by decide))) rfl (Nat.le_of_ble_eq_true rfl) ⟨Nat.le_of_ble_eq_true rfl, Nat.le_of_ble_eq_true rfl⟩ d_X_select_112 ?_
          rintro _ _ _ _ ⟨rfl, rfl, rfl, rfl⟩
          refine ze_norm (c2 := 0) (s2 := 0) (st' := [.int (nI (ze_sz ((T2 ja).2.2.1))), .int (nI ji), .ref (ad 0)]) rfl rfl rfl ?_
          have hz112 := ze_sz_le ((T2 ja).2.2.1)
          refine ze_aload C d_X_select_115 1 rfl ?_
          refine ze_getf (k := 3 + 3 * ji) C fl_X_50 (by omega) (ze_E_t (i := ji) (by omega)) rfl d_X_select_117 ?_
          refine ze_callS (st := [.int (nI (ze_sz ((T2 ja).2.2.1))), .int (nI ji), .ref (ad 0)]) C (c_X_sizeOf (ze_l G) (ze_D G) (ze_i G) _ _ _ ((T2 ji).2.2.1) (by omega)) (ks_X_68 (ze_rml (by decide) (by decide))) rfl (Nat.le_of_ble_eq_true rfl) ⟨Nat.le_of_ble_eq_true rfl, Nat.le_of_ble_eq_true rfl⟩ d_X_select_120 ?_
          rintro _ _ _ _ ⟨rfl, rfl, rfl, rfl⟩
          refine ze_norm (c2 := 0) (s2 := 0) (st' := [.int (nI (ze_sz ((T2 ji).2.2.1))), .int (nI (ze_sz ((T2 ja).2.2.1))), .int (nI ji), .ref (ad 0)]) rfl rfl rfl ?_
          have hz120 := ze_sz_le ((T2 ji).2.2.1)
          refine ze_iaddN C d_X_select_123 ?_
          refine ze_i2lN C d_X_select_124 (by omega) ?_
          refine ze_callV (st := []) C (c_X_finish (ze_l G) (ze_D G) (ze_i G) ad ms M T2 hd mv ji (by omega) (lN (ze_sz ((T2 ja).2.2.1) + (ze_sz ((T2 ji).2.2.1))))) (kv_X_72 (ze_rml (by decide) (by decide))) (by decide) ze_E_x rfl (Nat.le_of_ble_eq_true rfl) ⟨Nat.le_of_ble_eq_true rfl, Nat.le_of_ble_eq_true rfl⟩ d_X_select_125 ?_
          rintro _ _ _ _ ⟨rfl, rfl, x', rfl, hfin⟩
          obtain ⟨r, rfl, hr1, hr2⟩ := ze_op_end (q := (ze_sel low high A, ze_sz A.length + ze_sz (ze_sel low high A).length)) hR2 hji g3 (fun z => by rw [hc2, (ze_Hu_H g3 z).1]) hfin
          refine ze_norm (c2 := 0) (s2 := 0) (st' := [.int r]) rfl rfl rfl ?_
          exact ze_iret C Rt d_X_select_128 ⟨rfl, rfl, _, rfl, by rw [hsp, hr1], by rw [hsp]; exact hr2⟩
        · refine ze_iload_n C d_X_select_53 5 rfl rfl ?_
          refine ze_aload C d_X_select_54 2 rfl ?_
          refine ze_getf (k := 3 + 3 * ja) C fl_X_83 (by omega) (ze_E_t (i := ja) (by omega)) rfl d_X_select_56 ?_
          refine ze_iload C d_X_select_59 0 rfl ?_
          refine ze_iald (k := 4 + 3 * ja) (i := p) C (by omega) (ze_E_k (i := ja) (by omega)) (by omega) (by decide) d_X_select_61 ?_
          refine ze_icmp_gt 98 C d_X_select_62 (by decide) (fun h62 => ?_) (fun h62 => ?_)
          · refine ze_iinc (j := 0) (v := nI (p + 1)) (lv' := [(8, .int (nI (p + 1))), (7, .ref (ad (3 + 3 * ji))), (6, .ref (ad (3 + 3 * ja))), (0, .ref (ad 0)), (1, .int (nI ja)), (2, .int low), (3, .int high), (4, .int (nI ji))]) C d_X_select_98 rfl (nI_1 _) (by decide) rfl ?_
            refine ze_goto 43 C d_X_select_101 (by decide) ?_
            refine ze_sub [(8, .int (nI (p + 1))), (7, .ref (ad (3 + 3 * ji))), (6, .ref (ad (3 + 3 * ja))), (0, .ref (ad 0)), (1, .int (nI ja)), (2, .int low), (3, .int high), (4, .int (nI ji))] [0, 1, 2, 3, 4, 5, 6, 7] rfl ?_
            exact ih (A.length - (p + 1)) (by omega) (p + 1) T2 rfl (by omega) g2 (by rw [ze_take_snoc hHA2 (by omega), ze_sel_snoc, if_neg (fun z => absurd z.1 (Int32.not_le.mpr h62))]; exact g3)
          · refine ze_aload C d_X_select_65 2 rfl ?_
            refine ze_getf (k := 3 + 3 * ja) C fl_X_83 (by omega) (ze_E_t (i := ja) (by omega)) rfl d_X_select_67 ?_
            refine ze_iload C d_X_select_70 0 rfl ?_
            refine ze_iald (k := 4 + 3 * ja) (i := p) C (by omega) (ze_E_k (i := ja) (by omega)) (by omega) (by decide) d_X_select_72 ?_
            refine ze_iload_n C d_X_select_73 6 rfl rfl ?_
            refine ze_icmp_gt 98 C d_X_select_74 (by decide) (fun h74 => ?_) (fun h74 => ?_)
            · refine ze_iinc (j := 0) (v := nI (p + 1)) (lv' := [(8, .int (nI (p + 1))), (7, .ref (ad (3 + 3 * ji))), (6, .ref (ad (3 + 3 * ja))), (0, .ref (ad 0)), (1, .int (nI ja)), (2, .int low), (3, .int high), (4, .int (nI ji))]) C d_X_select_98 rfl (nI_1 _) (by decide) rfl ?_
              refine ze_goto 43 C d_X_select_101 (by decide) ?_
              refine ze_sub [(8, .int (nI (p + 1))), (7, .ref (ad (3 + 3 * ji))), (6, .ref (ad (3 + 3 * ja))), (0, .ref (ad 0)), (1, .int (nI ja)), (2, .int low), (3, .int high), (4, .int (nI ji))] [0, 1, 2, 3, 4, 5, 6, 7] rfl ?_
              exact ih (A.length - (p + 1)) (by omega) (p + 1) T2 rfl (by omega) g2 (by rw [ze_take_snoc hHA2 (by omega), ze_sel_snoc, if_neg (fun z => absurd z.2 (Int32.not_le.mpr h74))]; exact g3)
            · refine ze_aload C d_X_select_77 1 rfl ?_
              refine ze_aload C d_X_select_79 2 rfl ?_
              refine ze_getf (k := 3 + 3 * ja) C fl_X_83 (by omega) (ze_E_t (i := ja) (by omega)) rfl d_X_select_81 ?_
              refine ze_iload C d_X_select_84 0 rfl ?_
              refine ze_iald (k := 4 + 3 * ja) (i := p) C (by omega) (ze_E_k (i := ja) (by omega)) (by omega) (by decide) d_X_select_86 ?_
              refine ze_aload C d_X_select_87 2 rfl ?_
              refine ze_getf (k := 3 + 3 * ja) C fl_X_87 (by omega) (ze_E_t (i := ja) (by omega)) rfl d_X_select_89 ?_
              refine ze_iload C d_X_select_92 0 rfl ?_
              refine ze_iald (k := 5 + 3 * ja) (i := p) C (by omega) (ze_E_v (i := ja) (by omega)) (by omega) (by decide) d_X_select_94 ?_
              refine ze_eqE (ze_foc ji) ?_
              refine ze_callV (st := []) C (c_T_append (ze_l G) (ze_D G) (ze_i G) ad ms M T2 hd mv ji (by omega) (T2 ji).1 (T2 ji).2.1 (T2 ji).2.2.1 (T2 ji).2.2.2 (by omega) (((T2 ja).1) p) (((T2 ja).2.1) p)) (kv_X_53 (ze_rml (by decide) (by decide))) (by omega) (ze_F_t (i := ji) (by omega)) rfl (Nat.le_of_ble_eq_true rfl) ⟨Nat.le_of_ble_eq_true rfl, Nat.le_of_ble_eq_true rfl⟩ d_X_select_95 ?_
              rintro _ _ _ _ ⟨rfl, rfl, _, rfl, rfl, rfl⟩
              refine ze_genT (fun T3 eT3 => ?_)
              refine ze_norm (c2 := 0) (s2 := 0) (st' := []) rfl rfl rfl ?_
              refine ze_iinc (j := 0) (v := nI (p + 1)) (lv' := [(8, .int (nI (p + 1))), (7, .ref (ad (3 + 3 * ji))), (6, .ref (ad (3 + 3 * ja))), (0, .ref (ad 0)), (1, .int (nI ja)), (2, .int low), (3, .int high), (4, .int (nI ji))]) C d_X_select_98 rfl (nI_1 _) (by decide) rfl ?_
              refine ze_goto 43 C d_X_select_101 (by decide) ?_
              refine ze_sub [(8, .int (nI (p + 1))), (7, .ref (ad (3 + 3 * ji))), (6, .ref (ad (3 + 3 * ja))), (0, .ref (ad 0)), (1, .int (nI ja)), (2, .int low), (3, .int high), (4, .int (nI ji))] [0, 1, 2, 3, 4, 5, 6, 7] rfl ?_
              exact ih (A.length - (p + 1)) (by omega) (p + 1) T3 rfl (by omega) (fun q hq => (ze_upo eT3 q hq).trans (g2 q hq)) (by rw [ze_take_snoc hHA2 (by omega), ze_sel_snoc, if_pos ⟨Int32.not_lt.mp h62, Int32.not_lt.mp h74⟩]; exact ze_Hu_app g3 eT3)
    exact loop _ 0 T1 rfl (Nat.zero_le _) (ze_upo eT1) (ze_Hu_clr eT1)
  · refine ze_iload C d_X_select_15 0 rfl ?_
    exact ze_iret C Rt d_X_select_17 (⟨rfl, rfl, _, rfl, by rw [sp_select, ze_rf_ne hR h12], by rw [sp_select, ze_rf_ne hR h12]; exact hR⟩)
end
section
theorem ze_max_nI {a b : Nat} (ha : a < 2 ^ 31) (hb : b < 2 ^ 31) : (if nI a < nI b then nI b else nI a) = nI (max a b) := by
  by_cases h : a < b
  · rw [if_pos ((nI_ltI ha hb).mpr h), Nat.max_eq_right (by omega)]
  · rw [if_neg (fun z => h ((nI_ltI ha hb).mp z)), Nat.max_eq_left (by omega)]
theorem ze_min_nI {a b : Nat} (ha : a < 2 ^ 31) (hb : b < 2 ^ 31) : (if nI b < nI a then nI b else nI a) = nI (min a b) := by
  by_cases h : b < a
  · rw [if_pos ((nI_ltI hb ha).mpr h), Nat.min_eq_right (by omega)]
  · rw [if_neg (fun z => h ((nI_ltI hb ha).mp z)), Nat.min_eq_left (by omega)]
theorem ze_sub_nI {a b : Nat} (ha : a < 2 ^ 30) (hb : b < 2 ^ 30) : (if nI a - nI b < nI 0 then nI 0 else nI a - nI b) = nI (a - b) := by
  by_cases h : a < b
  · rw [if_pos (by rw [nI_0]; exact pk_sneg hb h), show a - b = 0 by omega]
  · rw [pk_sub (by omega), if_neg (fun z => by rw [nI_ltI (by omega) (by decide)] at z; omega)]
theorem ze_tm_le {kd a b : Nat} : ze_tm kd a b ≤ a + b := by
  unfold ze_tm
  split
  · omega
  · split
    · omega
    · split <;> omega
theorem ze_rep_le (r : ze_Row) : ∀ A : List ze_Row, ze_rep r A ≤ A.length
  | [] => Nat.le_refl _
  | a :: A => by
    simp only [ze_rep, List.length_cons]
    split
    · have := ze_rep_le r A; omega
    · omega
theorem ze_drop_row {t : ze_T} {A : List ze_Row} {p : Nat} (h : ze_H t A) (hp : p < A.length) : A.drop p = (t.1 p, t.2.1 p) :: A.drop (p + 1) := by
  obtain ⟨hl, he⟩ := List.getElem?_eq_some_iff.mp (ze_H_row h hp)
  rw [List.drop_eq_getElem_cons hl, he]
theorem ze_mg_step {kd k : Nat} {A B : List ze_Row} {r : ze_Row} (h : ze_pick A B = some r) : ze_mg kd (k + 1) A B = List.replicate (ze_tm kd (ze_rep r A) (ze_rep r B)) r ++ ze_mg kd k (A.drop (ze_rep r A)) (B.drop (ze_rep r B)) := by
  rw [ze_mg, h]

set_option maxRecDepth 100000 in
set_option maxHeartbeats 4000000 in
theorem c_X_timesInResult (l : Launch) (D : va_G) (ids : Nat → ClassId) (n : Nat) (ad : Nat → Nat) (E : Nat → va_E) (kd a b : Nat) (hk : kd ≤ 3) (ha : a ≤ 60) (hb : b ≤ 60) : ze_M l D ids y_X_timesInResult ws_X_timesInResult (ze_rm 2) 0 0 n ad E [.int (nI kd), .int (nI a), .int (nI b)] (ze_p0 n ad E (fun v => v = some (.int (nI (ze_tm kd a b))))) := by
  refine ze_enter (cc := b_X_timesInResult) (maxL := 3) (ret := (some .int)) (by decide +kernel) rfl (Nat.le_of_ble_eq_true rfl) ?_
  rintro G rfl rfl rfl - C Rt
  refine ze_lv (lv' := [(0, .int (nI kd)), (1, .int (nI a)), (2, .int (nI b))]) rfl ?_
  refine ze_iload_n C d_X_timesInResult_0 0 rfl rfl ?_
  rcases (show kd = 0 ∨ kd = 1 ∨ kd = 2 ∨ kd = 3 by omega) with rfl | rfl | rfl | rfl
  · refine ze_tableIn 28 C d_X_timesInResult_1 (by decide) (by decide) rfl (by decide) ?_
    refine ze_iload_n C d_X_timesInResult_28 1 rfl rfl ?_
    refine ze_iload_n C d_X_timesInResult_29 2 rfl rfl ?_
    refine ze_callS (st := []) C (c_J_max (ze_l G) (ze_D G) (ze_i G) _ _ _ (nI a) (nI b)) (ks_X_9 (ze_rml (by decide) (by decide))) rfl (Nat.le_of_ble_eq_true rfl) ⟨Nat.le_of_ble_eq_true rfl, Nat.le_of_ble_eq_true rfl⟩ d_X_timesInResult_30 ?_
    rintro _ _ _ _ ⟨rfl, rfl, rfl, rfl⟩
    refine ze_norm (c2 := 0) (s2 := 0) (st' := [.int (if (nI a) < (nI b) then (nI b) else (nI a))]) rfl rfl rfl ?_
    exact ze_iret C Rt d_X_timesInResult_33 (⟨rfl, rfl, rfl, by rw [ze_max_nI (by omega) (by omega)]; rfl⟩)
  · refine ze_tableIn 34 C d_X_timesInResult_1 (by decide) (by decide) rfl (by decide) ?_
    refine ze_iload_n C d_X_timesInResult_34 1 rfl rfl ?_
    refine ze_iload_n C d_X_timesInResult_35 2 rfl rfl ?_
    refine ze_callS (st := []) C (c_J_min (ze_l G) (ze_D G) (ze_i G) _ _ _ (nI a) (nI b)) (ks_X_15 (ze_rml (by decide) (by decide))) rfl (Nat.le_of_ble_eq_true rfl) ⟨Nat.le_of_ble_eq_true rfl, Nat.le_of_ble_eq_true rfl⟩ d_X_timesInResult_36 ?_
    rintro _ _ _ _ ⟨rfl, rfl, rfl, rfl⟩
    refine ze_norm (c2 := 0) (s2 := 0) (st' := [.int (if (nI b) < (nI a) then (nI b) else (nI a))]) rfl rfl rfl ?_
    exact ze_iret C Rt d_X_timesInResult_39 (⟨rfl, rfl, rfl, by rw [ze_min_nI (by omega) (by omega)]; rfl⟩)
  · refine ze_tableIn 40 C d_X_timesInResult_1 (by decide) (by decide) rfl (by decide) ?_
    refine ze_iload_n C d_X_timesInResult_40 1 rfl rfl ?_
    refine ze_iload_n C d_X_timesInResult_41 2 rfl rfl ?_
    refine ze_isub C d_X_timesInResult_42 ?_
    refine ze_iconst (v := nI 0) C d_X_timesInResult_43 (by decide) ?_
    refine ze_callS (st := []) C (c_J_max (ze_l G) (ze_D G) (ze_i G) _ _ _ ((nI a) - (nI b)) (nI 0)) (ks_X_9 (ze_rml (by decide) (by decide))) rfl (Nat.le_of_ble_eq_true rfl) ⟨Nat.le_of_ble_eq_true rfl, Nat.le_of_ble_eq_true rfl⟩ d_X_timesInResult_44 ?_
    rintro _ _ _ _ ⟨rfl, rfl, rfl, rfl⟩
    refine ze_norm (c2 := 0) (s2 := 0) (st' := [.int (if ((nI a) - (nI b)) < (nI 0) then (nI 0) else ((nI a) - (nI b)))]) rfl rfl rfl ?_
    exact ze_iret C Rt d_X_timesInResult_47 (⟨rfl, rfl, rfl, by rw [ze_sub_nI (by omega) (by omega)]; rfl⟩)
  · refine ze_tableOut 48 C d_X_timesInResult_1 (by decide) (by decide) ?_
    refine ze_iload_n C d_X_timesInResult_48 1 rfl rfl ?_
    refine ze_iload_n C d_X_timesInResult_49 2 rfl rfl ?_
    refine ze_iaddN C d_X_timesInResult_50 ?_
    exact ze_iret C Rt d_X_timesInResult_51 (⟨rfl, rfl, rfl, rfl⟩)

set_option maxRecDepth 100000 in
set_option maxHeartbeats 4000000 in
theorem c_X_isNextFromA (l : Launch) (D : va_G) (ids : Nat → ClassId) (ad : Nat → Nat) (ms : ze_MS) (M : Nat) (T : Nat → ze_T) (hd : Nat → Bool) (mv : Int64) (SA SB : List ze_Row) (hA : ze_H (T 9) SA) (hB : ze_H (T 10) SB) (p q : Nat) (hp : p ≤ SA.length) (hq : q ≤ SB.length) : ze_MX l D ids ad ms y_X_isNextFromA ws_X_isNextFromA 3 (M, T, hd, mv) [.ref (ad 0), .int (nI p), .int (nI q)] (fun v x' => ∃ b, v = some (.int (ze_bi b)) ∧ x' = (M, T, hd, mv) ∧ (b = true → p < SA.length ∧ ze_pick (SA.drop p) (SB.drop q) = some ((T 9).1 p, (T 9).2.1 p)) ∧ (b = false → q < SB.length → ze_pick (SA.drop p) (SB.drop q) = some ((T 10).1 q, (T 10).2.1 q)) ∧ (b = false → p < SA.length → q < SB.length)) := by
  refine ze_enter (cc := b_X_isNextFromA) (maxL := 4) (ret := (some .boolean)) (by decide +kernel) rfl (Nat.le_of_ble_eq_true rfl) ?_
  rintro G rfl rfl rfl - C Rt
  refine ze_lv (lv' := [(0, .ref (ad 0)), (1, .int (nI p)), (2, .int (nI q))]) rfl ?_
  have hcA : (T 9).2.2.1 = SA.length := hA.1
  have hcB : (T 10).2.2.1 = SB.length := hB.1
  have hA6 : SA.length ≤ 60 := hA.2.1
  have hB6 : SB.length ≤ 60 := hB.2.1
  refine ze_iload_n C d_X_isNextFromA_0 1 rfl rfl ?_
  refine ze_aload_n C d_X_isNextFromA_1 0 rfl rfl ?_
  refine ze_getf C fl_X_37 (by decide) ze_E_x rfl d_X_isNextFromA_2 ?_
  refine ze_getf (k := 3 + 3 * 9) C fl_X_50 (by decide) (ze_E_t (i := 9) (by omega)) rfl d_X_isNextFromA_5 ?_
  refine ze_icmp_ltN 13 C d_X_isNextFromA_8 (by decide) (by omega) (by omega) (fun h8 => ?_) (fun h8 => ?_)
  · refine ze_iload_n C d_X_isNextFromA_13 2 rfl rfl ?_
    refine ze_aload_n C d_X_isNextFromA_14 0 rfl rfl ?_
    refine ze_getf C fl_X_40 (by decide) ze_E_x rfl d_X_isNextFromA_15 ?_
    refine ze_getf (k := 3 + 3 * 10) C fl_X_50 (by decide) (ze_E_t (i := 10) (by omega)) rfl d_X_isNextFromA_18 ?_
    refine ze_icmp_ltN 26 C d_X_isNextFromA_21 (by decide) (by omega) (by omega) (fun h21 => ?_) (fun h21 => ?_)
    · refine ze_iconst (v := nI 2) C d_X_isNextFromA_26 (by decide) ?_
      refine ze_aload_n C d_X_isNextFromA_27 0 rfl rfl ?_
      refine ze_getf C fl_X_37 (by decide) ze_E_x rfl d_X_isNextFromA_28 ?_
      refine ze_getf (k := 3 + 3 * 9) C fl_X_83 (by decide) (ze_E_t (i := 9) (by omega)) rfl d_X_isNextFromA_31 ?_
      refine ze_iload_n C d_X_isNextFromA_34 1 rfl rfl ?_
      refine ze_iald (k := 4 + 3 * 9) (i := p) C (by decide) (ze_E_k (i := 9) (by omega)) (by omega) (by decide) d_X_isNextFromA_35 ?_
      refine ze_aload_n C d_X_isNextFromA_36 0 rfl rfl ?_
      refine ze_getf C fl_X_37 (by decide) ze_E_x rfl d_X_isNextFromA_37 ?_
      refine ze_getf (k := 3 + 3 * 9) C fl_X_87 (by decide) (ze_E_t (i := 9) (by omega)) rfl d_X_isNextFromA_40 ?_
      refine ze_iload_n C d_X_isNextFromA_43 1 rfl rfl ?_
      refine ze_iald (k := 5 + 3 * 9) (i := p) C (by decide) (ze_E_v (i := 9) (by omega)) (by omega) (by decide) d_X_isNextFromA_44 ?_
      refine ze_aload_n C d_X_isNextFromA_45 0 rfl rfl ?_
      refine ze_getf C fl_X_40 (by decide) ze_E_x rfl d_X_isNextFromA_46 ?_
      refine ze_getf (k := 3 + 3 * 10) C fl_X_83 (by decide) (ze_E_t (i := 10) (by omega)) rfl d_X_isNextFromA_49 ?_
      refine ze_iload_n C d_X_isNextFromA_52 2 rfl rfl ?_
      refine ze_iald (k := 4 + 3 * 10) (i := q) C (by decide) (ze_E_k (i := 10) (by omega)) (by omega) (by decide) d_X_isNextFromA_53 ?_
      refine ze_aload_n C d_X_isNextFromA_54 0 rfl rfl ?_
      refine ze_getf C fl_X_40 (by decide) ze_E_x rfl d_X_isNextFromA_55 ?_
      refine ze_getf (k := 3 + 3 * 10) C fl_X_87 (by decide) (ze_E_t (i := 10) (by omega)) rfl d_X_isNextFromA_58 ?_
      refine ze_iload_n C d_X_isNextFromA_61 2 rfl rfl ?_
      refine ze_iald (k := 5 + 3 * 10) (i := q) C (by decide) (ze_E_v (i := 10) (by omega)) (by omega) (by decide) d_X_isNextFromA_62 ?_
      refine ze_callS (st := []) C (c_X_compareRows (ze_l G) (ze_D G) (ze_i G) _ _ _ 2 (by decide) (((T 9).1) p) (((T 9).2.1) p) (((T 10).1) q) (((T 10).2.1) q)) (ks_X_142 (ze_rml (by decide) (by decide))) rfl (Nat.le_of_ble_eq_true rfl) ⟨Nat.le_of_ble_eq_true rfl, Nat.le_of_ble_eq_true rfl⟩ d_X_isNextFromA_63 ?_
      rintro _ _ _ _ ⟨rfl, rfl, rfl, t, rfl, ht1, ht2⟩
      refine ze_norm (c2 := 0) (s2 := 0) (st' := [.int t]) rfl rfl rfl ?_
      refine ze_istore_n (lv' := [(3, .int t), (0, .ref (ad 0)), (1, .int (nI p)), (2, .int (nI q))]) C d_X_isNextFromA_66 rfl (by decide) rfl ?_
      refine ze_iload_n C d_X_isNextFromA_67 0 rfl rfl ?_
      refine ze_if_gt 75 C d_X_isNextFromA_68 (by decide) (fun h68 => ?_) (fun h68 => ?_)
      · refine ze_iconst (v := nI 0) C d_X_isNextFromA_75 (by decide) ?_
        exact ze_zret C Rt (by decide) d_X_isNextFromA_76 (⟨rfl, rfl, _, rfl, false, rfl, rfl, (fun z => absurd z (by decide)), (fun _ hq => by rw [ze_drop_row hA (by omega), ze_drop_row hB hq, ze_pick, if_pos (by cases hz : ze_lt 2 ((T 10).1 q, (T 10).2.1 q) ((T 9).1 p, (T 9).2.1 p) with | true => rfl | false => exact absurd (ht2.mpr hz) (Int32.not_le.mpr h68))]), (fun _ _ => by omega)⟩)
      · refine ze_iconst (v := nI 1) C d_X_isNextFromA_71 (by decide) ?_
        refine ze_goto 76 C d_X_isNextFromA_72 (by decide) ?_
        exact ze_zret C Rt (by decide) d_X_isNextFromA_76 (⟨rfl, rfl, _, rfl, true, rfl, rfl, fun _ => ⟨by omega, by rw [ze_drop_row hA (by omega), ze_drop_row hB (by omega), ze_pick, if_neg (by rw [ht2.mp (Int32.not_lt.mp h68)]; decide)]⟩, (fun z => absurd z (by decide)), (fun z => absurd z (by decide))⟩)
    · refine ze_iconst (v := nI 1) C d_X_isNextFromA_24 (by decide) ?_
      exact ze_zret C Rt (by decide) d_X_isNextFromA_25 (⟨rfl, rfl, _, rfl, true, rfl, rfl, fun _ => ⟨by omega, by rw [ze_drop_row hA (by omega), List.drop_eq_nil_of_le (as := SB) (by omega)]; rfl⟩, (fun z => absurd z (by decide)), (fun z => absurd z (by decide))⟩)
  · refine ze_iconst (v := nI 0) C d_X_isNextFromA_11 (by decide) ?_
    exact ze_zret C Rt (by decide) d_X_isNextFromA_12 (⟨rfl, rfl, _, rfl, false, rfl, rfl, (fun z => absurd z (by decide)), (fun _ hq => by rw [List.drop_eq_nil_of_le (by omega), ze_drop_row hB hq]; rfl), (fun _ hp => absurd hp (by omega))⟩)

set_option maxRecDepth 100000 in
set_option maxHeartbeats 4000000 in
theorem c_X_mergeBags (l : Launch) (D : va_G) (ids : Nat → ClassId) (ad : Nat → Nat) (ms : ze_MS) (M : Nat) (T : Nat → ze_T) (hd : Nat → Bool) (mv : Int64) (SA SB : List ze_Row) (hA : ze_H (T 9) SA) (hB : ze_H (T 10) SB) (kd : Nat) (hk : kd ≤ 3) (m : Nat) (hm8 : m < 8) (hm : ze_Hu (T m) []) : ze_MX l D ids ad ms y_X_mergeBags ws_X_mergeBags 5 (M, T, hd, mv) [.ref (ad 0), .int (nI kd), .ref (ad (3 + 3 * m))] (fun v x' => v = none ∧ ∃ T', x' = (M, T', hd, mv) ∧ (∀ z, z ≠ m → T' z = T z) ∧ ze_Hu (T' m) (ze_mg kd 120 SA SB)) := by
  refine ze_enter (cc := b_X_mergeBags) (maxL := 13) (ret := none) (by decide +kernel) rfl (Nat.le_of_ble_eq_true rfl) ?_
  rintro G rfl rfl rfl - C Rt
  refine ze_lv (lv' := [(0, .ref (ad 0)), (1, .int (nI kd)), (2, .ref (ad (3 + 3 * m)))]) rfl ?_
  have hA6 : SA.length ≤ 60 := hA.2.1
  have hB6 : SB.length ≤ 60 := hB.2.1
  have loop : ∀ (r s p q : Nat) (T1 : Nat → ze_T) (Lm : List ze_Row), 120 - s = r → s ≤ 120 → p ≤ SA.length → q ≤ SB.length → (∀ z, z ≠ m → T1 z = T z) → ze_Hu (T1 m) Lm → Lm ++ ze_mg kd (120 - s) (SA.drop p) (SB.drop q) = ze_mg kd 120 SA SB → ze_V G 48 ad (ze_E (ze_i G) ad (M, T1, hd, mv) ms) 0 0 8 [(5, .int (nI s)), (4, .int (nI q)), (3, .int (nI p)), (0, .ref (ad 0)), (1, .int (nI kd)), (2, .ref (ad (3 + 3 * m)))] [] := by
    intro r
    induction r using Nat.strongRecOn with
    | ind r ih =>
      intro s p q T1 Lm hr g1 g2 g3 g4 g5 g6
      have hA1 : ze_H (T1 9) SA := by rw [g4 9 (by omega)]; exact hA
      have hB1 : ze_H (T1 10) SB := by rw [g4 10 (by omega)]; exact hB
      have hcA : (T1 9).2.2.1 = SA.length := hA1.1
      have hcB : (T1 10).2.2.1 = SB.length := hB1.1
      refine ze_iload C d_X_mergeBags_8 0 rfl ?_
      refine ze_bipush (v := nI 120) C d_X_mergeBags_10 (by decide) ?_
      refine ze_icmp_geN 189 C d_X_mergeBags_12 (by decide) (by omega) (by omega) (fun h12 => ?_) (fun h12 => ?_)
      · exact ze_vret C Rt d_X_mergeBags_189 (⟨rfl, rfl, _, rfl, rfl, T1, rfl, g4, by rw [← g6]; rw [show 120 - s = 0 by omega, ze_mg, List.append_nil]; exact g5⟩)
      · refine ze_iload_n C d_X_mergeBags_15 2 rfl rfl ?_
        refine ze_aload_n C d_X_mergeBags_16 3 rfl rfl ?_
        refine ze_getf C fl_X_37 (by decide) ze_E_x rfl d_X_mergeBags_17 ?_
        refine ze_getf (k := 3 + 3 * 9) C fl_X_50 (by decide) (ze_E_t (i := 9) (by omega)) rfl d_X_mergeBags_20 ?_
        refine ze_icmp_ltN 41 C d_X_mergeBags_23 (by decide) (by omega) (by omega) (fun h23 => ?_) (fun h23 => ?_)
        · refine ze_aload_n C d_X_mergeBags_41 3 rfl rfl ?_
          refine ze_iload_n C d_X_mergeBags_42 2 rfl rfl ?_
          refine ze_iload C d_X_mergeBags_43 1 rfl ?_
          refine ze_callV (st := []) C (c_X_isNextFromA (ze_l G) (ze_D G) (ze_i G) ad ms M T1 hd mv SA SB hA1 hB1 p q (by omega) (by omega)) (kv_X_133 (ze_rml (by decide) (by decide))) (by decide) ze_E_x rfl (Nat.le_of_ble_eq_true rfl) ⟨Nat.le_of_ble_eq_true rfl, Nat.le_of_ble_eq_true rfl⟩ d_X_mergeBags_45 ?_
          rintro _ _ _ _ ⟨rfl, rfl, _, rfl, b, rfl, rfl, hb1, hb2, hb3⟩
          refine ze_norm (c2 := 0) (s2 := 0) (st' := [.int (ze_bi b)]) rfl rfl rfl ?_
          refine ze_istore (lv' := [(6, .int (ze_bi b)), (5, .int (nI s)), (4, .int (nI q)), (3, .int (nI p)), (0, .ref (ad 0)), (1, .int (nI kd)), (2, .ref (ad (3 + 3 * m)))]) C d_X_mergeBags_48 (by decide) rfl ?_
          refine ze_iload C d_X_mergeBags_50 0 rfl ?_
          refine ze_if_eq 67 C d_X_mergeBags_52 (by decide) (fun h52 => ?_) (fun h52 => ?_)
          · have hqB : q < SB.length := hb3 (ze_bi0.mp h52) (by omega)
            have hpk := hb2 (ze_bi0.mp h52) hqB
            refine ze_aload_n C d_X_mergeBags_67 4 rfl rfl ?_
            refine ze_getf C fl_X_40 (by decide) ze_E_x rfl d_X_mergeBags_68 ?_
            refine ze_getf (k := 3 + 3 * 10) C fl_X_83 (by decide) (ze_E_t (i := 10) (by omega)) rfl d_X_mergeBags_71 ?_
            refine ze_iload C d_X_mergeBags_74 2 rfl ?_
            refine ze_iald (k := 4 + 3 * 10) (i := q) C (by decide) (ze_E_k (i := 10) (by omega)) (by omega) (by decide) d_X_mergeBags_76 ?_
            refine ze_istore (lv' := [(7, .int (((T1 10).1) q)), (6, .int (ze_bi b)), (5, .int (nI s)), (4, .int (nI q)), (3, .int (nI p)), (0, .ref (ad 0)), (1, .int (nI kd)), (2, .ref (ad (3 + 3 * m)))]) C d_X_mergeBags_77 (by decide) rfl ?_
            refine ze_iload C d_X_mergeBags_79 1 rfl ?_
            refine ze_if_eq 96 C d_X_mergeBags_81 (by decide) (fun h81 => ?_) (fun h81 => ?_)
            · refine ze_aload_n C d_X_mergeBags_96 5 rfl rfl ?_
              refine ze_getf C fl_X_40 (by decide) ze_E_x rfl d_X_mergeBags_97 ?_
              refine ze_getf (k := 3 + 3 * 10) C fl_X_87 (by decide) (ze_E_t (i := 10) (by omega)) rfl d_X_mergeBags_100 ?_
              refine ze_iload C d_X_mergeBags_103 3 rfl ?_
              refine ze_iald (k := 5 + 3 * 10) (i := q) C (by decide) (ze_E_v (i := 10) (by omega)) (by omega) (by decide) d_X_mergeBags_105 ?_
              refine ze_istore (lv' := [(8, .int (((T1 10).2.1) q)), (7, .int (((T1 10).1) q)), (6, .int (ze_bi b)), (5, .int (nI s)), (4, .int (nI q)), (3, .int (nI p)), (0, .ref (ad 0)), (1, .int (nI kd)), (2, .ref (ad (3 + 3 * m)))]) C d_X_mergeBags_106 (by decide) rfl ?_
              generalize (T1 10).1 q = key at hpk ⊢
              generalize (T1 10).2.1 q = value at hpk ⊢
              have ra := ze_rep_le (key, value) (SA.drop p)
              have rb := ze_rep_le (key, value) (SB.drop q)
              rw [List.length_drop] at ra rb
              refine ze_sub [(8, .int value), (7, .int key), (5, .int (nI s)), (4, .int (nI q)), (3, .int (nI p)), (0, .ref (ad 0)), (1, .int (nI kd)), (2, .ref (ad (3 + 3 * m)))] [0, 1, 3, 4, 5, 6, 7, 8] rfl ?_
              refine ze_aload_n C d_X_mergeBags_108 5 rfl rfl ?_
              refine ze_getf C fl_X_37 (by decide) ze_E_x rfl d_X_mergeBags_109 ?_
              refine ze_iload_n C d_X_mergeBags_112 4 rfl rfl ?_
              refine ze_iload C d_X_mergeBags_113 1 rfl ?_
              refine ze_iload C d_X_mergeBags_115 0 rfl ?_
              refine ze_eqE (ze_foc 9) ?_
              refine ze_callV (st := []) C (c_T_repeatsFrom (ze_l G) (ze_D G) (ze_i G) ad ms M T1 hd mv 9 (by omega) (T1 9).1 (T1 9).2.1 (T1 9).2.2.1 (T1 9).2.2.2 SA hA1 (by omega) p (by omega) key value) (kv_X_136 (ze_rml (by decide) (by decide))) (by decide) (ze_F_t (i := 9) (by omega)) rfl (Nat.le_of_ble_eq_true rfl) ⟨Nat.le_of_ble_eq_true rfl, Nat.le_of_ble_eq_true rfl⟩ d_X_mergeBags_117 ?_
              rintro _ _ _ _ ⟨rfl, rfl, _, rfl, rfl, rfl⟩
              refine ze_eqE (ze_foc 9).symm ?_
              refine ze_norm (c2 := 0) (s2 := 0) (st' := [.int (nI (ze_rep (key, value) (SA.drop p)))]) rfl rfl rfl ?_
              refine ze_istore (lv' := [(9, .int (nI (ze_rep (key, value) (SA.drop p)))), (8, .int value), (7, .int key), (5, .int (nI s)), (4, .int (nI q)), (3, .int (nI p)), (0, .ref (ad 0)), (1, .int (nI kd)), (2, .ref (ad (3 + 3 * m)))]) C d_X_mergeBags_120 (by decide) rfl ?_
              refine ze_aload_n C d_X_mergeBags_122 6 rfl rfl ?_
              refine ze_getf C fl_X_40 (by decide) ze_E_x rfl d_X_mergeBags_123 ?_
              refine ze_iload C d_X_mergeBags_126 4 rfl ?_
              refine ze_iload C d_X_mergeBags_128 2 rfl ?_
              refine ze_iload C d_X_mergeBags_130 1 rfl ?_
              refine ze_eqE (ze_foc 10) ?_
              refine ze_callV (st := []) C (c_T_repeatsFrom (ze_l G) (ze_D G) (ze_i G) ad ms M T1 hd mv 10 (by omega) (T1 10).1 (T1 10).2.1 (T1 10).2.2.1 (T1 10).2.2.2 SB hB1 (by omega) q (by omega) key value) (kv_X_136 (ze_rml (by decide) (by decide))) (by decide) (ze_F_t (i := 10) (by omega)) rfl (Nat.le_of_ble_eq_true rfl) ⟨Nat.le_of_ble_eq_true rfl, Nat.le_of_ble_eq_true rfl⟩ d_X_mergeBags_132 ?_
              rintro _ _ _ _ ⟨rfl, rfl, _, rfl, rfl, rfl⟩
              refine ze_eqE (ze_foc 10).symm ?_
              refine ze_norm (c2 := 0) (s2 := 0) (st' := [.int (nI (ze_rep (key, value) (SB.drop q)))]) rfl rfl rfl ?_
              refine ze_istore (lv' := [(10, .int (nI (ze_rep (key, value) (SB.drop q)))), (9, .int (nI (ze_rep (key, value) (SA.drop p)))), (8, .int value), (7, .int key), (5, .int (nI s)), (4, .int (nI q)), (3, .int (nI p)), (0, .ref (ad 0)), (1, .int (nI kd)), (2, .ref (ad (3 + 3 * m)))]) C d_X_mergeBags_135 (by decide) rfl ?_
              refine ze_iload_n C d_X_mergeBags_137 8 rfl rfl ?_
              refine ze_iload C d_X_mergeBags_138 1 rfl ?_
              refine ze_iload C d_X_mergeBags_140 0 rfl ?_
              refine ze_callS (st := []) C (c_X_timesInResult (ze_l G) (ze_D G) (ze_i G) _ _ _ kd (ze_rep (key, value) (SA.drop p)) (ze_rep (key, value) (SB.drop q)) hk (by omega) (by omega)) (ks_X_139 (ze_rml (by decide) (by decide))) rfl (Nat.le_of_ble_eq_true rfl) ⟨Nat.le_of_ble_eq_true rfl, Nat.le_of_ble_eq_true rfl⟩ d_X_mergeBags_142 ?_
              rintro _ _ _ _ ⟨rfl, rfl, rfl, rfl⟩
              refine ze_norm (c2 := 0) (s2 := 0) (st' := [.int (nI (ze_tm kd (ze_rep (key, value) (SA.drop p)) (ze_rep (key, value) (SB.drop q))))]) rfl rfl rfl ?_
              refine ze_istore (lv' := [(11, .int (nI (ze_tm kd (ze_rep (key, value) (SA.drop p)) (ze_rep (key, value) (SB.drop q))))), (10, .int (nI (ze_rep (key, value) (SB.drop q)))), (9, .int (nI (ze_rep (key, value) (SA.drop p)))), (8, .int value), (7, .int key), (5, .int (nI s)), (4, .int (nI q)), (3, .int (nI p)), (0, .ref (ad 0)), (1, .int (nI kd)), (2, .ref (ad (3 + 3 * m)))]) C d_X_mergeBags_145 (by decide) rfl ?_
              refine ze_iconst (v := nI 0) C d_X_mergeBags_147 (by decide) ?_
              refine ze_istore (lv' := [(12, .int (nI 0)), (11, .int (nI (ze_tm kd (ze_rep (key, value) (SA.drop p)) (ze_rep (key, value) (SB.drop q))))), (10, .int (nI (ze_rep (key, value) (SB.drop q)))), (9, .int (nI (ze_rep (key, value) (SA.drop p)))), (8, .int value), (7, .int key), (5, .int (nI s)), (4, .int (nI q)), (3, .int (nI p)), (0, .ref (ad 0)), (1, .int (nI kd)), (2, .ref (ad (3 + 3 * m)))]) C d_X_mergeBags_148 (by decide) rfl ?_
              have htm : ze_tm kd (ze_rep (key, value) (SA.drop p)) (ze_rep (key, value) (SB.drop q)) ≤ 120 := Nat.le_trans ze_tm_le (by omega)
              have inner : ∀ (r2 c : Nat) (T2 : Nat → ze_T), ze_tm kd (ze_rep (key, value) (SA.drop p)) (ze_rep (key, value) (SB.drop q)) - c = r2 → c ≤ ze_tm kd (ze_rep (key, value) (SA.drop p)) (ze_rep (key, value) (SB.drop q)) → (∀ z, z ≠ m → T2 z = T z) → ze_Hu (T2 m) (Lm ++ List.replicate c (key, value)) → ze_V G 48 ad (ze_E (ze_i G) ad (M, T2, hd, mv) ms) 0 0 150 [(12, .int (nI c)), (11, .int (nI (ze_tm kd (ze_rep (key, value) (SA.drop p)) (ze_rep (key, value) (SB.drop q))))), (10, .int (nI (ze_rep (key, value) (SB.drop q)))), (9, .int (nI (ze_rep (key, value) (SA.drop p)))), (8, .int value), (7, .int key), (5, .int (nI s)), (4, .int (nI q)), (3, .int (nI p)), (0, .ref (ad 0)), (1, .int (nI kd)), (2, .ref (ad (3 + 3 * m)))] [] := by
                intro r2
                induction r2 using Nat.strongRecOn with
                | ind r2 ih2 =>
                  intro c T2 k0 k1 k2 k3
                  have hm2 := ze_Hu_le k3
                  refine ze_iload C d_X_mergeBags_150 0 rfl ?_
                  refine ze_iload C d_X_mergeBags_152 1 rfl ?_
                  refine ze_icmp_geN 171 C d_X_mergeBags_154 (by decide) (by omega) (by omega) (fun h154 => ?_) (fun h154 => ?_)
                  · refine ze_iload_n C d_X_mergeBags_171 8 rfl rfl ?_
                    refine ze_iload C d_X_mergeBags_172 3 rfl ?_
                    refine ze_iaddN C d_X_mergeBags_174 ?_
                    refine ze_istore_n (lv' := [(3, .int (nI (p + (ze_rep (key, value) (SA.drop p))))), (12, .int (nI c)), (11, .int (nI (ze_tm kd (ze_rep (key, value) (SA.drop p)) (ze_rep (key, value) (SB.drop q))))), (10, .int (nI (ze_rep (key, value) (SB.drop q)))), (9, .int (nI (ze_rep (key, value) (SA.drop p)))), (8, .int value), (7, .int key), (5, .int (nI s)), (4, .int (nI q)), (0, .ref (ad 0)), (1, .int (nI kd)), (2, .ref (ad (3 + 3 * m)))]) C d_X_mergeBags_175 rfl (by decide) rfl ?_
                    refine ze_iload C d_X_mergeBags_176 8 rfl ?_
                    refine ze_iload C d_X_mergeBags_178 3 rfl ?_
                    refine ze_iaddN C d_X_mergeBags_180 ?_
                    refine ze_istore (lv' := [(4, .int (nI (q + (ze_rep (key, value) (SB.drop q))))), (3, .int (nI (p + (ze_rep (key, value) (SA.drop p))))), (12, .int (nI c)), (11, .int (nI (ze_tm kd (ze_rep (key, value) (SA.drop p)) (ze_rep (key, value) (SB.drop q))))), (10, .int (nI (ze_rep (key, value) (SB.drop q)))), (9, .int (nI (ze_rep (key, value) (SA.drop p)))), (8, .int value), (7, .int key), (5, .int (nI s)), (0, .ref (ad 0)), (1, .int (nI kd)), (2, .ref (ad (3 + 3 * m)))]) C d_X_mergeBags_181 (by decide) rfl ?_
                    refine ze_iinc (j := 8) (v := nI (s + 1)) (lv' := [(5, .int (nI (s + 1))), (4, .int (nI (q + (ze_rep (key, value) (SB.drop q))))), (3, .int (nI (p + (ze_rep (key, value) (SA.drop p))))), (12, .int (nI c)), (11, .int (nI (ze_tm kd (ze_rep (key, value) (SA.drop p)) (ze_rep (key, value) (SB.drop q))))), (10, .int (nI (ze_rep (key, value) (SB.drop q)))), (9, .int (nI (ze_rep (key, value) (SA.drop p)))), (8, .int value), (7, .int key), (0, .ref (ad 0)), (1, .int (nI kd)), (2, .ref (ad (3 + 3 * m)))]) C d_X_mergeBags_183 rfl (nI_1 _) (by decide) rfl ?_
                    refine ze_goto 8 C d_X_mergeBags_186 (by decide) ?_
                    refine ze_sub [(5, .int (nI (s + 1))), (4, .int (nI (q + ze_rep (key, value) (SB.drop q)))), (3, .int (nI (p + ze_rep (key, value) (SA.drop p)))), (0, .ref (ad 0)), (1, .int (nI kd)), (2, .ref (ad (3 + 3 * m)))] [0, 1, 2, 9, 10, 11] rfl ?_
                    refine ih (120 - (s + 1)) (by omega) (s + 1) _ _ T2 _ rfl (by omega) (by omega) (by omega) k2 k3 ?_
                    rw [← g6, show 120 - s = (120 - (s + 1)) + 1 by omega, ze_mg_step hpk, List.append_assoc, List.drop_drop, List.drop_drop, show c = ze_tm kd (ze_rep (key, value) (SA.drop p)) (ze_rep (key, value) (SB.drop q)) by omega]
                  · refine ze_aload_n C d_X_mergeBags_157 11 rfl rfl ?_
                    refine ze_iload C d_X_mergeBags_158 5 rfl ?_
                    refine ze_iload C d_X_mergeBags_160 4 rfl ?_
                    refine ze_eqE (ze_foc m) ?_
                    refine ze_callV (st := []) C (c_T_append (ze_l G) (ze_D G) (ze_i G) ad ms M T2 hd mv m (by omega) (T2 m).1 (T2 m).2.1 (T2 m).2.2.1 (T2 m).2.2.2 (by omega) key value) (kv_X_53 (ze_rml (by decide) (by decide))) (by omega) (ze_F_t (i := m) (by omega)) rfl (Nat.le_of_ble_eq_true rfl) ⟨Nat.le_of_ble_eq_true rfl, Nat.le_of_ble_eq_true rfl⟩ d_X_mergeBags_162 ?_
                    rintro _ _ _ _ ⟨rfl, rfl, _, rfl, rfl, rfl⟩
                    refine ze_genT (fun T3 eT3 => ?_)
                    refine ze_norm (c2 := 0) (s2 := 0) (st' := []) rfl rfl rfl ?_
                    refine ze_iinc (j := 0) (v := nI (c + 1)) (lv' := [(12, .int (nI (c + 1))), (11, .int (nI (ze_tm kd (ze_rep (key, value) (SA.drop p)) (ze_rep (key, value) (SB.drop q))))), (10, .int (nI (ze_rep (key, value) (SB.drop q)))), (9, .int (nI (ze_rep (key, value) (SA.drop p)))), (8, .int value), (7, .int key), (5, .int (nI s)), (4, .int (nI q)), (3, .int (nI p)), (0, .ref (ad 0)), (1, .int (nI kd)), (2, .ref (ad (3 + 3 * m)))]) C d_X_mergeBags_165 rfl (nI_1 _) (by decide) rfl ?_
                    refine ze_goto 150 C d_X_mergeBags_168 (by decide) ?_
                    refine ze_sub [(12, .int (nI (c + 1))), (11, .int (nI (ze_tm kd (ze_rep (key, value) (SA.drop p)) (ze_rep (key, value) (SB.drop q))))), (10, .int (nI (ze_rep (key, value) (SB.drop q)))), (9, .int (nI (ze_rep (key, value) (SA.drop p)))), (8, .int value), (7, .int key), (5, .int (nI s)), (4, .int (nI q)), (3, .int (nI p)), (0, .ref (ad 0)), (1, .int (nI kd)), (2, .ref (ad (3 + 3 * m)))] [0, 1, 2, 3, 4, 5, 6, 7, 8, 9, 10, 11] rfl ?_
                    exact ih2 (ze_tm kd (ze_rep (key, value) (SA.drop p)) (ze_rep (key, value) (SB.drop q)) - (c + 1)) (by omega) (c + 1) T3 rfl (by omega) (fun z hz => (ze_upo eT3 z hz).trans (k2 z hz)) (by rw [List.replicate_succ', ← List.append_assoc]; exact ze_Hu_app k3 eT3)
              refine ze_sub [(12, .int (nI 0)), (11, .int (nI (ze_tm kd (ze_rep (key, value) (SA.drop p)) (ze_rep (key, value) (SB.drop q))))), (10, .int (nI (ze_rep (key, value) (SB.drop q)))), (9, .int (nI (ze_rep (key, value) (SA.drop p)))), (8, .int value), (7, .int key), (5, .int (nI s)), (4, .int (nI q)), (3, .int (nI p)), (0, .ref (ad 0)), (1, .int (nI kd)), (2, .ref (ad (3 + 3 * m)))] [0, 1, 2, 3, 4, 5, 6, 7, 8, 9, 10, 11] rfl ?_
              exact inner _ 0 T1 rfl (Nat.zero_le _) g4 (by rw [List.replicate_zero, List.append_nil]; exact g5)
            · exact absurd h52 h81
          · obtain ⟨hpA, hpk⟩ := hb1 (ze_bi1 h52)
            refine ze_aload_n C d_X_mergeBags_55 4 rfl rfl ?_
            refine ze_getf C fl_X_37 (by decide) ze_E_x rfl d_X_mergeBags_56 ?_
            refine ze_getf (k := 3 + 3 * 9) C fl_X_83 (by decide) (ze_E_t (i := 9) (by omega)) rfl d_X_mergeBags_59 ?_
            refine ze_iload_n C d_X_mergeBags_62 3 rfl rfl ?_
            refine ze_iald (k := 4 + 3 * 9) (i := p) C (by decide) (ze_E_k (i := 9) (by omega)) (by omega) (by decide) d_X_mergeBags_63 ?_
            refine ze_goto 77 C d_X_mergeBags_64 (by decide) ?_
            refine ze_istore (lv' := [(7, .int (((T1 9).1) p)), (6, .int (ze_bi b)), (5, .int (nI s)), (4, .int (nI q)), (3, .int (nI p)), (0, .ref (ad 0)), (1, .int (nI kd)), (2, .ref (ad (3 + 3 * m)))]) C d_X_mergeBags_77 (by decide) rfl ?_
            refine ze_iload C d_X_mergeBags_79 1 rfl ?_
            refine ze_if_eq 96 C d_X_mergeBags_81 (by decide) (fun h81 => ?_) (fun h81 => ?_)
            · exact absurd h81 h52
            · refine ze_aload_n C d_X_mergeBags_84 5 rfl rfl ?_
              refine ze_getf C fl_X_37 (by decide) ze_E_x rfl d_X_mergeBags_85 ?_
              refine ze_getf (k := 3 + 3 * 9) C fl_X_87 (by decide) (ze_E_t (i := 9) (by omega)) rfl d_X_mergeBags_88 ?_
              refine ze_iload_n C d_X_mergeBags_91 4 rfl rfl ?_
              refine ze_iald (k := 5 + 3 * 9) (i := p) C (by decide) (ze_E_v (i := 9) (by omega)) (by omega) (by decide) d_X_mergeBags_92 ?_
              refine ze_goto 106 C d_X_mergeBags_93 (by decide) ?_
              refine ze_istore (lv' := [(8, .int (((T1 9).2.1) p)), (7, .int (((T1 9).1) p)), (6, .int (ze_bi b)), (5, .int (nI s)), (4, .int (nI q)), (3, .int (nI p)), (0, .ref (ad 0)), (1, .int (nI kd)), (2, .ref (ad (3 + 3 * m)))]) C d_X_mergeBags_106 (by decide) rfl ?_
              generalize (T1 9).1 p = key at hpk ⊢
              generalize (T1 9).2.1 p = value at hpk ⊢
              have ra := ze_rep_le (key, value) (SA.drop p)
              have rb := ze_rep_le (key, value) (SB.drop q)
              rw [List.length_drop] at ra rb
              refine ze_sub [(8, .int value), (7, .int key), (5, .int (nI s)), (4, .int (nI q)), (3, .int (nI p)), (0, .ref (ad 0)), (1, .int (nI kd)), (2, .ref (ad (3 + 3 * m)))] [0, 1, 3, 4, 5, 6, 7, 8] rfl ?_
              refine ze_aload_n C d_X_mergeBags_108 5 rfl rfl ?_
              refine ze_getf C fl_X_37 (by decide) ze_E_x rfl d_X_mergeBags_109 ?_
              refine ze_iload_n C d_X_mergeBags_112 4 rfl rfl ?_
              refine ze_iload C d_X_mergeBags_113 1 rfl ?_
              refine ze_iload C d_X_mergeBags_115 0 rfl ?_
              refine ze_eqE (ze_foc 9) ?_
              refine ze_callV (st := []) C (c_T_repeatsFrom (ze_l G) (ze_D G) (ze_i G) ad ms M T1 hd mv 9 (by omega) (T1 9).1 (T1 9).2.1 (T1 9).2.2.1 (T1 9).2.2.2 SA hA1 (by omega) p (by omega) key value) (kv_X_136 (ze_rml (by decide) (by decide))) (by decide) (ze_F_t (i := 9) (by omega)) rfl (Nat.le_of_ble_eq_true rfl) ⟨Nat.le_of_ble_eq_true rfl, Nat.le_of_ble_eq_true rfl⟩ d_X_mergeBags_117 ?_
              rintro _ _ _ _ ⟨rfl, rfl, _, rfl, rfl, rfl⟩
              refine ze_eqE (ze_foc 9).symm ?_
              refine ze_norm (c2 := 0) (s2 := 0) (st' := [.int (nI (ze_rep (key, value) (SA.drop p)))]) rfl rfl rfl ?_
              refine ze_istore (lv' := [(9, .int (nI (ze_rep (key, value) (SA.drop p)))), (8, .int value), (7, .int key), (5, .int (nI s)), (4, .int (nI q)), (3, .int (nI p)), (0, .ref (ad 0)), (1, .int (nI kd)), (2, .ref (ad (3 + 3 * m)))]) C d_X_mergeBags_120 (by decide) rfl ?_
              refine ze_aload_n C d_X_mergeBags_122 6 rfl rfl ?_
              refine ze_getf C fl_X_40 (by decide) ze_E_x rfl d_X_mergeBags_123 ?_
              refine ze_iload C d_X_mergeBags_126 4 rfl ?_
              refine ze_iload C d_X_mergeBags_128 2 rfl ?_
              refine ze_iload C d_X_mergeBags_130 1 rfl ?_
              refine ze_eqE (ze_foc 10) ?_
              refine ze_callV (st := []) C (c_T_repeatsFrom (ze_l G) (ze_D G) (ze_i G) ad ms M T1 hd mv 10 (by omega) (T1 10).1 (T1 10).2.1 (T1 10).2.2.1 (T1 10).2.2.2 SB hB1 (by omega) q (by omega) key value) (kv_X_136 (ze_rml (by decide) (by decide))) (by decide) (ze_F_t (i := 10) (by omega)) rfl (Nat.le_of_ble_eq_true rfl) ⟨Nat.le_of_ble_eq_true rfl, Nat.le_of_ble_eq_true rfl⟩ d_X_mergeBags_132 ?_
              rintro _ _ _ _ ⟨rfl, rfl, _, rfl, rfl, rfl⟩
              refine ze_eqE (ze_foc 10).symm ?_
              refine ze_norm (c2 := 0) (s2 := 0) (st' := [.int (nI (ze_rep (key, value) (SB.drop q)))]) rfl rfl rfl ?_
              refine ze_istore (lv' := [(10, .int (nI (ze_rep (key, value) (SB.drop q)))), (9, .int (nI (ze_rep (key, value) (SA.drop p)))), (8, .int value), (7, .int key), (5, .int (nI s)), (4, .int (nI q)), (3, .int (nI p)), (0, .ref (ad 0)), (1, .int (nI kd)), (2, .ref (ad (3 + 3 * m)))]) C d_X_mergeBags_135 (by decide) rfl ?_
              refine ze_iload_n C d_X_mergeBags_137 8 rfl rfl ?_
              refine ze_iload C d_X_mergeBags_138 1 rfl ?_
              refine ze_iload C d_X_mergeBags_140 0 rfl ?_
              refine ze_callS (st := []) C (c_X_timesInResult (ze_l G) (ze_D G) (ze_i G) _ _ _ kd (ze_rep (key, value) (SA.drop p)) (ze_rep (key, value) (SB.drop q)) hk (by omega) (by omega)) (ks_X_139 (ze_rml (by decide) (by decide))) rfl (Nat.le_of_ble_eq_true rfl) ⟨Nat.le_of_ble_eq_true rfl, Nat.le_of_ble_eq_true rfl⟩ d_X_mergeBags_142 ?_
              rintro _ _ _ _ ⟨rfl, rfl, rfl, rfl⟩
              refine ze_norm (c2 := 0) (s2 := 0) (st' := [.int (nI (ze_tm kd (ze_rep (key, value) (SA.drop p)) (ze_rep (key, value) (SB.drop q))))]) rfl rfl rfl ?_
              refine ze_istore (lv' := [(11, .int (nI (ze_tm kd (ze_rep (key, value) (SA.drop p)) (ze_rep (key, value) (SB.drop q))))), (10, .int (nI (ze_rep (key, value) (SB.drop q)))), (9, .int (nI (ze_rep (key, value) (SA.drop p)))), (8, .int value), (7, .int key), (5, .int (nI s)), (4, .int (nI q)), (3, .int (nI p)), (0, .ref (ad 0)), (1, .int (nI kd)), (2, .ref (ad (3 + 3 * m)))]) C d_X_mergeBags_145 (by decide) rfl ?_
              refine ze_iconst (v := nI 0) C d_X_mergeBags_147 (by decide) ?_
              refine ze_istore (lv' := [(12, .int (nI 0)), (11, .int (nI (ze_tm kd (ze_rep (key, value) (SA.drop p)) (ze_rep (key, value) (SB.drop q))))), (10, .int (nI (ze_rep (key, value) (SB.drop q)))), (9, .int (nI (ze_rep (key, value) (SA.drop p)))), (8, .int value), (7, .int key), (5, .int (nI s)), (4, .int (nI q)), (3, .int (nI p)), (0, .ref (ad 0)), (1, .int (nI kd)), (2, .ref (ad (3 + 3 * m)))]) C d_X_mergeBags_148 (by decide) rfl ?_
              have htm : ze_tm kd (ze_rep (key, value) (SA.drop p)) (ze_rep (key, value) (SB.drop q)) ≤ 120 := Nat.le_trans ze_tm_le (by omega)
              have inner : ∀ (r2 c : Nat) (T2 : Nat → ze_T), ze_tm kd (ze_rep (key, value) (SA.drop p)) (ze_rep (key, value) (SB.drop q)) - c = r2 → c ≤ ze_tm kd (ze_rep (key, value) (SA.drop p)) (ze_rep (key, value) (SB.drop q)) → (∀ z, z ≠ m → T2 z = T z) → ze_Hu (T2 m) (Lm ++ List.replicate c (key, value)) → ze_V G 48 ad (ze_E (ze_i G) ad (M, T2, hd, mv) ms) 0 0 150 [(12, .int (nI c)), (11, .int (nI (ze_tm kd (ze_rep (key, value) (SA.drop p)) (ze_rep (key, value) (SB.drop q))))), (10, .int (nI (ze_rep (key, value) (SB.drop q)))), (9, .int (nI (ze_rep (key, value) (SA.drop p)))), (8, .int value), (7, .int key), (5, .int (nI s)), (4, .int (nI q)), (3, .int (nI p)), (0, .ref (ad 0)), (1, .int (nI kd)), (2, .ref (ad (3 + 3 * m)))] [] := by
                intro r2
                induction r2 using Nat.strongRecOn with
                | ind r2 ih2 =>
                  intro c T2 k0 k1 k2 k3
                  have hm2 := ze_Hu_le k3
                  refine ze_iload C d_X_mergeBags_150 0 rfl ?_
                  refine ze_iload C d_X_mergeBags_152 1 rfl ?_
                  refine ze_icmp_geN 171 C d_X_mergeBags_154 (by decide) (by omega) (by omega) (fun h154 => ?_) (fun h154 => ?_)
                  · refine ze_iload_n C d_X_mergeBags_171 8 rfl rfl ?_
                    refine ze_iload C d_X_mergeBags_172 3 rfl ?_
                    refine ze_iaddN C d_X_mergeBags_174 ?_
                    refine ze_istore_n (lv' := [(3, .int (nI (p + (ze_rep (key, value) (SA.drop p))))), (12, .int (nI c)), (11, .int (nI (ze_tm kd (ze_rep (key, value) (SA.drop p)) (ze_rep (key, value) (SB.drop q))))), (10, .int (nI (ze_rep (key, value) (SB.drop q)))), (9, .int (nI (ze_rep (key, value) (SA.drop p)))), (8, .int value), (7, .int key), (5, .int (nI s)), (4, .int (nI q)), (0, .ref (ad 0)), (1, .int (nI kd)), (2, .ref (ad (3 + 3 * m)))]) C d_X_mergeBags_175 rfl (by decide) rfl ?_
                    refine ze_iload C d_X_mergeBags_176 8 rfl ?_
                    refine ze_iload C d_X_mergeBags_178 3 rfl ?_
                    refine ze_iaddN C d_X_mergeBags_180 ?_
                    refine ze_istore (lv' := [(4, .int (nI (q + (ze_rep (key, value) (SB.drop q))))), (3, .int (nI (p + (ze_rep (key, value) (SA.drop p))))), (12, .int (nI c)), (11, .int (nI (ze_tm kd (ze_rep (key, value) (SA.drop p)) (ze_rep (key, value) (SB.drop q))))), (10, .int (nI (ze_rep (key, value) (SB.drop q)))), (9, .int (nI (ze_rep (key, value) (SA.drop p)))), (8, .int value), (7, .int key), (5, .int (nI s)), (0, .ref (ad 0)), (1, .int (nI kd)), (2, .ref (ad (3 + 3 * m)))]) C d_X_mergeBags_181 (by decide) rfl ?_
                    refine ze_iinc (j := 8) (v := nI (s + 1)) (lv' := [(5, .int (nI (s + 1))), (4, .int (nI (q + (ze_rep (key, value) (SB.drop q))))), (3, .int (nI (p + (ze_rep (key, value) (SA.drop p))))), (12, .int (nI c)), (11, .int (nI (ze_tm kd (ze_rep (key, value) (SA.drop p)) (ze_rep (key, value) (SB.drop q))))), (10, .int (nI (ze_rep (key, value) (SB.drop q)))), (9, .int (nI (ze_rep (key, value) (SA.drop p)))), (8, .int value), (7, .int key), (0, .ref (ad 0)), (1, .int (nI kd)), (2, .ref (ad (3 + 3 * m)))]) C d_X_mergeBags_183 rfl (nI_1 _) (by decide) rfl ?_
                    refine ze_goto 8 C d_X_mergeBags_186 (by decide) ?_
                    refine ze_sub [(5, .int (nI (s + 1))), (4, .int (nI (q + ze_rep (key, value) (SB.drop q)))), (3, .int (nI (p + ze_rep (key, value) (SA.drop p)))), (0, .ref (ad 0)), (1, .int (nI kd)), (2, .ref (ad (3 + 3 * m)))] [0, 1, 2, 9, 10, 11] rfl ?_
                    refine ih (120 - (s + 1)) (by omega) (s + 1) _ _ T2 _ rfl (by omega) (by omega) (by omega) k2 k3 ?_
                    rw [← g6, show 120 - s = (120 - (s + 1)) + 1 by omega, ze_mg_step hpk, List.append_assoc, List.drop_drop, List.drop_drop, show c = ze_tm kd (ze_rep (key, value) (SA.drop p)) (ze_rep (key, value) (SB.drop q)) by omega]
                  · refine ze_aload_n C d_X_mergeBags_157 11 rfl rfl ?_
                    refine ze_iload C d_X_mergeBags_158 5 rfl ?_
                    refine ze_iload C d_X_mergeBags_160 4 rfl ?_
                    refine ze_eqE (ze_foc m) ?_
                    refine ze_callV (st := []) C (c_T_append (ze_l G) (ze_D G) (ze_i G) ad ms M T2 hd mv m (by omega) (T2 m).1 (T2 m).2.1 (T2 m).2.2.1 (T2 m).2.2.2 (by omega) key value) (kv_X_53 (ze_rml (by decide) (by decide))) (by omega) (ze_F_t (i := m) (by omega)) rfl (Nat.le_of_ble_eq_true rfl) ⟨Nat.le_of_ble_eq_true rfl, Nat.le_of_ble_eq_true rfl⟩ d_X_mergeBags_162 ?_
                    rintro _ _ _ _ ⟨rfl, rfl, _, rfl, rfl, rfl⟩
                    refine ze_genT (fun T3 eT3 => ?_)
                    refine ze_norm (c2 := 0) (s2 := 0) (st' := []) rfl rfl rfl ?_
                    refine ze_iinc (j := 0) (v := nI (c + 1)) (lv' := [(12, .int (nI (c + 1))), (11, .int (nI (ze_tm kd (ze_rep (key, value) (SA.drop p)) (ze_rep (key, value) (SB.drop q))))), (10, .int (nI (ze_rep (key, value) (SB.drop q)))), (9, .int (nI (ze_rep (key, value) (SA.drop p)))), (8, .int value), (7, .int key), (5, .int (nI s)), (4, .int (nI q)), (3, .int (nI p)), (0, .ref (ad 0)), (1, .int (nI kd)), (2, .ref (ad (3 + 3 * m)))]) C d_X_mergeBags_165 rfl (nI_1 _) (by decide) rfl ?_
                    refine ze_goto 150 C d_X_mergeBags_168 (by decide) ?_
                    refine ze_sub [(12, .int (nI (c + 1))), (11, .int (nI (ze_tm kd (ze_rep (key, value) (SA.drop p)) (ze_rep (key, value) (SB.drop q))))), (10, .int (nI (ze_rep (key, value) (SB.drop q)))), (9, .int (nI (ze_rep (key, value) (SA.drop p)))), (8, .int value), (7, .int key), (5, .int (nI s)), (4, .int (nI q)), (3, .int (nI p)), (0, .ref (ad 0)), (1, .int (nI kd)), (2, .ref (ad (3 + 3 * m)))] [0, 1, 2, 3, 4, 5, 6, 7, 8, 9, 10, 11] rfl ?_
                    exact ih2 (ze_tm kd (ze_rep (key, value) (SA.drop p)) (ze_rep (key, value) (SB.drop q)) - (c + 1)) (by omega) (c + 1) T3 rfl (by omega) (fun z hz => (ze_upo eT3 z hz).trans (k2 z hz)) (by rw [List.replicate_succ', ← List.append_assoc]; exact ze_Hu_app k3 eT3)
              refine ze_sub [(12, .int (nI 0)), (11, .int (nI (ze_tm kd (ze_rep (key, value) (SA.drop p)) (ze_rep (key, value) (SB.drop q))))), (10, .int (nI (ze_rep (key, value) (SB.drop q)))), (9, .int (nI (ze_rep (key, value) (SA.drop p)))), (8, .int value), (7, .int key), (5, .int (nI s)), (4, .int (nI q)), (3, .int (nI p)), (0, .ref (ad 0)), (1, .int (nI kd)), (2, .ref (ad (3 + 3 * m)))] [0, 1, 2, 3, 4, 5, 6, 7, 8, 9, 10, 11] rfl ?_
              exact inner _ 0 T1 rfl (Nat.zero_le _) g4 (by rw [List.replicate_zero, List.append_nil]; exact g5)
        · refine ze_iload C d_X_mergeBags_26 1 rfl ?_
          refine ze_aload_n C d_X_mergeBags_28 3 rfl rfl ?_
          refine ze_getf C fl_X_40 (by decide) ze_E_x rfl d_X_mergeBags_29 ?_
          refine ze_getf (k := 3 + 3 * 10) C fl_X_50 (by decide) (ze_E_t (i := 10) (by omega)) rfl d_X_mergeBags_32 ?_
          refine ze_icmp_ltN 41 C d_X_mergeBags_35 (by decide) (by omega) (by omega) (fun h35 => ?_) (fun h35 => ?_)
          · refine ze_aload_n C d_X_mergeBags_41 3 rfl rfl ?_
            refine ze_iload_n C d_X_mergeBags_42 2 rfl rfl ?_
            refine ze_iload C d_X_mergeBags_43 1 rfl ?_
            refine ze_callV (st := []) C (c_X_isNextFromA (ze_l G) (ze_D G) (ze_i G) ad ms M T1 hd mv SA SB hA1 hB1 p q (by omega) (by omega)) (kv_X_133 (ze_rml (by decide) (by decide))) (by decide) ze_E_x rfl (Nat.le_of_ble_eq_true rfl) ⟨Nat.le_of_ble_eq_true rfl, Nat.le_of_ble_eq_true rfl⟩ d_X_mergeBags_45 ?_
            rintro _ _ _ _ ⟨rfl, rfl, _, rfl, b, rfl, rfl, hb1, hb2, hb3⟩
            refine ze_norm (c2 := 0) (s2 := 0) (st' := [.int (ze_bi b)]) rfl rfl rfl ?_
            refine ze_istore (lv' := [(6, .int (ze_bi b)), (5, .int (nI s)), (4, .int (nI q)), (3, .int (nI p)), (0, .ref (ad 0)), (1, .int (nI kd)), (2, .ref (ad (3 + 3 * m)))]) C d_X_mergeBags_48 (by decide) rfl ?_
            refine ze_iload C d_X_mergeBags_50 0 rfl ?_
            refine ze_if_eq 67 C d_X_mergeBags_52 (by decide) (fun h52 => ?_) (fun h52 => ?_)
            · have hqB : q < SB.length := by omega
              have hpk := hb2 (ze_bi0.mp h52) hqB
              refine ze_aload_n C d_X_mergeBags_67 4 rfl rfl ?_
              refine ze_getf C fl_X_40 (by decide) ze_E_x rfl d_X_mergeBags_68 ?_
              refine ze_getf (k := 3 + 3 * 10) C fl_X_83 (by decide) (ze_E_t (i := 10) (by omega)) rfl d_X_mergeBags_71 ?_
              refine ze_iload C d_X_mergeBags_74 2 rfl ?_
              refine ze_iald (k := 4 + 3 * 10) (i := q) C (by decide) (ze_E_k (i := 10) (by omega)) (by omega) (by decide) d_X_mergeBags_76 ?_
              refine ze_istore (lv' := [(7, .int (((T1 10).1) q)), (6, .int (ze_bi b)), (5, .int (nI s)), (4, .int (nI q)), (3, .int (nI p)), (0, .ref (ad 0)), (1, .int (nI kd)), (2, .ref (ad (3 + 3 * m)))]) C d_X_mergeBags_77 (by decide) rfl ?_
              refine ze_iload C d_X_mergeBags_79 1 rfl ?_
              refine ze_if_eq 96 C d_X_mergeBags_81 (by decide) (fun h81 => ?_) (fun h81 => ?_)
              · refine ze_aload_n C d_X_mergeBags_96 5 rfl rfl ?_
                refine ze_getf C fl_X_40 (by decide) ze_E_x rfl d_X_mergeBags_97 ?_
                refine ze_getf (k := 3 + 3 * 10) C fl_X_87 (by decide) (ze_E_t (i := 10) (by omega)) rfl d_X_mergeBags_100 ?_
                refine ze_iload C d_X_mergeBags_103 3 rfl ?_
                refine ze_iald (k := 5 + 3 * 10) (i := q) C (by decide) (ze_E_v (i := 10) (by omega)) (by omega) (by decide) d_X_mergeBags_105 ?_
                refine ze_istore (lv' := [(8, .int (((T1 10).2.1) q)), (7, .int (((T1 10).1) q)), (6, .int (ze_bi b)), (5, .int (nI s)), (4, .int (nI q)), (3, .int (nI p)), (0, .ref (ad 0)), (1, .int (nI kd)), (2, .ref (ad (3 + 3 * m)))]) C d_X_mergeBags_106 (by decide) rfl ?_
                generalize (T1 10).1 q = key at hpk ⊢
                generalize (T1 10).2.1 q = value at hpk ⊢
                have ra := ze_rep_le (key, value) (SA.drop p)
                have rb := ze_rep_le (key, value) (SB.drop q)
                rw [List.length_drop] at ra rb
                refine ze_sub [(8, .int value), (7, .int key), (5, .int (nI s)), (4, .int (nI q)), (3, .int (nI p)), (0, .ref (ad 0)), (1, .int (nI kd)), (2, .ref (ad (3 + 3 * m)))] [0, 1, 3, 4, 5, 6, 7, 8] rfl ?_
                refine ze_aload_n C d_X_mergeBags_108 5 rfl rfl ?_
                refine ze_getf C fl_X_37 (by decide) ze_E_x rfl d_X_mergeBags_109 ?_
                refine ze_iload_n C d_X_mergeBags_112 4 rfl rfl ?_
                refine ze_iload C d_X_mergeBags_113 1 rfl ?_
                refine ze_iload C d_X_mergeBags_115 0 rfl ?_
                refine ze_eqE (ze_foc 9) ?_
                refine ze_callV (st := []) C (c_T_repeatsFrom (ze_l G) (ze_D G) (ze_i G) ad ms M T1 hd mv 9 (by omega) (T1 9).1 (T1 9).2.1 (T1 9).2.2.1 (T1 9).2.2.2 SA hA1 (by omega) p (by omega) key value) (kv_X_136 (ze_rml (by decide) (by decide))) (by decide) (ze_F_t (i := 9) (by omega)) rfl (Nat.le_of_ble_eq_true rfl) ⟨Nat.le_of_ble_eq_true rfl, Nat.le_of_ble_eq_true rfl⟩ d_X_mergeBags_117 ?_
                rintro _ _ _ _ ⟨rfl, rfl, _, rfl, rfl, rfl⟩
                refine ze_eqE (ze_foc 9).symm ?_
                refine ze_norm (c2 := 0) (s2 := 0) (st' := [.int (nI (ze_rep (key, value) (SA.drop p)))]) rfl rfl rfl ?_
                refine ze_istore (lv' := [(9, .int (nI (ze_rep (key, value) (SA.drop p)))), (8, .int value), (7, .int key), (5, .int (nI s)), (4, .int (nI q)), (3, .int (nI p)), (0, .ref (ad 0)), (1, .int (nI kd)), (2, .ref (ad (3 + 3 * m)))]) C d_X_mergeBags_120 (by decide) rfl ?_
                refine ze_aload_n C d_X_mergeBags_122 6 rfl rfl ?_
                refine ze_getf C fl_X_40 (by decide) ze_E_x rfl d_X_mergeBags_123 ?_
                refine ze_iload C d_X_mergeBags_126 4 rfl ?_
                refine ze_iload C d_X_mergeBags_128 2 rfl ?_
                refine ze_iload C d_X_mergeBags_130 1 rfl ?_
                refine ze_eqE (ze_foc 10) ?_
                refine ze_callV (st := []) C (c_T_repeatsFrom (ze_l G) (ze_D G) (ze_i G) ad ms M T1 hd mv 10 (by omega) (T1 10).1 (T1 10).2.1 (T1 10).2.2.1 (T1 10).2.2.2 SB hB1 (by omega) q (by omega) key value) (kv_X_136 (ze_rml (by decide) (by decide))) (by decide) (ze_F_t (i := 10) (by omega)) rfl (Nat.le_of_ble_eq_true rfl) ⟨Nat.le_of_ble_eq_true rfl, Nat.le_of_ble_eq_true rfl⟩ d_X_mergeBags_132 ?_
                rintro _ _ _ _ ⟨rfl, rfl, _, rfl, rfl, rfl⟩
                refine ze_eqE (ze_foc 10).symm ?_
                refine ze_norm (c2 := 0) (s2 := 0) (st' := [.int (nI (ze_rep (key, value) (SB.drop q)))]) rfl rfl rfl ?_
                refine ze_istore (lv' := [(10, .int (nI (ze_rep (key, value) (SB.drop q)))), (9, .int (nI (ze_rep (key, value) (SA.drop p)))), (8, .int value), (7, .int key), (5, .int (nI s)), (4, .int (nI q)), (3, .int (nI p)), (0, .ref (ad 0)), (1, .int (nI kd)), (2, .ref (ad (3 + 3 * m)))]) C d_X_mergeBags_135 (by decide) rfl ?_
                refine ze_iload_n C d_X_mergeBags_137 8 rfl rfl ?_
                refine ze_iload C d_X_mergeBags_138 1 rfl ?_
                refine ze_iload C d_X_mergeBags_140 0 rfl ?_
                refine ze_callS (st := []) C (c_X_timesInResult (ze_l G) (ze_D G) (ze_i G) _ _ _ kd (ze_rep (key, value) (SA.drop p)) (ze_rep (key, value) (SB.drop q)) hk (by omega) (by omega)) (ks_X_139 (ze_rml (by decide) (by decide))) rfl (Nat.le_of_ble_eq_true rfl) ⟨Nat.le_of_ble_eq_true rfl, Nat.le_of_ble_eq_true rfl⟩ d_X_mergeBags_142 ?_
                rintro _ _ _ _ ⟨rfl, rfl, rfl, rfl⟩
                refine ze_norm (c2 := 0) (s2 := 0) (st' := [.int (nI (ze_tm kd (ze_rep (key, value) (SA.drop p)) (ze_rep (key, value) (SB.drop q))))]) rfl rfl rfl ?_
                refine ze_istore (lv' := [(11, .int (nI (ze_tm kd (ze_rep (key, value) (SA.drop p)) (ze_rep (key, value) (SB.drop q))))), (10, .int (nI (ze_rep (key, value) (SB.drop q)))), (9, .int (nI (ze_rep (key, value) (SA.drop p)))), (8, .int value), (7, .int key), (5, .int (nI s)), (4, .int (nI q)), (3, .int (nI p)), (0, .ref (ad 0)), (1, .int (nI kd)), (2, .ref (ad (3 + 3 * m)))]) C d_X_mergeBags_145 (by decide) rfl ?_
                refine ze_iconst (v := nI 0) C d_X_mergeBags_147 (by decide) ?_
                refine ze_istore (lv' := [(12, .int (nI 0)), (11, .int (nI (ze_tm kd (ze_rep (key, value) (SA.drop p)) (ze_rep (key, value) (SB.drop q))))), (10, .int (nI (ze_rep (key, value) (SB.drop q)))), (9, .int (nI (ze_rep (key, value) (SA.drop p)))), (8, .int value), (7, .int key), (5, .int (nI s)), (4, .int (nI q)), (3, .int (nI p)), (0, .ref (ad 0)), (1, .int (nI kd)), (2, .ref (ad (3 + 3 * m)))]) C d_X_mergeBags_148 (by decide) rfl ?_
                have htm : ze_tm kd (ze_rep (key, value) (SA.drop p)) (ze_rep (key, value) (SB.drop q)) ≤ 120 := Nat.le_trans ze_tm_le (by omega)
                have inner : ∀ (r2 c : Nat) (T2 : Nat → ze_T), ze_tm kd (ze_rep (key, value) (SA.drop p)) (ze_rep (key, value) (SB.drop q)) - c = r2 → c ≤ ze_tm kd (ze_rep (key, value) (SA.drop p)) (ze_rep (key, value) (SB.drop q)) → (∀ z, z ≠ m → T2 z = T z) → ze_Hu (T2 m) (Lm ++ List.replicate c (key, value)) → ze_V G 48 ad (ze_E (ze_i G) ad (M, T2, hd, mv) ms) 0 0 150 [(12, .int (nI c)), (11, .int (nI (ze_tm kd (ze_rep (key, value) (SA.drop p)) (ze_rep (key, value) (SB.drop q))))), (10, .int (nI (ze_rep (key, value) (SB.drop q)))), (9, .int (nI (ze_rep (key, value) (SA.drop p)))), (8, .int value), (7, .int key), (5, .int (nI s)), (4, .int (nI q)), (3, .int (nI p)), (0, .ref (ad 0)), (1, .int (nI kd)), (2, .ref (ad (3 + 3 * m)))] [] := by
                  intro r2
                  induction r2 using Nat.strongRecOn with
                  | ind r2 ih2 =>
                    intro c T2 k0 k1 k2 k3
                    have hm2 := ze_Hu_le k3
                    refine ze_iload C d_X_mergeBags_150 0 rfl ?_
                    refine ze_iload C d_X_mergeBags_152 1 rfl ?_
                    refine ze_icmp_geN 171 C d_X_mergeBags_154 (by decide) (by omega) (by omega) (fun h154 => ?_) (fun h154 => ?_)
                    · refine ze_iload_n C d_X_mergeBags_171 8 rfl rfl ?_
                      refine ze_iload C d_X_mergeBags_172 3 rfl ?_
                      refine ze_iaddN C d_X_mergeBags_174 ?_
                      refine ze_istore_n (lv' := [(3, .int (nI (p + (ze_rep (key, value) (SA.drop p))))), (12, .int (nI c)), (11, .int (nI (ze_tm kd (ze_rep (key, value) (SA.drop p)) (ze_rep (key, value) (SB.drop q))))), (10, .int (nI (ze_rep (key, value) (SB.drop q)))), (9, .int (nI (ze_rep (key, value) (SA.drop p)))), (8, .int value), (7, .int key), (5, .int (nI s)), (4, .int (nI q)), (0, .ref (ad 0)), (1, .int (nI kd)), (2, .ref (ad (3 + 3 * m)))]) C d_X_mergeBags_175 rfl (by decide) rfl ?_
                      refine ze_iload C d_X_mergeBags_176 8 rfl ?_
                      refine ze_iload C d_X_mergeBags_178 3 rfl ?_
                      refine ze_iaddN C d_X_mergeBags_180 ?_
                      refine ze_istore (lv' := [(4, .int (nI (q + (ze_rep (key, value) (SB.drop q))))), (3, .int (nI (p + (ze_rep (key, value) (SA.drop p))))), (12, .int (nI c)), (11, .int (nI (ze_tm kd (ze_rep (key, value) (SA.drop p)) (ze_rep (key, value) (SB.drop q))))), (10, .int (nI (ze_rep (key, value) (SB.drop q)))), (9, .int (nI (ze_rep (key, value) (SA.drop p)))), (8, .int value), (7, .int key), (5, .int (nI s)), (0, .ref (ad 0)), (1, .int (nI kd)), (2, .ref (ad (3 + 3 * m)))]) C d_X_mergeBags_181 (by decide) rfl ?_
                      refine ze_iinc (j := 8) (v := nI (s + 1)) (lv' := [(5, .int (nI (s + 1))), (4, .int (nI (q + (ze_rep (key, value) (SB.drop q))))), (3, .int (nI (p + (ze_rep (key, value) (SA.drop p))))), (12, .int (nI c)), (11, .int (nI (ze_tm kd (ze_rep (key, value) (SA.drop p)) (ze_rep (key, value) (SB.drop q))))), (10, .int (nI (ze_rep (key, value) (SB.drop q)))), (9, .int (nI (ze_rep (key, value) (SA.drop p)))), (8, .int value), (7, .int key), (0, .ref (ad 0)), (1, .int (nI kd)), (2, .ref (ad (3 + 3 * m)))]) C d_X_mergeBags_183 rfl (nI_1 _) (by decide) rfl ?_
                      refine ze_goto 8 C d_X_mergeBags_186 (by decide) ?_
                      refine ze_sub [(5, .int (nI (s + 1))), (4, .int (nI (q + ze_rep (key, value) (SB.drop q)))), (3, .int (nI (p + ze_rep (key, value) (SA.drop p)))), (0, .ref (ad 0)), (1, .int (nI kd)), (2, .ref (ad (3 + 3 * m)))] [0, 1, 2, 9, 10, 11] rfl ?_
                      refine ih (120 - (s + 1)) (by omega) (s + 1) _ _ T2 _ rfl (by omega) (by omega) (by omega) k2 k3 ?_
                      rw [← g6, show 120 - s = (120 - (s + 1)) + 1 by omega, ze_mg_step hpk, List.append_assoc, List.drop_drop, List.drop_drop, show c = ze_tm kd (ze_rep (key, value) (SA.drop p)) (ze_rep (key, value) (SB.drop q)) by omega]
                    · refine ze_aload_n C d_X_mergeBags_157 11 rfl rfl ?_
                      refine ze_iload C d_X_mergeBags_158 5 rfl ?_
                      refine ze_iload C d_X_mergeBags_160 4 rfl ?_
                      refine ze_eqE (ze_foc m) ?_
                      refine ze_callV (st := []) C (c_T_append (ze_l G) (ze_D G) (ze_i G) ad ms M T2 hd mv m (by omega) (T2 m).1 (T2 m).2.1 (T2 m).2.2.1 (T2 m).2.2.2 (by omega) key value) (kv_X_53 (ze_rml (by decide) (by decide))) (by omega) (ze_F_t (i := m) (by omega)) rfl (Nat.le_of_ble_eq_true rfl) ⟨Nat.le_of_ble_eq_true rfl, Nat.le_of_ble_eq_true rfl⟩ d_X_mergeBags_162 ?_
                      rintro _ _ _ _ ⟨rfl, rfl, _, rfl, rfl, rfl⟩
                      refine ze_genT (fun T3 eT3 => ?_)
                      refine ze_norm (c2 := 0) (s2 := 0) (st' := []) rfl rfl rfl ?_
                      refine ze_iinc (j := 0) (v := nI (c + 1)) (lv' := [(12, .int (nI (c + 1))), (11, .int (nI (ze_tm kd (ze_rep (key, value) (SA.drop p)) (ze_rep (key, value) (SB.drop q))))), (10, .int (nI (ze_rep (key, value) (SB.drop q)))), (9, .int (nI (ze_rep (key, value) (SA.drop p)))), (8, .int value), (7, .int key), (5, .int (nI s)), (4, .int (nI q)), (3, .int (nI p)), (0, .ref (ad 0)), (1, .int (nI kd)), (2, .ref (ad (3 + 3 * m)))]) C d_X_mergeBags_165 rfl (nI_1 _) (by decide) rfl ?_
                      refine ze_goto 150 C d_X_mergeBags_168 (by decide) ?_
                      refine ze_sub [(12, .int (nI (c + 1))), (11, .int (nI (ze_tm kd (ze_rep (key, value) (SA.drop p)) (ze_rep (key, value) (SB.drop q))))), (10, .int (nI (ze_rep (key, value) (SB.drop q)))), (9, .int (nI (ze_rep (key, value) (SA.drop p)))), (8, .int value), (7, .int key), (5, .int (nI s)), (4, .int (nI q)), (3, .int (nI p)), (0, .ref (ad 0)), (1, .int (nI kd)), (2, .ref (ad (3 + 3 * m)))] [0, 1, 2, 3, 4, 5, 6, 7, 8, 9, 10, 11] rfl ?_
                      exact ih2 (ze_tm kd (ze_rep (key, value) (SA.drop p)) (ze_rep (key, value) (SB.drop q)) - (c + 1)) (by omega) (c + 1) T3 rfl (by omega) (fun z hz => (ze_upo eT3 z hz).trans (k2 z hz)) (by rw [List.replicate_succ', ← List.append_assoc]; exact ze_Hu_app k3 eT3)
                refine ze_sub [(12, .int (nI 0)), (11, .int (nI (ze_tm kd (ze_rep (key, value) (SA.drop p)) (ze_rep (key, value) (SB.drop q))))), (10, .int (nI (ze_rep (key, value) (SB.drop q)))), (9, .int (nI (ze_rep (key, value) (SA.drop p)))), (8, .int value), (7, .int key), (5, .int (nI s)), (4, .int (nI q)), (3, .int (nI p)), (0, .ref (ad 0)), (1, .int (nI kd)), (2, .ref (ad (3 + 3 * m)))] [0, 1, 2, 3, 4, 5, 6, 7, 8, 9, 10, 11] rfl ?_
                exact inner _ 0 T1 rfl (Nat.zero_le _) g4 (by rw [List.replicate_zero, List.append_nil]; exact g5)
              · exact absurd h52 h81
            · obtain ⟨hpA, hpk⟩ := hb1 (ze_bi1 h52)
              refine ze_aload_n C d_X_mergeBags_55 4 rfl rfl ?_
              refine ze_getf C fl_X_37 (by decide) ze_E_x rfl d_X_mergeBags_56 ?_
              refine ze_getf (k := 3 + 3 * 9) C fl_X_83 (by decide) (ze_E_t (i := 9) (by omega)) rfl d_X_mergeBags_59 ?_
              refine ze_iload_n C d_X_mergeBags_62 3 rfl rfl ?_
              refine ze_iald (k := 4 + 3 * 9) (i := p) C (by decide) (ze_E_k (i := 9) (by omega)) (by omega) (by decide) d_X_mergeBags_63 ?_
              refine ze_goto 77 C d_X_mergeBags_64 (by decide) ?_
              refine ze_istore (lv' := [(7, .int (((T1 9).1) p)), (6, .int (ze_bi b)), (5, .int (nI s)), (4, .int (nI q)), (3, .int (nI p)), (0, .ref (ad 0)), (1, .int (nI kd)), (2, .ref (ad (3 + 3 * m)))]) C d_X_mergeBags_77 (by decide) rfl ?_
              refine ze_iload C d_X_mergeBags_79 1 rfl ?_
              refine ze_if_eq 96 C d_X_mergeBags_81 (by decide) (fun h81 => ?_) (fun h81 => ?_)
              · exact absurd h81 h52
              · refine ze_aload_n C d_X_mergeBags_84 5 rfl rfl ?_
                refine ze_getf C fl_X_37 (by decide) ze_E_x rfl d_X_mergeBags_85 ?_
                refine ze_getf (k := 3 + 3 * 9) C fl_X_87 (by decide) (ze_E_t (i := 9) (by omega)) rfl d_X_mergeBags_88 ?_
                refine ze_iload_n C d_X_mergeBags_91 4 rfl rfl ?_
                refine ze_iald (k := 5 + 3 * 9) (i := p) C (by decide) (ze_E_v (i := 9) (by omega)) (by omega) (by decide) d_X_mergeBags_92 ?_
                refine ze_goto 106 C d_X_mergeBags_93 (by decide) ?_
                refine ze_istore (lv' := [(8, .int (((T1 9).2.1) p)), (7, .int (((T1 9).1) p)), (6, .int (ze_bi b)), (5, .int (nI s)), (4, .int (nI q)), (3, .int (nI p)), (0, .ref (ad 0)), (1, .int (nI kd)), (2, .ref (ad (3 + 3 * m)))]) C d_X_mergeBags_106 (by decide) rfl ?_
                generalize (T1 9).1 p = key at hpk ⊢
                generalize (T1 9).2.1 p = value at hpk ⊢
                have ra := ze_rep_le (key, value) (SA.drop p)
                have rb := ze_rep_le (key, value) (SB.drop q)
                rw [List.length_drop] at ra rb
                refine ze_sub [(8, .int value), (7, .int key), (5, .int (nI s)), (4, .int (nI q)), (3, .int (nI p)), (0, .ref (ad 0)), (1, .int (nI kd)), (2, .ref (ad (3 + 3 * m)))] [0, 1, 3, 4, 5, 6, 7, 8] rfl ?_
                refine ze_aload_n C d_X_mergeBags_108 5 rfl rfl ?_
                refine ze_getf C fl_X_37 (by decide) ze_E_x rfl d_X_mergeBags_109 ?_
                refine ze_iload_n C d_X_mergeBags_112 4 rfl rfl ?_
                refine ze_iload C d_X_mergeBags_113 1 rfl ?_
                refine ze_iload C d_X_mergeBags_115 0 rfl ?_
                refine ze_eqE (ze_foc 9) ?_
                refine ze_callV (st := []) C (c_T_repeatsFrom (ze_l G) (ze_D G) (ze_i G) ad ms M T1 hd mv 9 (by omega) (T1 9).1 (T1 9).2.1 (T1 9).2.2.1 (T1 9).2.2.2 SA hA1 (by omega) p (by omega) key value) (kv_X_136 (ze_rml (by decide) (by decide))) (by decide) (ze_F_t (i := 9) (by omega)) rfl (Nat.le_of_ble_eq_true rfl) ⟨Nat.le_of_ble_eq_true rfl, Nat.le_of_ble_eq_true rfl⟩ d_X_mergeBags_117 ?_
                rintro _ _ _ _ ⟨rfl, rfl, _, rfl, rfl, rfl⟩
                refine ze_eqE (ze_foc 9).symm ?_
                refine ze_norm (c2 := 0) (s2 := 0) (st' := [.int (nI (ze_rep (key, value) (SA.drop p)))]) rfl rfl rfl ?_
                refine ze_istore (lv' := [(9, .int (nI (ze_rep (key, value) (SA.drop p)))), (8, .int value), (7, .int key), (5, .int (nI s)), (4, .int (nI q)), (3, .int (nI p)), (0, .ref (ad 0)), (1, .int (nI kd)), (2, .ref (ad (3 + 3 * m)))]) C d_X_mergeBags_120 (by decide) rfl ?_
                refine ze_aload_n C d_X_mergeBags_122 6 rfl rfl ?_
                refine ze_getf C fl_X_40 (by decide) ze_E_x rfl d_X_mergeBags_123 ?_
                refine ze_iload C d_X_mergeBags_126 4 rfl ?_
                refine ze_iload C d_X_mergeBags_128 2 rfl ?_
                refine ze_iload C d_X_mergeBags_130 1 rfl ?_
                refine ze_eqE (ze_foc 10) ?_
                refine ze_callV (st := []) C (c_T_repeatsFrom (ze_l G) (ze_D G) (ze_i G) ad ms M T1 hd mv 10 (by omega) (T1 10).1 (T1 10).2.1 (T1 10).2.2.1 (T1 10).2.2.2 SB hB1 (by omega) q (by omega) key value) (kv_X_136 (ze_rml (by decide) (by decide))) (by decide) (ze_F_t (i := 10) (by omega)) rfl (Nat.le_of_ble_eq_true rfl) ⟨Nat.le_of_ble_eq_true rfl, Nat.le_of_ble_eq_true rfl⟩ d_X_mergeBags_132 ?_
                rintro _ _ _ _ ⟨rfl, rfl, _, rfl, rfl, rfl⟩
                refine ze_eqE (ze_foc 10).symm ?_
                refine ze_norm (c2 := 0) (s2 := 0) (st' := [.int (nI (ze_rep (key, value) (SB.drop q)))]) rfl rfl rfl ?_
                refine ze_istore (lv' := [(10, .int (nI (ze_rep (key, value) (SB.drop q)))), (9, .int (nI (ze_rep (key, value) (SA.drop p)))), (8, .int value), (7, .int key), (5, .int (nI s)), (4, .int (nI q)), (3, .int (nI p)), (0, .ref (ad 0)), (1, .int (nI kd)), (2, .ref (ad (3 + 3 * m)))]) C d_X_mergeBags_135 (by decide) rfl ?_
                refine ze_iload_n C d_X_mergeBags_137 8 rfl rfl ?_
                refine ze_iload C d_X_mergeBags_138 1 rfl ?_
                refine ze_iload C d_X_mergeBags_140 0 rfl ?_
                refine ze_callS (st := []) C (c_X_timesInResult (ze_l G) (ze_D G) (ze_i G) _ _ _ kd (ze_rep (key, value) (SA.drop p)) (ze_rep (key, value) (SB.drop q)) hk (by omega) (by omega)) (ks_X_139 (ze_rml (by decide) (by decide))) rfl (Nat.le_of_ble_eq_true rfl) ⟨Nat.le_of_ble_eq_true rfl, Nat.le_of_ble_eq_true rfl⟩ d_X_mergeBags_142 ?_
                rintro _ _ _ _ ⟨rfl, rfl, rfl, rfl⟩
                refine ze_norm (c2 := 0) (s2 := 0) (st' := [.int (nI (ze_tm kd (ze_rep (key, value) (SA.drop p)) (ze_rep (key, value) (SB.drop q))))]) rfl rfl rfl ?_
                refine ze_istore (lv' := [(11, .int (nI (ze_tm kd (ze_rep (key, value) (SA.drop p)) (ze_rep (key, value) (SB.drop q))))), (10, .int (nI (ze_rep (key, value) (SB.drop q)))), (9, .int (nI (ze_rep (key, value) (SA.drop p)))), (8, .int value), (7, .int key), (5, .int (nI s)), (4, .int (nI q)), (3, .int (nI p)), (0, .ref (ad 0)), (1, .int (nI kd)), (2, .ref (ad (3 + 3 * m)))]) C d_X_mergeBags_145 (by decide) rfl ?_
                refine ze_iconst (v := nI 0) C d_X_mergeBags_147 (by decide) ?_
                refine ze_istore (lv' := [(12, .int (nI 0)), (11, .int (nI (ze_tm kd (ze_rep (key, value) (SA.drop p)) (ze_rep (key, value) (SB.drop q))))), (10, .int (nI (ze_rep (key, value) (SB.drop q)))), (9, .int (nI (ze_rep (key, value) (SA.drop p)))), (8, .int value), (7, .int key), (5, .int (nI s)), (4, .int (nI q)), (3, .int (nI p)), (0, .ref (ad 0)), (1, .int (nI kd)), (2, .ref (ad (3 + 3 * m)))]) C d_X_mergeBags_148 (by decide) rfl ?_
                have htm : ze_tm kd (ze_rep (key, value) (SA.drop p)) (ze_rep (key, value) (SB.drop q)) ≤ 120 := Nat.le_trans ze_tm_le (by omega)
                have inner : ∀ (r2 c : Nat) (T2 : Nat → ze_T), ze_tm kd (ze_rep (key, value) (SA.drop p)) (ze_rep (key, value) (SB.drop q)) - c = r2 → c ≤ ze_tm kd (ze_rep (key, value) (SA.drop p)) (ze_rep (key, value) (SB.drop q)) → (∀ z, z ≠ m → T2 z = T z) → ze_Hu (T2 m) (Lm ++ List.replicate c (key, value)) → ze_V G 48 ad (ze_E (ze_i G) ad (M, T2, hd, mv) ms) 0 0 150 [(12, .int (nI c)), (11, .int (nI (ze_tm kd (ze_rep (key, value) (SA.drop p)) (ze_rep (key, value) (SB.drop q))))), (10, .int (nI (ze_rep (key, value) (SB.drop q)))), (9, .int (nI (ze_rep (key, value) (SA.drop p)))), (8, .int value), (7, .int key), (5, .int (nI s)), (4, .int (nI q)), (3, .int (nI p)), (0, .ref (ad 0)), (1, .int (nI kd)), (2, .ref (ad (3 + 3 * m)))] [] := by
                  intro r2
                  induction r2 using Nat.strongRecOn with
                  | ind r2 ih2 =>
                    intro c T2 k0 k1 k2 k3
                    have hm2 := ze_Hu_le k3
                    refine ze_iload C d_X_mergeBags_150 0 rfl ?_
                    refine ze_iload C d_X_mergeBags_152 1 rfl ?_
                    refine ze_icmp_geN 171 C d_X_mergeBags_154 (by decide) (by omega) (by omega) (fun h154 => ?_) (fun h154 => ?_)
                    · refine ze_iload_n C d_X_mergeBags_171 8 rfl rfl ?_
                      refine ze_iload C d_X_mergeBags_172 3 rfl ?_
                      refine ze_iaddN C d_X_mergeBags_174 ?_
                      refine ze_istore_n (lv' := [(3, .int (nI (p + (ze_rep (key, value) (SA.drop p))))), (12, .int (nI c)), (11, .int (nI (ze_tm kd (ze_rep (key, value) (SA.drop p)) (ze_rep (key, value) (SB.drop q))))), (10, .int (nI (ze_rep (key, value) (SB.drop q)))), (9, .int (nI (ze_rep (key, value) (SA.drop p)))), (8, .int value), (7, .int key), (5, .int (nI s)), (4, .int (nI q)), (0, .ref (ad 0)), (1, .int (nI kd)), (2, .ref (ad (3 + 3 * m)))]) C d_X_mergeBags_175 rfl (by decide) rfl ?_
                      refine ze_iload C d_X_mergeBags_176 8 rfl ?_
                      refine ze_iload C d_X_mergeBags_178 3 rfl ?_
                      refine ze_iaddN C d_X_mergeBags_180 ?_
                      refine ze_istore (lv' := [(4, .int (nI (q + (ze_rep (key, value) (SB.drop q))))), (3, .int (nI (p + (ze_rep (key, value) (SA.drop p))))), (12, .int (nI c)), (11, .int (nI (ze_tm kd (ze_rep (key, value) (SA.drop p)) (ze_rep (key, value) (SB.drop q))))), (10, .int (nI (ze_rep (key, value) (SB.drop q)))), (9, .int (nI (ze_rep (key, value) (SA.drop p)))), (8, .int value), (7, .int key), (5, .int (nI s)), (0, .ref (ad 0)), (1, .int (nI kd)), (2, .ref (ad (3 + 3 * m)))]) C d_X_mergeBags_181 (by decide) rfl ?_
                      refine ze_iinc (j := 8) (v := nI (s + 1)) (lv' := [(5, .int (nI (s + 1))), (4, .int (nI (q + (ze_rep (key, value) (SB.drop q))))), (3, .int (nI (p + (ze_rep (key, value) (SA.drop p))))), (12, .int (nI c)), (11, .int (nI (ze_tm kd (ze_rep (key, value) (SA.drop p)) (ze_rep (key, value) (SB.drop q))))), (10, .int (nI (ze_rep (key, value) (SB.drop q)))), (9, .int (nI (ze_rep (key, value) (SA.drop p)))), (8, .int value), (7, .int key), (0, .ref (ad 0)), (1, .int (nI kd)), (2, .ref (ad (3 + 3 * m)))]) C d_X_mergeBags_183 rfl (nI_1 _) (by decide) rfl ?_
                      refine ze_goto 8 C d_X_mergeBags_186 (by decide) ?_
                      refine ze_sub [(5, .int (nI (s + 1))), (4, .int (nI (q + ze_rep (key, value) (SB.drop q)))), (3, .int (nI (p + ze_rep (key, value) (SA.drop p)))), (0, .ref (ad 0)), (1, .int (nI kd)), (2, .ref (ad (3 + 3 * m)))] [0, 1, 2, 9, 10, 11] rfl ?_
                      refine ih (120 - (s + 1)) (by omega) (s + 1) _ _ T2 _ rfl (by omega) (by omega) (by omega) k2 k3 ?_
                      rw [← g6, show 120 - s = (120 - (s + 1)) + 1 by omega, ze_mg_step hpk, List.append_assoc, List.drop_drop, List.drop_drop, show c = ze_tm kd (ze_rep (key, value) (SA.drop p)) (ze_rep (key, value) (SB.drop q)) by omega]
                    · refine ze_aload_n C d_X_mergeBags_157 11 rfl rfl ?_
                      refine ze_iload C d_X_mergeBags_158 5 rfl ?_
                      refine ze_iload C d_X_mergeBags_160 4 rfl ?_
                      refine ze_eqE (ze_foc m) ?_
                      refine ze_callV (st := []) C (c_T_append (ze_l G) (ze_D G) (ze_i G) ad ms M T2 hd mv m (by omega) (T2 m).1 (T2 m).2.1 (T2 m).2.2.1 (T2 m).2.2.2 (by omega) key value) (kv_X_53 (ze_rml (by decide) (by decide))) (by omega) (ze_F_t (i := m) (by omega)) rfl (Nat.le_of_ble_eq_true rfl) ⟨Nat.le_of_ble_eq_true rfl, Nat.le_of_ble_eq_true rfl⟩ d_X_mergeBags_162 ?_
                      rintro _ _ _ _ ⟨rfl, rfl, _, rfl, rfl, rfl⟩
                      refine ze_genT (fun T3 eT3 => ?_)
                      refine ze_norm (c2 := 0) (s2 := 0) (st' := []) rfl rfl rfl ?_
                      refine ze_iinc (j := 0) (v := nI (c + 1)) (lv' := [(12, .int (nI (c + 1))), (11, .int (nI (ze_tm kd (ze_rep (key, value) (SA.drop p)) (ze_rep (key, value) (SB.drop q))))), (10, .int (nI (ze_rep (key, value) (SB.drop q)))), (9, .int (nI (ze_rep (key, value) (SA.drop p)))), (8, .int value), (7, .int key), (5, .int (nI s)), (4, .int (nI q)), (3, .int (nI p)), (0, .ref (ad 0)), (1, .int (nI kd)), (2, .ref (ad (3 + 3 * m)))]) C d_X_mergeBags_165 rfl (nI_1 _) (by decide) rfl ?_
                      refine ze_goto 150 C d_X_mergeBags_168 (by decide) ?_
                      refine ze_sub [(12, .int (nI (c + 1))), (11, .int (nI (ze_tm kd (ze_rep (key, value) (SA.drop p)) (ze_rep (key, value) (SB.drop q))))), (10, .int (nI (ze_rep (key, value) (SB.drop q)))), (9, .int (nI (ze_rep (key, value) (SA.drop p)))), (8, .int value), (7, .int key), (5, .int (nI s)), (4, .int (nI q)), (3, .int (nI p)), (0, .ref (ad 0)), (1, .int (nI kd)), (2, .ref (ad (3 + 3 * m)))] [0, 1, 2, 3, 4, 5, 6, 7, 8, 9, 10, 11] rfl ?_
                      exact ih2 (ze_tm kd (ze_rep (key, value) (SA.drop p)) (ze_rep (key, value) (SB.drop q)) - (c + 1)) (by omega) (c + 1) T3 rfl (by omega) (fun z hz => (ze_upo eT3 z hz).trans (k2 z hz)) (by rw [List.replicate_succ', ← List.append_assoc]; exact ze_Hu_app k3 eT3)
                refine ze_sub [(12, .int (nI 0)), (11, .int (nI (ze_tm kd (ze_rep (key, value) (SA.drop p)) (ze_rep (key, value) (SB.drop q))))), (10, .int (nI (ze_rep (key, value) (SB.drop q)))), (9, .int (nI (ze_rep (key, value) (SA.drop p)))), (8, .int value), (7, .int key), (5, .int (nI s)), (4, .int (nI q)), (3, .int (nI p)), (0, .ref (ad 0)), (1, .int (nI kd)), (2, .ref (ad (3 + 3 * m)))] [0, 1, 2, 3, 4, 5, 6, 7, 8, 9, 10, 11] rfl ?_
                exact inner _ 0 T1 rfl (Nat.zero_le _) g4 (by rw [List.replicate_zero, List.append_nil]; exact g5)
          · refine ze_goto 189 C d_X_mergeBags_38 (by decide) ?_
            exact ze_vret C Rt d_X_mergeBags_189 (⟨rfl, rfl, _, rfl, rfl, T1, rfl, g4, by rw [← g6]; rw [List.drop_eq_nil_of_le (as := SA) (by omega), List.drop_eq_nil_of_le (as := SB) (by omega), show 120 - s = (119 - s) + 1 by omega, ze_mg, ze_pick, List.append_nil]; exact g5⟩)
  refine ze_iconst (v := nI 0) C d_X_mergeBags_0 (by decide) ?_
  refine ze_istore_n (lv' := [(3, .int (nI 0)), (0, .ref (ad 0)), (1, .int (nI kd)), (2, .ref (ad (3 + 3 * m)))]) C d_X_mergeBags_1 rfl (by decide) rfl ?_
  refine ze_iconst (v := nI 0) C d_X_mergeBags_2 (by decide) ?_
  refine ze_istore (lv' := [(4, .int (nI 0)), (3, .int (nI 0)), (0, .ref (ad 0)), (1, .int (nI kd)), (2, .ref (ad (3 + 3 * m)))]) C d_X_mergeBags_3 (by decide) rfl ?_
  refine ze_iconst (v := nI 0) C d_X_mergeBags_5 (by decide) ?_
  refine ze_istore (lv' := [(5, .int (nI 0)), (4, .int (nI 0)), (3, .int (nI 0)), (0, .ref (ad 0)), (1, .int (nI kd)), (2, .ref (ad (3 + 3 * m)))]) C d_X_mergeBags_6 (by decide) rfl ?_
  exact loop _ 0 0 0 T [] rfl (by decide) (Nat.zero_le _) (Nat.zero_le _) (fun _ _ => rfl) hm (by rw [List.nil_append, List.drop_zero, List.drop_zero])

theorem ze_kind_no {σ : ze_Sg} {kind a b into : Int32} (h : kind < 0 ∨ ¬ kind ≤ nI 3) : sp_combine σ kind a b into = (-1, σ) := by
  have : decide (0 ≤ kind.toInt ∧ kind.toInt ≤ 3) = false := by
    refine decide_eq_false ?_
    rw [Int32.lt_iff_toInt_lt, Int32.le_iff_toInt_le] at h
    simp only [show (0 : Int32).toInt = 0 from rfl, show (nI 3).toInt = 3 from rfl] at h
    omega
  simp [sp_combine, sp_op, this]
theorem ze_kind_yes {kind : Int32} (h1 : ¬ kind < 0) (h2 : kind ≤ nI 3) : ∃ kd, kd ≤ 3 ∧ kind = nI kd := by
  obtain ⟨kd, h3, rfl⟩ := nI_of h1
  rw [nI_leI h3 (by decide)] at h2
  exact ⟨kd, h2, rfl⟩
theorem ze_comb_op {σ : ze_Sg} {a b into : Int32} {kd : Nat} (h : kd ≤ 3) : sp_combine σ (nI kd) a b into = sp_op σ true a b into (fun A B => (ze_cmb kd A B, ze_sc σ.2.2.2 A.length + ze_sc σ.2.2.2 B.length + ze_sz A.length + ze_sz B.length + ze_sz (ze_cmb kd A B).length)) := by
  have h1 : decide (0 ≤ (nI kd).toInt ∧ (nI kd).toInt ≤ 3) = true := decide_eq_true (by rw [nI_toInt (by omega)]; omega)
  rw [sp_combine, h1, ze_n_nI (by omega)]

set_option maxRecDepth 100000 in
set_option maxHeartbeats 4000000 in
theorem c_X_combine (l : Launch) (D : va_G) (ids : Nat → ClassId) (ad : Nat → Nat) (ms : ze_MS) (M : Nat) (T : Nat → ze_T) (hd : Nat → Bool) (mv : Int64) (inp : List ze_Row) (sl : Nat → Option (List ze_Row)) (hR : ze_rX (M, T, hd, mv) (inp, sl, mv, M)) (kind a b into : Int32) : ze_MX l D ids ad ms y_X_combine ws_X_combine 20 (M, T, hd, mv) [.ref (ad 0), .int kind, .int a, .int b, .int into] (fun v x' => v = some (.int (sp_combine (inp, sl, mv, M) kind a b into).1) ∧ ze_rX x' (sp_combine (inp, sl, mv, M) kind a b into).2) := by
  refine ze_enter (cc := b_X_combine) (maxL := 9) (ret := (some .int)) (by decide +kernel) rfl (Nat.le_of_ble_eq_true rfl) ?_
  rintro G rfl rfl rfl - C Rt
  refine ze_lv (lv' := [(0, .ref (ad 0)), (1, .int kind), (2, .int a), (3, .int b), (4, .int into)]) rfl ?_
  obtain ⟨-, hM3, hM6, -, hin, -, -⟩ := id hR
  simp only at hin hM3 hM6
  refine ze_iload_n C d_X_combine_0 1 rfl rfl ?_
  refine ze_if_lt 9 C d_X_combine_1 (by decide) (fun h1 => ?_) (fun h1 => ?_)
  · refine ze_iconst (v := -1) C d_X_combine_9 (by decide) ?_
    exact ze_iret C Rt d_X_combine_10 (⟨rfl, rfl, _, rfl, by rw [ze_kind_no (Or.inl h1)], by rw [ze_kind_no (Or.inl h1)]; exact hR⟩)
  · refine ze_iload_n C d_X_combine_4 1 rfl rfl ?_
    refine ze_iconst (v := nI 3) C d_X_combine_5 (by decide) ?_
    refine ze_icmp_le 11 C d_X_combine_6 (by decide) (fun h6 => ?_) (fun h6 => ?_)
    · obtain ⟨kd, hkd, rfl⟩ := ze_kind_yes h1 h6
      have hsp0 := ze_comb_op (σ := (inp, sl, mv, M)) (a := a) (b := b) (into := into) hkd
      refine ze_aload_n C d_X_combine_11 0 rfl rfl ?_
      refine ze_iload_n C d_X_combine_12 2 rfl rfl ?_
      refine ze_iload_n C d_X_combine_13 3 rfl rfl ?_
      refine ze_iload C d_X_combine_14 4 rfl ?_
      refine ze_callV (st := []) C (c_X_refusalOf (ze_l G) (ze_D G) (ze_i G) ad ms M T hd mv a b into) (kv_X_90 (ze_rml (by decide) (by decide))) (by decide) ze_E_x rfl (Nat.le_of_ble_eq_true rfl) ⟨Nat.le_of_ble_eq_true rfl, Nat.le_of_ble_eq_true rfl⟩ d_X_combine_16 ?_
      rintro _ _ _ _ ⟨rfl, rfl, _, rfl, rfl, rfl⟩
      refine ze_norm (c2 := 0) (s2 := 0) (st' := [.int (ze_rf hd a b into)]) rfl rfl rfl ?_
      refine ze_istore (lv' := [(5, .int (ze_rf hd a b into)), (0, .ref (ad 0)), (1, .int (nI kd)), (2, .int a), (3, .int b), (4, .int into)]) C d_X_combine_19 (by decide) rfl ?_
      refine ze_iload C d_X_combine_21 0 rfl ?_
      refine ze_if_eq 29 C d_X_combine_23 (by decide) (fun h23 => ?_) (fun h23 => ?_)
      · obtain ⟨ja, jb, ji, A, B, hja, hjb, hji, rfl, rfl, rfl, hne, hneb, hAs, hBs, hI, hHA, hHB, hop⟩ := ze_rf_0 hR h23
        have hcA : (T ja).2.2.1 = A.length := hHA.1
        have hA60 : A.length ≤ 60 := hHA.2.1
        have hcB : (T jb).2.2.1 = B.length := hHB.1
        have hB60 : B.length ≤ 60 := hHB.2.1
        refine ze_sub [(0, .ref (ad 0)), (1, .int (nI kd)), (2, .int (nI ja)), (3, .int (nI jb)), (4, .int (nI ji))] [1, 2, 3, 4, 5] rfl ?_
        have hsp : sp_combine (inp, sl, mv, M) (nI kd) (nI ja) (nI jb) (nI ji) = sp_fin (inp, sl, mv, M) ji (ze_cmb kd A B, ze_sc M A.length + ze_sc M B.length + ze_sz A.length + ze_sz B.length + ze_sz (ze_cmb kd A B).length) := by rw [hsp0, hop]
        refine ze_aload_n C d_X_combine_29 0 rfl rfl ?_
        refine ze_getf C fl_X_37 (by decide) ze_E_x rfl d_X_combine_30 ?_
        refine ze_aload_n C d_X_combine_33 0 rfl rfl ?_
        refine ze_getf C fl_X_24 (by decide) ze_E_x rfl d_X_combine_34 ?_
        refine ze_iload_n C d_X_combine_37 2 rfl rfl ?_
        refine ze_aald (k := 1) (i := ja) C (by decide) ze_E_tabs (by omega) (by decide) rfl d_X_combine_38 ?_
        refine ze_eqE (ze_foc 9) ?_
        refine ze_callV (st := []) C (c_T_copyFrom (ze_l G) (ze_D G) (ze_i G) ad ms M T hd mv 9 (by omega) (T 9).1 (T 9).2.1 (T 9).2.2.1 (T 9).2.2.2 ja (by omega) (by omega) (by omega)) (kv_X_61 (ze_rml (by decide) (by decide))) (by decide) (ze_F_t (i := 9) (by omega)) rfl (Nat.le_of_ble_eq_true rfl) ⟨Nat.le_of_ble_eq_true rfl, Nat.le_of_ble_eq_true rfl⟩ d_X_combine_39 ?_
        rintro _ _ _ _ ⟨rfl, rfl, _, rfl, rfl, rfl⟩
        refine ze_genT (fun T1 eT1 => ?_)
        refine ze_norm (c2 := 0) (s2 := 0) (st' := []) rfl rfl rfl ?_
        have hA1 := (ze_H_cpy hHA eT1).1
        have hR1 := ze_rX_wk hR (by decide) (fun h => absurd h (by decide)) (ze_upo eT1)
        have hc1 : (T1 9).2.2.1 = A.length := hA1.1
        refine ze_aload_n C d_X_combine_42 0 rfl rfl ?_
        refine ze_getf C fl_X_37 (by decide) ze_E_x rfl d_X_combine_43 ?_
        refine ze_iconst (v := nI 2) C d_X_combine_46 (by decide) ?_
        refine ze_eqE (ze_foc 9) ?_
        refine ze_callV (st := []) C (c_T_arrange (ze_l G) (ze_D G) (ze_i G) ad ms M T1 hd mv 9 (by omega) (T1 9).1 (T1 9).2.1 (T1 9).2.2.1 (T1 9).2.2.2 A hA1 (by omega) 2 (by decide)) (kv_X_94 (ze_rml (by decide) (by decide))) (by decide) (ze_F_t (i := 9) (by omega)) rfl (Nat.le_of_ble_eq_true rfl) ⟨Nat.le_of_ble_eq_true rfl, Nat.le_of_ble_eq_true rfl⟩ d_X_combine_47 ?_
        rintro _ _ _ _ ⟨rfl, rfl, _, rfl, rfl, f2, g2, rfl, hs2⟩
        refine ze_genT (fun T2 eT2 => ?_)
        refine ze_norm (c2 := 0) (s2 := 0) (st' := []) rfl rfl rfl ?_
        have hA2 : ze_H (T2 9) (ze_srt 2 A) := by rw [ze_ups eT2]; exact hs2
        have hR2 := ze_rX_wk hR1 (by decide) (fun h => absurd h (by decide)) (ze_upo eT2)
        have hB2 : ze_H (T2 jb) B := by rw [ze_upo eT2 jb (by omega), ze_upo eT1 jb (by omega)]; exact hHB
        have hcB2 : (T2 jb).2.2.1 = B.length := hB2.1
        refine ze_aload_n C d_X_combine_50 0 rfl rfl ?_
        refine ze_getf C fl_X_40 (by decide) ze_E_x rfl d_X_combine_51 ?_
        refine ze_aload_n C d_X_combine_54 0 rfl rfl ?_
        refine ze_getf C fl_X_24 (by decide) ze_E_x rfl d_X_combine_55 ?_
        refine ze_iload_n C d_X_combine_58 3 rfl rfl ?_
        refine ze_aald (k := 1) (i := jb) C (by decide) ze_E_tabs (by omega) (by decide) rfl d_X_combine_59 ?_
        refine ze_eqE (ze_foc 10) ?_
        refine ze_callV (st := []) C (c_T_copyFrom (ze_l G) (ze_D G) (ze_i G) ad ms M T2 hd mv 10 (by omega) (T2 10).1 (T2 10).2.1 (T2 10).2.2.1 (T2 10).2.2.2 jb (by omega) (by omega) (by omega)) (kv_X_61 (ze_rml (by decide) (by decide))) (by decide) (ze_F_t (i := 10) (by omega)) rfl (Nat.le_of_ble_eq_true rfl) ⟨Nat.le_of_ble_eq_true rfl, Nat.le_of_ble_eq_true rfl⟩ d_X_combine_60 ?_
        rintro _ _ _ _ ⟨rfl, rfl, _, rfl, rfl, rfl⟩
        refine ze_genT (fun T3 eT3 => ?_)
        refine ze_norm (c2 := 0) (s2 := 0) (st' := []) rfl rfl rfl ?_
        have hB3 := (ze_H_cpy hB2 eT3).1
        have hR3 := ze_rX_wk hR2 (by decide) (fun h => absurd h (by decide)) (ze_upo eT3)
        have hc3 : (T3 10).2.2.1 = B.length := hB3.1
        refine ze_aload_n C d_X_combine_63 0 rfl rfl ?_
        refine ze_getf C fl_X_40 (by decide) ze_E_x rfl d_X_combine_64 ?_
        refine ze_iconst (v := nI 2) C d_X_combine_67 (by decide) ?_
        refine ze_eqE (ze_foc 10) ?_
        refine ze_callV (st := []) C (c_T_arrange (ze_l G) (ze_D G) (ze_i G) ad ms M T3 hd mv 10 (by omega) (T3 10).1 (T3 10).2.1 (T3 10).2.2.1 (T3 10).2.2.2 B hB3 (by omega) 2 (by decide)) (kv_X_94 (ze_rml (by decide) (by decide))) (by decide) (ze_F_t (i := 10) (by omega)) rfl (Nat.le_of_ble_eq_true rfl) ⟨Nat.le_of_ble_eq_true rfl, Nat.le_of_ble_eq_true rfl⟩ d_X_combine_68 ?_
        rintro _ _ _ _ ⟨rfl, rfl, _, rfl, rfl, f4, g4, rfl, hs4⟩
        refine ze_genT (fun T4 eT4 => ?_)
        refine ze_norm (c2 := 0) (s2 := 0) (st' := []) rfl rfl rfl ?_
        have hB4 : ze_H (T4 10) (ze_srt 2 B) := by rw [ze_ups eT4]; exact hs4
        have hR4 := ze_rX_wk hR3 (by decide) (fun h => absurd h (by decide)) (ze_upo eT4)
        refine ze_aload_n C d_X_combine_71 0 rfl rfl ?_
        refine ze_getf C fl_X_24 (by decide) ze_E_x rfl d_X_combine_72 ?_
        refine ze_iload C d_X_combine_75 4 rfl ?_
        refine ze_aald (k := 1) (i := ji) C (by decide) ze_E_tabs (by omega) (by decide) rfl d_X_combine_77 ?_
        refine ze_astore (lv' := [(6, .ref (ad (3 + 3 * ji))), (0, .ref (ad 0)), (1, .int (nI kd)), (2, .int (nI ja)), (3, .int (nI jb)), (4, .int (nI ji))]) C d_X_combine_78 (by decide) rfl ?_
        refine ze_aload C d_X_combine_80 0 rfl ?_
        refine ze_eqE (ze_foc ji) ?_
        refine ze_callV (st := []) C (c_T_clear (ze_l G) (ze_D G) (ze_i G) ad ms M T4 hd mv ji (by omega) (T4 ji).1 (T4 ji).2.1 (T4 ji).2.2.1 (T4 ji).2.2.2 ) (kv_X_65 (ze_rml (by decide) (by decide))) (by omega) (ze_F_t (i := ji) (by omega)) rfl (Nat.le_of_ble_eq_true rfl) ⟨Nat.le_of_ble_eq_true rfl, Nat.le_of_ble_eq_true rfl⟩ d_X_combine_82 ?_
        rintro _ _ _ _ ⟨rfl, rfl, _, rfl, rfl, rfl⟩
        refine ze_genT (fun T5 eT5 => ?_)
        refine ze_norm (c2 := 0) (s2 := 0) (st' := []) rfl rfl rfl ?_
        have hu5 := ze_Hu_clr eT5
        have hR5 := ze_rX_wk hR4 (by omega) (fun _ => hI) (ze_upo eT5)
        have hB5 : ze_H (T5 10) (ze_srt 2 B) := by rw [ze_upo eT5 10 (by omega)]; exact hB4
        have hA5 : ze_H (T5 9) (ze_srt 2 A) := by rw [ze_upo eT5 9 (by omega), ze_upo eT4 9 (by decide), ze_upo eT3 9 (by decide)]; exact hA2
        refine ze_aload_n C d_X_combine_85 1 rfl rfl ?_
        refine ze_iload_n C d_X_combine_86 2 rfl rfl ?_
        refine ze_aload C d_X_combine_87 0 rfl ?_
        refine ze_callV (st := []) C (c_X_mergeBags (ze_l G) (ze_D G) (ze_i G) ad ms M T5 hd mv (ze_srt 2 A) (ze_srt 2 B) hA5 hB5 kd hkd ji hji hu5) (kv_X_109 (ze_rml (by decide) (by decide))) (by decide) ze_E_x rfl (Nat.le_of_ble_eq_true rfl) ⟨Nat.le_of_ble_eq_true rfl, Nat.le_of_ble_eq_true rfl⟩ d_X_combine_89 ?_
        rintro _ _ _ _ ⟨rfl, rfl, _, rfl, rfl, T6, rfl, oT6, hu6⟩
        refine ze_norm (c2 := 0) (s2 := 0) (st' := []) rfl rfl rfl ?_
        rw [ze_mg_cmb kd A B 120 (by omega)] at hu6
        have hR6 := ze_rX_wk hR5 (by omega) (fun _ => hI) oT6
        have hcA6 : (T6 9).2.2.1 = A.length := by rw [oT6 9 (by omega), hA5.1, ze_srt_len]
        have hcB6 : (T6 10).2.2.1 = B.length := by rw [oT6 10 (by omega), hB5.1, ze_srt_len]
        have hm6 := ze_Hu_le hu6
        refine ze_aload_n C d_X_combine_92 1 rfl rfl ?_
        refine ze_aload_n C d_X_combine_93 1 rfl rfl ?_
        refine ze_getf C fl_X_37 (by decide) ze_E_x rfl d_X_combine_94 ?_
        refine ze_getf (k := 3 + 3 * 9) C fl_X_50 (by decide) (ze_E_t (i := 9) (by omega)) rfl d_X_combine_97 ?_
        refine ze_callV (st := []) C (c_X_sortCost (ze_l G) (ze_D G) (ze_i G) ad ms M T6 hd mv ⟨hM3, hM6⟩ (T6 9).2.2.1 (by omega)) (kv_X_98 (ze_rml (by decide) (by decide))) (by decide) ze_E_x rfl (Nat.le_of_ble_eq_true rfl) ⟨Nat.le_of_ble_eq_true rfl, Nat.le_of_ble_eq_true rfl⟩ d_X_combine_100 ?_
        rintro _ _ _ _ ⟨rfl, rfl, _, rfl, rfl, rfl⟩
        refine ze_norm (c2 := 0) (s2 := 0) (st' := [.long (lN (ze_sc M (T6 9).2.2.1))]) rfl rfl rfl ?_
        refine ze_aload_n C d_X_combine_103 1 rfl rfl ?_
        refine ze_aload_n C d_X_combine_104 1 rfl rfl ?_
        refine ze_getf C fl_X_40 (by decide) ze_E_x rfl d_X_combine_105 ?_
        refine ze_getf (k := 3 + 3 * 10) C fl_X_50 (by decide) (ze_E_t (i := 10) (by omega)) rfl d_X_combine_108 ?_
        refine ze_callV (st := [.long (lN (ze_sc M (T6 9).2.2.1))]) C (c_X_sortCost (ze_l G) (ze_D G) (ze_i G) ad ms M T6 hd mv ⟨hM3, hM6⟩ (T6 10).2.2.1 (by omega)) (kv_X_98 (ze_rml (by decide) (by decide))) (by decide) ze_E_x rfl (Nat.le_of_ble_eq_true rfl) ⟨Nat.le_of_ble_eq_true rfl, Nat.le_of_ble_eq_true rfl⟩ d_X_combine_111 ?_
        rintro _ _ _ _ ⟨rfl, rfl, _, rfl, rfl, rfl⟩
        refine ze_norm (c2 := 0) (s2 := 0) (st' := [.long (lN (ze_sc M (T6 10).2.2.1)), .long (lN (ze_sc M (T6 9).2.2.1))]) rfl rfl rfl ?_
        refine ze_laddN C d_X_combine_114 ?_
        refine ze_lstore (lv' := [(7, .long (lN (ze_sc M (T6 9).2.2.1 + (ze_sc M (T6 10).2.2.1)))), (6, .ref (ad (3 + 3 * ji))), (0, .ref (ad 0)), (1, .int (nI kd)), (2, .int (nI ja)), (3, .int (nI jb)), (4, .int (nI ji))]) C d_X_combine_115 (by decide) rfl ?_
        refine ze_lload C d_X_combine_117 0 rfl ?_
        refine ze_aload_n C d_X_combine_119 2 rfl rfl ?_
        refine ze_getf C fl_X_37 (by decide) ze_E_x rfl d_X_combine_120 ?_
        refine ze_getf (k := 3 + 3 * 9) C fl_X_50 (by decide) (ze_E_t (i := 9) (by omega)) rfl d_X_combine_123 ?_
        refine ze_callS (st := [.long (lN (ze_sc M (T6 9).2.2.1 + (ze_sc M (T6 10).2.2.1)))]) C (c_X_sizeOf (ze_l G) (ze_D G) (ze_i G) _ _ _ ((T6 9).2.2.1) (by omega)) (ks_X_68 (ze_rml (by decide) (by decide))) rfl (Nat.le_of_ble_eq_true rfl) ⟨Nat.le_of_ble_eq_true rfl, Nat.le_of_ble_eq_true rfl⟩ d_X_combine_126 ?_
        rintro _ _ _ _ ⟨rfl, rfl, rfl, rfl⟩
        refine ze_norm (c2 := 0) (s2 := 0) (st' := [.int (nI (ze_sz ((T6 9).2.2.1))), .long (lN (ze_sc M (T6 9).2.2.1 + (ze_sc M (T6 10).2.2.1)))]) rfl rfl rfl ?_
        have hz126 := ze_sz_le ((T6 9).2.2.1)
        refine ze_aload_n C d_X_combine_129 2 rfl rfl ?_
        refine ze_getf C fl_X_40 (by decide) ze_E_x rfl d_X_combine_130 ?_
        refine ze_getf (k := 3 + 3 * 10) C fl_X_50 (by decide) (ze_E_t (i := 10) (by omega)) rfl d_X_combine_133 ?_
        refine ze_callS (st := [.int (nI (ze_sz ((T6 9).2.2.1))), .long (lN (ze_sc M (T6 9).2.2.1 + (ze_sc M (T6 10).2.2.1)))]) C (c_X_sizeOf (ze_l G) (ze_D G) (ze_i G) _ _ _ ((T6 10).2.2.1) (by omega)) (ks_X_68 (ze_rml (by decide) (by decide))) rfl (Nat.le_of_ble_eq_true rfl) ⟨Nat.le_of_ble_eq_true rfl, Nat.le_of_ble_eq_true rfl⟩ d_X_combine_136 ?_
        rintro _ _ _ _ ⟨rfl, rfl, rfl, rfl⟩
        refine ze_norm (c2 := 0) (s2 := 0) (st' := [.int (nI (ze_sz ((T6 10).2.2.1))), .int (nI (ze_sz ((T6 9).2.2.1))), .long (lN (ze_sc M (T6 9).2.2.1 + (ze_sc M (T6 10).2.2.1)))]) rfl rfl rfl ?_
        have hz136 := ze_sz_le ((T6 10).2.2.1)
        refine ze_iaddN C d_X_combine_139 ?_
        refine ze_i2lN C d_X_combine_140 (by omega) ?_
        refine ze_laddN C d_X_combine_141 ?_
        refine ze_lstore (lv' := [(7, .long (lN (ze_sc M (T6 9).2.2.1 + (ze_sc M (T6 10).2.2.1) + (ze_sz ((T6 9).2.2.1) + (ze_sz ((T6 10).2.2.1)))))), (6, .ref (ad (3 + 3 * ji))), (0, .ref (ad 0)), (1, .int (nI kd)), (2, .int (nI ja)), (3, .int (nI jb)), (4, .int (nI ji))]) C d_X_combine_142 (by decide) rfl ?_
        refine ze_aload_n C d_X_combine_144 2 rfl rfl ?_
        refine ze_iload C d_X_combine_145 6 rfl ?_
        refine ze_lload C d_X_combine_147 0 rfl ?_
        refine ze_aload C d_X_combine_149 1 rfl ?_
        refine ze_getf (k := 3 + 3 * ji) C fl_X_50 (by omega) (ze_E_t (i := ji) (by omega)) rfl d_X_combine_151 ?_
        refine ze_callS (st := [.long (lN (ze_sc M (T6 9).2.2.1 + (ze_sc M (T6 10).2.2.1) + (ze_sz ((T6 9).2.2.1) + (ze_sz ((T6 10).2.2.1))))), .int (nI ji), .ref (ad 0)]) C (c_X_sizeOf (ze_l G) (ze_D G) (ze_i G) _ _ _ ((T6 ji).2.2.1) (by omega)) (ks_X_68 (ze_rml (by decide) (by decide))) rfl (Nat.le_of_ble_eq_true rfl) ⟨Nat.le_of_ble_eq_true rfl, Nat.le_of_ble_eq_true rfl⟩ d_X_combine_154 ?_
        rintro _ _ _ _ ⟨rfl, rfl, rfl, rfl⟩
        refine ze_norm (c2 := 0) (s2 := 0) (st' := [.int (nI (ze_sz ((T6 ji).2.2.1))), .long (lN (ze_sc M (T6 9).2.2.1 + (ze_sc M (T6 10).2.2.1) + (ze_sz ((T6 9).2.2.1) + (ze_sz ((T6 10).2.2.1))))), .int (nI ji), .ref (ad 0)]) rfl rfl rfl ?_
        have hz154 := ze_sz_le ((T6 ji).2.2.1)
        refine ze_i2lN C d_X_combine_157 (by omega) ?_
        refine ze_laddN C d_X_combine_158 ?_
        refine ze_callV (st := []) C (c_X_finish (ze_l G) (ze_D G) (ze_i G) ad ms M T6 hd mv ji (by omega) (lN (ze_sc M (T6 9).2.2.1 + (ze_sc M (T6 10).2.2.1) + (ze_sz ((T6 9).2.2.1) + (ze_sz ((T6 10).2.2.1))) + (ze_sz ((T6 ji).2.2.1))))) (kv_X_72 (ze_rml (by decide) (by decide))) (by decide) ze_E_x rfl (Nat.le_of_ble_eq_true rfl) ⟨Nat.le_of_ble_eq_true rfl, Nat.le_of_ble_eq_true rfl⟩ d_X_combine_159 ?_
        rintro _ _ _ _ ⟨rfl, rfl, x', rfl, hfin⟩
        obtain ⟨r, rfl, hr1, hr2⟩ := ze_op_end (q := (ze_cmb kd A B, ze_sc M A.length + ze_sc M B.length + ze_sz A.length + ze_sz B.length + ze_sz (ze_cmb kd A B).length)) hR6 hji hu6 (fun z => by rw [hcA6, hcB6, (ze_Hu_H hu6 z).1]; congr 1; omega) hfin
        refine ze_norm (c2 := 0) (s2 := 0) (st' := [.int r]) rfl rfl rfl ?_
        exact ze_iret C Rt d_X_combine_162 ⟨rfl, rfl, _, rfl, by rw [hsp, hr1], by rw [hsp]; exact hr2⟩
      · refine ze_iload C d_X_combine_26 0 rfl ?_
        exact ze_iret C Rt d_X_combine_28 (⟨rfl, rfl, _, rfl, by rw [hsp0, ze_rf_ne hR h23], by rw [hsp0, ze_rf_ne hR h23]; exact hR⟩)
    · refine ze_iconst (v := -1) C d_X_combine_9 (by decide) ?_
      exact ze_iret C Rt d_X_combine_10 (⟨rfl, rfl, _, rfl, by rw [ze_kind_no (Or.inr h6)], by rw [ze_kind_no (Or.inr h6)]; exact hR⟩)
end
section
/-- one round of group over the rows P, with room for e sums: its keys, its sums, the rows that stay -/
def ze_gK (e : Nat) (P : List ze_Row) : List Int32 := (ze_dk P).take e
def ze_gS (e : Nat) (P : List ze_Row) : List ze_Row := (ze_gK e P).map (fun k => (k, ze_sum k P))
def ze_gR (e : Nat) (P : List ze_Row) : List ze_Row := P.filter (fun r => !decide (r.1 ∈ ze_gK e P))
theorem ze_gK_nodup (e : Nat) (P : List ze_Row) : (ze_gK e P).Nodup := List.Nodup.sublist (List.take_sublist _ _) (ze_dk_nodup P)
theorem ze_gK_len (e : Nat) (P : List ze_Row) : (ze_gK e P).length ≤ e ∧ (ze_gK e P).length ≤ (ze_dk P).length := by
  unfold ze_gK
  rw [List.length_take]
  omega
theorem ze_gS_len (e : Nat) (P : List ze_Row) : (ze_gS e P).length = (ze_gK e P).length := by simp [ze_gS]
theorem ze_upd_id {f : Nat → Int32} {q : Nat} {x : Int32} (h : f q = x) : upd f q x = f := by
  funext j
  by_cases e : j = q
  · subst e; rw [pk_us, h]
  · rw [pk_un e]
theorem ze_g_hit {e : Nat} {P : List ze_Row} {key v : Int32} {t : Nat} (ht : (ze_gK e P)[t]? = some key) : ze_gK e (P ++ [(key, v)]) = ze_gK e P ∧ ze_gR e (P ++ [(key, v)]) = ze_gR e P ∧ ze_gS e (P ++ [(key, v)]) = (ze_gS e P).set t (key, ze_sum key P + v) := by
  have hk : key ∈ ze_gK e P := List.mem_of_getElem? ht
  have hd : key ∈ ze_dk P := List.mem_of_mem_take hk
  have e1 : ze_gK e (P ++ [(key, v)]) = ze_gK e P := by
    unfold ze_gK
    rw [ze_dk_snoc, if_pos hd]
  refine ⟨e1, ?_, ?_⟩
  · unfold ze_gR
    rw [e1, List.filter_append]
    simp [hk]
  · unfold ze_gS
    rw [e1]
    apply List.ext_getElem?
    intro j
    obtain ⟨hl, he⟩ := List.getElem?_eq_some_iff.mp ht
    by_cases hj : j = t
    · subst hj
      rw [List.getElem?_set_self (by simpa using hl), List.getElem?_map, ht, Option.map_some, ze_sum_snoc, if_pos rfl]
    · rw [List.getElem?_set_ne (Ne.symm hj), List.getElem?_map, List.getElem?_map]
      cases hx : (ze_gK e P)[j]? with
      | none => rfl
      | some x =>
        have hne : ¬ key = x := fun z => by
          rw [z, ← hx] at ht
          exact hj ((List.getElem?_inj hl (ze_gK_nodup e P)).mp ht).symm
        rw [Option.map_some, Option.map_some, ze_sum_snoc, if_neg hne]
theorem ze_g_new {e : Nat} {P : List ze_Row} {key v : Int32} (hk : key ∉ ze_gK e P) (hl : (ze_gK e P).length < e) : ze_gK e (P ++ [(key, v)]) = ze_gK e P ++ [key] ∧ ze_gR e (P ++ [(key, v)]) = ze_gR e P ∧ ze_gS e (P ++ [(key, v)]) = ze_gS e P ++ [(key, v)] := by
  have h0 : ze_gK e P = ze_dk P := by
    unfold ze_gK at hl ⊢
    rw [List.length_take] at hl
    exact List.take_of_length_le (by omega)
  have hd : key ∉ ze_dk P := by rw [← h0]; exact hk
  have e1 : ze_gK e (P ++ [(key, v)]) = ze_gK e P ++ [key] := by
    rw [h0] at hl ⊢
    unfold ze_gK
    rw [ze_dk_snoc, if_neg hd, List.take_of_length_le (by simp; omega)]
  refine ⟨e1, ?_, ?_⟩
  · unfold ze_gR
    rw [e1, h0, List.filter_append]
    have a1 : P.filter (fun r => !decide (r.1 ∈ ze_dk P ++ [key])) = [] := by
      rw [List.filter_eq_nil_iff]
      intro r hr
      simp [(ze_dk_mem r.1 P).mpr ⟨r, hr, rfl⟩]
    have a2 : P.filter (fun r => !decide (r.1 ∈ ze_dk P)) = [] := by
      rw [List.filter_eq_nil_iff]
      intro r hr
      simp [(ze_dk_mem r.1 P).mpr ⟨r, hr, rfl⟩]
    rw [a1, a2]
    simp
  · unfold ze_gS
    rw [e1, List.map_append]
    congr 1
    · apply List.map_congr_left
      intro x hx
      have hne : ¬ key = x := fun z => hk (z ▸ hx)
      rw [ze_sum_snoc, if_neg hne]
    · simp only [List.map_cons, List.map_nil]
      rw [ze_sum_snoc, if_pos rfl, ze_sum_none key P hd, Int32.zero_add]
theorem ze_g_kept {e : Nat} {P : List ze_Row} {key v : Int32} (hk : key ∉ ze_gK e P) (hl : ¬ (ze_gK e P).length < e) : ze_gK e (P ++ [(key, v)]) = ze_gK e P ∧ ze_gR e (P ++ [(key, v)]) = ze_gR e P ++ [(key, v)] ∧ ze_gS e (P ++ [(key, v)]) = ze_gS e P := by
  have hl2 : e ≤ (ze_dk P).length := by
    unfold ze_gK at hl
    rw [List.length_take] at hl
    omega
  have e1 : ze_gK e (P ++ [(key, v)]) = ze_gK e P := by
    unfold ze_gK
    rw [ze_dk_snoc]
    split
    · rfl
    · rw [List.take_append_of_le_length hl2]
  refine ⟨e1, ?_, ?_⟩
  · unfold ze_gR
    rw [e1, List.filter_append]
    simp [hk]
  · unfold ze_gS
    rw [e1]
    apply List.map_congr_left
    intro x hx
    have hne : ¬ key = x := fun z => hk (z ▸ hx)
    rw [ze_sum_snoc, if_neg hne]
/-- the round at what is left behind q keys -/
theorem ze_gR_lf (e : Nat) (L : List ze_Row) (q : Nat) : ze_gR e (ze_lf L q) = ze_lf L (q + e) := ze_lf_lf L q e
theorem ze_gS_lf (e : Nat) (L : List ze_Row) (q : Nat) : (ze_grp L).take q ++ ze_gS e (ze_lf L q) = (ze_grp L).take (q + e) := by
  rw [List.take_add]
  congr 1
  unfold ze_gS ze_gK ze_grp
  rw [← List.map_drop, ← List.map_take, ← ze_dk_lf]
  apply List.map_congr_left
  intro k hk
  rw [ze_sum_lf L q (List.mem_of_mem_take hk)]
theorem ze_grp_len (L : List ze_Row) : (ze_grp L).length = (ze_dk L).length := by simp [ze_grp]
/-- the places of the round's sums in the table that is made -/
theorem ze_g_at {t : ze_T} {L0 : List ze_Row} {e : Nat} {P : List ze_Row} (h : ze_Hl t.1 t.2.1 0 (L0 ++ ze_gS e P)) {j : Nat} (hj : j < (ze_gK e P).length) : (ze_gK e P)[j]? = some (t.1 (L0.length + j)) ∧ t.2.1 (L0.length + j) = ze_sum (t.1 (L0.length + j)) P := by
  have h2 := (ze_Hl_app.mp h).2
  rw [Nat.zero_add] at h2
  have h3 := ze_Hl_row h2 (p := j) (by rw [ze_gS_len]; exact hj)
  unfold ze_gS at h3
  rw [List.getElem?_map, List.getElem?_eq_getElem hj] at h3
  simp only [Option.map_some, Option.some.injEq, Prod.mk.injEq] at h3
  rw [List.getElem?_eq_getElem hj, h3.1]
  exact ⟨rfl, by rw [← h3.2, h3.1]⟩
end
section
section ZGR
variable {T1 T2 : Nat → ze_T} {m e pl : Nat} {L0 P R : List ze_Row} {key v : Int32}
theorem ze_gK_pre (e p : Nat) (R : List ze_Row) : (ze_gK e (R.take p)).length ≤ (ze_dk R).length := by
  obtain ⟨K, hK⟩ := ze_dk_app (R.take p) (R.drop p)
  rw [List.take_append_drop] at hK
  have := (ze_gK_len e (R.take p)).2
  rw [hK, List.length_append]
  omega
theorem ze_gr_hl (hm : ze_Hu (T1 m) (L0 ++ ze_gS e P)) (hl : L0.length + (ze_gK e P).length ≤ 60) : ze_Hl (T1 m).1 (T1 m).2.1 0 (L0 ++ ze_gS e P) := by
  have h := hm.2.2
  rw [List.take_of_length_le (by rw [List.length_append, ze_gS_len]; exact hl)] at h
  exact h
theorem ze_gr_cnt (hm : ze_Hu (T1 m) (L0 ++ ze_gS e P)) (hl : L0.length + (ze_gK e P).length ≤ 60) : (T1 m).2.2.1 = L0.length + (ze_gK e P).length := by
  rw [hm.1, List.length_append, ze_gS_len]
  omega
theorem ze_Hu_set {t : ze_T} {L : List ze_Row} {p : Nat} {r : ze_Row} (h : ze_Hu t L) (hl : L.length ≤ 60) (hp : p < L.length) (hk : t.1 p = r.1) : ze_Hu (t.1, upd t.2.1 p r.2, t.2.2.1, t.2.2.2) (L.set p r) := by
  obtain ⟨h1, h2, h3⟩ := h
  refine ⟨by simp only [List.length_set]; exact h1, by simp only [List.length_set]; exact h2, ?_⟩
  rw [List.take_of_length_le hl] at h3
  rw [List.take_of_length_le (by rw [List.length_set]; exact hl)]
  have h4 := ze_Hl_set (r := r) h3 hp
  rw [Nat.zero_add, ze_upd_id hk] at h4
  exact h4
theorem ze_gr_hit (hm : ze_Hu (T1 m) (L0 ++ ze_gS e P)) (hl : L0.length + (ze_gK e P).length ≤ 60) (h1 : L0.length ≤ pl) (h2 : pl < (T1 m).2.2.1) (h4 : (T1 m).1 pl = key) (eT : T2 = va_up T1 m ((T1 m).1, upd (T1 m).2.1 pl ((T1 m).2.1 pl + v), (T1 m).2.2.1, (T1 m).2.2.2)) : ze_Hu (T2 m) (L0 ++ ze_gS e (P ++ [(key, v)])) ∧ ze_gR e (P ++ [(key, v)]) = ze_gR e P := by
  have hc := ze_gr_cnt hm hl
  obtain ⟨a1, a2⟩ := ze_g_at (ze_gr_hl hm hl) (j := pl - L0.length) (by omega)
  rw [show L0.length + (pl - L0.length) = pl by omega, h4] at a1 a2
  obtain ⟨b1, b2, b3⟩ := ze_g_hit (v := v) a1
  refine ⟨?_, b2⟩
  rw [b3, ze_ups eT, a2]
  have h5 := ze_Hu_set (r := (key, ze_sum key P + v)) hm (by rw [List.length_append, ze_gS_len]; exact hl) (p := pl) (by rw [List.length_append, ze_gS_len]; omega) h4
  rw [List.set_append_right _ _ h1] at h5
  exact h5
theorem ze_gr_miss (hm : ze_Hu (T1 m) (L0 ++ ze_gS e P)) (hl : L0.length + (ze_gK e P).length ≤ 60) (h3 : ∀ q, L0.length ≤ q → q < pl → (T1 m).1 q ≠ key) (h5 : (T1 m).2.2.1 ≤ pl) : key ∉ ze_gK e P := by
  intro hk
  obtain ⟨t, ht⟩ := List.getElem?_of_mem hk
  have hlt := (List.getElem?_eq_some_iff.mp ht).1
  obtain ⟨a1, -⟩ := ze_g_at (ze_gr_hl hm hl) hlt
  rw [ht] at a1
  have hc := ze_gr_cnt hm hl
  exact h3 (L0.length + t) (by omega) (by omega) (Option.some.inj a1).symm
theorem ze_gr_new (hm : ze_Hu (T1 m) (L0 ++ ze_gS e P)) (hk : key ∉ ze_gK e P) (hl : (ze_gK e P).length < e) (eT : T2 = va_up T1 m (if (T1 m).2.2.1 < 60 then (upd (T1 m).1 (T1 m).2.2.1 key, upd (T1 m).2.1 (T1 m).2.2.1 v, (T1 m).2.2.1 + 1, (T1 m).2.2.2) else ((T1 m).1, (T1 m).2.1, (T1 m).2.2.1, true))) : ze_Hu (T2 m) (L0 ++ ze_gS e (P ++ [(key, v)])) ∧ ze_gR e (P ++ [(key, v)]) = ze_gR e P := by
  obtain ⟨b1, b2, b3⟩ := ze_g_new (v := v) hk hl
  refine ⟨?_, b2⟩
  rw [b3, ← List.append_assoc]
  exact ze_Hu_app hm eT
end ZGR

set_option maxRecDepth 100000 in
set_option maxHeartbeats 4000000 in
theorem c_X_groupOneRound (l : Launch) (D : va_G) (ids : Nat → ClassId) (ad : Nat → Nat) (ms : ze_MS) (M : Nat) (T : Nat → ze_T) (hd : Nat → Bool) (mv : Int64) (hM : 3 ≤ M ∧ M ≤ 6) (R L0 : List ze_Row) (hRR : ze_H (T 9) R) (m : Nat) (hm8 : m < 8) (hm : ze_Hu (T m) L0) (hsum : L0.length + (ze_dk R).length ≤ 60) : ze_MX l D ids ad ms y_X_groupOneRound ws_X_groupOneRound 5 (M, T, hd, mv) [.ref (ad 0), .ref (ad 30), .ref (ad (3 + 3 * m))] (fun v x' => v = none ∧ ∃ T', x' = (M, T', hd, mv) ∧ (∀ z, z ≠ m → z ≠ 9 → T' z = T z) ∧ ze_Hu (T' m) (L0 ++ ze_gS (ze_rm4 M) R) ∧ ze_H (T' 9) (ze_gR (ze_rm4 M) R)) := by
  refine ze_enter (cc := b_X_groupOneRound) (maxL := 8) (ret := none) (by decide +kernel) rfl (Nat.le_of_ble_eq_true rfl) ?_
  rintro G rfl rfl rfl - C Rt
  refine ze_lv (lv' := [(0, .ref (ad 0)), (1, .ref (ad 30)), (2, .ref (ad (3 + 3 * m)))]) rfl ?_
  have hcR : (T 9).2.2.1 = R.length := hRR.1
  have hR6 : R.length ≤ 60 := hRR.2.1
  have hcm : (T m).2.2.1 = L0.length := by rw [hm.1]; omega
  have loop : ∀ (r p k : Nat) (T1 : Nat → ze_T), R.length - p = r → p ≤ R.length → k ≤ p → k = (ze_gR (ze_rm4 M) (R.take p)).length → (∀ z, z ≠ m → z ≠ 9 → T1 z = T z) → ze_Hu (T1 m) (L0 ++ ze_gS (ze_rm4 M) (R.take p)) → ze_Hl (T1 9).1 (T1 9).2.1 0 (ze_gR (ze_rm4 M) (R.take p)) → ze_Hl (T1 9).1 (T1 9).2.1 p (R.drop p) → (T1 9).2.2.1 = R.length → ze_V G 48 ad (ze_E (ze_i G) ad (M, T1, hd, mv) ms) 0 0 11 [(5, .int (nI p)), (4, .int (nI k)), (3, .int (nI L0.length)), (0, .ref (ad 0)), (1, .ref (ad 30)), (2, .ref (ad (3 + 3 * m)))] [] := by
    intro r
    induction r using Nat.strongRecOn with
    | ind r ih =>
      intro p k T1 hr g1 g2 g3 g4 g5 g6 g7 g8
      have hgl : L0.length + (ze_gK (ze_rm4 M) (R.take p)).length ≤ 60 := Nat.le_trans (Nat.add_le_add_left (ze_gK_pre _ p R) _) hsum
      have hcc := ze_gr_cnt g5 hgl
      refine ze_iload C d_X_groupOneRound_11 0 rfl ?_
      refine ze_aload_n C d_X_groupOneRound_13 4 rfl rfl ?_
      refine ze_getf (k := 3 + 3 * 9) C fl_X_50 (by decide) (ze_E_t (i := 9) (by omega)) rfl d_X_groupOneRound_14 ?_
      refine ze_icmp_geN 128 C d_X_groupOneRound_17 (by decide) (by omega) (by omega) (fun h17 => ?_) (fun h17 => ?_)
      · rw [List.take_of_length_le (by omega)] at g3 g5 g6
        refine ze_aload_n C d_X_groupOneRound_128 4 rfl rfl ?_
        refine ze_iload C d_X_groupOneRound_129 1 rfl ?_
        refine ze_eqE (ze_foc 9) ?_
        refine ze_putf (k := 3 + 3 * 9) C fp_X_50 (by decide) (ze_F_t (i := 9) (by omega)) rfl rfl (Nat.le_of_ble_eq_true rfl) d_X_groupOneRound_131 ?_
        refine ze_eqE (ze_W_t (i := 9) (c' := k) (o' := (T1 9).2.2.2) (by omega)) ?_
        refine ze_genT (fun T2 eT2 => ?_)
        exact ze_vret C Rt d_X_groupOneRound_134 (⟨rfl, rfl, _, rfl, rfl, T2, rfl, fun z z1 z2 => (ze_upo eT2 z z2).trans (g4 z z1 z2), by rw [ze_upo eT2 m (by omega)]; exact g5, by rw [ze_ups eT2]; exact ⟨g3, by rw [← g3]; omega, g6⟩⟩)
      · refine ze_aload_n C d_X_groupOneRound_20 4 rfl rfl ?_
        refine ze_getf (k := 3 + 3 * 9) C fl_X_83 (by decide) (ze_E_t (i := 9) (by omega)) rfl d_X_groupOneRound_21 ?_
        refine ze_iload C d_X_groupOneRound_24 0 rfl ?_
        refine ze_iald (k := 4 + 3 * 9) (i := p) C (by decide) (ze_E_k (i := 9) (by omega)) (by omega) (by decide) d_X_groupOneRound_26 ?_
        refine ze_istore (lv' := [(6, .int (((T1 9).1) p)), (5, .int (nI p)), (4, .int (nI k)), (3, .int (nI L0.length)), (0, .ref (ad 0)), (1, .ref (ad 30)), (2, .ref (ad (3 + 3 * m)))]) C d_X_groupOneRound_27 (by decide) rfl ?_
        refine ze_aload_n C d_X_groupOneRound_29 6 rfl rfl ?_
        refine ze_iload C d_X_groupOneRound_30 0 rfl ?_
        refine ze_iload_n C d_X_groupOneRound_32 3 rfl rfl ?_
        refine ze_eqE (ze_foc m) ?_
        refine ze_callV (st := []) C (c_T_placeOfKey (ze_l G) (ze_D G) (ze_i G) ad ms M T1 hd mv m (by omega) (T1 m).1 (T1 m).2.1 (T1 m).2.2.1 (T1 m).2.2.2 (by omega) ((T1 9).1 p) L0.length (by omega)) (kv_X_126 (ze_rml (by decide) (by decide))) (by omega) (ze_F_t (i := m) (by omega)) rfl (Nat.le_of_ble_eq_true rfl) ⟨Nat.le_of_ble_eq_true rfl, Nat.le_of_ble_eq_true rfl⟩ d_X_groupOneRound_33 ?_
        rintro _ _ _ _ ⟨rfl, rfl, _, rfl, pl, rfl, rfl, hp1, hp2, hp3, hp4⟩
        refine ze_eqE (ze_foc m).symm ?_
        refine ze_norm (c2 := 0) (s2 := 0) (st' := [.int (nI pl)]) rfl rfl rfl ?_
        refine ze_istore (lv' := [(7, .int (nI pl)), (6, .int (((T1 9).1) p)), (5, .int (nI p)), (4, .int (nI k)), (3, .int (nI L0.length)), (0, .ref (ad 0)), (1, .ref (ad 30)), (2, .ref (ad (3 + 3 * m)))]) C d_X_groupOneRound_36 (by decide) rfl ?_
        refine ze_iload C d_X_groupOneRound_38 0 rfl ?_
        refine ze_aload_n C d_X_groupOneRound_40 7 rfl rfl ?_
        refine ze_getf (k := 3 + 3 * m) C fl_X_50 (by omega) (ze_E_t (i := m) (by omega)) rfl d_X_groupOneRound_41 ?_
        refine ze_icmp_geN 67 C d_X_groupOneRound_44 (by decide) (by omega) (by omega) (fun h44 => ?_) (fun h44 => ?_)
        · refine ze_aload_n C d_X_groupOneRound_67 7 rfl rfl ?_
          refine ze_getf (k := 3 + 3 * m) C fl_X_50 (by omega) (ze_E_t (i := m) (by omega)) rfl d_X_groupOneRound_68 ?_
          refine ze_iload_n C d_X_groupOneRound_71 4 rfl rfl ?_
          refine ze_isubN C d_X_groupOneRound_72 (by omega) ?_
          refine ze_aload_n C d_X_groupOneRound_73 5 rfl rfl ?_
          refine ze_callV (st := [.int (nI (((T1 m).2.2.1) - L0.length))]) C (c_X_rowsInMemory (ze_l G) (ze_D G) (ze_i G) ad ms M T1 hd mv hM) (kv_X_129 (ze_rml (by decide) (by decide))) (by decide) ze_E_x rfl (Nat.le_of_ble_eq_true rfl) ⟨Nat.le_of_ble_eq_true rfl, Nat.le_of_ble_eq_true rfl⟩ d_X_groupOneRound_74 ?_
          rintro _ _ _ _ ⟨rfl, rfl, _, rfl, rfl, rfl⟩
          refine ze_norm (c2 := 0) (s2 := 0) (st' := [.int (nI (ze_rm4 M)), .int (nI (((T1 m).2.2.1) - L0.length))]) rfl rfl rfl ?_
          refine ze_icmp_geN 96 C d_X_groupOneRound_77 (by decide) (by omega) (by unfold ze_rm4; omega) (fun h77 => ?_) (fun h77 => ?_)
          · refine ze_aload_n C d_X_groupOneRound_96 6 rfl rfl ?_
            refine ze_getf (k := 3 + 3 * 9) C fl_X_83 (by decide) (ze_E_t (i := 9) (by omega)) rfl d_X_groupOneRound_97 ?_
            refine ze_iload C d_X_groupOneRound_100 3 rfl ?_
            refine ze_iload C d_X_groupOneRound_102 1 rfl ?_
            refine ze_eqE (ze_foc 9) ?_
            refine ze_iast (k := 4 + 3 * 9) (i := k) C (by decide) (ze_F_k (i := 9) (by omega)) (by omega) (by decide) d_X_groupOneRound_104 ?_
            refine ze_eqE (ze_W_k (i := 9) (by omega)) ?_
            refine ze_genT (fun T2 eT2 => ?_)
            refine ze_aload_n C d_X_groupOneRound_105 6 rfl rfl ?_
            refine ze_getf (k := 3 + 3 * 9) C fl_X_87 (by decide) (ze_E_t (i := 9) (by omega)) rfl d_X_groupOneRound_106 ?_
            refine ze_iload C d_X_groupOneRound_109 3 rfl ?_
            refine ze_aload_n C d_X_groupOneRound_111 6 rfl rfl ?_
            refine ze_getf (k := 3 + 3 * 9) C fl_X_87 (by decide) (ze_E_t (i := 9) (by omega)) rfl d_X_groupOneRound_112 ?_
            refine ze_iload C d_X_groupOneRound_115 2 rfl ?_
            refine ze_iald (k := 5 + 3 * 9) (i := p) C (by decide) (ze_E_v (i := 9) (by omega)) (by omega) (by decide) d_X_groupOneRound_117 ?_
            have ev : (T2 9).2.1 p = (T1 9).2.1 p := by rw [ze_ups eT2]
            rw [ev]
            refine ze_eqE (ze_foc 9) ?_
            refine ze_iast (k := 5 + 3 * 9) (i := k) C (by decide) (ze_F_v (i := 9) (by omega)) (by omega) (by decide) d_X_groupOneRound_118 ?_
            refine ze_eqE (ze_W_v (i := 9) (by omega)) ?_
            refine ze_genT (fun T3 eT3 => ?_)
            refine ze_iinc (j := 3) (v := nI (k + 1)) (lv' := [(4, .int (nI (k + 1))), (7, .int (nI pl)), (6, .int (((T1 9).1) p)), (5, .int (nI p)), (3, .int (nI L0.length)), (0, .ref (ad 0)), (1, .ref (ad 30)), (2, .ref (ad (3 + 3 * m)))]) C d_X_groupOneRound_119 rfl (nI_1 _) (by decide) rfl ?_
            refine ze_iinc (j := 3) (v := nI (p + 1)) (lv' := [(5, .int (nI (p + 1))), (4, .int (nI (k + 1))), (7, .int (nI pl)), (6, .int (((T1 9).1) p)), (3, .int (nI L0.length)), (0, .ref (ad 0)), (1, .ref (ad 30)), (2, .ref (ad (3 + 3 * m)))]) C d_X_groupOneRound_122 rfl (nI_1 _) (by decide) rfl ?_
            refine ze_goto 11 C d_X_groupOneRound_125 (by decide) ?_
            refine ze_sub [(5, .int (nI (p + 1))), (4, .int (nI (k + 1))), (3, .int (nI L0.length)), (0, .ref (ad 0)), (1, .ref (ad 30)), (2, .ref (ad (3 + 3 * m)))] [0, 1, 4, 5, 6, 7] rfl ?_
            obtain ⟨e1, e2, e3⟩ := ze_Hl_step g7 (by omega)
            obtain ⟨-, b2, b3⟩ := ze_g_kept (v := (T1 9).2.1 p) (ze_gr_miss g5 hgl hp3 h44) (by omega)
            have em : T3 m = T1 m := (ze_upo eT3 m (by omega)).trans (ze_upo eT2 m (by omega))
            have s3 := ze_ups eT3
            rw [ze_ups eT2] at s3
            simp only at s3
            refine ih (R.length - (p + 1)) (by omega) (p + 1) (k + 1) T3 rfl (by omega) (by omega) (by rw [e2, b2, List.length_append, ← g3]; rfl) (fun z z1 z2 => (ze_upo eT3 z z2).trans ((ze_upo eT2 z z2).trans (g4 z z1 z2))) (by rw [e2, b3, em]; exact g5) ?_ ?_ (by rw [s3]; exact g8)
            · rw [s3, e2, b2]
              have h6 := ze_Hl_snoc (r := ((T1 9).1 p, (T1 9).2.1 p)) g6
              rw [Nat.zero_add, ← g3] at h6
              exact h6
            · rw [s3]
              exact ze_Hl_upd e3 (Or.inl (by omega))
          · refine ze_aload_n C d_X_groupOneRound_80 7 rfl rfl ?_
            refine ze_iload C d_X_groupOneRound_81 1 rfl ?_
            refine ze_aload_n C d_X_groupOneRound_83 6 rfl rfl ?_
            refine ze_getf (k := 3 + 3 * 9) C fl_X_87 (by decide) (ze_E_t (i := 9) (by omega)) rfl d_X_groupOneRound_84 ?_
            refine ze_iload C d_X_groupOneRound_87 2 rfl ?_
            refine ze_iald (k := 5 + 3 * 9) (i := p) C (by decide) (ze_E_v (i := 9) (by omega)) (by omega) (by decide) d_X_groupOneRound_89 ?_
            refine ze_eqE (ze_foc m) ?_
            refine ze_callV (st := []) C (c_T_append (ze_l G) (ze_D G) (ze_i G) ad ms M T1 hd mv m (by omega) (T1 m).1 (T1 m).2.1 (T1 m).2.2.1 (T1 m).2.2.2 (by omega) (((T1 9).1) p) (((T1 9).2.1) p)) (kv_X_53 (ze_rml (by decide) (by decide))) (by omega) (ze_F_t (i := m) (by omega)) rfl (Nat.le_of_ble_eq_true rfl) ⟨Nat.le_of_ble_eq_true rfl, Nat.le_of_ble_eq_true rfl⟩ d_X_groupOneRound_90 ?_
            rintro _ _ _ _ ⟨rfl, rfl, _, rfl, rfl, rfl⟩
            refine ze_genT (fun T2 eT2 => ?_)
            refine ze_norm (c2 := 0) (s2 := 0) (st' := []) rfl rfl rfl ?_
            refine ze_goto 122 C d_X_groupOneRound_93 (by decide) ?_
            refine ze_iinc (j := 2) (v := nI (p + 1)) (lv' := [(5, .int (nI (p + 1))), (7, .int (nI pl)), (6, .int (((T1 9).1) p)), (4, .int (nI k)), (3, .int (nI L0.length)), (0, .ref (ad 0)), (1, .ref (ad 30)), (2, .ref (ad (3 + 3 * m)))]) C d_X_groupOneRound_122 rfl (nI_1 _) (by decide) rfl ?_
            refine ze_goto 11 C d_X_groupOneRound_125 (by decide) ?_
            refine ze_sub [(5, .int (nI (p + 1))), (4, .int (nI k)), (3, .int (nI L0.length)), (0, .ref (ad 0)), (1, .ref (ad 30)), (2, .ref (ad (3 + 3 * m)))] [0, 3, 4, 5, 6, 7] rfl ?_
            obtain ⟨e1, e2, e3⟩ := ze_Hl_step g7 (by omega)
            obtain ⟨b1, b2⟩ := ze_gr_new g5 (ze_gr_miss g5 hgl hp3 h44) (by omega) eT2
            have e9 := ze_upo eT2 9 (by omega)
            exact ih (R.length - (p + 1)) (by omega) (p + 1) k T2 rfl (by omega) (by omega) (by rw [e2, b2]; exact g3) (fun z z1 z2 => (ze_upo eT2 z z1).trans (g4 z z1 z2)) (by rw [e2]; exact b1) (by rw [e9, e2, b2]; exact g6) (by rw [e9]; exact e3) (by rw [e9]; exact g8)
        · refine ze_aload_n C d_X_groupOneRound_47 7 rfl rfl ?_
          refine ze_getf (k := 3 + 3 * m) C fl_X_87 (by omega) (ze_E_t (i := m) (by omega)) rfl d_X_groupOneRound_48 ?_
          refine ze_iload C d_X_groupOneRound_51 0 rfl ?_
          refine ze_dup2 C d_X_groupOneRound_53 rfl rfl ?_
          refine ze_iald (k := 5 + 3 * m) (i := pl) C (by omega) (ze_E_v (i := m) (by omega)) (by omega) (by decide) d_X_groupOneRound_54 ?_
          refine ze_aload_n C d_X_groupOneRound_55 6 rfl rfl ?_
          refine ze_getf (k := 3 + 3 * 9) C fl_X_87 (by decide) (ze_E_t (i := 9) (by omega)) rfl d_X_groupOneRound_56 ?_
          refine ze_iload C d_X_groupOneRound_59 2 rfl ?_
          refine ze_iald (k := 5 + 3 * 9) (i := p) C (by decide) (ze_E_v (i := 9) (by omega)) (by omega) (by decide) d_X_groupOneRound_61 ?_
          refine ze_iadd C d_X_groupOneRound_62 ?_
          refine ze_eqE (ze_foc m) ?_
          refine ze_iast (k := 5 + 3 * m) (i := pl) C (by omega) (ze_F_v (i := m) (by omega)) (by omega) (by decide) d_X_groupOneRound_63 ?_
          refine ze_eqE (ze_W_v (i := m) (by omega)) ?_
          refine ze_genT (fun T2 eT2 => ?_)
          refine ze_goto 122 C d_X_groupOneRound_64 (by decide) ?_
          refine ze_iinc (j := 2) (v := nI (p + 1)) (lv' := [(5, .int (nI (p + 1))), (7, .int (nI pl)), (6, .int (((T1 9).1) p)), (4, .int (nI k)), (3, .int (nI L0.length)), (0, .ref (ad 0)), (1, .ref (ad 30)), (2, .ref (ad (3 + 3 * m)))]) C d_X_groupOneRound_122 rfl (nI_1 _) (by decide) rfl ?_
          refine ze_goto 11 C d_X_groupOneRound_125 (by decide) ?_
          refine ze_sub [(5, .int (nI (p + 1))), (4, .int (nI k)), (3, .int (nI L0.length)), (0, .ref (ad 0)), (1, .ref (ad 30)), (2, .ref (ad (3 + 3 * m)))] [0, 3, 4, 5, 6, 7] rfl ?_
          obtain ⟨e1, e2, e3⟩ := ze_Hl_step g7 (by omega)
          obtain ⟨b1, b2⟩ := ze_gr_hit g5 hgl hp1 h44 (hp4 h44) eT2
          have e9 := ze_upo eT2 9 (by omega)
          exact ih (R.length - (p + 1)) (by omega) (p + 1) k T2 rfl (by omega) (by omega) (by rw [e2, b2]; exact g3) (fun z z1 z2 => (ze_upo eT2 z z1).trans (g4 z z1 z2)) (by rw [e2]; exact b1) (by rw [e9, e2, b2]; exact g6) (by rw [e9]; exact e3) (by rw [e9]; exact g8)
  refine ze_aload_n C d_X_groupOneRound_0 2 rfl rfl ?_
  refine ze_getf (k := 3 + 3 * m) C fl_X_50 (by omega) (ze_E_t (i := m) (by omega)) rfl d_X_groupOneRound_1 ?_
  refine ze_istore_n (lv' := [(3, .int (nI ((T m).2.2.1))), (0, .ref (ad 0)), (1, .ref (ad 30)), (2, .ref (ad (3 + 3 * m)))]) C d_X_groupOneRound_4 rfl (by decide) rfl ?_
  refine ze_iconst (v := nI 0) C d_X_groupOneRound_5 (by decide) ?_
  refine ze_istore (lv' := [(4, .int (nI 0)), (3, .int (nI ((T m).2.2.1))), (0, .ref (ad 0)), (1, .ref (ad 30)), (2, .ref (ad (3 + 3 * m)))]) C d_X_groupOneRound_6 (by decide) rfl ?_
  refine ze_iconst (v := nI 0) C d_X_groupOneRound_8 (by decide) ?_
  refine ze_istore (lv' := [(5, .int (nI 0)), (4, .int (nI 0)), (3, .int (nI ((T m).2.2.1))), (0, .ref (ad 0)), (1, .ref (ad 30)), (2, .ref (ad (3 + 3 * m)))]) C d_X_groupOneRound_9 (by decide) rfl ?_
  rw [hcm]
  exact loop _ 0 0 T rfl (Nat.zero_le _) (Nat.le_refl _) rfl (fun _ _ _ => rfl) (by rw [List.take_zero, show ze_gS (ze_rm4 M) [] = [] by simp [ze_gS, ze_gK, ze_dk], List.append_nil]; exact hm) ze_Hl_nil (by rw [List.drop_zero]; exact hRR.2.2) hcR

theorem ze_rX_wk2 {M : Nat} {T T1 : Nat → ze_T} {hd : Nat → Bool} {mv : Int64} {inp : List ze_Row} {sl : Nat → Option (List ze_Row)} {i j : Nat} (h : ze_rX (M, T, hd, mv) (inp, sl, mv, M)) (hi : i ≠ 8) (hj : j ≠ 8) (hn : i < 8 → sl i = none) (hn2 : j < 8 → sl j = none) (e : ∀ q, q ≠ i → q ≠ j → T1 q = T q) : ze_rX (M, T1, hd, mv) (inp, sl, mv, M) := by
  have h1 := ze_rX_wk (T1 := va_up T i (T1 i)) h hi hn (fun q hq => va_up_ne _ _ hq)
  refine ze_rX_wk (i := j) h1 hj hn2 (fun q hq => ?_)
  by_cases hqi : q = i
  · subst hqi; rw [va_up_self]
  · rw [va_up_ne _ _ hqi]; exact e q hqi hq

set_option maxRecDepth 100000 in
set_option maxHeartbeats 4000000 in
theorem c_X_group (l : Launch) (D : va_G) (ids : Nat → ClassId) (ad : Nat → Nat) (ms : ze_MS) (M : Nat) (T : Nat → ze_T) (hd : Nat → Bool) (mv : Int64) (inp : List ze_Row) (sl : Nat → Option (List ze_Row)) (hR : ze_rX (M, T, hd, mv) (inp, sl, mv, M)) (fr into : Int32) : ze_MX l D ids ad ms y_X_group ws_X_group 20 (M, T, hd, mv) [.ref (ad 0), .int fr, .int into] (fun v x' => v = some (.int (sp_group (inp, sl, mv, M) fr into).1) ∧ ze_rX x' (sp_group (inp, sl, mv, M) fr into).2) := by
  refine ze_enter (cc := b_X_group) (maxL := 8) (ret := (some .int)) (by decide +kernel) rfl (Nat.le_of_ble_eq_true rfl) ?_
  rintro G rfl rfl rfl - C Rt
  refine ze_lv (lv' := [(0, .ref (ad 0)), (1, .int fr), (2, .int into)]) rfl ?_
  obtain ⟨-, hM3, hM6, -, hin, -, -⟩ := id hR
  simp only at hin hM3 hM6
  refine ze_aload_n C d_X_group_0 0 rfl rfl ?_
  refine ze_iload_n C d_X_group_1 1 rfl rfl ?_
  refine ze_iload_n C d_X_group_2 1 rfl rfl ?_
  refine ze_iload_n C d_X_group_3 2 rfl rfl ?_
  refine ze_callV (st := []) C (c_X_refusalOf (ze_l G) (ze_D G) (ze_i G) ad ms M T hd mv fr fr into) (kv_X_90 (ze_rml (by decide) (by decide))) (by decide) ze_E_x rfl (Nat.le_of_ble_eq_true rfl) ⟨Nat.le_of_ble_eq_true rfl, Nat.le_of_ble_eq_true rfl⟩ d_X_group_4 ?_
  rintro _ _ _ _ ⟨rfl, rfl, _, rfl, rfl, rfl⟩
  refine ze_norm (c2 := 0) (s2 := 0) (st' := [.int (ze_rf hd fr fr into)]) rfl rfl rfl ?_
  refine ze_istore_n (lv' := [(3, .int (ze_rf hd fr fr into)), (0, .ref (ad 0)), (1, .int fr), (2, .int into)]) C d_X_group_7 rfl (by decide) rfl ?_
  refine ze_iload_n C d_X_group_8 0 rfl rfl ?_
  refine ze_if_eq 14 C d_X_group_9 (by decide) (fun h9 => ?_) (fun h9 => ?_)
  · obtain ⟨ja, ji, A, hja, hji, rfl, rfl, hne, hA, hI, hHA, hop⟩ := ze_rf_01 hR h9
    have hcA : (T ja).2.2.1 = A.length := hHA.1
    have hA60 : A.length ≤ 60 := hHA.2.1
    refine ze_sub [(0, .ref (ad 0)), (1, .int (nI ja)), (2, .int (nI ji))] [1, 2, 3] rfl ?_
    have hsp : sp_group (inp, sl, mv, M) (nI ja) (nI ji) = sp_fin (inp, sl, mv, M) ji (ze_grp A, ze_gc (ze_rm4 M) A 60 0 + ze_sz (ze_grp A).length) := by rw [sp_group, hop]
    refine ze_aload_n C d_X_group_14 0 rfl rfl ?_
    refine ze_getf C fl_X_24 (by decide) ze_E_x rfl d_X_group_15 ?_
    refine ze_iload_n C d_X_group_18 2 rfl rfl ?_
    refine ze_aald (k := 1) (i := ji) C (by decide) ze_E_tabs (by omega) (by decide) rfl d_X_group_19 ?_
    refine ze_astore (lv' := [(4, .ref (ad (3 + 3 * ji))), (0, .ref (ad 0)), (1, .int (nI ja)), (2, .int (nI ji))]) C d_X_group_20 (by decide) rfl ?_
    refine ze_aload C d_X_group_22 0 rfl ?_
    refine ze_eqE (ze_foc ji) ?_
    refine ze_callV (st := []) C (c_T_clear (ze_l G) (ze_D G) (ze_i G) ad ms M T hd mv ji (by omega) (T ji).1 (T ji).2.1 (T ji).2.2.1 (T ji).2.2.2 ) (kv_X_65 (ze_rml (by decide) (by decide))) (by omega) (ze_F_t (i := ji) (by omega)) rfl (Nat.le_of_ble_eq_true rfl) ⟨Nat.le_of_ble_eq_true rfl, Nat.le_of_ble_eq_true rfl⟩ d_X_group_24 ?_
    rintro _ _ _ _ ⟨rfl, rfl, _, rfl, rfl, rfl⟩
    refine ze_genT (fun T1 eT1 => ?_)
    refine ze_norm (c2 := 0) (s2 := 0) (st' := []) rfl rfl rfl ?_
    have hu1 := ze_Hu_clr eT1
    have hHA1 : ze_H (T1 ja) A := by rw [ze_upo eT1 ja (by omega)]; exact hHA
    have hcA1 : (T1 ja).2.2.1 = A.length := hHA1.1
    refine ze_aload_n C d_X_group_27 1 rfl rfl ?_
    refine ze_getf C fl_X_37 (by decide) ze_E_x rfl d_X_group_28 ?_
    refine ze_aload_n C d_X_group_31 1 rfl rfl ?_
    refine ze_getf C fl_X_24 (by decide) ze_E_x rfl d_X_group_32 ?_
    refine ze_iload_n C d_X_group_35 2 rfl rfl ?_
    refine ze_aald (k := 1) (i := ja) C (by decide) ze_E_tabs (by omega) (by decide) rfl d_X_group_36 ?_
    refine ze_eqE (ze_foc 9) ?_
    refine ze_callV (st := []) C (c_T_copyFrom (ze_l G) (ze_D G) (ze_i G) ad ms M T1 hd mv 9 (by omega) (T1 9).1 (T1 9).2.1 (T1 9).2.2.1 (T1 9).2.2.2 ja (by omega) (by omega) (by omega)) (kv_X_61 (ze_rml (by decide) (by decide))) (by decide) (ze_F_t (i := 9) (by omega)) rfl (Nat.le_of_ble_eq_true rfl) ⟨Nat.le_of_ble_eq_true rfl, Nat.le_of_ble_eq_true rfl⟩ d_X_group_37 ?_
    rintro _ _ _ _ ⟨rfl, rfl, _, rfl, rfl, rfl⟩
    refine ze_genT (fun T2 eT2 => ?_)
    refine ze_norm (c2 := 0) (s2 := 0) (st' := []) rfl rfl rfl ?_
    have hA2 := (ze_H_cpy hHA1 eT2).1
    refine ze_lconst (v := lN 0) C d_X_group_40 (by decide) ?_
    refine ze_lstore (lv' := [(5, .long (lN 0)), (4, .ref (ad (3 + 3 * ji))), (0, .ref (ad 0)), (1, .int (nI ja)), (2, .int (nI ji))]) C d_X_group_41 (by decide) rfl ?_
    refine ze_iconst (v := nI 0) C d_X_group_43 (by decide) ?_
    refine ze_istore (lv' := [(7, .int (nI 0)), (5, .long (lN 0)), (4, .ref (ad (3 + 3 * ji))), (0, .ref (ad 0)), (1, .int (nI ja)), (2, .int (nI ji))]) C d_X_group_44 (by decide) rfl ?_
    refine ze_sub [(7, .int (nI 0)), (5, .long (lN 0)), (4, .ref (ad (3 + 3 * ji))), (0, .ref (ad 0)), (1, .int (nI ja)), (2, .int (nI ji))] [0, 1, 2, 3, 4, 5] rfl ?_
    have he : 4 ≤ ze_rm4 M := by unfold ze_rm4; omega
    have hdk : (ze_dk A).length ≤ 60 := Nat.le_trans (ze_dk_len A) hA60
    have loop : ∀ (r d cst : Nat) (T3 : Nat → ze_T), 60 - d = r → d ≤ 60 → cst + ze_gc (ze_rm4 M) A (60 - d) (d * ze_rm4 M) = ze_gc (ze_rm4 M) A 60 0 → (∀ z, z ≠ ji → z ≠ 9 → T3 z = T z) → ze_Hu (T3 ji) ((ze_grp A).take (d * ze_rm4 M)) → ze_H (T3 9) (ze_lf A (d * ze_rm4 M)) → ze_V G 48 ad (ze_E (ze_i G) ad (M, T3, hd, mv) ms) 0 0 46 [(7, .int (nI d)), (5, .long (lN cst)), (4, .ref (ad (3 + 3 * ji))), (0, .ref (ad 0)), (1, .int (nI ja)), (2, .int (nI ji))] [] := by
      intro r
      induction r using Nat.strongRecOn with
      | ind r ih =>
        intro d cst T3 hr g1 g2 g3 g4 g5
        have hc9 : (T3 9).2.2.1 = (ze_lf A (d * ze_rm4 M)).length := g5.1
        have h960 := g5.2.1
        have hm3 := ze_Hu_le g4
        refine ze_iload C d_X_group_46 0 rfl ?_
        refine ze_bipush (v := nI 60) C d_X_group_48 (by decide) ?_
        refine ze_icmp_geN 111 C d_X_group_50 (by decide) (by omega) (by omega) (fun h50 => ?_) (fun h50 => ?_)
        · have hall : (ze_dk A).length ≤ d * ze_rm4 M := Nat.le_trans hdk (by rw [show d = 60 by omega]; omega)
          have hcst : cst = ze_gc (ze_rm4 M) A 60 0 := by rw [← g2, show 60 - d = 0 by omega]; rfl
          rw [List.take_of_length_le (by rw [ze_grp_len]; exact hall)] at g4
          have hR3 := ze_rX_wk2 hR (by omega) (by decide) (fun _ => hI) (fun h => absurd h (by decide)) g3
          refine ze_aload_n C d_X_group_111 3 rfl rfl ?_
          refine ze_iload_n C d_X_group_112 5 rfl rfl ?_
          refine ze_lload C d_X_group_113 1 rfl ?_
          refine ze_aload C d_X_group_115 2 rfl ?_
          refine ze_getf (k := 3 + 3 * ji) C fl_X_50 (by omega) (ze_E_t (i := ji) (by omega)) rfl d_X_group_117 ?_
          refine ze_callS (st := [.long (lN cst), .int (nI ji), .ref (ad 0)]) C (c_X_sizeOf (ze_l G) (ze_D G) (ze_i G) _ _ _ ((T3 ji).2.2.1) (by omega)) (ks_X_68 (ze_rml (by decide) (by decide))) rfl (Nat.le_of_ble_eq_true rfl) ⟨Nat.le_of_ble_eq_true rfl, Nat.le_of_ble_eq_true rfl⟩ d_X_group_120 ?_
          rintro _ _ _ _ ⟨rfl, rfl, rfl, rfl⟩
          refine ze_norm (c2 := 0) (s2 := 0) (st' := [.int (nI (ze_sz ((T3 ji).2.2.1))), .long (lN cst), .int (nI ji), .ref (ad 0)]) rfl rfl rfl ?_
          have hz120 := ze_sz_le ((T3 ji).2.2.1)
          refine ze_i2lN C d_X_group_123 (by omega) ?_
          refine ze_laddN C d_X_group_124 ?_
          refine ze_callV (st := []) C (c_X_finish (ze_l G) (ze_D G) (ze_i G) ad ms M T3 hd mv ji (by omega) (lN (cst + (ze_sz ((T3 ji).2.2.1))))) (kv_X_72 (ze_rml (by decide) (by decide))) (by decide) ze_E_x rfl (Nat.le_of_ble_eq_true rfl) ⟨Nat.le_of_ble_eq_true rfl, Nat.le_of_ble_eq_true rfl⟩ d_X_group_125 ?_
          rintro _ _ _ _ ⟨rfl, rfl, x', rfl, hfin⟩
          obtain ⟨r, rfl, hr1, hr2⟩ := ze_op_end (q := (ze_grp A, ze_gc (ze_rm4 M) A 60 0 + ze_sz (ze_grp A).length)) hR3 hji g4 (fun z => by rw [hcst, (ze_Hu_H g4 z).1]) hfin
          refine ze_norm (c2 := 0) (s2 := 0) (st' := [.int r]) rfl rfl rfl ?_
          exact ze_iret C Rt d_X_group_128 ⟨rfl, rfl, _, rfl, by rw [hsp, hr1], by rw [hsp]; exact hr2⟩
        · refine ze_aload_n C d_X_group_53 3 rfl rfl ?_
          refine ze_getf C fl_X_37 (by decide) ze_E_x rfl d_X_group_54 ?_
          refine ze_getf (k := 3 + 3 * 9) C fl_X_50 (by decide) (ze_E_t (i := 9) (by omega)) rfl d_X_group_57 ?_
          refine ze_if_leN 111 C d_X_group_60 (by decide) (by omega) (fun h60 => ?_) (fun h60 => ?_)
          · have hnil : ze_lf A (d * ze_rm4 M) = [] := List.eq_nil_of_length_eq_zero (by omega)
            have hall := ze_lf_nil.mp hnil
            have hcst : cst = ze_gc (ze_rm4 M) A 60 0 := by rw [← g2, show 60 - d = (59 - d) + 1 by omega, ze_gc, if_neg (by omega)]; rfl
            rw [List.take_of_length_le (by rw [ze_grp_len]; exact hall)] at g4
            have hR3 := ze_rX_wk2 hR (by omega) (by decide) (fun _ => hI) (fun h => absurd h (by decide)) g3
            refine ze_aload_n C d_X_group_111 3 rfl rfl ?_
            refine ze_iload_n C d_X_group_112 5 rfl rfl ?_
            refine ze_lload C d_X_group_113 1 rfl ?_
            refine ze_aload C d_X_group_115 2 rfl ?_
            refine ze_getf (k := 3 + 3 * ji) C fl_X_50 (by omega) (ze_E_t (i := ji) (by omega)) rfl d_X_group_117 ?_
            refine ze_callS (st := [.long (lN cst), .int (nI ji), .ref (ad 0)]) C (c_X_sizeOf (ze_l G) (ze_D G) (ze_i G) _ _ _ ((T3 ji).2.2.1) (by omega)) (ks_X_68 (ze_rml (by decide) (by decide))) rfl (Nat.le_of_ble_eq_true rfl) ⟨Nat.le_of_ble_eq_true rfl, Nat.le_of_ble_eq_true rfl⟩ d_X_group_120 ?_
            rintro _ _ _ _ ⟨rfl, rfl, rfl, rfl⟩
            refine ze_norm (c2 := 0) (s2 := 0) (st' := [.int (nI (ze_sz ((T3 ji).2.2.1))), .long (lN cst), .int (nI ji), .ref (ad 0)]) rfl rfl rfl ?_
            have hz120 := ze_sz_le ((T3 ji).2.2.1)
            refine ze_i2lN C d_X_group_123 (by omega) ?_
            refine ze_laddN C d_X_group_124 ?_
            refine ze_callV (st := []) C (c_X_finish (ze_l G) (ze_D G) (ze_i G) ad ms M T3 hd mv ji (by omega) (lN (cst + (ze_sz ((T3 ji).2.2.1))))) (kv_X_72 (ze_rml (by decide) (by decide))) (by decide) ze_E_x rfl (Nat.le_of_ble_eq_true rfl) ⟨Nat.le_of_ble_eq_true rfl, Nat.le_of_ble_eq_true rfl⟩ d_X_group_125 ?_
            rintro _ _ _ _ ⟨rfl, rfl, x', rfl, hfin⟩
            obtain ⟨r, rfl, hr1, hr2⟩ := ze_op_end (q := (ze_grp A, ze_gc (ze_rm4 M) A 60 0 + ze_sz (ze_grp A).length)) hR3 hji g4 (fun z => by rw [hcst, (ze_Hu_H g4 z).1]) hfin
            refine ze_norm (c2 := 0) (s2 := 0) (st' := [.int r]) rfl rfl rfl ?_
            exact ze_iret C Rt d_X_group_128 ⟨rfl, rfl, _, rfl, by rw [hsp, hr1], by rw [hsp]; exact hr2⟩
          · have hlt : d * ze_rm4 M < (ze_dk A).length := Nat.lt_of_not_le (fun z => by rw [ze_lf_nil.mpr z] at hc9; simp at hc9; omega)
            refine ze_lload C d_X_group_63 1 rfl ?_
            refine ze_aload_n C d_X_group_65 3 rfl rfl ?_
            refine ze_getf C fl_X_37 (by decide) ze_E_x rfl d_X_group_66 ?_
            refine ze_getf (k := 3 + 3 * 9) C fl_X_50 (by decide) (ze_E_t (i := 9) (by omega)) rfl d_X_group_69 ?_
            refine ze_callS (st := [.long (lN cst)]) C (c_X_sizeOf (ze_l G) (ze_D G) (ze_i G) _ _ _ ((T3 9).2.2.1) (by omega)) (ks_X_68 (ze_rml (by decide) (by decide))) rfl (Nat.le_of_ble_eq_true rfl) ⟨Nat.le_of_ble_eq_true rfl, Nat.le_of_ble_eq_true rfl⟩ d_X_group_72 ?_
            rintro _ _ _ _ ⟨rfl, rfl, rfl, rfl⟩
            refine ze_norm (c2 := 0) (s2 := 0) (st' := [.int (nI (ze_sz ((T3 9).2.2.1))), .long (lN cst)]) rfl rfl rfl ?_
            have hz72 := ze_sz_le ((T3 9).2.2.1)
            refine ze_i2lN C d_X_group_75 (by omega) ?_
            refine ze_laddN C d_X_group_76 ?_
            refine ze_lstore (lv' := [(5, .long (lN (cst + (ze_sz ((T3 9).2.2.1))))), (7, .int (nI d)), (4, .ref (ad (3 + 3 * ji))), (0, .ref (ad 0)), (1, .int (nI ja)), (2, .int (nI ji))]) C d_X_group_77 (by decide) rfl ?_
            refine ze_aload_n C d_X_group_79 3 rfl rfl ?_
            refine ze_aload_n C d_X_group_80 3 rfl rfl ?_
            refine ze_getf C fl_X_37 (by decide) ze_E_x rfl d_X_group_81 ?_
            refine ze_aload C d_X_group_84 2 rfl ?_
            refine ze_callV (st := []) C (c_X_groupOneRound (ze_l G) (ze_D G) (ze_i G) ad ms M T3 hd mv ⟨hM3, hM6⟩ (ze_lf A (d * ze_rm4 M)) ((ze_grp A).take (d * ze_rm4 M)) g5 ji hji g4 (by rw [List.length_take, ze_grp_len, ze_dk_lf, List.length_drop]; omega)) (kv_X_105 (ze_rml (by decide) (by decide))) (by decide) ze_E_x rfl (Nat.le_of_ble_eq_true rfl) ⟨Nat.le_of_ble_eq_true rfl, Nat.le_of_ble_eq_true rfl⟩ d_X_group_86 ?_
            rintro _ _ _ _ ⟨rfl, rfl, _, rfl, rfl, T4, rfl, oT4, hu4, h94⟩
            refine ze_norm (c2 := 0) (s2 := 0) (st' := []) rfl rfl rfl ?_
            have h946 := h94.2.1
            have hc94 := h94.1
            refine ze_lload C d_X_group_89 0 rfl ?_
            refine ze_aload_n C d_X_group_91 3 rfl rfl ?_
            refine ze_getf C fl_X_37 (by decide) ze_E_x rfl d_X_group_92 ?_
            refine ze_getf (k := 3 + 3 * 9) C fl_X_50 (by decide) (ze_E_t (i := 9) (by omega)) rfl d_X_group_95 ?_
            refine ze_callS (st := [.long (lN (cst + (ze_sz ((T3 9).2.2.1))))]) C (c_X_sizeOf (ze_l G) (ze_D G) (ze_i G) _ _ _ ((T4 9).2.2.1) (by omega)) (ks_X_68 (ze_rml (by decide) (by decide))) rfl (Nat.le_of_ble_eq_true rfl) ⟨Nat.le_of_ble_eq_true rfl, Nat.le_of_ble_eq_true rfl⟩ d_X_group_98 ?_
            rintro _ _ _ _ ⟨rfl, rfl, rfl, rfl⟩
            refine ze_norm (c2 := 0) (s2 := 0) (st' := [.int (nI (ze_sz ((T4 9).2.2.1))), .long (lN (cst + (ze_sz ((T3 9).2.2.1))))]) rfl rfl rfl ?_
            have hz98 := ze_sz_le ((T4 9).2.2.1)
            refine ze_i2lN C d_X_group_101 (by omega) ?_
            refine ze_laddN C d_X_group_102 ?_
            refine ze_lstore (lv' := [(5, .long (lN (cst + (ze_sz ((T3 9).2.2.1)) + (ze_sz ((T4 9).2.2.1))))), (7, .int (nI d)), (4, .ref (ad (3 + 3 * ji))), (0, .ref (ad 0)), (1, .int (nI ja)), (2, .int (nI ji))]) C d_X_group_103 (by decide) rfl ?_
            refine ze_iinc (j := 1) (v := nI (d + 1)) (lv' := [(7, .int (nI (d + 1))), (5, .long (lN (cst + (ze_sz ((T3 9).2.2.1)) + (ze_sz ((T4 9).2.2.1))))), (4, .ref (ad (3 + 3 * ji))), (0, .ref (ad 0)), (1, .int (nI ja)), (2, .int (nI ji))]) C d_X_group_105 rfl (nI_1 _) (by decide) rfl ?_
            refine ze_goto 46 C d_X_group_108 (by decide) ?_
            refine ze_sub [(7, .int (nI (d + 1))), (5, .long (lN (cst + ze_sz (T3 9).2.2.1 + ze_sz (T4 9).2.2.1))), (4, .ref (ad (3 + 3 * ji))), (0, .ref (ad 0)), (1, .int (nI ja)), (2, .int (nI ji))] [0, 1, 2, 3, 4, 5] rfl ?_
            have hqe : (d + 1) * ze_rm4 M = d * ze_rm4 M + ze_rm4 M := Nat.succ_mul _ _
            refine ih (60 - (d + 1)) (by omega) (d + 1) _ T4 rfl (by omega) ?_ (fun z z1 z2 => (oT4 z z1 z2).trans (g3 z z1 z2)) (by rw [hqe, ← ze_gS_lf]; exact hu4) (by rw [hqe, ← ze_gR_lf]; exact h94)
            rw [← g2, show 60 - d = (60 - (d + 1)) + 1 by omega, ze_gc, if_pos hlt, hqe, hc9, h94.1, ze_gR_lf]
            omega
    exact loop _ 0 0 T2 rfl (Nat.zero_le _) (by rw [Nat.zero_add, Nat.zero_mul]) (fun z z1 z2 => (ze_upo eT2 z z2).trans (ze_upo eT1 z z1)) (by rw [Nat.zero_mul, List.take_zero, ze_upo eT2 ji (by omega)]; exact hu1) (by rw [Nat.zero_mul, ze_lf_0]; exact hA2)
  · refine ze_iload_n C d_X_group_12 0 rfl rfl ?_
    exact ze_iret C Rt d_X_group_13 (⟨rfl, rfl, _, rfl, by rw [sp_group, ze_rf_ne hR h9], by rw [sp_group, ze_rf_ne hR h9]; exact hR⟩)
end
section
/-- the remainder as the machine has it -/
theorem ze_rem_of (x : Int32) {d : Nat} (h0 : 0 < d) (hd : d < 1000) : x - x / nI d * nI d = Int32.ofInt (x.toInt.tmod (d : Int)) := by
  have hy : (nI d).toInt = (d : Int) := nI_toInt (by omega)
  have e1 : x / nI d = Int32.ofInt (x.toInt.tdiv (d : Int)) := by
    have h := Int32.toInt_div_of_ne_right x (nI d) (fun z => by
      have := congrArg Int32.toInt z
      rw [hy, show (-1 : Int32).toInt = -1 from rfl] at this
      omega)
    rw [hy] at h
    rw [← h, Int32.ofInt_toInt]
  have e2 : nI d = Int32.ofInt (d : Int) := by rw [← hy, Int32.ofInt_toInt]
  rw [e1, e2, ← Int32.ofInt_mul]
  have e3 : x = Int32.ofInt x.toInt := (Int32.ofInt_toInt x).symm
  have e4 : x.toInt.tmod (d : Int) = x.toInt - x.toInt.tdiv (d : Int) * (d : Int) := by rw [Int.tmod_def, Int.mul_comm]
  rw [e4, Int32.ofInt_sub, ← e3]
theorem ze_xor_neg {x : Int32} {d : Nat} (hd : d < 1000) : (x ^^^ nI d) < 0 ↔ x < 0 := by
  have hm : (nI d).toBitVec.msb = false := by
    rw [BitVec.msb_eq_toInt]
    have : (nI d).toBitVec.toInt = (d : Int) := nI_toInt (by omega)
    rw [this]
    exact decide_eq_false (by omega)
  have k : ∀ y : Int32, y < 0 ↔ y.toBitVec.msb = true := by
    intro y
    rw [Int32.lt_iff_toInt_lt, BitVec.msb_eq_toInt, Int32.toInt_toBitVec, decide_eq_true_eq]
    exact Iff.rfl
  rw [k, k, Int32.toBitVec_xor, BitVec.msb_xor, hm, Bool.xor_false]
/-- floorMod -/
def ze_fm (x : Int32) (d : Nat) : Nat := (x.toInt % (d : Int)).toNat
theorem ze_fm_lt (x : Int32) {d : Nat} (h0 : 0 < d) : ze_fm x d < d := by
  unfold ze_fm
  have h1 := Int.emod_nonneg x.toInt (b := (d : Int)) (by omega)
  have h2 := Int.emod_lt_of_pos x.toInt (b := (d : Int)) (by omega)
  omega
theorem ze_fm_of (x : Int32) {d : Nat} (h0 : 0 < d) : nI (ze_fm x d) = Int32.ofInt (x.toInt % (d : Int)) := by
  have h1 := Int.emod_nonneg x.toInt (b := (d : Int)) (by omega)
  unfold ze_fm nI
  rw [← Int32.ofInt_eq_ofNat, Int.toNat_of_nonneg h1]
theorem ze_fm_pos {x : Int32} {d : Nat} (h0 : 0 < d) (hd : d < 1000) (h : ¬ x < 0) : x - x / nI d * nI d = nI (ze_fm x d) := by
  rw [Int32.lt_iff_toInt_lt] at h
  simp only [show (0 : Int32).toInt = 0 from rfl] at h
  rw [ze_rem_of x h0 hd, ze_fm_of x h0, Int.tmod_eq_emod_of_nonneg (by omega)]
theorem ze_tmod_range (a : Int) {d : Nat} (h0 : 0 < d) : -(d : Int) < a.tmod d ∧ a.tmod d < d := by
  constructor
  · have := Int.lt_tmod_of_pos a (b := (d : Int)) (by omega)
    omega
  · exact Int.tmod_lt_of_pos a (by omega)
theorem ze_fm_neg0 {x : Int32} {d : Nat} (h0 : 0 < d) (hd : d < 1000) (hz : x - x / nI d * nI d = 0) : x - x / nI d * nI d = nI (ze_fm x d) := by
  have e := ze_rem_of x h0 hd
  rw [hz] at e
  obtain ⟨r1, r2⟩ := ze_tmod_range x.toInt h0
  have e2 := congrArg Int32.toInt e
  rw [Int32.toInt_ofInt_of_le (by omega) (by omega)] at e2
  simp only [show (0 : Int32).toInt = 0 from rfl] at e2
  have hdvd : (d : Int) ∣ x.toInt := Int.dvd_of_tmod_eq_zero e2.symm
  rw [hz, ze_fm_of x h0, Int.emod_eq_zero_of_dvd hdvd]
  rfl
theorem ze_fm_neg {x : Int32} {d : Nat} (h0 : 0 < d) (hd : d < 1000) (h : x < 0) (hz : ¬ x - x / nI d * nI d = 0) : x - x / nI d * nI d + nI d = nI (ze_fm x d) := by
  rw [Int32.lt_iff_toInt_lt] at h
  simp only [show (0 : Int32).toInt = 0 from rfl] at h
  have hnd : ¬ (d : Int) ∣ x.toInt := fun z => hz (by rw [ze_rem_of x h0 hd, Int.tmod_eq_zero_of_dvd z]; rfl)
  have e2 : nI d = Int32.ofInt (d : Int) := by
    unfold nI
    rw [Int32.ofInt_eq_ofNat]
  rw [ze_rem_of x h0 hd, ze_fm_of x h0]
  conv => lhs; rw [e2]
  rw [← Int32.ofInt_add, Int.tmod_eq_emod, if_neg (by
    rintro (z | z)
    · omega
    · exact hnd z)]
  congr 1
  omega
end
section
theorem ze_dg_lt (M : Nat) (v : Int32) (lev : Nat) (hM : 3 ≤ M ∧ M ≤ 6) : ze_dg M v lev < M - 1 := Nat.mod_lt _ (by omega)
theorem ze_pt_snoc (M lev p : Nat) (f : ze_Row → Int32) (A : List ze_Row) (r : ze_Row) : ze_pt M lev p f (A ++ [r]) = if ze_dg M (f r) lev = p then ze_pt M lev p f A ++ [r] else ze_pt M lev p f A := by
  unfold ze_pt
  rw [List.filter_append]
  by_cases h : ze_dg M (f r) lev = p
  · rw [if_pos h]; simp [h]
  · rw [if_neg h]; simp [h]
/-- the parts one behind the other -/
def ze_prt (M lev : Nat) (f : ze_Row → Int32) (A : List ze_Row) (p : Nat) : List ze_Row := (List.range p).flatMap (fun q => ze_pt M lev q f A)
theorem ze_prt_succ (M lev : Nat) (f : ze_Row → Int32) (A : List ze_Row) (p : Nat) : ze_prt M lev f A (p + 1) = ze_prt M lev f A p ++ ze_pt M lev p f A := by
  unfold ze_prt
  rw [List.range_succ, List.flatMap_append]
  simp
theorem ze_prt_len' (M lev : Nat) (f : ze_Row → Int32) : ∀ (A : List ze_Row) (p : Nat), (ze_prt M lev f A p).length = A.countP (fun r => decide (ze_dg M (f r) lev < p))
  | A, 0 => by simp [ze_prt]
  | A, p + 1 => by
    rw [ze_prt_succ, List.length_append, ze_prt_len' M lev f A p]
    unfold ze_pt
    rw [← List.countP_eq_length_filter]
    induction A with
    | nil => rfl
    | cons a A ih =>
      simp only [List.countP_cons]
      by_cases h1 : ze_dg M (f a) lev < p
      · have h2 : ¬ ze_dg M (f a) lev = p := by omega
        have h3 : ze_dg M (f a) lev < p + 1 := by omega
        simp only [h1, h2, h3, decide_true, decide_false, if_true, Bool.false_eq_true, if_false]
        omega
      · by_cases h2 : ze_dg M (f a) lev = p
        · have h3 : ze_dg M (f a) lev < p + 1 := by omega
          simp only [h1, h2, h3, decide_true, decide_false, if_true, Bool.false_eq_true, if_false]
          simp only [show ¬ p < p by omega, show p < p + 1 by omega, decide_true, decide_false, if_true, Bool.false_eq_true, if_false]
          omega
        · have h3 : ¬ ze_dg M (f a) lev < p + 1 := by omega
          simp only [h1, h2, h3, decide_true, decide_false, if_true, Bool.false_eq_true, if_false]
          omega
theorem ze_prt_len {M lev : Nat} {f : ze_Row → Int32} {A : List ze_Row} (hM : 3 ≤ M ∧ M ≤ 6) : (ze_prt M lev f A (M - 1)).length = A.length := by
  rw [ze_prt_len', List.countP_eq_length]
  intro r _
  exact decide_eq_true (ze_dg_lt M (f r) lev hM)
theorem ze_Hl_take {f g : Nat → Int32} {k j : Nat} {A : List ze_Row} (h : ze_Hl f g k A) (hj : j < A.length) : A.take (j + 1) = A.take j ++ [(f (k + j), g (k + j))] := by
  rw [List.take_succ, ze_Hl_row h hj]
  rfl
def ze_j1 (r : ze_Row) (B : List ze_Row) : List ze_Row := (B.filter (fun b => decide (b.1 = r.2))).map (fun b => (r.1, b.2))
theorem ze_j1_snoc (r : ze_Row) (B : List ze_Row) (b : ze_Row) : ze_j1 r (B ++ [b]) = if b.1 = r.2 then ze_j1 r B ++ [(r.1, b.2)] else ze_j1 r B := by
  unfold ze_j1
  rw [List.filter_append]
  by_cases h : b.1 = r.2
  · rw [if_pos h]; simp [h]
  · rw [if_neg h]; simp [h]
theorem ze_jr_snoc (A B : List ze_Row) (r : ze_Row) : ze_jr (A ++ [r]) B = ze_jr A B ++ ze_j1 r B := by
  unfold ze_jr ze_j1
  rw [List.flatMap_append]
  simp
theorem ze_jc_step {w k : Nat} {A B : List ze_Row} (h : B ≠ []) : ze_jc w A (k + 1) B = ze_jr A (B.take w) ++ ze_jc w A k (B.drop w) := by
  rw [ze_jc, if_neg h]
theorem ze_jc_nil {w k : Nat} {A : List ze_Row} : ze_jc w A k [] = [] := by
  cases k with
  | zero => rfl
  | succ k => rw [ze_jc, if_pos rfl]

set_option maxRecDepth 100000 in
set_option maxHeartbeats 4000000 in
theorem c_J_floorMod (l : Launch) (D : va_G) (ids : Nat → ClassId) (n : Nat) (ad : Nat → Nat) (E : Nat → va_E) (x : Int32) (d : Nat) (h0 : 0 < d) (hd1 : d < 1000) : ze_M l D ids y_J_floorMod ws_J_floorMod (ze_rm 1) 0 0 n ad E [.int x, .int (nI d)] (ze_p0 n ad E (fun v => v = some (.int (nI (ze_fm x d))))) := by
  refine ze_enter (cc := b_J_floorMod) (maxL := 3) (ret := (some .int)) (by decide +kernel) rfl (Nat.le_of_ble_eq_true rfl) ?_
  rintro G rfl rfl rfl - C Rt
  refine ze_lv (lv' := [(0, .int x), (1, .int (nI d))]) rfl ?_
  refine ze_iload_n C d_J_floorMod_0 0 rfl rfl ?_
  refine ze_iload_n C d_J_floorMod_1 1 rfl rfl ?_
  refine ze_irem C d_J_floorMod_2 (nI_ne0 h0 (by omega)) ?_
  refine ze_istore_n (lv' := [(2, .int (x - x / (nI d) * (nI d))), (0, .int x), (1, .int (nI d))]) C d_J_floorMod_3 rfl (by decide) rfl ?_
  refine ze_iload_n C d_J_floorMod_4 1 rfl rfl ?_
  refine ze_iload_n C d_J_floorMod_5 2 rfl rfl ?_
  refine ze_ixor C d_J_floorMod_6 ?_
  refine ze_if_ge 18 C d_J_floorMod_7 (by decide) (fun h7 => ?_) (fun h7 => ?_)
  · refine ze_iload_n C d_J_floorMod_18 0 rfl rfl ?_
    exact ze_iret C Rt d_J_floorMod_19 (⟨rfl, rfl, rfl, by rw [ze_fm_pos h0 hd1 (fun z => absurd ((ze_xor_neg hd1).mpr z) (Int32.not_lt.mpr h7))]⟩)
  · refine ze_iload_n C d_J_floorMod_10 0 rfl rfl ?_
    refine ze_if_eq 18 C d_J_floorMod_11 (by decide) (fun h11 => ?_) (fun h11 => ?_)
    · refine ze_iload_n C d_J_floorMod_18 0 rfl rfl ?_
      exact ze_iret C Rt d_J_floorMod_19 (⟨rfl, rfl, rfl, by rw [ze_fm_neg0 h0 hd1 h11]⟩)
    · refine ze_iload_n C d_J_floorMod_14 0 rfl rfl ?_
      refine ze_iload_n C d_J_floorMod_15 2 rfl rfl ?_
      refine ze_iadd C d_J_floorMod_16 ?_
      exact ze_iret C Rt d_J_floorMod_17 (⟨rfl, rfl, rfl, by rw [ze_fm_neg h0 hd1 ((ze_xor_neg hd1).mp (Int32.not_le.mp h7)) h11]⟩)

set_option maxRecDepth 100000 in
set_option maxHeartbeats 4000000 in
theorem c_X_digitOf (l : Launch) (D : va_G) (ids : Nat → ClassId) (ad : Nat → Nat) (ms : ze_MS) (M : Nat) (T : Nat → ze_T) (hd : Nat → Bool) (mv : Int64) (hM : 3 ≤ M ∧ M ≤ 6) (v : Int32) (lev : Nat) (hl : lev ≤ 3) : ze_MX l D ids ad ms y_X_digitOf ws_X_digitOf 2 (M, T, hd, mv) [.ref (ad 0), .int v, .int (nI lev)] (fun w x' => w = some (.int (nI (ze_dg M v lev))) ∧ x' = (M, T, hd, mv)) := by
  refine ze_enter (cc := b_X_digitOf) (maxL := 6) (ret := (some .int)) (by decide +kernel) rfl (Nat.le_of_ble_eq_true rfl) ?_
  rintro G rfl rfl rfl - C Rt
  refine ze_lv (lv' := [(0, .ref (ad 0)), (1, .int v), (2, .int (nI lev))]) rfl ?_
  have hb3 : 0 < (M - 1) * (M - 1) * (M - 1) ∧ (M - 1) * (M - 1) * (M - 1) < 1000 := by rcases (show M = 3 ∨ M = 4 ∨ M = 5 ∨ M = 6 by omega) with rfl | rfl | rfl | rfl <;> decide
  have hfm := ze_fm_lt v hb3.1
  have loop : ∀ (r : Nat) (k q : Nat), lev - k = r → k ≤ lev → q = ze_fm v ((M - 1) * (M - 1) * (M - 1)) / (M - 1) ^ k → q < 1000 → ze_V G 48 ad (ze_E (ze_i G) ad (M, T, hd, mv) ms) 0 0 21 [(5, .int (nI k)), (4, .int (nI q)), (3, .int (nI (M - 1))), (0, .ref (ad 0)), (1, .int v), (2, .int (nI lev))] [] := by
    intro r
    induction r using Nat.strongRecOn with
    | ind r ih =>
      intro k q hr g1 g2 g3
      refine ze_iload C d_X_digitOf_21 0 rfl ?_
      refine ze_iload_n C d_X_digitOf_23 5 rfl rfl ?_
      refine ze_icmp_geN 39 C d_X_digitOf_24 (by decide) (by omega) (by omega) (fun h24 => ?_) (fun h24 => ?_)
      · refine ze_iload C d_X_digitOf_39 1 rfl ?_
        refine ze_iload_n C d_X_digitOf_41 2 rfl rfl ?_
        refine ze_iremN C d_X_digitOf_42 (by omega) (by omega) (by omega) ?_
        exact ze_iret C Rt d_X_digitOf_43 (⟨rfl, rfl, _, rfl, by rw [g2, show k = lev by omega]; rfl, rfl⟩)
      · refine ze_iload C d_X_digitOf_27 1 rfl ?_
        refine ze_iload_n C d_X_digitOf_29 2 rfl rfl ?_
        refine ze_idivN C d_X_digitOf_30 (by omega) (by omega) (by omega) ?_
        refine ze_istore (lv' := [(4, .int (nI (q / (M - 1)))), (5, .int (nI k)), (3, .int (nI (M - 1))), (0, .ref (ad 0)), (1, .int v), (2, .int (nI lev))]) C d_X_digitOf_31 (by decide) rfl ?_
        refine ze_iinc (j := 1) (v := nI (k + 1)) (lv' := [(5, .int (nI (k + 1))), (4, .int (nI (q / (M - 1)))), (3, .int (nI (M - 1))), (0, .ref (ad 0)), (1, .int v), (2, .int (nI lev))]) C d_X_digitOf_33 rfl (nI_1 _) (by decide) rfl ?_
        refine ze_goto 21 C d_X_digitOf_36 (by decide) ?_
        refine ze_sub [(5, .int (nI (k + 1))), (4, .int (nI (q / (M - 1)))), (3, .int (nI (M - 1))), (0, .ref (ad 0)), (1, .int v), (2, .int (nI lev))] [0, 1, 2, 3, 4, 5] rfl ?_
        exact ih (lev - (k + 1)) (by omega) (k + 1) _ rfl (by omega) (by rw [g2, Nat.div_div_eq_div_mul, Nat.pow_succ]) (Nat.lt_of_le_of_lt (Nat.div_le_self _ _) g3)
  refine ze_aload_n C d_X_digitOf_0 0 rfl rfl ?_
  refine ze_getf C fl_X_18 (by decide) ze_E_x rfl d_X_digitOf_1 ?_
  refine ze_iconst (v := nI 1) C d_X_digitOf_4 (by decide) ?_
  refine ze_isubN C d_X_digitOf_5 (by omega) ?_
  refine ze_istore_n (lv' := [(3, .int (nI (M - 1))), (0, .ref (ad 0)), (1, .int v), (2, .int (nI lev))]) C d_X_digitOf_6 rfl (by decide) rfl ?_
  refine ze_iload_n C d_X_digitOf_7 2 rfl rfl ?_
  refine ze_iload_n C d_X_digitOf_8 0 rfl rfl ?_
  refine ze_iload_n C d_X_digitOf_9 0 rfl rfl ?_
  refine ze_imulN C d_X_digitOf_10 ?_
  refine ze_iload_n C d_X_digitOf_11 0 rfl rfl ?_
  refine ze_imulN C d_X_digitOf_12 ?_
  refine ze_callS (st := []) C (c_J_floorMod (ze_l G) (ze_D G) (ze_i G) _ _ _ v ((M - 1) * (M - 1) * (M - 1)) hb3.1 hb3.2) (ks_X_171 (ze_rml (by decide) (by decide))) rfl (Nat.le_of_ble_eq_true rfl) ⟨Nat.le_of_ble_eq_true rfl, Nat.le_of_ble_eq_true rfl⟩ d_X_digitOf_13 ?_
  rintro _ _ _ _ ⟨rfl, rfl, rfl, rfl⟩
  refine ze_norm (c2 := 0) (s2 := 0) (st' := [.int (nI (ze_fm v ((M - 1) * (M - 1) * (M - 1))))]) rfl rfl rfl ?_
  refine ze_istore (lv' := [(4, .int (nI (ze_fm v ((M - 1) * (M - 1) * (M - 1))))), (3, .int (nI (M - 1))), (0, .ref (ad 0)), (1, .int v), (2, .int (nI lev))]) C d_X_digitOf_16 (by decide) rfl ?_
  refine ze_iconst (v := nI 0) C d_X_digitOf_18 (by decide) ?_
  refine ze_istore (lv' := [(5, .int (nI 0)), (4, .int (nI (ze_fm v ((M - 1) * (M - 1) * (M - 1))))), (3, .int (nI (M - 1))), (0, .ref (ad 0)), (1, .int v), (2, .int (nI lev))]) C d_X_digitOf_19 (by decide) rfl ?_
  exact loop _ 0 _ rfl (Nat.zero_le _) (by rw [Nat.pow_zero, Nat.div_one]) (by omega)

set_option maxRecDepth 100000 in
set_option maxHeartbeats 4000000 in
theorem c_X_endOfPart_A (l : Launch) (D : va_G) (ids : Nat → ClassId) (ad : Nat → Nat) (ms : ze_MS) (M : Nat) (T : Nat → ze_T) (hd : Nat → Bool) (mv : Int64) (hM : 3 ≤ M ∧ M ≤ 6) (fr to lev pt : Nat) (hft : fr ≤ to) (hto : to ≤ 60) (hl : lev ≤ 3) (hpt : pt ≤ 10) : ze_MX l D ids ad ms y_X_endOfPart ws_X_endOfPart 3 (M, T, hd, mv) [.ref (ad 0), .ref (ad (5 + 3 * 9)), .int (nI fr), .int (nI to), .int (nI lev), .int (nI pt)] (fun w x' => ∃ e, w = some (.int (nI e)) ∧ x' = (M, T, hd, mv) ∧ fr ≤ e ∧ e ≤ to ∧ (∀ q, fr ≤ q → q < e → ze_dg M ((T 9).2.1 q) lev = pt) ∧ (e < to → ze_dg M ((T 9).2.1 e) lev ≠ pt)) := by
  refine ze_enter (cc := b_X_endOfPart) (maxL := 7) (ret := (some .int)) (by decide +kernel) rfl (Nat.le_of_ble_eq_true rfl) ?_
  rintro G rfl rfl rfl - C Rt
  refine ze_lv (lv' := [(0, .ref (ad 0)), (1, .ref (ad (5 + 3 * 9))), (2, .int (nI fr)), (3, .int (nI to)), (4, .int (nI lev)), (5, .int (nI pt))]) rfl ?_
  have loop : ∀ (r : Nat) (e : Nat), to - e = r → fr ≤ e → e ≤ to → (∀ q, fr ≤ q → q < e → ze_dg M ((T 9).2.1 q) lev = pt) → ze_V G 48 ad (ze_E (ze_i G) ad (M, T, hd, mv) ms) 0 0 3 [(6, .int (nI e)), (0, .ref (ad 0)), (1, .ref (ad (5 + 3 * 9))), (2, .int (nI fr)), (3, .int (nI to)), (4, .int (nI lev)), (5, .int (nI pt))] [] := by
    intro r
    induction r using Nat.strongRecOn with
    | ind r ih =>
      intro e hr g1 g2 g3
      refine ze_iload C d_X_endOfPart_3 0 rfl ?_
      refine ze_iload_n C d_X_endOfPart_5 4 rfl rfl ?_
      refine ze_icmp_geN 30 C d_X_endOfPart_6 (by decide) (by omega) (by omega) (fun h6 => ?_) (fun h6 => ?_)
      · refine ze_iload C d_X_endOfPart_30 0 rfl ?_
        exact ze_iret C Rt d_X_endOfPart_32 (⟨rfl, rfl, _, rfl, e, rfl, rfl, g1, g2, g3, fun z => absurd z (by omega)⟩)
      · refine ze_aload_n C d_X_endOfPart_9 1 rfl rfl ?_
        refine ze_aload_n C d_X_endOfPart_10 2 rfl rfl ?_
        refine ze_iload C d_X_endOfPart_11 0 rfl ?_
        refine ze_iald (k := 5 + 3 * 9) (i := e) C (by decide) (ze_E_v (i := 9) (by omega)) (by omega) (by decide) d_X_endOfPart_13 ?_
        refine ze_iload C d_X_endOfPart_14 5 rfl ?_
        refine ze_callV (st := []) C (c_X_digitOf (ze_l G) (ze_D G) (ze_i G) ad ms M T hd mv hM (((T 9).2.1) e) lev hl) (kv_X_162 (ze_rml (by decide) (by decide))) (by decide) ze_E_x rfl (Nat.le_of_ble_eq_true rfl) ⟨Nat.le_of_ble_eq_true rfl, Nat.le_of_ble_eq_true rfl⟩ d_X_endOfPart_16 ?_
        rintro _ _ _ _ ⟨rfl, rfl, _, rfl, rfl, rfl⟩
        refine ze_norm (c2 := 0) (s2 := 0) (st' := [.int (nI (ze_dg M (((T 9).2.1) e) lev))]) rfl rfl rfl ?_
        have hdg := ze_dg_lt M (((T 9).2.1) e) lev hM
        refine ze_iload C d_X_endOfPart_19 6 rfl ?_
        refine ze_icmp_neN 30 C d_X_endOfPart_21 (by decide) (by omega) (by omega) (fun h21 => ?_) (fun h21 => ?_)
        · refine ze_iload C d_X_endOfPart_30 0 rfl ?_
          exact ze_iret C Rt d_X_endOfPart_32 (⟨rfl, rfl, _, rfl, e, rfl, rfl, g1, g2, g3, fun _ => h21⟩)
        · refine ze_iinc (j := 0) (v := nI (e + 1)) (lv' := [(6, .int (nI (e + 1))), (0, .ref (ad 0)), (1, .ref (ad (5 + 3 * 9))), (2, .int (nI fr)), (3, .int (nI to)), (4, .int (nI lev)), (5, .int (nI pt))]) C d_X_endOfPart_24 rfl (nI_1 _) (by decide) rfl ?_
          refine ze_goto 3 C d_X_endOfPart_27 (by decide) ?_
          refine ze_sub [(6, .int (nI (e + 1))), (0, .ref (ad 0)), (1, .ref (ad (5 + 3 * 9))), (2, .int (nI fr)), (3, .int (nI to)), (4, .int (nI lev)), (5, .int (nI pt))] [0, 1, 2, 3, 4, 5, 6] rfl ?_
          exact ih (to - (e + 1)) (by omega) (e + 1) rfl (by omega) (by omega) (fun q q1 q2 => by by_cases hq : q = e; (subst hq; exact h21); exact g3 q q1 (by omega))
  refine ze_iload_n C d_X_endOfPart_0 2 rfl rfl ?_
  refine ze_istore (lv' := [(6, .int (nI fr)), (0, .ref (ad 0)), (1, .ref (ad (5 + 3 * 9))), (2, .int (nI fr)), (3, .int (nI to)), (4, .int (nI lev)), (5, .int (nI pt))]) C d_X_endOfPart_1 (by decide) rfl ?_
  exact loop _ fr rfl (Nat.le_refl _) hft (fun q q1 q2 => absurd q2 (by omega))

set_option maxRecDepth 100000 in
set_option maxHeartbeats 4000000 in
theorem c_X_endOfPart_B (l : Launch) (D : va_G) (ids : Nat → ClassId) (ad : Nat → Nat) (ms : ze_MS) (M : Nat) (T : Nat → ze_T) (hd : Nat → Bool) (mv : Int64) (hM : 3 ≤ M ∧ M ≤ 6) (fr to lev pt : Nat) (hft : fr ≤ to) (hto : to ≤ 60) (hl : lev ≤ 3) (hpt : pt ≤ 10) : ze_MX l D ids ad ms y_X_endOfPart ws_X_endOfPart 3 (M, T, hd, mv) [.ref (ad 0), .ref (ad (4 + 3 * 10)), .int (nI fr), .int (nI to), .int (nI lev), .int (nI pt)] (fun w x' => ∃ e, w = some (.int (nI e)) ∧ x' = (M, T, hd, mv) ∧ fr ≤ e ∧ e ≤ to ∧ (∀ q, fr ≤ q → q < e → ze_dg M ((T 10).1 q) lev = pt) ∧ (e < to → ze_dg M ((T 10).1 e) lev ≠ pt)) := by
  refine ze_enter (cc := b_X_endOfPart) (maxL := 7) (ret := (some .int)) (by decide +kernel) rfl (Nat.le_of_ble_eq_true rfl) ?_
  rintro G rfl rfl rfl - C Rt
  refine ze_lv (lv' := [(0, .ref (ad 0)), (1, .ref (ad (4 + 3 * 10))), (2, .int (nI fr)), (3, .int (nI to)), (4, .int (nI lev)), (5, .int (nI pt))]) rfl ?_
  have loop : ∀ (r : Nat) (e : Nat), to - e = r → fr ≤ e → e ≤ to → (∀ q, fr ≤ q → q < e → ze_dg M ((T 10).1 q) lev = pt) → ze_V G 48 ad (ze_E (ze_i G) ad (M, T, hd, mv) ms) 0 0 3 [(6, .int (nI e)), (0, .ref (ad 0)), (1, .ref (ad (4 + 3 * 10))), (2, .int (nI fr)), (3, .int (nI to)), (4, .int (nI lev)), (5, .int (nI pt))] [] := by
    intro r
    induction r using Nat.strongRecOn with
    | ind r ih =>
      intro e hr g1 g2 g3
      refine ze_iload C d_X_endOfPart_3 0 rfl ?_
      refine ze_iload_n C d_X_endOfPart_5 4 rfl rfl ?_
      refine ze_icmp_geN 30 C d_X_endOfPart_6 (by decide) (by omega) (by omega) (fun h6 => ?_) (fun h6 => ?_)
      · refine ze_iload C d_X_endOfPart_30 0 rfl ?_
        exact ze_iret C Rt d_X_endOfPart_32 (⟨rfl, rfl, _, rfl, e, rfl, rfl, g1, g2, g3, fun z => absurd z (by omega)⟩)
      · refine ze_aload_n C d_X_endOfPart_9 1 rfl rfl ?_
        refine ze_aload_n C d_X_endOfPart_10 2 rfl rfl ?_
        refine ze_iload C d_X_endOfPart_11 0 rfl ?_
        refine ze_iald (k := 4 + 3 * 10) (i := e) C (by decide) (ze_E_k (i := 10) (by omega)) (by omega) (by decide) d_X_endOfPart_13 ?_
        refine ze_iload C d_X_endOfPart_14 5 rfl ?_
        refine ze_callV (st := []) C (c_X_digitOf (ze_l G) (ze_D G) (ze_i G) ad ms M T hd mv hM (((T 10).1) e) lev hl) (kv_X_162 (ze_rml (by decide) (by decide))) (by decide) ze_E_x rfl (Nat.le_of_ble_eq_true rfl) ⟨Nat.le_of_ble_eq_true rfl, Nat.le_of_ble_eq_true rfl⟩ d_X_endOfPart_16 ?_
        rintro _ _ _ _ ⟨rfl, rfl, _, rfl, rfl, rfl⟩
        refine ze_norm (c2 := 0) (s2 := 0) (st' := [.int (nI (ze_dg M (((T 10).1) e) lev))]) rfl rfl rfl ?_
        have hdg := ze_dg_lt M (((T 10).1) e) lev hM
        refine ze_iload C d_X_endOfPart_19 6 rfl ?_
        refine ze_icmp_neN 30 C d_X_endOfPart_21 (by decide) (by omega) (by omega) (fun h21 => ?_) (fun h21 => ?_)
        · refine ze_iload C d_X_endOfPart_30 0 rfl ?_
          exact ze_iret C Rt d_X_endOfPart_32 (⟨rfl, rfl, _, rfl, e, rfl, rfl, g1, g2, g3, fun _ => h21⟩)
        · refine ze_iinc (j := 0) (v := nI (e + 1)) (lv' := [(6, .int (nI (e + 1))), (0, .ref (ad 0)), (1, .ref (ad (4 + 3 * 10))), (2, .int (nI fr)), (3, .int (nI to)), (4, .int (nI lev)), (5, .int (nI pt))]) C d_X_endOfPart_24 rfl (nI_1 _) (by decide) rfl ?_
          refine ze_goto 3 C d_X_endOfPart_27 (by decide) ?_
          refine ze_sub [(6, .int (nI (e + 1))), (0, .ref (ad 0)), (1, .ref (ad (4 + 3 * 10))), (2, .int (nI fr)), (3, .int (nI to)), (4, .int (nI lev)), (5, .int (nI pt))] [0, 1, 2, 3, 4, 5, 6] rfl ?_
          exact ih (to - (e + 1)) (by omega) (e + 1) rfl (by omega) (by omega) (fun q q1 q2 => by by_cases hq : q = e; (subst hq; exact h21); exact g3 q q1 (by omega))
  refine ze_iload_n C d_X_endOfPart_0 2 rfl rfl ?_
  refine ze_istore (lv' := [(6, .int (nI fr)), (0, .ref (ad 0)), (1, .ref (ad (4 + 3 * 10))), (2, .int (nI fr)), (3, .int (nI to)), (4, .int (nI lev)), (5, .int (nI pt))]) C d_X_endOfPart_1 (by decide) rfl ?_
  exact loop _ fr rfl (Nat.le_refl _) hft (fun q q1 q2 => absurd q2 (by omega))

set_option maxRecDepth 100000 in
set_option maxHeartbeats 4000000 in
theorem c_X_partition_A (l : Launch) (D : va_G) (ids : Nat → ClassId) (ad : Nat → Nat) (ms : ze_MS) (M : Nat) (T : Nat → ze_T) (hd : Nat → Bool) (mv : Int64) (hM : 3 ≤ M ∧ M ≤ 6) (fr to lev : Nat) (hft : fr ≤ to) (hto : to ≤ 60) (hl : lev ≤ 3) (A : List ze_Row) (hA : ze_Hl (T 9).1 (T 9).2.1 fr A) (hAl : A.length = to - fr) : ze_MX l D ids ad ms y_X_partition ws_X_partition 4 (M, T, hd, mv) [.ref (ad 0), .ref (ad 30), .ref (ad (5 + 3 * 9)), .int (nI fr), .int (nI to), .int (nI lev)] (fun w x' => w = none ∧ ∃ T', x' = (M, T', hd, mv) ∧ (∀ z, z ≠ 9 → z ≠ 11 → T' z = T z) ∧ ze_Hl (T' 9).1 (T' 9).2.1 fr (ze_prt M lev (fun r => r.2) A (M - 1)) ∧ (∀ q, q < fr ∨ to ≤ q → (T' 9).1 q = (T 9).1 q ∧ (T' 9).2.1 q = (T 9).2.1 q)) := by
  refine ze_enter (cc := b_X_partition) (maxL := 8) (ret := none) (by decide +kernel) rfl (Nat.le_of_ble_eq_true rfl) ?_
  rintro G rfl rfl rfl - C Rt
  refine ze_lv (lv' := [(0, .ref (ad 0)), (1, .ref (ad 30)), (2, .ref (ad (5 + 3 * 9))), (3, .int (nI fr)), (4, .int (nI to)), (5, .int (nI lev))]) rfl ?_
  have loop : ∀ (r : Nat) (p : Nat) (T2 : Nat → ze_T), M - 1 - p = r → p ≤ M - 1 → (∀ z, z ≠ 11 → T2 z = T z) → ze_Hu (T2 11) (ze_prt M lev (fun r => r.2) A p) → ze_V G 48 ad (ze_E (ze_i G) ad (M, T2, hd, mv) ms) 0 0 10 [(6, .int (nI p)), (0, .ref (ad 0)), (1, .ref (ad 30)), (2, .ref (ad (5 + 3 * 9))), (3, .int (nI fr)), (4, .int (nI to)), (5, .int (nI lev))] [] := by
    intro r
    induction r using Nat.strongRecOn with
    | ind r ih =>
      intro p T2 hr g1 g2 g3
      refine ze_iload C d_X_partition_10 0 rfl ?_
      refine ze_aload_n C d_X_partition_12 1 rfl rfl ?_
      refine ze_getf C fl_X_18 (by decide) ze_E_x rfl d_X_partition_13 ?_
      refine ze_iconst (v := nI 1) C d_X_partition_16 (by decide) ?_
      refine ze_isubN C d_X_partition_17 (by omega) ?_
      refine ze_icmp_geN 79 C d_X_partition_18 (by decide) (by omega) (by omega) (fun h18 => ?_) (fun h18 => ?_)
      · rw [show p = M - 1 by omega] at g3
        have hpl := ze_prt_len (lev := lev) (f := fun r => r.2) (A := A) hM
        have hH := ze_Hu_H g3 (by omega)
        refine ze_aload_n C d_X_partition_79 1 rfl rfl ?_
        refine ze_getf C fl_X_43 (by decide) ze_E_x rfl d_X_partition_80 ?_
        refine ze_getf (k := 3 + 3 * 11) C fl_X_83 (by decide) (ze_E_t (i := 11) (by omega)) rfl d_X_partition_83 ?_
        refine ze_iconst (v := nI 0) C d_X_partition_86 (by decide) ?_
        refine ze_aload_n C d_X_partition_87 2 rfl rfl ?_
        refine ze_getf (k := 3 + 3 * 9) C fl_X_83 (by decide) (ze_E_t (i := 9) (by omega)) rfl d_X_partition_88 ?_
        refine ze_iload_n C d_X_partition_91 4 rfl rfl ?_
        refine ze_iload C d_X_partition_92 5 rfl ?_
        refine ze_iload_n C d_X_partition_94 4 rfl rfl ?_
        refine ze_isubN C d_X_partition_95 (by omega) ?_
        refine ze_eqE (ze_foc 9) ?_
        refine ze_copy (k0 := 4 + 3 * 11) (k1 := 4 + 3 * 9) (sp := 0) (dp := fr) (len := to - fr) C (List.mem_cons_of_mem _ zw_230) (List.mem_cons_of_mem _ zw_93) (List.mem_cons_of_mem _ zw_92) (List.mem_cons_of_mem _ zw_5) (by decide) (by decide) (ze_O_k (j := 11) (by decide) (by decide)) (ze_F_k (i := 9) (by decide)) (by omega) (by omega) (by decide) (by decide) (by decide) (Nat.le_of_ble_eq_true rfl) d_X_partition_96 ?_
        refine ze_eqE (ze_W_k (i := 9) (by decide)) ?_
        refine ze_genT (fun T3 eT3 => ?_)
        refine ze_aload_n C d_X_partition_99 1 rfl rfl ?_
        refine ze_getf C fl_X_43 (by decide) ze_E_x rfl d_X_partition_100 ?_
        refine ze_getf (k := 3 + 3 * 11) C fl_X_87 (by decide) (ze_E_t (i := 11) (by omega)) rfl d_X_partition_103 ?_
        refine ze_iconst (v := nI 0) C d_X_partition_106 (by decide) ?_
        refine ze_aload_n C d_X_partition_107 2 rfl rfl ?_
        refine ze_getf (k := 3 + 3 * 9) C fl_X_87 (by decide) (ze_E_t (i := 9) (by omega)) rfl d_X_partition_108 ?_
        refine ze_iload_n C d_X_partition_111 4 rfl rfl ?_
        refine ze_iload C d_X_partition_112 5 rfl ?_
        refine ze_iload_n C d_X_partition_114 4 rfl rfl ?_
        refine ze_isubN C d_X_partition_115 (by omega) ?_
        refine ze_eqE (ze_foc 9) ?_
        refine ze_copy (k0 := 5 + 3 * 11) (k1 := 5 + 3 * 9) (sp := 0) (dp := fr) (len := to - fr) C (List.mem_cons_of_mem _ zw_230) (List.mem_cons_of_mem _ zw_93) (List.mem_cons_of_mem _ zw_92) (List.mem_cons_of_mem _ zw_5) (by decide) (by decide) (ze_O_v (j := 11) (by decide) (by decide)) (ze_F_v (i := 9) (by decide)) (by omega) (by omega) (by decide) (by decide) (by decide) (Nat.le_of_ble_eq_true rfl) d_X_partition_116 ?_
        refine ze_eqE (ze_W_v (i := 9) (by decide)) ?_
        refine ze_genT (fun T4 eT4 => ?_)
        have s4 := ze_ups eT4
        rw [ze_upo eT3 11 (by decide), ze_ups eT3] at s4
        simp only at s4
        rw [g2 9 (by decide)] at s4
        have c1 := ze_Hl_cpy (f' := (T 9).1) (g' := (T 9).2.1) (sp := 0) (dp := fr) hH.2.2
        rw [hpl, hAl] at c1
        exact ze_vret C Rt d_X_partition_119 (⟨rfl, rfl, _, rfl, rfl, T4, rfl, fun z z1 z2 => (ze_upo eT4 z z1).trans ((ze_upo eT3 z z1).trans (g2 z z2)), by rw [s4]; exact c1, by rw [s4]; exact fun q hq => ⟨pk_cpy_out (by omega), pk_cpy_out (by omega)⟩⟩)
      · refine ze_iload_n C d_X_partition_21 4 rfl rfl ?_
        refine ze_istore (lv' := [(7, .int (nI fr)), (6, .int (nI p)), (0, .ref (ad 0)), (1, .ref (ad 30)), (2, .ref (ad (5 + 3 * 9))), (3, .int (nI fr)), (4, .int (nI to)), (5, .int (nI lev))]) C d_X_partition_22 (by decide) rfl ?_
        have inner : ∀ (r2 : Nat) (j : Nat) (T3 : Nat → ze_T), A.length - j = r2 → j ≤ A.length → (∀ z, z ≠ 11 → T3 z = T z) → ze_Hu (T3 11) (ze_prt M lev (fun r => r.2) A p ++ ze_pt M lev p (fun r => r.2) (A.take j)) → ze_V G 48 ad (ze_E (ze_i G) ad (M, T3, hd, mv) ms) 0 0 24 [(7, .int (nI (fr + j))), (6, .int (nI p)), (0, .ref (ad 0)), (1, .ref (ad 30)), (2, .ref (ad (5 + 3 * 9))), (3, .int (nI fr)), (4, .int (nI to)), (5, .int (nI lev))] [] := by
          intro r2
          induction r2 using Nat.strongRecOn with
          | ind r2 ih2 =>
            intro j T3 hr2 k1 k2 k3
            have hA3 : ze_Hl (T3 9).1 (T3 9).2.1 fr A := by rw [k2 9 (by decide)]; exact hA
            have hs3 := ze_Hu_le k3
            refine ze_iload C d_X_partition_24 0 rfl ?_
            refine ze_iload C d_X_partition_26 6 rfl ?_
            refine ze_icmp_geN 73 C d_X_partition_28 (by decide) (by omega) (by omega) (fun h28 => ?_) (fun h28 => ?_)
            · refine ze_iinc (j := 1) (v := nI (p + 1)) (lv' := [(6, .int (nI (p + 1))), (7, .int (nI (fr + j))), (0, .ref (ad 0)), (1, .ref (ad 30)), (2, .ref (ad (5 + 3 * 9))), (3, .int (nI fr)), (4, .int (nI to)), (5, .int (nI lev))]) C d_X_partition_73 rfl (nI_1 _) (by decide) rfl ?_
              refine ze_goto 10 C d_X_partition_76 (by decide) ?_
              refine ze_sub [(6, .int (nI (p + 1))), (0, .ref (ad 0)), (1, .ref (ad 30)), (2, .ref (ad (5 + 3 * 9))), (3, .int (nI fr)), (4, .int (nI to)), (5, .int (nI lev))] [0, 2, 3, 4, 5, 6, 7] rfl ?_
              rw [List.take_of_length_le (by omega)] at k3
              exact ih (M - 1 - (p + 1)) (by omega) (p + 1) T3 rfl (by omega) k2 (by rw [ze_prt_succ]; exact k3)
            · refine ze_aload_n C d_X_partition_31 2 rfl rfl ?_
              refine ze_aload_n C d_X_partition_32 4 rfl rfl ?_
              refine ze_iload C d_X_partition_33 0 rfl ?_
              refine ze_iald (k := 5 + 3 * 9) (i := fr + j) C (by decide) (ze_E_v (i := 9) (by omega)) (by omega) (by decide) d_X_partition_35 ?_
              refine ze_iload C d_X_partition_36 7 rfl ?_
              refine ze_callV (st := []) C (c_X_digitOf (ze_l G) (ze_D G) (ze_i G) ad ms M T3 hd mv hM (((T3 9).2.1) (fr + j)) lev hl) (kv_X_162 (ze_rml (by decide) (by decide))) (by decide) ze_E_x rfl (Nat.le_of_ble_eq_true rfl) ⟨Nat.le_of_ble_eq_true rfl, Nat.le_of_ble_eq_true rfl⟩ d_X_partition_38 ?_
              rintro _ _ _ _ ⟨rfl, rfl, _, rfl, rfl, rfl⟩
              refine ze_norm (c2 := 0) (s2 := 0) (st' := [.int (nI (ze_dg M (((T3 9).2.1) (fr + j)) lev))]) rfl rfl rfl ?_
              have hdg := ze_dg_lt M (((T3 9).2.1) (fr + j)) lev hM
              refine ze_iload C d_X_partition_41 1 rfl ?_
              refine ze_icmp_neN 67 C d_X_partition_43 (by decide) (by omega) (by omega) (fun h43 => ?_) (fun h43 => ?_)
              · refine ze_iinc (j := 0) (v := nI (fr + j + 1)) (lv' := [(7, .int (nI (fr + j + 1))), (6, .int (nI p)), (0, .ref (ad 0)), (1, .ref (ad 30)), (2, .ref (ad (5 + 3 * 9))), (3, .int (nI fr)), (4, .int (nI to)), (5, .int (nI lev))]) C d_X_partition_67 rfl (nI_1 _) (by decide) rfl ?_
                refine ze_goto 24 C d_X_partition_70 (by decide) ?_
                refine ze_sub [(7, .int (nI (fr + (j + 1)))), (6, .int (nI p)), (0, .ref (ad 0)), (1, .ref (ad 30)), (2, .ref (ad (5 + 3 * 9))), (3, .int (nI fr)), (4, .int (nI to)), (5, .int (nI lev))] [0, 1, 2, 3, 4, 5, 6, 7] rfl ?_
                exact ih2 (A.length - (j + 1)) (by omega) (j + 1) T3 rfl (by omega) k2 (by rw [ze_Hl_take hA3 (by omega), ze_pt_snoc, if_neg h43]; exact k3)
              · refine ze_aload_n C d_X_partition_46 2 rfl rfl ?_
                refine ze_getf C fl_X_43 (by decide) ze_E_x rfl d_X_partition_47 ?_
                refine ze_aload_n C d_X_partition_50 3 rfl rfl ?_
                refine ze_getf (k := 3 + 3 * 9) C fl_X_83 (by decide) (ze_E_t (i := 9) (by omega)) rfl d_X_partition_51 ?_
                refine ze_iload C d_X_partition_54 0 rfl ?_
                refine ze_iald (k := 4 + 3 * 9) (i := fr + j) C (by decide) (ze_E_k (i := 9) (by omega)) (by omega) (by decide) d_X_partition_56 ?_
                refine ze_aload_n C d_X_partition_57 3 rfl rfl ?_
                refine ze_getf (k := 3 + 3 * 9) C fl_X_87 (by decide) (ze_E_t (i := 9) (by omega)) rfl d_X_partition_58 ?_
                refine ze_iload C d_X_partition_61 0 rfl ?_
                refine ze_iald (k := 5 + 3 * 9) (i := fr + j) C (by decide) (ze_E_v (i := 9) (by omega)) (by omega) (by decide) d_X_partition_63 ?_
                refine ze_eqE (ze_foc 11) ?_
                refine ze_callV (st := []) C (c_T_append (ze_l G) (ze_D G) (ze_i G) ad ms M T3 hd mv 11 (by omega) (T3 11).1 (T3 11).2.1 (T3 11).2.2.1 (T3 11).2.2.2 (by omega) (((T3 9).1) (fr + j)) (((T3 9).2.1) (fr + j))) (kv_X_53 (ze_rml (by decide) (by decide))) (by decide) (ze_F_t (i := 11) (by omega)) rfl (Nat.le_of_ble_eq_true rfl) ⟨Nat.le_of_ble_eq_true rfl, Nat.le_of_ble_eq_true rfl⟩ d_X_partition_64 ?_
                rintro _ _ _ _ ⟨rfl, rfl, _, rfl, rfl, rfl⟩
                refine ze_genT (fun T4 eT4 => ?_)
                refine ze_norm (c2 := 0) (s2 := 0) (st' := []) rfl rfl rfl ?_
                refine ze_iinc (j := 0) (v := nI (fr + j + 1)) (lv' := [(7, .int (nI (fr + j + 1))), (6, .int (nI p)), (0, .ref (ad 0)), (1, .ref (ad 30)), (2, .ref (ad (5 + 3 * 9))), (3, .int (nI fr)), (4, .int (nI to)), (5, .int (nI lev))]) C d_X_partition_67 rfl (nI_1 _) (by decide) rfl ?_
                refine ze_goto 24 C d_X_partition_70 (by decide) ?_
                refine ze_sub [(7, .int (nI (fr + (j + 1)))), (6, .int (nI p)), (0, .ref (ad 0)), (1, .ref (ad 30)), (2, .ref (ad (5 + 3 * 9))), (3, .int (nI fr)), (4, .int (nI to)), (5, .int (nI lev))] [0, 1, 2, 3, 4, 5, 6, 7] rfl ?_
                exact ih2 (A.length - (j + 1)) (by omega) (j + 1) T4 rfl (by omega) (fun z hz => (ze_upo eT4 z hz).trans (k2 z hz)) (by rw [ze_Hl_take hA3 (by omega), ze_pt_snoc, if_pos h43, ← List.append_assoc]; exact ze_Hu_app k3 eT4)
        refine ze_sub [(7, .int (nI (fr + 0))), (6, .int (nI p)), (0, .ref (ad 0)), (1, .ref (ad 30)), (2, .ref (ad (5 + 3 * 9))), (3, .int (nI fr)), (4, .int (nI to)), (5, .int (nI lev))] [0, 1, 2, 3, 4, 5, 6, 7] rfl ?_
        exact inner _ 0 T2 rfl (Nat.zero_le _) g2 (by rw [List.take_zero, show ze_pt M lev p (fun r => r.2) [] = [] from rfl, List.append_nil]; exact g3)
  refine ze_aload_n C d_X_partition_0 0 rfl rfl ?_
  refine ze_getf C fl_X_43 (by decide) ze_E_x rfl d_X_partition_1 ?_
  refine ze_eqE (ze_foc 11) ?_
  refine ze_callV (st := []) C (c_T_clear (ze_l G) (ze_D G) (ze_i G) ad ms M T hd mv 11 (by omega) (T 11).1 (T 11).2.1 (T 11).2.2.1 (T 11).2.2.2 ) (kv_X_65 (ze_rml (by decide) (by decide))) (by decide) (ze_F_t (i := 11) (by omega)) rfl (Nat.le_of_ble_eq_true rfl) ⟨Nat.le_of_ble_eq_true rfl, Nat.le_of_ble_eq_true rfl⟩ d_X_partition_4 ?_
  rintro _ _ _ _ ⟨rfl, rfl, _, rfl, rfl, rfl⟩
  refine ze_genT (fun T1 eT1 => ?_)
  refine ze_norm (c2 := 0) (s2 := 0) (st' := []) rfl rfl rfl ?_
  refine ze_iconst (v := nI 0) C d_X_partition_7 (by decide) ?_
  refine ze_istore (lv' := [(6, .int (nI 0)), (0, .ref (ad 0)), (1, .ref (ad 30)), (2, .ref (ad (5 + 3 * 9))), (3, .int (nI fr)), (4, .int (nI to)), (5, .int (nI lev))]) C d_X_partition_8 (by decide) rfl ?_
  exact loop _ 0 T1 rfl (Nat.zero_le _) (ze_upo eT1) (ze_Hu_clr eT1)

set_option maxRecDepth 100000 in
set_option maxHeartbeats 4000000 in
theorem c_X_partition_B (l : Launch) (D : va_G) (ids : Nat → ClassId) (ad : Nat → Nat) (ms : ze_MS) (M : Nat) (T : Nat → ze_T) (hd : Nat → Bool) (mv : Int64) (hM : 3 ≤ M ∧ M ≤ 6) (fr to lev : Nat) (hft : fr ≤ to) (hto : to ≤ 60) (hl : lev ≤ 3) (A : List ze_Row) (hA : ze_Hl (T 10).1 (T 10).2.1 fr A) (hAl : A.length = to - fr) : ze_MX l D ids ad ms y_X_partition ws_X_partition 4 (M, T, hd, mv) [.ref (ad 0), .ref (ad 33), .ref (ad (4 + 3 * 10)), .int (nI fr), .int (nI to), .int (nI lev)] (fun w x' => w = none ∧ ∃ T', x' = (M, T', hd, mv) ∧ (∀ z, z ≠ 10 → z ≠ 11 → T' z = T z) ∧ ze_Hl (T' 10).1 (T' 10).2.1 fr (ze_prt M lev (fun r => r.1) A (M - 1)) ∧ (∀ q, q < fr ∨ to ≤ q → (T' 10).1 q = (T 10).1 q ∧ (T' 10).2.1 q = (T 10).2.1 q)) := by
  refine ze_enter (cc := b_X_partition) (maxL := 8) (ret := none) (by decide +kernel) rfl (Nat.le_of_ble_eq_true rfl) ?_
  rintro G rfl rfl rfl - C Rt
  refine ze_lv (lv' := [(0, .ref (ad 0)), (1, .ref (ad 33)), (2, .ref (ad (4 + 3 * 10))), (3, .int (nI fr)), (4, .int (nI to)), (5, .int (nI lev))]) rfl ?_
  have loop : ∀ (r : Nat) (p : Nat) (T2 : Nat → ze_T), M - 1 - p = r → p ≤ M - 1 → (∀ z, z ≠ 11 → T2 z = T z) → ze_Hu (T2 11) (ze_prt M lev (fun r => r.1) A p) → ze_V G 48 ad (ze_E (ze_i G) ad (M, T2, hd, mv) ms) 0 0 10 [(6, .int (nI p)), (0, .ref (ad 0)), (1, .ref (ad 33)), (2, .ref (ad (4 + 3 * 10))), (3, .int (nI fr)), (4, .int (nI to)), (5, .int (nI lev))] [] := by
    intro r
    induction r using Nat.strongRecOn with
    | ind r ih =>
      intro p T2 hr g1 g2 g3
      refine ze_iload C d_X_partition_10 0 rfl ?_
      refine ze_aload_n C d_X_partition_12 1 rfl rfl ?_
      refine ze_getf C fl_X_18 (by decide) ze_E_x rfl d_X_partition_13 ?_
      refine ze_iconst (v := nI 1) C d_X_partition_16 (by decide) ?_
      refine ze_isubN C d_X_partition_17 (by omega) ?_
      refine ze_icmp_geN 79 C d_X_partition_18 (by decide) (by omega) (by omega) (fun h18 => ?_) (fun h18 => ?_)
      · rw [show p = M - 1 by omega] at g3
        have hpl := ze_prt_len (lev := lev) (f := fun r => r.1) (A := A) hM
        have hH := ze_Hu_H g3 (by omega)
        refine ze_aload_n C d_X_partition_79 1 rfl rfl ?_
        refine ze_getf C fl_X_43 (by decide) ze_E_x rfl d_X_partition_80 ?_
        refine ze_getf (k := 3 + 3 * 11) C fl_X_83 (by decide) (ze_E_t (i := 11) (by omega)) rfl d_X_partition_83 ?_
        refine ze_iconst (v := nI 0) C d_X_partition_86 (by decide) ?_
        refine ze_aload_n C d_X_partition_87 2 rfl rfl ?_
        refine ze_getf (k := 3 + 3 * 10) C fl_X_83 (by decide) (ze_E_t (i := 10) (by omega)) rfl d_X_partition_88 ?_
        refine ze_iload_n C d_X_partition_91 4 rfl rfl ?_
        refine ze_iload C d_X_partition_92 5 rfl ?_
        refine ze_iload_n C d_X_partition_94 4 rfl rfl ?_
        refine ze_isubN C d_X_partition_95 (by omega) ?_
        refine ze_eqE (ze_foc 10) ?_
        refine ze_copy (k0 := 4 + 3 * 11) (k1 := 4 + 3 * 10) (sp := 0) (dp := fr) (len := to - fr) C (List.mem_cons_of_mem _ zw_230) (List.mem_cons_of_mem _ zw_93) (List.mem_cons_of_mem _ zw_92) (List.mem_cons_of_mem _ zw_5) (by decide) (by decide) (ze_O_k (j := 11) (by decide) (by decide)) (ze_F_k (i := 10) (by decide)) (by omega) (by omega) (by decide) (by decide) (by decide) (Nat.le_of_ble_eq_true rfl) d_X_partition_96 ?_
        refine ze_eqE (ze_W_k (i := 10) (by decide)) ?_
        refine ze_genT (fun T3 eT3 => ?_)
        refine ze_aload_n C d_X_partition_99 1 rfl rfl ?_
        refine ze_getf C fl_X_43 (by decide) ze_E_x rfl d_X_partition_100 ?_
        refine ze_getf (k := 3 + 3 * 11) C fl_X_87 (by decide) (ze_E_t (i := 11) (by omega)) rfl d_X_partition_103 ?_
        refine ze_iconst (v := nI 0) C d_X_partition_106 (by decide) ?_
        refine ze_aload_n C d_X_partition_107 2 rfl rfl ?_
        refine ze_getf (k := 3 + 3 * 10) C fl_X_87 (by decide) (ze_E_t (i := 10) (by omega)) rfl d_X_partition_108 ?_
        refine ze_iload_n C d_X_partition_111 4 rfl rfl ?_
        refine ze_iload C d_X_partition_112 5 rfl ?_
        refine ze_iload_n C d_X_partition_114 4 rfl rfl ?_
        refine ze_isubN C d_X_partition_115 (by omega) ?_
        refine ze_eqE (ze_foc 10) ?_
        refine ze_copy (k0 := 5 + 3 * 11) (k1 := 5 + 3 * 10) (sp := 0) (dp := fr) (len := to - fr) C (List.mem_cons_of_mem _ zw_230) (List.mem_cons_of_mem _ zw_93) (List.mem_cons_of_mem _ zw_92) (List.mem_cons_of_mem _ zw_5) (by decide) (by decide) (ze_O_v (j := 11) (by decide) (by decide)) (ze_F_v (i := 10) (by decide)) (by omega) (by omega) (by decide) (by decide) (by decide) (Nat.le_of_ble_eq_true rfl) d_X_partition_116 ?_
        refine ze_eqE (ze_W_v (i := 10) (by decide)) ?_
        refine ze_genT (fun T4 eT4 => ?_)
        have s4 := ze_ups eT4
        rw [ze_upo eT3 11 (by decide), ze_ups eT3] at s4
        simp only at s4
        rw [g2 10 (by decide)] at s4
        have c1 := ze_Hl_cpy (f' := (T 10).1) (g' := (T 10).2.1) (sp := 0) (dp := fr) hH.2.2
        rw [hpl, hAl] at c1
        exact ze_vret C Rt d_X_partition_119 (⟨rfl, rfl, _, rfl, rfl, T4, rfl, fun z z1 z2 => (ze_upo eT4 z z1).trans ((ze_upo eT3 z z1).trans (g2 z z2)), by rw [s4]; exact c1, by rw [s4]; exact fun q hq => ⟨pk_cpy_out (by omega), pk_cpy_out (by omega)⟩⟩)
      · refine ze_iload_n C d_X_partition_21 4 rfl rfl ?_
        refine ze_istore (lv' := [(7, .int (nI fr)), (6, .int (nI p)), (0, .ref (ad 0)), (1, .ref (ad 33)), (2, .ref (ad (4 + 3 * 10))), (3, .int (nI fr)), (4, .int (nI to)), (5, .int (nI lev))]) C d_X_partition_22 (by decide) rfl ?_
        have inner : ∀ (r2 : Nat) (j : Nat) (T3 : Nat → ze_T), A.length - j = r2 → j ≤ A.length → (∀ z, z ≠ 11 → T3 z = T z) → ze_Hu (T3 11) (ze_prt M lev (fun r => r.1) A p ++ ze_pt M lev p (fun r => r.1) (A.take j)) → ze_V G 48 ad (ze_E (ze_i G) ad (M, T3, hd, mv) ms) 0 0 24 [(7, .int (nI (fr + j))), (6, .int (nI p)), (0, .ref (ad 0)), (1, .ref (ad 33)), (2, .ref (ad (4 + 3 * 10))), (3, .int (nI fr)), (4, .int (nI to)), (5, .int (nI lev))] [] := by
          intro r2
          induction r2 using Nat.strongRecOn with
          | ind r2 ih2 =>
            intro j T3 hr2 k1 k2 k3
            have hA3 : ze_Hl (T3 10).1 (T3 10).2.1 fr A := by rw [k2 10 (by decide)]; exact hA
            have hs3 := ze_Hu_le k3
            refine ze_iload C d_X_partition_24 0 rfl ?_
            refine ze_iload C d_X_partition_26 6 rfl ?_
            refine ze_icmp_geN 73 C d_X_partition_28 (by decide) (by omega) (by omega) (fun h28 => ?_) (fun h28 => ?_)
            · refine ze_iinc (j := 1) (v := nI (p + 1)) (lv' := [(6, .int (nI (p + 1))), (7, .int (nI (fr + j))), (0, .ref (ad 0)), (1, .ref (ad 33)), (2, .ref (ad (4 + 3 * 10))), (3, .int (nI fr)), (4, .int (nI to)), (5, .int (nI lev))]) C d_X_partition_73 rfl (nI_1 _) (by decide) rfl ?_
              refine ze_goto 10 C d_X_partition_76 (by decide) ?_
              refine ze_sub [(6, .int (nI (p + 1))), (0, .ref (ad 0)), (1, .ref (ad 33)), (2, .ref (ad (4 + 3 * 10))), (3, .int (nI fr)), (4, .int (nI to)), (5, .int (nI lev))] [0, 2, 3, 4, 5, 6, 7] rfl ?_
              rw [List.take_of_length_le (by omega)] at k3
              exact ih (M - 1 - (p + 1)) (by omega) (p + 1) T3 rfl (by omega) k2 (by rw [ze_prt_succ]; exact k3)
            · refine ze_aload_n C d_X_partition_31 2 rfl rfl ?_
              refine ze_aload_n C d_X_partition_32 4 rfl rfl ?_
              refine ze_iload C d_X_partition_33 0 rfl ?_
              refine ze_iald (k := 4 + 3 * 10) (i := fr + j) C (by decide) (ze_E_k (i := 10) (by omega)) (by omega) (by decide) d_X_partition_35 ?_
              refine ze_iload C d_X_partition_36 7 rfl ?_
              refine ze_callV (st := []) C (c_X_digitOf (ze_l G) (ze_D G) (ze_i G) ad ms M T3 hd mv hM (((T3 10).1) (fr + j)) lev hl) (kv_X_162 (ze_rml (by decide) (by decide))) (by decide) ze_E_x rfl (Nat.le_of_ble_eq_true rfl) ⟨Nat.le_of_ble_eq_true rfl, Nat.le_of_ble_eq_true rfl⟩ d_X_partition_38 ?_
              rintro _ _ _ _ ⟨rfl, rfl, _, rfl, rfl, rfl⟩
              refine ze_norm (c2 := 0) (s2 := 0) (st' := [.int (nI (ze_dg M (((T3 10).1) (fr + j)) lev))]) rfl rfl rfl ?_
              have hdg := ze_dg_lt M (((T3 10).1) (fr + j)) lev hM
              refine ze_iload C d_X_partition_41 1 rfl ?_
              refine ze_icmp_neN 67 C d_X_partition_43 (by decide) (by omega) (by omega) (fun h43 => ?_) (fun h43 => ?_)
              · refine ze_iinc (j := 0) (v := nI (fr + j + 1)) (lv' := [(7, .int (nI (fr + j + 1))), (6, .int (nI p)), (0, .ref (ad 0)), (1, .ref (ad 33)), (2, .ref (ad (4 + 3 * 10))), (3, .int (nI fr)), (4, .int (nI to)), (5, .int (nI lev))]) C d_X_partition_67 rfl (nI_1 _) (by decide) rfl ?_
                refine ze_goto 24 C d_X_partition_70 (by decide) ?_
                refine ze_sub [(7, .int (nI (fr + (j + 1)))), (6, .int (nI p)), (0, .ref (ad 0)), (1, .ref (ad 33)), (2, .ref (ad (4 + 3 * 10))), (3, .int (nI fr)), (4, .int (nI to)), (5, .int (nI lev))] [0, 1, 2, 3, 4, 5, 6, 7] rfl ?_
                exact ih2 (A.length - (j + 1)) (by omega) (j + 1) T3 rfl (by omega) k2 (by rw [ze_Hl_take hA3 (by omega), ze_pt_snoc, if_neg h43]; exact k3)
              · refine ze_aload_n C d_X_partition_46 2 rfl rfl ?_
                refine ze_getf C fl_X_43 (by decide) ze_E_x rfl d_X_partition_47 ?_
                refine ze_aload_n C d_X_partition_50 3 rfl rfl ?_
                refine ze_getf (k := 3 + 3 * 10) C fl_X_83 (by decide) (ze_E_t (i := 10) (by omega)) rfl d_X_partition_51 ?_
                refine ze_iload C d_X_partition_54 0 rfl ?_
                refine ze_iald (k := 4 + 3 * 10) (i := fr + j) C (by decide) (ze_E_k (i := 10) (by omega)) (by omega) (by decide) d_X_partition_56 ?_
                refine ze_aload_n C d_X_partition_57 3 rfl rfl ?_
                refine ze_getf (k := 3 + 3 * 10) C fl_X_87 (by decide) (ze_E_t (i := 10) (by omega)) rfl d_X_partition_58 ?_
                refine ze_iload C d_X_partition_61 0 rfl ?_
                refine ze_iald (k := 5 + 3 * 10) (i := fr + j) C (by decide) (ze_E_v (i := 10) (by omega)) (by omega) (by decide) d_X_partition_63 ?_
                refine ze_eqE (ze_foc 11) ?_
                refine ze_callV (st := []) C (c_T_append (ze_l G) (ze_D G) (ze_i G) ad ms M T3 hd mv 11 (by omega) (T3 11).1 (T3 11).2.1 (T3 11).2.2.1 (T3 11).2.2.2 (by omega) (((T3 10).1) (fr + j)) (((T3 10).2.1) (fr + j))) (kv_X_53 (ze_rml (by decide) (by decide))) (by decide) (ze_F_t (i := 11) (by omega)) rfl (Nat.le_of_ble_eq_true rfl) ⟨Nat.le_of_ble_eq_true rfl, Nat.le_of_ble_eq_true rfl⟩ d_X_partition_64 ?_
                rintro _ _ _ _ ⟨rfl, rfl, _, rfl, rfl, rfl⟩
                refine ze_genT (fun T4 eT4 => ?_)
                refine ze_norm (c2 := 0) (s2 := 0) (st' := []) rfl rfl rfl ?_
                refine ze_iinc (j := 0) (v := nI (fr + j + 1)) (lv' := [(7, .int (nI (fr + j + 1))), (6, .int (nI p)), (0, .ref (ad 0)), (1, .ref (ad 33)), (2, .ref (ad (4 + 3 * 10))), (3, .int (nI fr)), (4, .int (nI to)), (5, .int (nI lev))]) C d_X_partition_67 rfl (nI_1 _) (by decide) rfl ?_
                refine ze_goto 24 C d_X_partition_70 (by decide) ?_
                refine ze_sub [(7, .int (nI (fr + (j + 1)))), (6, .int (nI p)), (0, .ref (ad 0)), (1, .ref (ad 33)), (2, .ref (ad (4 + 3 * 10))), (3, .int (nI fr)), (4, .int (nI to)), (5, .int (nI lev))] [0, 1, 2, 3, 4, 5, 6, 7] rfl ?_
                exact ih2 (A.length - (j + 1)) (by omega) (j + 1) T4 rfl (by omega) (fun z hz => (ze_upo eT4 z hz).trans (k2 z hz)) (by rw [ze_Hl_take hA3 (by omega), ze_pt_snoc, if_pos h43, ← List.append_assoc]; exact ze_Hu_app k3 eT4)
        refine ze_sub [(7, .int (nI (fr + 0))), (6, .int (nI p)), (0, .ref (ad 0)), (1, .ref (ad 33)), (2, .ref (ad (4 + 3 * 10))), (3, .int (nI fr)), (4, .int (nI to)), (5, .int (nI lev))] [0, 1, 2, 3, 4, 5, 6, 7] rfl ?_
        exact inner _ 0 T2 rfl (Nat.zero_le _) g2 (by rw [List.take_zero, show ze_pt M lev p (fun r => r.1) [] = [] from rfl, List.append_nil]; exact g3)
  refine ze_aload_n C d_X_partition_0 0 rfl rfl ?_
  refine ze_getf C fl_X_43 (by decide) ze_E_x rfl d_X_partition_1 ?_
  refine ze_eqE (ze_foc 11) ?_
  refine ze_callV (st := []) C (c_T_clear (ze_l G) (ze_D G) (ze_i G) ad ms M T hd mv 11 (by omega) (T 11).1 (T 11).2.1 (T 11).2.2.1 (T 11).2.2.2 ) (kv_X_65 (ze_rml (by decide) (by decide))) (by decide) (ze_F_t (i := 11) (by omega)) rfl (Nat.le_of_ble_eq_true rfl) ⟨Nat.le_of_ble_eq_true rfl, Nat.le_of_ble_eq_true rfl⟩ d_X_partition_4 ?_
  rintro _ _ _ _ ⟨rfl, rfl, _, rfl, rfl, rfl⟩
  refine ze_genT (fun T1 eT1 => ?_)
  refine ze_norm (c2 := 0) (s2 := 0) (st' := []) rfl rfl rfl ?_
  refine ze_iconst (v := nI 0) C d_X_partition_7 (by decide) ?_
  refine ze_istore (lv' := [(6, .int (nI 0)), (0, .ref (ad 0)), (1, .ref (ad 33)), (2, .ref (ad (4 + 3 * 10))), (3, .int (nI fr)), (4, .int (nI to)), (5, .int (nI lev))]) C d_X_partition_8 (by decide) rfl ?_
  exact loop _ 0 T1 rfl (Nat.zero_le _) (ze_upo eT1) (ze_Hu_clr eT1)

set_option maxRecDepth 100000 in
set_option maxHeartbeats 4000000 in
theorem c_X_joinWithChunk (l : Launch) (D : va_G) (ids : Nat → ClassId) (ad : Nat → Nat) (ms : ze_MS) (M : Nat) (T : Nat → ze_T) (hd : Nat → Bool) (mv : Int64) (af at_ bs be : Nat) (ha : af ≤ at_) (ha6 : at_ ≤ 60) (hb : bs ≤ be) (hb6 : be ≤ 60) (A B L : List ze_Row) (hA : ze_Hl (T 9).1 (T 9).2.1 af A) (hAl : A.length = at_ - af) (hB : ze_Hl (T 10).1 (T 10).2.1 bs B) (hBl : B.length = be - bs) (m : Nat) (hm8 : m < 8) (hm : ze_Hu (T m) L) : ze_MX l D ids ad ms y_X_joinWithChunk ws_X_joinWithChunk 3 (M, T, hd, mv) [.ref (ad 0), .int (nI af), .int (nI at_), .int (nI bs), .int (nI be), .ref (ad (3 + 3 * m))] (fun w x' => w = none ∧ ∃ T', x' = (M, T', hd, mv) ∧ (∀ z, z ≠ m → T' z = T z) ∧ ze_Hu (T' m) (L ++ ze_jr A B)) := by
  refine ze_enter (cc := b_X_joinWithChunk) (maxL := 8) (ret := none) (by decide +kernel) rfl (Nat.le_of_ble_eq_true rfl) ?_
  rintro G rfl rfl rfl - C Rt
  refine ze_lv (lv' := [(0, .ref (ad 0)), (1, .int (nI af)), (2, .int (nI at_)), (3, .int (nI bs)), (4, .int (nI be)), (5, .ref (ad (3 + 3 * m)))]) rfl ?_
  have loop : ∀ (r : Nat) (a : Nat) (T1 : Nat → ze_T), A.length - a = r → a ≤ A.length → (∀ z, z ≠ m → T1 z = T z) → ze_Hu (T1 m) (L ++ ze_jr (A.take a) B) → ze_V G 48 ad (ze_E (ze_i G) ad (M, T1, hd, mv) ms) 0 0 3 [(6, .int (nI (af + a))), (0, .ref (ad 0)), (1, .int (nI af)), (2, .int (nI at_)), (3, .int (nI bs)), (4, .int (nI be)), (5, .ref (ad (3 + 3 * m)))] [] := by
    intro r
    induction r using Nat.strongRecOn with
    | ind r ih =>
      intro a T1 hr g1 g2 g3
      refine ze_iload C d_X_joinWithChunk_3 0 rfl ?_
      refine ze_iload_n C d_X_joinWithChunk_5 3 rfl rfl ?_
      refine ze_icmp_geN 79 C d_X_joinWithChunk_6 (by decide) (by omega) (by omega) (fun h6 => ?_) (fun h6 => ?_)
      · exact ze_vret C Rt d_X_joinWithChunk_79 (⟨rfl, rfl, _, rfl, rfl, T1, rfl, g2, by rw [List.take_of_length_le (by omega)] at g3; exact g3⟩)
      · refine ze_iload_n C d_X_joinWithChunk_9 4 rfl rfl ?_
        refine ze_istore (lv' := [(7, .int (nI bs)), (6, .int (nI (af + a))), (0, .ref (ad 0)), (1, .int (nI af)), (2, .int (nI at_)), (3, .int (nI bs)), (4, .int (nI be)), (5, .ref (ad (3 + 3 * m)))]) C d_X_joinWithChunk_10 (by decide) rfl ?_
        have hAr := ze_Hl_row hA (p := a) (by omega)
        have inner : ∀ (r2 : Nat) (b : Nat) (T2 : Nat → ze_T), B.length - b = r2 → b ≤ B.length → (∀ z, z ≠ m → T2 z = T z) → ze_Hu (T2 m) (L ++ ze_jr (A.take a) B ++ ze_j1 ((T 9).1 (af + a), (T 9).2.1 (af + a)) (B.take b)) → ze_V G 48 ad (ze_E (ze_i G) ad (M, T2, hd, mv) ms) 0 0 12 [(7, .int (nI (bs + b))), (6, .int (nI (af + a))), (0, .ref (ad 0)), (1, .int (nI af)), (2, .int (nI at_)), (3, .int (nI bs)), (4, .int (nI be)), (5, .ref (ad (3 + 3 * m)))] [] := by
          intro r2
          induction r2 using Nat.strongRecOn with
          | ind r2 ih2 =>
            intro b T2 hr2 k1 k2 k3
            have hs3 := ze_Hu_le k3
            have e9 := k2 9 (by omega)
            have e10 := k2 10 (by omega)
            refine ze_iload C d_X_joinWithChunk_12 0 rfl ?_
            refine ze_iload C d_X_joinWithChunk_14 6 rfl ?_
            refine ze_icmp_geN 73 C d_X_joinWithChunk_16 (by decide) (by omega) (by omega) (fun h16 => ?_) (fun h16 => ?_)
            · refine ze_iinc (j := 1) (v := nI (af + a + 1)) (lv' := [(6, .int (nI (af + a + 1))), (7, .int (nI (bs + b))), (0, .ref (ad 0)), (1, .int (nI af)), (2, .int (nI at_)), (3, .int (nI bs)), (4, .int (nI be)), (5, .ref (ad (3 + 3 * m)))]) C d_X_joinWithChunk_73 rfl (nI_1 _) (by decide) rfl ?_
              refine ze_goto 3 C d_X_joinWithChunk_76 (by decide) ?_
              refine ze_sub [(6, .int (nI (af + (a + 1)))), (0, .ref (ad 0)), (1, .int (nI af)), (2, .int (nI at_)), (3, .int (nI bs)), (4, .int (nI be)), (5, .ref (ad (3 + 3 * m)))] [0, 2, 3, 4, 5, 6, 7] rfl ?_
              have k4 : B.take b = B := List.take_of_length_le (by omega)
              rw [k4] at k3
              exact ih (A.length - (a + 1)) (by omega) (a + 1) T2 rfl (by omega) k2 (by rw [ze_Hl_take hA (by omega), ze_jr_snoc, ← List.append_assoc]; exact k3)
            · refine ze_aload_n C d_X_joinWithChunk_19 2 rfl rfl ?_
              refine ze_getf C fl_X_37 (by decide) ze_E_x rfl d_X_joinWithChunk_20 ?_
              refine ze_getf (k := 3 + 3 * 9) C fl_X_87 (by decide) (ze_E_t (i := 9) (by omega)) rfl d_X_joinWithChunk_23 ?_
              refine ze_iload C d_X_joinWithChunk_26 1 rfl ?_
              refine ze_iald (k := 5 + 3 * 9) (i := af + a) C (by decide) (ze_E_v (i := 9) (by omega)) (by omega) (by decide) d_X_joinWithChunk_28 ?_
              refine ze_aload_n C d_X_joinWithChunk_29 2 rfl rfl ?_
              refine ze_getf C fl_X_40 (by decide) ze_E_x rfl d_X_joinWithChunk_30 ?_
              refine ze_getf (k := 3 + 3 * 10) C fl_X_83 (by decide) (ze_E_t (i := 10) (by omega)) rfl d_X_joinWithChunk_33 ?_
              refine ze_iload C d_X_joinWithChunk_36 0 rfl ?_
              refine ze_iald (k := 4 + 3 * 10) (i := bs + b) C (by decide) (ze_E_k (i := 10) (by omega)) (by omega) (by decide) d_X_joinWithChunk_38 ?_
              refine ze_icmp_ne 67 C d_X_joinWithChunk_39 (by decide) (fun h39 => ?_) (fun h39 => ?_)
              · refine ze_iinc (j := 0) (v := nI (bs + b + 1)) (lv' := [(7, .int (nI (bs + b + 1))), (6, .int (nI (af + a))), (0, .ref (ad 0)), (1, .int (nI af)), (2, .int (nI at_)), (3, .int (nI bs)), (4, .int (nI be)), (5, .ref (ad (3 + 3 * m)))]) C d_X_joinWithChunk_67 rfl (nI_1 _) (by decide) rfl ?_
                refine ze_goto 12 C d_X_joinWithChunk_70 (by decide) ?_
                refine ze_sub [(7, .int (nI (bs + (b + 1)))), (6, .int (nI (af + a))), (0, .ref (ad 0)), (1, .int (nI af)), (2, .int (nI at_)), (3, .int (nI bs)), (4, .int (nI be)), (5, .ref (ad (3 + 3 * m)))] [0, 1, 2, 3, 4, 5, 6, 7] rfl ?_
                rw [e9, e10] at h39
                exact ih2 (B.length - (b + 1)) (by omega) (b + 1) T2 rfl (by omega) k2 (by rw [ze_Hl_take hB (by omega), ze_j1_snoc, if_neg (fun z => h39 z.symm)]; exact k3)
              · refine ze_aload C d_X_joinWithChunk_42 7 rfl ?_
                refine ze_aload_n C d_X_joinWithChunk_44 2 rfl rfl ?_
                refine ze_getf C fl_X_37 (by decide) ze_E_x rfl d_X_joinWithChunk_45 ?_
                refine ze_getf (k := 3 + 3 * 9) C fl_X_83 (by decide) (ze_E_t (i := 9) (by omega)) rfl d_X_joinWithChunk_48 ?_
                refine ze_iload C d_X_joinWithChunk_51 1 rfl ?_
                refine ze_iald (k := 4 + 3 * 9) (i := af + a) C (by decide) (ze_E_k (i := 9) (by omega)) (by omega) (by decide) d_X_joinWithChunk_53 ?_
                refine ze_aload_n C d_X_joinWithChunk_54 2 rfl rfl ?_
                refine ze_getf C fl_X_40 (by decide) ze_E_x rfl d_X_joinWithChunk_55 ?_
                refine ze_getf (k := 3 + 3 * 10) C fl_X_87 (by decide) (ze_E_t (i := 10) (by omega)) rfl d_X_joinWithChunk_58 ?_
                refine ze_iload C d_X_joinWithChunk_61 0 rfl ?_
                refine ze_iald (k := 5 + 3 * 10) (i := bs + b) C (by decide) (ze_E_v (i := 10) (by omega)) (by omega) (by decide) d_X_joinWithChunk_63 ?_
                refine ze_eqE (ze_foc m) ?_
                refine ze_callV (st := []) C (c_T_append (ze_l G) (ze_D G) (ze_i G) ad ms M T2 hd mv m (by omega) (T2 m).1 (T2 m).2.1 (T2 m).2.2.1 (T2 m).2.2.2 (by omega) (((T2 9).1) (af + a)) (((T2 10).2.1) (bs + b))) (kv_X_53 (ze_rml (by decide) (by decide))) (by omega) (ze_F_t (i := m) (by omega)) rfl (Nat.le_of_ble_eq_true rfl) ⟨Nat.le_of_ble_eq_true rfl, Nat.le_of_ble_eq_true rfl⟩ d_X_joinWithChunk_64 ?_
                rintro _ _ _ _ ⟨rfl, rfl, _, rfl, rfl, rfl⟩
                refine ze_genT (fun T3 eT3 => ?_)
                refine ze_norm (c2 := 0) (s2 := 0) (st' := []) rfl rfl rfl ?_
                refine ze_iinc (j := 0) (v := nI (bs + b + 1)) (lv' := [(7, .int (nI (bs + b + 1))), (6, .int (nI (af + a))), (0, .ref (ad 0)), (1, .int (nI af)), (2, .int (nI at_)), (3, .int (nI bs)), (4, .int (nI be)), (5, .ref (ad (3 + 3 * m)))]) C d_X_joinWithChunk_67 rfl (nI_1 _) (by decide) rfl ?_
                refine ze_goto 12 C d_X_joinWithChunk_70 (by decide) ?_
                refine ze_sub [(7, .int (nI (bs + (b + 1)))), (6, .int (nI (af + a))), (0, .ref (ad 0)), (1, .int (nI af)), (2, .int (nI at_)), (3, .int (nI bs)), (4, .int (nI be)), (5, .ref (ad (3 + 3 * m)))] [0, 1, 2, 3, 4, 5, 6, 7] rfl ?_
                rw [e9, e10] at h39
                rw [e9, e10] at eT3
                exact ih2 (B.length - (b + 1)) (by omega) (b + 1) T3 rfl (by omega) (fun z hz => (ze_upo eT3 z hz).trans (k2 z hz)) (by rw [ze_Hl_take hB (by omega), ze_j1_snoc, if_pos h39.symm, ← List.append_assoc]; exact ze_Hu_app k3 eT3)
        refine ze_sub [(7, .int (nI (bs + 0))), (6, .int (nI (af + a))), (0, .ref (ad 0)), (1, .int (nI af)), (2, .int (nI at_)), (3, .int (nI bs)), (4, .int (nI be)), (5, .ref (ad (3 + 3 * m)))] [0, 1, 2, 3, 4, 5, 6, 7] rfl ?_
        exact inner _ 0 T1 rfl (Nat.zero_le _) g2 (by rw [List.take_zero, show ∀ r, ze_j1 r [] = [] from fun _ => rfl, List.append_nil]; exact g3)
  refine ze_iload_n C d_X_joinWithChunk_0 1 rfl rfl ?_
  refine ze_istore (lv' := [(6, .int (nI af)), (0, .ref (ad 0)), (1, .int (nI af)), (2, .int (nI at_)), (3, .int (nI bs)), (4, .int (nI be)), (5, .ref (ad (3 + 3 * m)))]) C d_X_joinWithChunk_1 (by decide) rfl ?_
  refine ze_sub [(6, .int (nI (af + 0))), (0, .ref (ad 0)), (1, .int (nI af)), (2, .int (nI at_)), (3, .int (nI bs)), (4, .int (nI be)), (5, .ref (ad (3 + 3 * m)))] [0, 1, 2, 3, 4, 5, 6] rfl ?_
  exact loop _ 0 T rfl (Nat.zero_le _) (fun _ _ => rfl) (by rw [List.take_zero, show ze_jr [] B = [] from rfl, List.append_nil]; exact hm)
end
section
theorem ze_cd1 {n w c : Nat} (hw : 0 < w) (h : c < (n + w - 1) / w) : c * w < n := by
  have h1 : (c + 1) * w ≤ n + w - 1 := (Nat.le_div_iff_mul_le hw).mp h
  rw [Nat.succ_mul] at h1
  omega
theorem ze_cd2 {n w c : Nat} (hw : 0 < w) (h : (n + w - 1) / w ≤ c) : n ≤ c * w := by
  have h1 : n + w - 1 < (c + 1) * w := (Nat.div_lt_iff_lt_mul hw).mp (Nat.lt_succ_of_le h)
  rw [Nat.succ_mul] at h1
  omega
theorem ze_cd3 {n w : Nat} (hw : 0 < w) : (n + w - 1) / w ≤ n := by
  rcases Nat.lt_or_ge n ((n + w - 1) / w) with h | h
  · have h1 := ze_cd1 hw h
    have h2 : n * 1 ≤ n * w := Nat.mul_le_mul_left n hw
    omega
  · exact h
theorem ze_Hl_drop {f g : Nat → Int32} {k : Nat} {L : List ze_Row} (h : ze_Hl f g k L) (j : Nat) : ze_Hl f g (k + j) (L.drop j) := by
  intro p r hp
  rw [List.getElem?_drop] at hp
  have := h (j + p) r hp
  rw [← Nat.add_assoc] at this
  exact this
theorem ze_Hl_tk {f g : Nat → Int32} {k : Nat} {L : List ze_Row} (h : ze_Hl f g k L) (j : Nat) : ze_Hl f g k (L.take j) := by
  intro p r hp
  have hl := (List.getElem?_eq_some_iff.mp hp).1
  rw [List.length_take] at hl
  rw [List.getElem?_take_of_lt (by omega)] at hp
  exact h p r hp
/-- the parts from p on, n of them -/
def ze_sfx (M lev : Nat) (f : ze_Row → Int32) (A : List ze_Row) : Nat → Nat → List ze_Row
  | 0, _ => []
  | n + 1, p => ze_pt M lev p f A ++ ze_sfx M lev f A n (p + 1)
theorem ze_sfx_prt (M lev : Nat) (f : ze_Row → Int32) (A : List ze_Row) : ∀ n p : Nat, ze_prt M lev f A p ++ ze_sfx M lev f A n p = ze_prt M lev f A (p + n)
  | 0, p => by rw [ze_sfx, List.append_nil]; rfl
  | n + 1, p => by
    rw [ze_sfx, ← List.append_assoc, ← ze_prt_succ, ze_sfx_prt M lev f A n (p + 1)]
    congr 1
    omega
theorem ze_sfx_mem (M lev : Nat) (f : ze_Row → Int32) (A : List ze_Row) : ∀ (n p : Nat) (r : ze_Row), r ∈ ze_sfx M lev f A n p → p ≤ ze_dg M (f r) lev
  | 0, p, r, h => by cases h
  | n + 1, p, r, h => by
    rw [ze_sfx] at h
    rcases List.mem_append.mp h with h | h
    · have := of_decide_eq_true (List.mem_filter.mp h).2
      omega
    · have := ze_sfx_mem M lev f A n (p + 1) r h
      omega
/-- where a part ends -/
theorem ze_eop {M lev n p aS to e : Nat} {f : ze_Row → Int32} {A : List ze_Row} {F G : Nat → Int32} (cf : Nat → Int32) (hcf : ∀ q, cf q = f (F q, G q)) (h : ze_Hl F G aS (ze_sfx M lev f A (n + 1) p)) (hl : (ze_sfx M lev f A (n + 1) p).length = to - aS) (h1 : aS ≤ e) (h2 : e ≤ to) (h3 : ∀ q, aS ≤ q → q < e → ze_dg M (cf q) lev = p) (h4 : e < to → ze_dg M (cf e) lev ≠ p) : e = aS + (ze_pt M lev p f A).length := by
  rw [ze_sfx, List.length_append] at hl
  rw [ze_sfx, ze_Hl_app] at h
  obtain ⟨ha, hb⟩ := h
  rcases Nat.lt_trichotomy e (aS + (ze_pt M lev p f A).length) with hlt | heq | hgt
  · exfalso
    have hr := ze_Hl_row ha (p := e - aS) (by omega)
    rw [show aS + (e - aS) = e by omega] at hr
    have := of_decide_eq_true (List.mem_filter.mp (List.mem_of_getElem? hr)).2
    refine h4 (by omega) ?_
    rw [hcf]
    exact this
  · exact heq
  · exfalso
    have hr := ze_Hl_row hb (p := 0) (by omega)
    simp only [Nat.add_zero] at hr
    have h5 := ze_sfx_mem M lev f A n (p + 1) _ (List.mem_of_getElem? hr)
    have h6 := h3 (aS + (ze_pt M lev p f A).length) (by omega) hgt
    rw [hcf] at h6
    omega

set_option maxRecDepth 100000 in
set_option maxHeartbeats 4000000 in
theorem c_X_joinByChunks (l : Launch) (D : va_G) (ids : Nat → ClassId) (ad : Nat → Nat) (ms : ze_MS) (M : Nat) (T : Nat → ze_T) (hd : Nat → Bool) (mv : Int64) (hM : 3 ≤ M ∧ M ≤ 6) (af at_ bf bt : Nat) (ha : af ≤ at_) (ha6 : at_ ≤ 60) (hb : bf ≤ bt) (hb6 : bt ≤ 60) (A B L : List ze_Row) (hA : ze_Hl (T 9).1 (T 9).2.1 af A) (hAl : A.length = at_ - af) (hB : ze_Hl (T 10).1 (T 10).2.1 bf B) (hBl : B.length = bt - bf) (m : Nat) (hm8 : m < 8) (hm : ze_Hu (T m) L) : ze_MX l D ids ad ms y_X_joinByChunks ws_X_joinByChunks 5 (M, T, hd, mv) [.ref (ad 0), .int (nI af), .int (nI at_), .int (nI bf), .int (nI bt), .ref (ad (3 + 3 * m))] (fun w x' => w = some (.long (lN (ze_sz B.length + (B.length + ze_rm4 M - 1) / ze_rm4 M * ze_sz A.length))) ∧ ∃ T', x' = (M, T', hd, mv) ∧ (∀ z, z ≠ m → T' z = T z) ∧ ze_Hu (T' m) (L ++ ze_jc (ze_rm4 M) A B.length B)) := by
  refine ze_enter (cc := b_X_joinByChunks) (maxL := 10) (ret := (some .long)) (by decide +kernel) rfl (Nat.le_of_ble_eq_true rfl) ?_
  rintro G rfl rfl rfl - C Rt
  refine ze_lv (lv' := [(0, .ref (ad 0)), (1, .int (nI af)), (2, .int (nI at_)), (3, .int (nI bf)), (4, .int (nI bt)), (5, .ref (ad (3 + 3 * m)))]) rfl ?_
  have hw : 4 ≤ ze_rm4 M ∧ ze_rm4 M ≤ 16 := by unfold ze_rm4; omega
  have hnc0 : (bt - bf + ze_rm4 M - 1) / ze_rm4 M = (B.length + ze_rm4 M - 1) / ze_rm4 M := by rw [hBl]
  have hn3 := ze_cd3 (n := B.length) (w := ze_rm4 M) (by omega)
  have hn1 : ∀ c, c < (B.length + ze_rm4 M - 1) / ze_rm4 M → c * ze_rm4 M < B.length := fun c h => ze_cd1 (by omega) h
  have hn2 : ∀ c, (B.length + ze_rm4 M - 1) / ze_rm4 M ≤ c → B.length ≤ c * ze_rm4 M := fun c h => ze_cd2 (by omega) h
  generalize hnc : (B.length + ze_rm4 M - 1) / ze_rm4 M = nc at hn1 hn2 hn3
  have loop : ∀ (r : Nat) (c : Nat) (T1 : Nat → ze_T) (Lc : List ze_Row), nc - c = r → c ≤ nc → (∀ z, z ≠ m → T1 z = T z) → ze_Hu (T1 m) Lc → Lc ++ ze_jc (ze_rm4 M) A (B.length - c) (B.drop (c * ze_rm4 M)) = L ++ ze_jc (ze_rm4 M) A B.length B → ze_V G 48 ad (ze_E (ze_i G) ad (M, T1, hd, mv) ms) 0 0 20 [(8, .int (nI c)), (7, .int (nI nc)), (6, .int (nI (ze_rm4 M))), (0, .ref (ad 0)), (1, .int (nI af)), (2, .int (nI at_)), (3, .int (nI bf)), (4, .int (nI bt)), (5, .ref (ad (3 + 3 * m)))] [] := by
    intro r
    induction r using Nat.strongRecOn with
    | ind r ih =>
      intro c T1 Lc hr g1 g2 g3 g4
      refine ze_iload C d_X_joinByChunks_20 0 rfl ?_
      refine ze_iload C d_X_joinByChunks_22 1 rfl ?_
      refine ze_icmp_geN 62 C d_X_joinByChunks_24 (by decide) (by omega) (by omega) (fun h24 => ?_) (fun h24 => ?_)
      · have hBn := hn2 c (by omega)
        rw [List.drop_eq_nil_of_le hBn, ze_jc_nil, List.append_nil] at g4
        refine ze_iload C d_X_joinByChunks_62 7 rfl ?_
        refine ze_iload_n C d_X_joinByChunks_64 6 rfl rfl ?_
        refine ze_isubN C d_X_joinByChunks_65 (by omega) ?_
        refine ze_callS (st := []) C (c_X_sizeOf (ze_l G) (ze_D G) (ze_i G) _ _ _ (bt - bf) (by omega)) (ks_X_68 (ze_rml (by decide) (by decide))) rfl (Nat.le_of_ble_eq_true rfl) ⟨Nat.le_of_ble_eq_true rfl, Nat.le_of_ble_eq_true rfl⟩ d_X_joinByChunks_66 ?_
        rintro _ _ _ _ ⟨rfl, rfl, rfl, rfl⟩
        refine ze_norm (c2 := 0) (s2 := 0) (st' := [.int (nI (ze_sz (bt - bf)))]) rfl rfl rfl ?_
        have hz66 := ze_sz_le (bt - bf)
        refine ze_i2lN C d_X_joinByChunks_69 (by omega) ?_
        refine ze_iload C d_X_joinByChunks_70 1 rfl ?_
        refine ze_i2lN C d_X_joinByChunks_72 (by omega) ?_
        refine ze_iload_n C d_X_joinByChunks_73 5 rfl rfl ?_
        refine ze_iload_n C d_X_joinByChunks_74 4 rfl rfl ?_
        refine ze_isubN C d_X_joinByChunks_75 (by omega) ?_
        refine ze_callS (st := [.long (lN nc), .long (lN (ze_sz (bt - bf)))]) C (c_X_sizeOf (ze_l G) (ze_D G) (ze_i G) _ _ _ (at_ - af) (by omega)) (ks_X_68 (ze_rml (by decide) (by decide))) rfl (Nat.le_of_ble_eq_true rfl) ⟨Nat.le_of_ble_eq_true rfl, Nat.le_of_ble_eq_true rfl⟩ d_X_joinByChunks_76 ?_
        rintro _ _ _ _ ⟨rfl, rfl, rfl, rfl⟩
        refine ze_norm (c2 := 0) (s2 := 0) (st' := [.int (nI (ze_sz (at_ - af))), .long (lN nc), .long (lN (ze_sz (bt - bf)))]) rfl rfl rfl ?_
        have hz76 := ze_sz_le (at_ - af)
        refine ze_i2lN C d_X_joinByChunks_79 (by omega) ?_
        refine ze_lmulN C d_X_joinByChunks_80 ?_
        refine ze_laddN C d_X_joinByChunks_81 ?_
        exact ze_lret C Rt d_X_joinByChunks_82 (⟨rfl, rfl, _, rfl, by rw [← hnc, hBl, hAl], T1, rfl, g2, by rw [← g4]; exact g3⟩)
      · have hcw := hn1 c (by omega)
        refine ze_iload_n C d_X_joinByChunks_27 6 rfl rfl ?_
        refine ze_iload C d_X_joinByChunks_28 0 rfl ?_
        refine ze_iload C d_X_joinByChunks_30 2 rfl ?_
        refine ze_imulN C d_X_joinByChunks_32 ?_
        refine ze_iaddN C d_X_joinByChunks_33 ?_
        refine ze_istore (lv' := [(9, .int (nI (bf + (c * (ze_rm4 M))))), (8, .int (nI c)), (7, .int (nI nc)), (6, .int (nI (ze_rm4 M))), (0, .ref (ad 0)), (1, .int (nI af)), (2, .int (nI at_)), (3, .int (nI bf)), (4, .int (nI bt)), (5, .ref (ad (3 + 3 * m)))]) C d_X_joinByChunks_34 (by decide) rfl ?_
        refine ze_aload_n C d_X_joinByChunks_36 4 rfl rfl ?_
        refine ze_iload_n C d_X_joinByChunks_37 5 rfl rfl ?_
        refine ze_iload_n C d_X_joinByChunks_38 6 rfl rfl ?_
        refine ze_iload C d_X_joinByChunks_39 0 rfl ?_
        refine ze_iload C d_X_joinByChunks_41 0 rfl ?_
        refine ze_iload C d_X_joinByChunks_43 3 rfl ?_
        refine ze_iaddN C d_X_joinByChunks_45 ?_
        refine ze_iload C d_X_joinByChunks_46 8 rfl ?_
        refine ze_callS (st := [.int (nI (bf + (c * (ze_rm4 M)))), .int (nI at_), .int (nI af), .ref (ad 0)]) C (c_J_min (ze_l G) (ze_D G) (ze_i G) _ _ _ (nI (bf + (c * (ze_rm4 M)) + (ze_rm4 M))) (nI bt)) (ks_X_15 (ze_rml (by decide) (by decide))) rfl (Nat.le_of_ble_eq_true rfl) ⟨Nat.le_of_ble_eq_true rfl, Nat.le_of_ble_eq_true rfl⟩ d_X_joinByChunks_48 ?_
        rintro _ _ _ _ ⟨rfl, rfl, rfl, rfl⟩
        refine ze_norm (c2 := 0) (s2 := 0) (st' := [.int (if (nI bt) < (nI (bf + (c * (ze_rm4 M)) + (ze_rm4 M))) then (nI bt) else (nI (bf + (c * (ze_rm4 M)) + (ze_rm4 M)))), .int (nI (bf + (c * (ze_rm4 M)))), .int (nI at_), .int (nI af), .ref (ad 0)]) rfl rfl rfl ?_
        rw [ze_min_nI (by omega) (by omega)]
        refine ze_aload C d_X_joinByChunks_51 9 rfl ?_
        refine ze_callV (st := []) C (c_X_joinWithChunk (ze_l G) (ze_D G) (ze_i G) ad ms M T1 hd mv af at_ (bf + c * ze_rm4 M) (min (bf + c * ze_rm4 M + ze_rm4 M) bt) (by omega) (by omega) (by omega) (by omega) A ((B.drop (c * ze_rm4 M)).take (ze_rm4 M)) Lc (by rw [g2 9 (by omega)]; exact hA) hAl (by rw [g2 10 (by omega)]; exact ze_Hl_tk (ze_Hl_drop hB _) _) (by rw [List.length_take, List.length_drop]; omega) m hm8 g3) (kv_X_158 (ze_rml (by decide) (by decide))) (by decide) ze_E_x rfl (Nat.le_of_ble_eq_true rfl) ⟨Nat.le_of_ble_eq_true rfl, Nat.le_of_ble_eq_true rfl⟩ d_X_joinByChunks_53 ?_
        rintro _ _ _ _ ⟨rfl, rfl, _, rfl, rfl, T2, rfl, oT2, hu2⟩
        refine ze_norm (c2 := 0) (s2 := 0) (st' := []) rfl rfl rfl ?_
        refine ze_iinc (j := 1) (v := nI (c + 1)) (lv' := [(8, .int (nI (c + 1))), (9, .int (nI (bf + (c * (ze_rm4 M))))), (7, .int (nI nc)), (6, .int (nI (ze_rm4 M))), (0, .ref (ad 0)), (1, .int (nI af)), (2, .int (nI at_)), (3, .int (nI bf)), (4, .int (nI bt)), (5, .ref (ad (3 + 3 * m)))]) C d_X_joinByChunks_56 rfl (nI_1 _) (by decide) rfl ?_
        refine ze_goto 20 C d_X_joinByChunks_59 (by decide) ?_
        refine ze_sub [(8, .int (nI (c + 1))), (7, .int (nI nc)), (6, .int (nI (ze_rm4 M))), (0, .ref (ad 0)), (1, .int (nI af)), (2, .int (nI at_)), (3, .int (nI bf)), (4, .int (nI bt)), (5, .ref (ad (3 + 3 * m)))] [0, 2, 3, 4, 5, 6, 7, 8, 9] rfl ?_
        refine ih (nc - (c + 1)) (by omega) (c + 1) T2 _ rfl (by omega) (fun z hz => (oT2 z hz).trans (g2 z hz)) hu2 ?_
        have hne : B.drop (c * ze_rm4 M) ≠ [] := fun z => by have := congrArg List.length z; rw [List.length_drop] at this; simp at this; omega
        rw [← g4, show B.length - c = (B.length - (c + 1)) + 1 by omega, ze_jc_step hne, List.append_assoc, List.drop_drop, Nat.succ_mul]
  refine ze_aload_n C d_X_joinByChunks_0 0 rfl rfl ?_
  refine ze_callV (st := []) C (c_X_rowsInMemory (ze_l G) (ze_D G) (ze_i G) ad ms M T hd mv hM) (kv_X_129 (ze_rml (by decide) (by decide))) (by decide) ze_E_x rfl (Nat.le_of_ble_eq_true rfl) ⟨Nat.le_of_ble_eq_true rfl, Nat.le_of_ble_eq_true rfl⟩ d_X_joinByChunks_1 ?_
  rintro _ _ _ _ ⟨rfl, rfl, _, rfl, rfl, rfl⟩
  refine ze_norm (c2 := 0) (s2 := 0) (st' := [.int (nI (ze_rm4 M))]) rfl rfl rfl ?_
  refine ze_istore (lv' := [(6, .int (nI (ze_rm4 M))), (0, .ref (ad 0)), (1, .int (nI af)), (2, .int (nI at_)), (3, .int (nI bf)), (4, .int (nI bt)), (5, .ref (ad (3 + 3 * m)))]) C d_X_joinByChunks_4 (by decide) rfl ?_
  refine ze_iload C d_X_joinByChunks_6 5 rfl ?_
  refine ze_iload_n C d_X_joinByChunks_8 4 rfl rfl ?_
  refine ze_isubN C d_X_joinByChunks_9 (by omega) ?_
  refine ze_iload C d_X_joinByChunks_10 0 rfl ?_
  refine ze_callS (st := []) C (c_X_dividedUp (ze_l G) (ze_D G) (ze_i G) _ _ _ (bt - bf) (ze_rm4 M) (by omega) (by omega) (by omega)) (ks_X_121 (ze_rml (by decide) (by decide))) rfl (Nat.le_of_ble_eq_true rfl) ⟨Nat.le_of_ble_eq_true rfl, Nat.le_of_ble_eq_true rfl⟩ d_X_joinByChunks_12 ?_
  rintro _ _ _ _ ⟨rfl, rfl, rfl, rfl⟩
  refine ze_norm (c2 := 0) (s2 := 0) (st' := [.int (nI ((bt - bf + (ze_rm4 M) - 1) / (ze_rm4 M)))]) rfl rfl rfl ?_
  refine ze_istore (lv' := [(7, .int (nI ((bt - bf + (ze_rm4 M) - 1) / (ze_rm4 M)))), (6, .int (nI (ze_rm4 M))), (0, .ref (ad 0)), (1, .int (nI af)), (2, .int (nI at_)), (3, .int (nI bf)), (4, .int (nI bt)), (5, .ref (ad (3 + 3 * m)))]) C d_X_joinByChunks_15 (by decide) rfl ?_
  refine ze_iconst (v := nI 0) C d_X_joinByChunks_17 (by decide) ?_
  refine ze_istore (lv' := [(8, .int (nI 0)), (7, .int (nI ((bt - bf + (ze_rm4 M) - 1) / (ze_rm4 M)))), (6, .int (nI (ze_rm4 M))), (0, .ref (ad 0)), (1, .int (nI af)), (2, .int (nI at_)), (3, .int (nI bf)), (4, .int (nI bt)), (5, .ref (ad (3 + 3 * m)))]) C d_X_joinByChunks_18 (by decide) rfl ?_
  rw [hnc0, hnc]
  refine ze_sub [(8, .int (nI 0)), (7, .int (nI nc)), (6, .int (nI (ze_rm4 M))), (0, .ref (ad 0)), (1, .int (nI af)), (2, .int (nI at_)), (3, .int (nI bf)), (4, .int (nI bt)), (5, .ref (ad (3 + 3 * m)))] [0, 1, 2, 3, 4, 5, 6, 7, 8] rfl ?_
  exact loop _ 0 T L rfl (Nat.zero_le _) (fun _ _ => rfl) hm (by rw [Nat.zero_mul, List.drop_zero, Nat.sub_zero])

/-- the contract of joinRanges k levels above the last -/
def ze_JR (k : Nat) : Prop := ∀ (l : Launch) (D : va_G) (ids : Nat → ClassId) (ad : Nat → Nat) (ms : ze_MS) (M : Nat) (T : Nat → ze_T) (hd : Nat → Bool) (mv : Int64) (hM : 3 ≤ M ∧ M ≤ 6) (lev : Nat) (hlk : lev + k = 3) (af at_ bf bt : Nat) (ha : af ≤ at_) (ha6 : at_ ≤ 60) (hb : bf ≤ bt) (hb6 : bt ≤ 60) (A B L : List ze_Row) (hA : ze_Hl (T 9).1 (T 9).2.1 af A) (hAl : A.length = at_ - af) (hB : ze_Hl (T 10).1 (T 10).2.1 bf B) (hBl : B.length = bt - bf) (m : Nat) (hm8 : m < 8) (hm : ze_Hu (T m) L), ze_M l D ids y_X_joinRanges ws_X_joinRanges (ze_rm (6 + k)) 0 0 48 ad (ze_E ids ad (M, T, hd, mv) ms) [.ref (ad 0), .int (nI af), .int (nI at_), .int (nI bf), .int (nI bt), .int (nI lev), .ref (ad (3 + 3 * m))] (ze_pX ids ad ms (fun w x' => w = some (.long (lN (ze_jn M k A B).2)) ∧ ∃ T', x' = (M, T', hd, mv) ∧ (∀ z, z ≠ m → z ≠ 9 → z ≠ 10 → z ≠ 11 → T' z = T z) ∧ ze_Hu (T' m) (L ++ (ze_jn M k A B).1) ∧ (∀ q, q < af ∨ at_ ≤ q → (T' 9).1 q = (T 9).1 q ∧ (T' 9).2.1 q = (T 9).2.1 q) ∧ (∀ q, q < bf ∨ bt ≤ q → (T' 10).1 q = (T 10).1 q ∧ (T' 10).2.1 q = (T 10).2.1 q)))
theorem ze_jn_nil {M k : Nat} {A B : List ze_Row} (h : A = [] ∨ B = []) : ze_jn M k A B = ([], 0) := by
  cases k with
  | zero => rw [ze_jn, if_pos h]
  | succ k => rw [ze_jn, if_pos h]
theorem ze_jn_leaf {M k : Nat} {A B : List ze_Row} (h : ¬ (A = [] ∨ B = [])) (hk : k = 0 ∨ B.length ≤ ze_rm4 M) : ze_jn M k A B = (ze_jc (ze_rm4 M) A B.length B, ze_sz B.length + (B.length + ze_rm4 M - 1) / ze_rm4 M * ze_sz A.length) := by
  cases k with
  | zero => rw [ze_jn, if_neg h]
  | succ k => rw [ze_jn, if_neg h, if_pos (hk.resolve_left (by omega))]

set_option maxRecDepth 100000 in
set_option maxHeartbeats 4000000 in
theorem c_X_joinRanges_0 : ze_JR 0 := by
  intro l D ids ad ms M T hd mv hM lev hlk af at_ bf bt ha ha6 hb hb6 A B L hA hAl hB hBl m hm8 hm
  refine ze_enter (cc := b_X_joinRanges) (maxL := 14) (ret := (some .long)) (by decide +kernel) rfl (Nat.le_of_ble_eq_true rfl) ?_
  rintro G rfl rfl rfl - C Rt
  refine ze_lv (lv' := [(0, .ref (ad 0)), (1, .int (nI af)), (2, .int (nI at_)), (3, .int (nI bf)), (4, .int (nI bt)), (5, .int (nI lev)), (6, .ref (ad (3 + 3 * m)))]) rfl ?_
  have hw : 4 ≤ ze_rm4 M ∧ ze_rm4 M ≤ 16 := by unfold ze_rm4; omega
  refine ze_iload_n C d_X_joinRanges_0 1 rfl rfl ?_
  refine ze_iload_n C d_X_joinRanges_1 2 rfl rfl ?_
  refine ze_icmp_geN 11 C d_X_joinRanges_2 (by decide) (by omega) (by omega) (fun h2 => ?_) (fun h2 => ?_)
  · refine ze_lconst (v := lN 0) C d_X_joinRanges_11 (by decide) ?_
    exact ze_lret C Rt d_X_joinRanges_12 (⟨rfl, rfl, _, rfl, by rw [ze_jn_nil (Or.inl (List.eq_nil_of_length_eq_zero (by omega)))], T, rfl, fun _ _ _ _ _ => rfl, by rw [ze_jn_nil (Or.inl (List.eq_nil_of_length_eq_zero (by omega))), List.append_nil]; exact hm, fun _ _ => ⟨rfl, rfl⟩, fun _ _ => ⟨rfl, rfl⟩⟩)
  · refine ze_iload_n C d_X_joinRanges_5 3 rfl rfl ?_
    refine ze_iload C d_X_joinRanges_6 4 rfl ?_
    refine ze_icmp_ltN 13 C d_X_joinRanges_8 (by decide) (by omega) (by omega) (fun h8 => ?_) (fun h8 => ?_)
    · have hne : ¬ (A = [] ∨ B = []) := by rintro (rfl | rfl) <;> simp at hAl hBl <;> omega
      refine ze_iload C d_X_joinRanges_13 5 rfl ?_
      refine ze_iconst (v := nI 3) C d_X_joinRanges_15 (by decide) ?_
      refine ze_icmp_geN 30 C d_X_joinRanges_16 (by decide) (by omega) (by omega) (fun h16 => ?_) (fun h16 => absurd h16 (by omega))
      refine ze_aload_n C d_X_joinRanges_30 0 rfl rfl ?_
      refine ze_iload_n C d_X_joinRanges_31 1 rfl rfl ?_
      refine ze_iload_n C d_X_joinRanges_32 2 rfl rfl ?_
      refine ze_iload_n C d_X_joinRanges_33 3 rfl rfl ?_
      refine ze_iload C d_X_joinRanges_34 4 rfl ?_
      refine ze_aload C d_X_joinRanges_36 6 rfl ?_
      have hlf : 0 = 0 ∨ B.length ≤ ze_rm4 M := Or.inl rfl
      refine ze_callV (st := []) C (c_X_joinByChunks (ze_l G) (ze_D G) (ze_i G) ad ms M T hd mv hM af at_ bf bt ha ha6 hb hb6 A B L hA hAl hB hBl m hm8 hm) (kv_X_146 (ze_rml (by omega) (by decide))) (by decide) ze_E_x rfl (Nat.le_of_ble_eq_true rfl) ⟨Nat.le_of_ble_eq_true rfl, Nat.le_of_ble_eq_true rfl⟩ d_X_joinRanges_38 ?_
      rintro _ _ _ _ ⟨rfl, rfl, _, rfl, rfl, T1, rfl, oT1, hu1⟩
      refine ze_norm (c2 := 0) (s2 := 0) (st' := [.long (lN (ze_sz B.length + (B.length + ze_rm4 M - 1) / ze_rm4 M * ze_sz A.length))]) rfl rfl rfl ?_
      exact ze_lret C Rt d_X_joinRanges_41 (⟨rfl, rfl, _, rfl, by rw [ze_jn_leaf hne hlf], T1, rfl, fun z z1 _ _ _ => oT1 z z1, by rw [ze_jn_leaf hne hlf]; exact hu1, fun q _ => by rw [oT1 9 (by omega)]; exact ⟨rfl, rfl⟩, fun q _ => by rw [oT1 10 (by omega)]; exact ⟨rfl, rfl⟩⟩)
    · refine ze_lconst (v := lN 0) C d_X_joinRanges_11 (by decide) ?_
      exact ze_lret C Rt d_X_joinRanges_12 (⟨rfl, rfl, _, rfl, by rw [ze_jn_nil (Or.inr (List.eq_nil_of_length_eq_zero (by omega)))], T, rfl, fun _ _ _ _ _ => rfl, by rw [ze_jn_nil (Or.inr (List.eq_nil_of_length_eq_zero (by omega))), List.append_nil]; exact hm, fun _ _ => ⟨rfl, rfl⟩, fun _ _ => ⟨rfl, rfl⟩⟩)

theorem ze_sfx_prt_0 (M lev : Nat) (f : ze_Row → Int32) (A : List ze_Row) (n : Nat) : ze_prt M lev f A n = ze_sfx M lev f A (n - 0) 0 := by
  have := ze_sfx_prt M lev f A n 0
  rw [Nat.zero_add] at this
  rw [← this]
  rfl

set_option maxRecDepth 100000 in
set_option maxHeartbeats 4000000 in
theorem c_X_joinRanges_s (k : Nat) (hk2 : k ≤ 2) (ihk : ze_JR k) : ze_JR (k + 1) := by
  intro l D ids ad ms M T hd mv hM lev hlk af at_ bf bt ha ha6 hb hb6 A B L hA hAl hB hBl m hm8 hm
  refine ze_enter (cc := b_X_joinRanges) (maxL := 14) (ret := (some .long)) (by decide +kernel) rfl (Nat.le_of_ble_eq_true rfl) ?_
  rintro G rfl rfl rfl - C Rt
  refine ze_lv (lv' := [(0, .ref (ad 0)), (1, .int (nI af)), (2, .int (nI at_)), (3, .int (nI bf)), (4, .int (nI bt)), (5, .int (nI lev)), (6, .ref (ad (3 + 3 * m)))]) rfl ?_
  have hw : 4 ≤ ze_rm4 M ∧ ze_rm4 M ≤ 16 := by unfold ze_rm4; omega
  refine ze_iload_n C d_X_joinRanges_0 1 rfl rfl ?_
  refine ze_iload_n C d_X_joinRanges_1 2 rfl rfl ?_
  refine ze_icmp_geN 11 C d_X_joinRanges_2 (by decide) (by omega) (by omega) (fun h2 => ?_) (fun h2 => ?_)
  · refine ze_lconst (v := lN 0) C d_X_joinRanges_11 (by decide) ?_
    exact ze_lret C Rt d_X_joinRanges_12 (⟨rfl, rfl, _, rfl, by rw [ze_jn_nil (Or.inl (List.eq_nil_of_length_eq_zero (by omega)))], T, rfl, fun _ _ _ _ _ => rfl, by rw [ze_jn_nil (Or.inl (List.eq_nil_of_length_eq_zero (by omega))), List.append_nil]; exact hm, fun _ _ => ⟨rfl, rfl⟩, fun _ _ => ⟨rfl, rfl⟩⟩)
  · refine ze_iload_n C d_X_joinRanges_5 3 rfl rfl ?_
    refine ze_iload C d_X_joinRanges_6 4 rfl ?_
    refine ze_icmp_ltN 13 C d_X_joinRanges_8 (by decide) (by omega) (by omega) (fun h8 => ?_) (fun h8 => ?_)
    · have hne : ¬ (A = [] ∨ B = []) := by rintro (rfl | rfl) <;> simp at hAl hBl <;> omega
      refine ze_iload C d_X_joinRanges_13 5 rfl ?_
      refine ze_iconst (v := nI 3) C d_X_joinRanges_15 (by decide) ?_
      refine ze_icmp_geN 30 C d_X_joinRanges_16 (by decide) (by omega) (by omega) (fun h16 => absurd h16 (by omega)) (fun h16 => ?_)
      refine ze_iload C d_X_joinRanges_19 4 rfl ?_
      refine ze_iload_n C d_X_joinRanges_21 3 rfl rfl ?_
      refine ze_isubN C d_X_joinRanges_22 (by omega) ?_
      refine ze_aload_n C d_X_joinRanges_23 0 rfl rfl ?_
      refine ze_callV (st := [.int (nI (bt - bf))]) C (c_X_rowsInMemory (ze_l G) (ze_D G) (ze_i G) ad ms M T hd mv hM) (kv_X_129 (ze_rml (by omega) (by decide))) (by decide) ze_E_x rfl (Nat.le_of_ble_eq_true rfl) ⟨Nat.le_of_ble_eq_true rfl, Nat.le_of_ble_eq_true rfl⟩ d_X_joinRanges_24 ?_
      rintro _ _ _ _ ⟨rfl, rfl, _, rfl, rfl, rfl⟩
      refine ze_norm (c2 := 0) (s2 := 0) (st' := [.int (nI (ze_rm4 M)), .int (nI (bt - bf))]) rfl rfl rfl ?_
      refine ze_icmp_gtN 42 C d_X_joinRanges_27 (by decide) (by omega) (by omega) (fun h27 => ?_) (fun h27 => ?_)
      · have hjn : ze_jn M (k + 1) A B = ((List.range (M - 1)).flatMap (fun q => (ze_jn M k (ze_pt M lev q (fun r => r.2) A) (ze_pt M lev q (fun r => r.1) B)).1), ze_sz A.length + ze_sz B.length + ((List.range (M - 1)).map (fun q => (ze_sz (ze_pt M lev q (fun r => r.2) A).length + ze_sz (ze_pt M lev q (fun r => r.1) B).length + (ze_jn M k (ze_pt M lev q (fun r => r.2) A) (ze_pt M lev q (fun r => r.1) B)).2))).sum) := by rw [ze_jn, if_neg hne, if_neg (by omega), show 2 - k = lev by omega]
        refine ze_aload_n C d_X_joinRanges_42 0 rfl rfl ?_
        refine ze_aload_n C d_X_joinRanges_43 0 rfl rfl ?_
        refine ze_getf C fl_X_37 (by decide) ze_E_x rfl d_X_joinRanges_44 ?_
        refine ze_aload_n C d_X_joinRanges_47 0 rfl rfl ?_
        refine ze_getf C fl_X_37 (by decide) ze_E_x rfl d_X_joinRanges_48 ?_
        refine ze_getf (k := 3 + 3 * 9) C fl_X_87 (by decide) (ze_E_t (i := 9) (by omega)) rfl d_X_joinRanges_51 ?_
        refine ze_iload_n C d_X_joinRanges_54 1 rfl rfl ?_
        refine ze_iload_n C d_X_joinRanges_55 2 rfl rfl ?_
        refine ze_iload C d_X_joinRanges_56 5 rfl ?_
        refine ze_callV (st := []) C (c_X_partition_A (ze_l G) (ze_D G) (ze_i G) ad ms M T hd mv hM af at_ lev ha ha6 (by omega) A hA hAl) (kv_X_150 (ze_rml (by omega) (by decide))) (by decide) ze_E_x rfl (Nat.le_of_ble_eq_true rfl) ⟨Nat.le_of_ble_eq_true rfl, Nat.le_of_ble_eq_true rfl⟩ d_X_joinRanges_58 ?_
        rintro _ _ _ _ ⟨rfl, rfl, _, rfl, rfl, T1, rfl, oT1, hp1, ho1⟩
        refine ze_norm (c2 := 0) (s2 := 0) (st' := []) rfl rfl rfl ?_
        refine ze_aload_n C d_X_joinRanges_61 0 rfl rfl ?_
        refine ze_aload_n C d_X_joinRanges_62 0 rfl rfl ?_
        refine ze_getf C fl_X_40 (by decide) ze_E_x rfl d_X_joinRanges_63 ?_
        refine ze_aload_n C d_X_joinRanges_66 0 rfl rfl ?_
        refine ze_getf C fl_X_40 (by decide) ze_E_x rfl d_X_joinRanges_67 ?_
        refine ze_getf (k := 3 + 3 * 10) C fl_X_83 (by decide) (ze_E_t (i := 10) (by omega)) rfl d_X_joinRanges_70 ?_
        refine ze_iload_n C d_X_joinRanges_73 3 rfl rfl ?_
        refine ze_iload C d_X_joinRanges_74 4 rfl ?_
        refine ze_iload C d_X_joinRanges_76 5 rfl ?_
        refine ze_callV (st := []) C (c_X_partition_B (ze_l G) (ze_D G) (ze_i G) ad ms M T1 hd mv hM bf bt lev hb hb6 (by omega) B (by rw [oT1 10 (by decide) (by decide)]; exact hB) hBl) (kv_X_150 (ze_rml (by omega) (by decide))) (by decide) ze_E_x rfl (Nat.le_of_ble_eq_true rfl) ⟨Nat.le_of_ble_eq_true rfl, Nat.le_of_ble_eq_true rfl⟩ d_X_joinRanges_78 ?_
        rintro _ _ _ _ ⟨rfl, rfl, _, rfl, rfl, T2, rfl, oT2, hp2, ho2⟩
        refine ze_norm (c2 := 0) (s2 := 0) (st' := []) rfl rfl rfl ?_
        refine ze_iload_n C d_X_joinRanges_81 2 rfl rfl ?_
        refine ze_iload_n C d_X_joinRanges_82 1 rfl rfl ?_
        refine ze_isubN C d_X_joinRanges_83 (by omega) ?_
        refine ze_callS (st := []) C (c_X_sizeOf (ze_l G) (ze_D G) (ze_i G) _ _ _ (at_ - af) (by omega)) (ks_X_68 (ze_rml (by omega) (by decide))) rfl (Nat.le_of_ble_eq_true rfl) ⟨Nat.le_of_ble_eq_true rfl, Nat.le_of_ble_eq_true rfl⟩ d_X_joinRanges_84 ?_
        rintro _ _ _ _ ⟨rfl, rfl, rfl, rfl⟩
        refine ze_norm (c2 := 0) (s2 := 0) (st' := [.int (nI (ze_sz (at_ - af)))]) rfl rfl rfl ?_
        have hz84 := ze_sz_le (at_ - af)
        refine ze_iload C d_X_joinRanges_87 4 rfl ?_
        refine ze_iload_n C d_X_joinRanges_89 3 rfl rfl ?_
        refine ze_isubN C d_X_joinRanges_90 (by omega) ?_
        refine ze_callS (st := [.int (nI (ze_sz (at_ - af)))]) C (c_X_sizeOf (ze_l G) (ze_D G) (ze_i G) _ _ _ (bt - bf) (by omega)) (ks_X_68 (ze_rml (by omega) (by decide))) rfl (Nat.le_of_ble_eq_true rfl) ⟨Nat.le_of_ble_eq_true rfl, Nat.le_of_ble_eq_true rfl⟩ d_X_joinRanges_91 ?_
        rintro _ _ _ _ ⟨rfl, rfl, rfl, rfl⟩
        refine ze_norm (c2 := 0) (s2 := 0) (st' := [.int (nI (ze_sz (bt - bf))), .int (nI (ze_sz (at_ - af)))]) rfl rfl rfl ?_
        have hz91 := ze_sz_le (bt - bf)
        refine ze_iaddN C d_X_joinRanges_94 ?_
        refine ze_i2lN C d_X_joinRanges_95 (by omega) ?_
        refine ze_lstore (lv' := [(7, .long (lN (ze_sz (at_ - af) + (ze_sz (bt - bf))))), (0, .ref (ad 0)), (1, .int (nI af)), (2, .int (nI at_)), (3, .int (nI bf)), (4, .int (nI bt)), (5, .int (nI lev)), (6, .ref (ad (3 + 3 * m)))]) C d_X_joinRanges_96 (by decide) rfl ?_
        refine ze_iload_n C d_X_joinRanges_98 2 rfl rfl ?_
        refine ze_istore (lv' := [(9, .int (nI af)), (7, .long (lN (ze_sz (at_ - af) + (ze_sz (bt - bf))))), (0, .ref (ad 0)), (1, .int (nI af)), (2, .int (nI at_)), (3, .int (nI bf)), (4, .int (nI bt)), (5, .int (nI lev)), (6, .ref (ad (3 + 3 * m)))]) C d_X_joinRanges_99 (by decide) rfl ?_
        refine ze_iload_n C d_X_joinRanges_101 5 rfl rfl ?_
        refine ze_istore (lv' := [(10, .int (nI bf)), (9, .int (nI af)), (7, .long (lN (ze_sz (at_ - af) + (ze_sz (bt - bf))))), (0, .ref (ad 0)), (1, .int (nI af)), (2, .int (nI at_)), (3, .int (nI bf)), (4, .int (nI bt)), (5, .int (nI lev)), (6, .ref (ad (3 + 3 * m)))]) C d_X_joinRanges_102 (by decide) rfl ?_
        refine ze_iconst (v := nI 0) C d_X_joinRanges_104 (by decide) ?_
        refine ze_istore (lv' := [(11, .int (nI 0)), (10, .int (nI bf)), (9, .int (nI af)), (7, .long (lN (ze_sz (at_ - af) + (ze_sz (bt - bf))))), (0, .ref (ad 0)), (1, .int (nI af)), (2, .int (nI at_)), (3, .int (nI bf)), (4, .int (nI bt)), (5, .int (nI lev)), (6, .ref (ad (3 + 3 * m)))]) C d_X_joinRanges_105 (by decide) rfl ?_
        have lenA : ∀ p, p ≤ M - 1 → (ze_prt M lev (fun r => r.2) A p).length + (ze_sfx M lev (fun r => r.2) A (M - 1 - p) p).length = A.length := fun p hp => by rw [← List.length_append, ze_sfx_prt, show p + (M - 1 - p) = M - 1 by omega, ze_prt_len hM]
        have lenB : ∀ p, p ≤ M - 1 → (ze_prt M lev (fun r => r.1) B p).length + (ze_sfx M lev (fun r => r.1) B (M - 1 - p) p).length = B.length := fun p hp => by rw [← List.length_append, ze_sfx_prt, show p + (M - 1 - p) = M - 1 by omega, ze_prt_len hM]
        have loop : ∀ (r : Nat) (p aS bS cst : Nat) (T3 : Nat → ze_T), M - 1 - p = r → p ≤ M - 1 → aS = af + (ze_prt M lev (fun r => r.2) A p).length → bS = bf + (ze_prt M lev (fun r => r.1) B p).length → aS ≤ at_ → bS ≤ bt → (∀ z, z ≠ m → z ≠ 9 → z ≠ 10 → z ≠ 11 → T3 z = T z) → ze_Hu (T3 m) (L ++ (List.range p).flatMap (fun q => (ze_jn M k (ze_pt M lev q (fun r => r.2) A) (ze_pt M lev q (fun r => r.1) B)).1)) → ze_Hl (T3 9).1 (T3 9).2.1 aS (ze_sfx M lev (fun r => r.2) A (M - 1 - p) p) → ze_Hl (T3 10).1 (T3 10).2.1 bS (ze_sfx M lev (fun r => r.1) B (M - 1 - p) p) → cst = ze_sz A.length + ze_sz B.length + ((List.range p).map (fun q => (ze_sz (ze_pt M lev q (fun r => r.2) A).length + ze_sz (ze_pt M lev q (fun r => r.1) B).length + (ze_jn M k (ze_pt M lev q (fun r => r.2) A) (ze_pt M lev q (fun r => r.1) B)).2))).sum → (∀ q, q < af ∨ at_ ≤ q → (T3 9).1 q = (T 9).1 q ∧ (T3 9).2.1 q = (T 9).2.1 q) → (∀ q, q < bf ∨ bt ≤ q → (T3 10).1 q = (T 10).1 q ∧ (T3 10).2.1 q = (T 10).2.1 q) → ze_V G 48 ad (ze_E (ze_i G) ad (M, T3, hd, mv) ms) 0 0 107 [(11, .int (nI p)), (10, .int (nI bS)), (9, .int (nI aS)), (7, .long (lN cst)), (0, .ref (ad 0)), (1, .int (nI af)), (2, .int (nI at_)), (3, .int (nI bf)), (4, .int (nI bt)), (5, .int (nI lev)), (6, .ref (ad (3 + 3 * m)))] [] := by
          intro r
          induction r using Nat.strongRecOn with
          | ind r ih =>
            intro p aS bS cst T3 hr g1 g2 g3 g2t g3t g4 g5 g6 g7 g8 g9 g10
            refine ze_iload C d_X_joinRanges_107 0 rfl ?_
            refine ze_aload_n C d_X_joinRanges_109 4 rfl rfl ?_
            refine ze_getf C fl_X_18 (by decide) ze_E_x rfl d_X_joinRanges_110 ?_
            refine ze_iconst (v := nI 1) C d_X_joinRanges_113 (by decide) ?_
            refine ze_isubN C d_X_joinRanges_114 (by omega) ?_
            refine ze_icmp_geN 219 C d_X_joinRanges_115 (by decide) (by omega) (by omega) (fun h115 => ?_) (fun h115 => ?_)
            · refine ze_lload C d_X_joinRanges_219 3 rfl ?_
              rw [show p = M - 1 by omega] at g5 g8
              exact ze_lret C Rt d_X_joinRanges_221 ⟨rfl, rfl, _, rfl, by rw [hjn, g8], T3, rfl, g4, by rw [hjn]; exact g5, g9, g10⟩
            · have lA := lenA p g1
              have lB := lenB p g1
              have lA1 := lenA (p + 1) (by omega)
              have lB1 := lenB (p + 1) (by omega)
              have en : M - 1 - p = (M - 1 - (p + 1)) + 1 := by omega
              rw [en] at g6 g7 lA lB
              refine ze_aload_n C d_X_joinRanges_118 4 rfl rfl ?_
              refine ze_aload_n C d_X_joinRanges_119 4 rfl rfl ?_
              refine ze_getf C fl_X_37 (by decide) ze_E_x rfl d_X_joinRanges_120 ?_
              refine ze_getf (k := 3 + 3 * 9) C fl_X_87 (by decide) (ze_E_t (i := 9) (by omega)) rfl d_X_joinRanges_123 ?_
              refine ze_iload C d_X_joinRanges_126 2 rfl ?_
              refine ze_iload_n C d_X_joinRanges_128 6 rfl rfl ?_
              refine ze_iload C d_X_joinRanges_129 9 rfl ?_
              refine ze_iload C d_X_joinRanges_131 0 rfl ?_
              refine ze_callV (st := []) C (c_X_endOfPart_A (ze_l G) (ze_D G) (ze_i G) ad ms M T3 hd mv hM aS at_ lev p (by omega) (by omega) (by omega) (by omega)) (kv_X_154 (ze_rml (by omega) (by decide))) (by decide) ze_E_x rfl (Nat.le_of_ble_eq_true rfl) ⟨Nat.le_of_ble_eq_true rfl, Nat.le_of_ble_eq_true rfl⟩ d_X_joinRanges_133 ?_
              rintro _ _ _ _ ⟨rfl, rfl, _, rfl, aE, rfl, rfl, aE1, aE2, aE3, aE4⟩
              refine ze_norm (c2 := 0) (s2 := 0) (st' := [.int (nI aE)]) rfl rfl rfl ?_
              have haE := ze_eop ((T3 9).2.1) (fun _ => rfl) g6 (by omega) aE1 aE2 aE3 aE4
              clear aE3 aE4
              refine ze_istore (lv' := [(12, .int (nI aE)), (11, .int (nI p)), (10, .int (nI bS)), (9, .int (nI aS)), (7, .long (lN cst)), (0, .ref (ad 0)), (1, .int (nI af)), (2, .int (nI at_)), (3, .int (nI bf)), (4, .int (nI bt)), (5, .int (nI lev)), (6, .ref (ad (3 + 3 * m)))]) C d_X_joinRanges_136 (by decide) rfl ?_
              refine ze_aload_n C d_X_joinRanges_138 5 rfl rfl ?_
              refine ze_aload_n C d_X_joinRanges_139 5 rfl rfl ?_
              refine ze_getf C fl_X_40 (by decide) ze_E_x rfl d_X_joinRanges_140 ?_
              refine ze_getf (k := 3 + 3 * 10) C fl_X_83 (by decide) (ze_E_t (i := 10) (by omega)) rfl d_X_joinRanges_143 ?_
              refine ze_iload C d_X_joinRanges_146 2 rfl ?_
              refine ze_iload C d_X_joinRanges_148 9 rfl ?_
              refine ze_iload C d_X_joinRanges_150 10 rfl ?_
              refine ze_iload C d_X_joinRanges_152 1 rfl ?_
              refine ze_callV (st := []) C (c_X_endOfPart_B (ze_l G) (ze_D G) (ze_i G) ad ms M T3 hd mv hM bS bt lev p (by omega) (by omega) (by omega) (by omega)) (kv_X_154 (ze_rml (by omega) (by decide))) (by decide) ze_E_x rfl (Nat.le_of_ble_eq_true rfl) ⟨Nat.le_of_ble_eq_true rfl, Nat.le_of_ble_eq_true rfl⟩ d_X_joinRanges_154 ?_
              rintro _ _ _ _ ⟨rfl, rfl, _, rfl, bE, rfl, rfl, bE1, bE2, bE3, bE4⟩
              refine ze_norm (c2 := 0) (s2 := 0) (st' := [.int (nI bE)]) rfl rfl rfl ?_
              have hbE := ze_eop ((T3 10).1) (fun _ => rfl) g7 (by omega) bE1 bE2 bE3 bE4
              clear bE3 bE4
              refine ze_istore (lv' := [(13, .int (nI bE)), (12, .int (nI aE)), (11, .int (nI p)), (10, .int (nI bS)), (9, .int (nI aS)), (7, .long (lN cst)), (0, .ref (ad 0)), (1, .int (nI af)), (2, .int (nI at_)), (3, .int (nI bf)), (4, .int (nI bt)), (5, .int (nI lev)), (6, .ref (ad (3 + 3 * m)))]) C d_X_joinRanges_157 (by decide) rfl ?_
              refine ze_lload C d_X_joinRanges_159 5 rfl ?_
              refine ze_iload C d_X_joinRanges_161 1 rfl ?_
              refine ze_iload C d_X_joinRanges_163 4 rfl ?_
              refine ze_isubN C d_X_joinRanges_165 (by omega) ?_
              refine ze_callS (st := [.long (lN cst)]) C (c_X_sizeOf (ze_l G) (ze_D G) (ze_i G) _ _ _ (aE - aS) (by omega)) (ks_X_68 (ze_rml (by omega) (by decide))) rfl (Nat.le_of_ble_eq_true rfl) ⟨Nat.le_of_ble_eq_true rfl, Nat.le_of_ble_eq_true rfl⟩ d_X_joinRanges_166 ?_
              rintro _ _ _ _ ⟨rfl, rfl, rfl, rfl⟩
              refine ze_norm (c2 := 0) (s2 := 0) (st' := [.int (nI (ze_sz (aE - aS))), .long (lN cst)]) rfl rfl rfl ?_
              have hz166 := ze_sz_le (aE - aS)
              refine ze_iload C d_X_joinRanges_169 0 rfl ?_
              refine ze_iload C d_X_joinRanges_171 3 rfl ?_
              refine ze_isubN C d_X_joinRanges_173 (by omega) ?_
              refine ze_callS (st := [.int (nI (ze_sz (aE - aS))), .long (lN cst)]) C (c_X_sizeOf (ze_l G) (ze_D G) (ze_i G) _ _ _ (bE - bS) (by omega)) (ks_X_68 (ze_rml (by omega) (by decide))) rfl (Nat.le_of_ble_eq_true rfl) ⟨Nat.le_of_ble_eq_true rfl, Nat.le_of_ble_eq_true rfl⟩ d_X_joinRanges_174 ?_
              rintro _ _ _ _ ⟨rfl, rfl, rfl, rfl⟩
              refine ze_norm (c2 := 0) (s2 := 0) (st' := [.int (nI (ze_sz (bE - bS))), .int (nI (ze_sz (aE - aS))), .long (lN cst)]) rfl rfl rfl ?_
              have hz174 := ze_sz_le (bE - bS)
              refine ze_iaddN C d_X_joinRanges_177 ?_
              refine ze_i2lN C d_X_joinRanges_178 (by omega) ?_
              refine ze_laddN C d_X_joinRanges_179 ?_
              refine ze_lstore (lv' := [(7, .long (lN (cst + (ze_sz (aE - aS) + (ze_sz (bE - bS)))))), (13, .int (nI bE)), (12, .int (nI aE)), (11, .int (nI p)), (10, .int (nI bS)), (9, .int (nI aS)), (0, .ref (ad 0)), (1, .int (nI af)), (2, .int (nI at_)), (3, .int (nI bf)), (4, .int (nI bt)), (5, .int (nI lev)), (6, .ref (ad (3 + 3 * m)))]) C d_X_joinRanges_180 (by decide) rfl ?_
              refine ze_lload C d_X_joinRanges_182 0 rfl ?_
              refine ze_aload_n C d_X_joinRanges_184 6 rfl rfl ?_
              refine ze_iload C d_X_joinRanges_185 5 rfl ?_
              refine ze_iload C d_X_joinRanges_187 2 rfl ?_
              refine ze_iload C d_X_joinRanges_189 4 rfl ?_
              refine ze_iload C d_X_joinRanges_191 1 rfl ?_
              refine ze_iload C d_X_joinRanges_193 11 rfl ?_
              refine ze_iconst (v := nI 1) C d_X_joinRanges_195 (by decide) ?_
              refine ze_iaddN C d_X_joinRanges_196 ?_
              refine ze_aload C d_X_joinRanges_197 12 rfl ?_
              rw [ze_sfx, ze_Hl_app] at g6 g7
              rw [ze_sfx, List.length_append] at lA lB
              refine ze_callV (st := [.long (lN (cst + (ze_sz (aE - aS) + (ze_sz (bE - bS)))))]) C (ihk (ze_l G) (ze_D G) (ze_i G) ad ms M T3 hd mv hM (lev + 1) (by omega) aS aE bS bE (by omega) (by omega) (by omega) (by omega) (ze_pt M lev p (fun r => r.2) A) (ze_pt M lev p (fun r => r.1) B) (L ++ (List.range p).flatMap (fun q => (ze_jn M k (ze_pt M lev q (fun r => r.2) A) (ze_pt M lev q (fun r => r.1) B)).1)) g6.1 (by omega) g7.1 (by omega) m hm8 g5) (kv_X_113 (ze_rml (by omega) (by decide))) (by decide) ze_E_x rfl (Nat.le_of_ble_eq_true rfl) ⟨Nat.le_of_ble_eq_true rfl, Nat.le_of_ble_eq_true rfl⟩ d_X_joinRanges_199 ?_
              rintro _ _ _ _ ⟨rfl, rfl, _, rfl, rfl, T4, rfl, oT4, hu4, o9, o10⟩
              refine ze_norm (c2 := 0) (s2 := 0) (st' := [.long (lN ((ze_jn M k (ze_pt M lev p (fun r => r.2) A) (ze_pt M lev p (fun r => r.1) B)).2)), .long (lN (cst + (ze_sz (aE - aS) + (ze_sz (bE - bS)))))]) rfl rfl rfl ?_
              refine ze_laddN C d_X_joinRanges_202 ?_
              refine ze_lstore (lv' := [(7, .long (lN (cst + (ze_sz (aE - aS) + (ze_sz (bE - bS))) + ((ze_jn M k (ze_pt M lev p (fun r => r.2) A) (ze_pt M lev p (fun r => r.1) B)).2)))), (13, .int (nI bE)), (12, .int (nI aE)), (11, .int (nI p)), (10, .int (nI bS)), (9, .int (nI aS)), (0, .ref (ad 0)), (1, .int (nI af)), (2, .int (nI at_)), (3, .int (nI bf)), (4, .int (nI bt)), (5, .int (nI lev)), (6, .ref (ad (3 + 3 * m)))]) C d_X_joinRanges_203 (by decide) rfl ?_
              refine ze_iload C d_X_joinRanges_205 2 rfl ?_
              refine ze_istore (lv' := [(9, .int (nI aE)), (7, .long (lN (cst + (ze_sz (aE - aS) + (ze_sz (bE - bS))) + ((ze_jn M k (ze_pt M lev p (fun r => r.2) A) (ze_pt M lev p (fun r => r.1) B)).2)))), (13, .int (nI bE)), (12, .int (nI aE)), (11, .int (nI p)), (10, .int (nI bS)), (0, .ref (ad 0)), (1, .int (nI af)), (2, .int (nI at_)), (3, .int (nI bf)), (4, .int (nI bt)), (5, .int (nI lev)), (6, .ref (ad (3 + 3 * m)))]) C d_X_joinRanges_207 (by decide) rfl ?_
              refine ze_iload C d_X_joinRanges_209 2 rfl ?_
              refine ze_istore (lv' := [(10, .int (nI bE)), (9, .int (nI aE)), (7, .long (lN (cst + (ze_sz (aE - aS) + (ze_sz (bE - bS))) + ((ze_jn M k (ze_pt M lev p (fun r => r.2) A) (ze_pt M lev p (fun r => r.1) B)).2)))), (13, .int (nI bE)), (12, .int (nI aE)), (11, .int (nI p)), (0, .ref (ad 0)), (1, .int (nI af)), (2, .int (nI at_)), (3, .int (nI bf)), (4, .int (nI bt)), (5, .int (nI lev)), (6, .ref (ad (3 + 3 * m)))]) C d_X_joinRanges_211 (by decide) rfl ?_
              refine ze_iinc (j := 5) (v := nI (p + 1)) (lv' := [(11, .int (nI (p + 1))), (10, .int (nI bE)), (9, .int (nI aE)), (7, .long (lN (cst + (ze_sz (aE - aS) + (ze_sz (bE - bS))) + ((ze_jn M k (ze_pt M lev p (fun r => r.2) A) (ze_pt M lev p (fun r => r.1) B)).2)))), (13, .int (nI bE)), (12, .int (nI aE)), (0, .ref (ad 0)), (1, .int (nI af)), (2, .int (nI at_)), (3, .int (nI bf)), (4, .int (nI bt)), (5, .int (nI lev)), (6, .ref (ad (3 + 3 * m)))]) C d_X_joinRanges_213 rfl (nI_1 _) (by decide) rfl ?_
              refine ze_goto 107 C d_X_joinRanges_216 (by decide) ?_
              refine ze_sub [(11, .int (nI (p + 1))), (10, .int (nI bE)), (9, .int (nI aE)), (7, .long (lN (cst + (ze_sz (aE - aS) + (ze_sz (bE - bS))) + ((ze_jn M k (ze_pt M lev p (fun r => r.2) A) (ze_pt M lev p (fun r => r.1) B)).2)))), (0, .ref (ad 0)), (1, .int (nI af)), (2, .int (nI at_)), (3, .int (nI bf)), (4, .int (nI bt)), (5, .int (nI lev)), (6, .ref (ad (3 + 3 * m)))] [0, 1, 2, 3, 6, 7, 8, 9, 10, 11, 12] rfl ?_
              refine ih (M - 1 - (p + 1)) (by omega) (p + 1) aE bE _ T4 rfl (by omega) (by rw [ze_prt_succ, List.length_append]; omega) (by rw [ze_prt_succ, List.length_append]; omega) (by omega) (by omega) (fun z z1 z2 z3 z4 => (oT4 z z1 z2 z3 z4).trans (g4 z z1 z2 z3 z4)) ?_ ?_ ?_ ?_ ?_ ?_
              · rw [List.range_succ, List.flatMap_append, ← List.append_assoc]
                simp only [List.flatMap_cons, List.flatMap_nil, List.append_nil]
                exact hu4
              · rw [haE]
                exact ze_Hl_eq g6.2 (fun q q1 q2 => o9 q (Or.inr (by omega)))
              · rw [hbE]
                exact ze_Hl_eq g7.2 (fun q q1 q2 => o10 q (Or.inr (by omega)))
              · rw [List.range_succ, List.map_append, List.sum_append, g8]
                simp only [List.map_cons, List.map_nil, List.sum_cons, List.sum_nil]
                rw [show aE - aS = (ze_pt M lev p (fun r => r.2) A).length by omega, show bE - bS = (ze_pt M lev p (fun r => r.1) B).length by omega]
                omega
              · exact fun q hq => ⟨((o9 q (by omega)).1).trans (g9 q hq).1, ((o9 q (by omega)).2).trans (g9 q hq).2⟩
              · exact fun q hq => ⟨((o10 q (by omega)).1).trans (g10 q hq).1, ((o10 q (by omega)).2).trans (g10 q hq).2⟩
        refine ze_sub [(11, .int (nI 0)), (10, .int (nI bf)), (9, .int (nI af)), (7, .long (lN (ze_sz (at_ - af) + (ze_sz (bt - bf))))), (0, .ref (ad 0)), (1, .int (nI af)), (2, .int (nI at_)), (3, .int (nI bf)), (4, .int (nI bt)), (5, .int (nI lev)), (6, .ref (ad (3 + 3 * m)))] [0, 1, 2, 3, 4, 5, 6, 7, 8, 9, 10] rfl ?_
        refine loop _ 0 af bf _ T2 rfl (Nat.zero_le _) (by simp [ze_prt]) (by simp [ze_prt]) ha hb (fun z z1 z2 z3 z4 => (oT2 z z3 z4).trans (oT1 z z2 z4)) (by rw [oT2 m (by omega) (by omega), oT1 m (by omega) (by omega)]; simpa using hm) ?_ ?_ (by rw [hAl, hBl]; simp) ?_ ?_
        · rw [oT2 9 (by decide) (by decide), show ze_sfx M lev (fun r => r.2) A (M - 1 - 0) 0 = ze_prt M lev (fun r => r.2) A (M - 1) from by rw [← ze_sfx_prt_0]]
          exact hp1
        · rw [show ze_sfx M lev (fun r => r.1) B (M - 1 - 0) 0 = ze_prt M lev (fun r => r.1) B (M - 1) from by rw [← ze_sfx_prt_0]]
          exact hp2
        · rw [oT2 9 (by decide) (by decide)]
          exact ho1
        · intro q hq
          have := ho2 q hq
          rw [oT1 10 (by decide) (by decide)] at this
          exact this
      · refine ze_aload_n C d_X_joinRanges_30 0 rfl rfl ?_
        refine ze_iload_n C d_X_joinRanges_31 1 rfl rfl ?_
        refine ze_iload_n C d_X_joinRanges_32 2 rfl rfl ?_
        refine ze_iload_n C d_X_joinRanges_33 3 rfl rfl ?_
        refine ze_iload C d_X_joinRanges_34 4 rfl ?_
        refine ze_aload C d_X_joinRanges_36 6 rfl ?_
        have hlf : k + 1 = 0 ∨ B.length ≤ ze_rm4 M := Or.inr (by omega)
        refine ze_callV (st := []) C (c_X_joinByChunks (ze_l G) (ze_D G) (ze_i G) ad ms M T hd mv hM af at_ bf bt ha ha6 hb hb6 A B L hA hAl hB hBl m hm8 hm) (kv_X_146 (ze_rml (by omega) (by decide))) (by decide) ze_E_x rfl (Nat.le_of_ble_eq_true rfl) ⟨Nat.le_of_ble_eq_true rfl, Nat.le_of_ble_eq_true rfl⟩ d_X_joinRanges_38 ?_
        rintro _ _ _ _ ⟨rfl, rfl, _, rfl, rfl, T1, rfl, oT1, hu1⟩
        refine ze_norm (c2 := 0) (s2 := 0) (st' := [.long (lN (ze_sz B.length + (B.length + ze_rm4 M - 1) / ze_rm4 M * ze_sz A.length))]) rfl rfl rfl ?_
        exact ze_lret C Rt d_X_joinRanges_41 (⟨rfl, rfl, _, rfl, by rw [ze_jn_leaf hne hlf], T1, rfl, fun z z1 _ _ _ => oT1 z z1, by rw [ze_jn_leaf hne hlf]; exact hu1, fun q _ => by rw [oT1 9 (by omega)]; exact ⟨rfl, rfl⟩, fun q _ => by rw [oT1 10 (by omega)]; exact ⟨rfl, rfl⟩⟩)
    · refine ze_lconst (v := lN 0) C d_X_joinRanges_11 (by decide) ?_
      exact ze_lret C Rt d_X_joinRanges_12 (⟨rfl, rfl, _, rfl, by rw [ze_jn_nil (Or.inr (List.eq_nil_of_length_eq_zero (by omega)))], T, rfl, fun _ _ _ _ _ => rfl, by rw [ze_jn_nil (Or.inr (List.eq_nil_of_length_eq_zero (by omega))), List.append_nil]; exact hm, fun _ _ => ⟨rfl, rfl⟩, fun _ _ => ⟨rfl, rfl⟩⟩)

theorem c_X_joinRanges_3 : ze_JR 3 := c_X_joinRanges_s 2 (by decide) (c_X_joinRanges_s 1 (by decide) (c_X_joinRanges_s 0 (by decide) c_X_joinRanges_0))
end
section
theorem ze_rX_wk4 {M : Nat} {T T1 : Nat → ze_T} {hd : Nat → Bool} {mv : Int64} {inp : List ze_Row} {sl : Nat → Option (List ze_Row)} {i : Nat} (h : ze_rX (M, T, hd, mv) (inp, sl, mv, M)) (hi : i ≠ 8) (hn : i < 8 → sl i = none) (e : ∀ q, q ≠ i → q ≠ 9 → q ≠ 10 → q ≠ 11 → T1 q = T q) : ze_rX (M, T1, hd, mv) (inp, sl, mv, M) := by
  have h1 := ze_rX_wk2 (T1 := va_up (va_up T i (T1 i)) 9 (T1 9)) h hi (j := 9) (by decide) hn (fun h => absurd h (by decide)) (fun q q1 q2 => by rw [va_up_ne _ _ q2, va_up_ne _ _ q1])
  refine ze_rX_wk2 (i := 10) (j := 11) h1 (by decide) (by decide) (fun h => absurd h (by decide)) (fun h => absurd h (by decide)) (fun q q1 q2 => ?_)
  by_cases h9 : q = 9
  · subst h9; rw [va_up_self]
  · rw [va_up_ne _ _ h9]
    by_cases hqi : q = i
    · subst hqi; rw [va_up_self]
    · rw [va_up_ne _ _ hqi]; exact e q hqi h9 q1 q2

set_option maxRecDepth 100000 in
set_option maxHeartbeats 4000000 in
theorem c_X_join (l : Launch) (D : va_G) (ids : Nat → ClassId) (ad : Nat → Nat) (ms : ze_MS) (M : Nat) (T : Nat → ze_T) (hd : Nat → Bool) (mv : Int64) (inp : List ze_Row) (sl : Nat → Option (List ze_Row)) (hR : ze_rX (M, T, hd, mv) (inp, sl, mv, M)) (a b into : Int32) : ze_MX l D ids ad ms y_X_join ws_X_join 20 (M, T, hd, mv) [.ref (ad 0), .int a, .int b, .int into] (fun v x' => v = some (.int (sp_join (inp, sl, mv, M) a b into).1) ∧ ze_rX x' (sp_join (inp, sl, mv, M) a b into).2) := by
  refine ze_enter (cc := b_X_join) (maxL := 8) (ret := (some .int)) (by decide +kernel) rfl (Nat.le_of_ble_eq_true rfl) ?_
  rintro G rfl rfl rfl - C Rt
  refine ze_lv (lv' := [(0, .ref (ad 0)), (1, .int a), (2, .int b), (3, .int into)]) rfl ?_
  obtain ⟨-, hM3, hM6, -, hin, -, -⟩ := id hR
  simp only at hin hM3 hM6
  refine ze_aload_n C d_X_join_0 0 rfl rfl ?_
  refine ze_iload_n C d_X_join_1 1 rfl rfl ?_
  refine ze_iload_n C d_X_join_2 2 rfl rfl ?_
  refine ze_iload_n C d_X_join_3 3 rfl rfl ?_
  refine ze_callV (st := []) C (c_X_refusalOf (ze_l G) (ze_D G) (ze_i G) ad ms M T hd mv a b into) (kv_X_90 (ze_rml (by decide) (by decide))) (by decide) ze_E_x rfl (Nat.le_of_ble_eq_true rfl) ⟨Nat.le_of_ble_eq_true rfl, Nat.le_of_ble_eq_true rfl⟩ d_X_join_4 ?_
  rintro _ _ _ _ ⟨rfl, rfl, _, rfl, rfl, rfl⟩
  refine ze_norm (c2 := 0) (s2 := 0) (st' := [.int (ze_rf hd a b into)]) rfl rfl rfl ?_
  refine ze_istore (lv' := [(4, .int (ze_rf hd a b into)), (0, .ref (ad 0)), (1, .int a), (2, .int b), (3, .int into)]) C d_X_join_7 (by decide) rfl ?_
  refine ze_iload C d_X_join_9 0 rfl ?_
  refine ze_if_eq 17 C d_X_join_11 (by decide) (fun h11 => ?_) (fun h11 => ?_)
  · obtain ⟨ja, jb, ji, A, B, hja, hjb, hji, rfl, rfl, rfl, hne, hneb, hAs, hBs, hI, hHA, hHB, hop⟩ := ze_rf_0 hR h11
    have hcA : (T ja).2.2.1 = A.length := hHA.1
    have hA60 : A.length ≤ 60 := hHA.2.1
    have hcB : (T jb).2.2.1 = B.length := hHB.1
    have hB60 : B.length ≤ 60 := hHB.2.1
    refine ze_sub [(0, .ref (ad 0)), (1, .int (nI ja)), (2, .int (nI jb)), (3, .int (nI ji))] [1, 2, 3, 4] rfl ?_
    have hsp : sp_join (inp, sl, mv, M) (nI ja) (nI jb) (nI ji) = sp_fin (inp, sl, mv, M) ji ((ze_jn M 3 A B).1, (ze_jn M 3 A B).2 + ze_sz (ze_jn M 3 A B).1.length) := by rw [sp_join, hop]
    refine ze_aload_n C d_X_join_17 0 rfl rfl ?_
    refine ze_getf C fl_X_37 (by decide) ze_E_x rfl d_X_join_18 ?_
    refine ze_aload_n C d_X_join_21 0 rfl rfl ?_
    refine ze_getf C fl_X_24 (by decide) ze_E_x rfl d_X_join_22 ?_
    refine ze_iload_n C d_X_join_25 1 rfl rfl ?_
    refine ze_aald (k := 1) (i := ja) C (by decide) ze_E_tabs (by omega) (by decide) rfl d_X_join_26 ?_
    refine ze_eqE (ze_foc 9) ?_
    refine ze_callV (st := []) C (c_T_copyFrom (ze_l G) (ze_D G) (ze_i G) ad ms M T hd mv 9 (by omega) (T 9).1 (T 9).2.1 (T 9).2.2.1 (T 9).2.2.2 ja (by omega) (by omega) (by omega)) (kv_X_61 (ze_rml (by decide) (by decide))) (by decide) (ze_F_t (i := 9) (by omega)) rfl (Nat.le_of_ble_eq_true rfl) ⟨Nat.le_of_ble_eq_true rfl, Nat.le_of_ble_eq_true rfl⟩ d_X_join_27 ?_
    rintro _ _ _ _ ⟨rfl, rfl, _, rfl, rfl, rfl⟩
    refine ze_genT (fun T1 eT1 => ?_)
    refine ze_norm (c2 := 0) (s2 := 0) (st' := []) rfl rfl rfl ?_
    have hA1 := (ze_H_cpy hHA eT1).1
    have hR1 := ze_rX_wk hR (by decide) (fun h => absurd h (by decide)) (ze_upo eT1)
    have hB1 : ze_H (T1 jb) B := by rw [ze_upo eT1 jb (by omega)]; exact hHB
    have hcB1 : (T1 jb).2.2.1 = B.length := hB1.1
    refine ze_aload_n C d_X_join_30 0 rfl rfl ?_
    refine ze_getf C fl_X_40 (by decide) ze_E_x rfl d_X_join_31 ?_
    refine ze_aload_n C d_X_join_34 0 rfl rfl ?_
    refine ze_getf C fl_X_24 (by decide) ze_E_x rfl d_X_join_35 ?_
    refine ze_iload_n C d_X_join_38 2 rfl rfl ?_
    refine ze_aald (k := 1) (i := jb) C (by decide) ze_E_tabs (by omega) (by decide) rfl d_X_join_39 ?_
    refine ze_eqE (ze_foc 10) ?_
    refine ze_callV (st := []) C (c_T_copyFrom (ze_l G) (ze_D G) (ze_i G) ad ms M T1 hd mv 10 (by omega) (T1 10).1 (T1 10).2.1 (T1 10).2.2.1 (T1 10).2.2.2 jb (by omega) (by omega) (by omega)) (kv_X_61 (ze_rml (by decide) (by decide))) (by decide) (ze_F_t (i := 10) (by omega)) rfl (Nat.le_of_ble_eq_true rfl) ⟨Nat.le_of_ble_eq_true rfl, Nat.le_of_ble_eq_true rfl⟩ d_X_join_40 ?_
    rintro _ _ _ _ ⟨rfl, rfl, _, rfl, rfl, rfl⟩
    refine ze_genT (fun T2 eT2 => ?_)
    refine ze_norm (c2 := 0) (s2 := 0) (st' := []) rfl rfl rfl ?_
    have hB2 := (ze_H_cpy hB1 eT2).1
    have hR2 := ze_rX_wk hR1 (by decide) (fun h => absurd h (by decide)) (ze_upo eT2)
    refine ze_aload_n C d_X_join_43 0 rfl rfl ?_
    refine ze_getf C fl_X_24 (by decide) ze_E_x rfl d_X_join_44 ?_
    refine ze_iload_n C d_X_join_47 3 rfl rfl ?_
    refine ze_aald (k := 1) (i := ji) C (by decide) ze_E_tabs (by omega) (by decide) rfl d_X_join_48 ?_
    refine ze_astore (lv' := [(5, .ref (ad (3 + 3 * ji))), (0, .ref (ad 0)), (1, .int (nI ja)), (2, .int (nI jb)), (3, .int (nI ji))]) C d_X_join_49 (by decide) rfl ?_
    refine ze_aload C d_X_join_51 0 rfl ?_
    refine ze_eqE (ze_foc ji) ?_
    refine ze_callV (st := []) C (c_T_clear (ze_l G) (ze_D G) (ze_i G) ad ms M T2 hd mv ji (by omega) (T2 ji).1 (T2 ji).2.1 (T2 ji).2.2.1 (T2 ji).2.2.2 ) (kv_X_65 (ze_rml (by decide) (by decide))) (by omega) (ze_F_t (i := ji) (by omega)) rfl (Nat.le_of_ble_eq_true rfl) ⟨Nat.le_of_ble_eq_true rfl, Nat.le_of_ble_eq_true rfl⟩ d_X_join_53 ?_
    rintro _ _ _ _ ⟨rfl, rfl, _, rfl, rfl, rfl⟩
    refine ze_genT (fun T3 eT3 => ?_)
    refine ze_norm (c2 := 0) (s2 := 0) (st' := []) rfl rfl rfl ?_
    have hu3 := ze_Hu_clr eT3
    have hR3 := ze_rX_wk hR2 (by omega) (fun _ => hI) (ze_upo eT3)
    refine ze_aload_n C d_X_join_56 1 rfl rfl ?_
    refine ze_iconst (v := nI 0) C d_X_join_57 (by decide) ?_
    refine ze_aload_n C d_X_join_58 1 rfl rfl ?_
    refine ze_getf C fl_X_37 (by decide) ze_E_x rfl d_X_join_59 ?_
    refine ze_getf (k := 3 + 3 * 9) C fl_X_50 (by decide) (ze_E_t (i := 9) (by omega)) rfl d_X_join_62 ?_
    refine ze_iconst (v := nI 0) C d_X_join_65 (by decide) ?_
    refine ze_aload_n C d_X_join_66 1 rfl rfl ?_
    refine ze_getf C fl_X_40 (by decide) ze_E_x rfl d_X_join_67 ?_
    refine ze_getf (k := 3 + 3 * 10) C fl_X_50 (by decide) (ze_E_t (i := 10) (by omega)) rfl d_X_join_70 ?_
    refine ze_iconst (v := nI 0) C d_X_join_73 (by decide) ?_
    refine ze_aload C d_X_join_74 0 rfl ?_
    have hA3 : ze_H (T3 9) A := by rw [ze_upo eT3 9 (by omega), ze_upo eT2 9 (by decide)]; exact hA1
    have hB3 : ze_H (T3 10) B := by rw [ze_upo eT3 10 (by omega)]; exact hB2
    have hcA3 : (T3 9).2.2.1 = A.length := hA3.1
    have hcB3 : (T3 10).2.2.1 = B.length := hB3.1
    refine ze_callV (st := []) C (c_X_joinRanges_3 (ze_l G) (ze_D G) (ze_i G) ad ms M T3 hd mv ⟨hM3, hM6⟩ 0 rfl 0 (T3 9).2.2.1 0 (T3 10).2.2.1 (Nat.zero_le _) (by omega) (Nat.zero_le _) (by omega) A B [] hA3.2.2 (by omega) hB3.2.2 (by omega) ji hji hu3) (kv_X_113 (ze_rml (by decide) (by decide))) (by decide) ze_E_x rfl (Nat.le_of_ble_eq_true rfl) ⟨Nat.le_of_ble_eq_true rfl, Nat.le_of_ble_eq_true rfl⟩ d_X_join_76 ?_
    rintro _ _ _ _ ⟨rfl, rfl, _, rfl, rfl, T4, rfl, oT4, hu4, -, -⟩
    rw [List.nil_append] at hu4
    refine ze_norm (c2 := 0) (s2 := 0) (st' := [.long (lN ((ze_jn M 3 A B).2))]) rfl rfl rfl ?_
    have hR4 := ze_rX_wk4 hR3 (by omega) (fun _ => hI) oT4
    have hm4 := ze_Hu_le hu4
    refine ze_lstore (lv' := [(6, .long (lN ((ze_jn M 3 A B).2))), (5, .ref (ad (3 + 3 * ji))), (0, .ref (ad 0)), (1, .int (nI ja)), (2, .int (nI jb)), (3, .int (nI ji))]) C d_X_join_79 (by decide) rfl ?_
    refine ze_aload_n C d_X_join_81 2 rfl rfl ?_
    refine ze_iload_n C d_X_join_82 5 rfl rfl ?_
    refine ze_lload C d_X_join_83 0 rfl ?_
    refine ze_aload C d_X_join_85 1 rfl ?_
    refine ze_getf (k := 3 + 3 * ji) C fl_X_50 (by omega) (ze_E_t (i := ji) (by omega)) rfl d_X_join_87 ?_
    refine ze_callS (st := [.long (lN ((ze_jn M 3 A B).2)), .int (nI ji), .ref (ad 0)]) C (c_X_sizeOf (ze_l G) (ze_D G) (ze_i G) _ _ _ ((T4 ji).2.2.1) (by omega)) (ks_X_68 (ze_rml (by decide) (by decide))) rfl (Nat.le_of_ble_eq_true rfl) ⟨Nat.le_of_ble_eq_true rfl, Nat.le_of_ble_eq_true rfl⟩ d_X_join_90 ?_
    rintro _ _ _ _ ⟨rfl, rfl, rfl, rfl⟩
    refine ze_norm (c2 := 0) (s2 := 0) (st' := [.int (nI (ze_sz ((T4 ji).2.2.1))), .long (lN ((ze_jn M 3 A B).2)), .int (nI ji), .ref (ad 0)]) rfl rfl rfl ?_
    have hz90 := ze_sz_le ((T4 ji).2.2.1)
    refine ze_i2lN C d_X_join_93 (by omega) ?_
    refine ze_laddN C d_X_join_94 ?_
    refine ze_callV (st := []) C (c_X_finish (ze_l G) (ze_D G) (ze_i G) ad ms M T4 hd mv ji (by omega) (lN ((ze_jn M 3 A B).2 + (ze_sz ((T4 ji).2.2.1))))) (kv_X_72 (ze_rml (by decide) (by decide))) (by decide) ze_E_x rfl (Nat.le_of_ble_eq_true rfl) ⟨Nat.le_of_ble_eq_true rfl, Nat.le_of_ble_eq_true rfl⟩ d_X_join_95 ?_
    rintro _ _ _ _ ⟨rfl, rfl, x', rfl, hfin⟩
    obtain ⟨r, rfl, hr1, hr2⟩ := ze_op_end (q := ((ze_jn M 3 A B).1, (ze_jn M 3 A B).2 + ze_sz (ze_jn M 3 A B).1.length)) hR4 hji hu4 (fun z => by rw [(ze_Hu_H hu4 z).1]) hfin
    refine ze_norm (c2 := 0) (s2 := 0) (st' := [.int r]) rfl rfl rfl ?_
    exact ze_iret C Rt d_X_join_98 ⟨rfl, rfl, _, rfl, by rw [hsp, hr1], by rw [hsp]; exact hr2⟩
  · refine ze_iload C d_X_join_14 0 rfl ?_
    exact ze_iret C Rt d_X_join_16 (⟨rfl, rfl, _, rfl, by rw [sp_join, ze_rf_ne hR h11], by rw [sp_join, ze_rf_ne hR h11]; exact hR⟩)
end
section
/-- the reference's arrays hold input and slots -/
def ze_rA (Ar : Nat → Nat → Int32) (inp : List ze_Row) (sl : Nat → Option (List ze_Row)) : Prop := inp.length ≤ 60 ∧ ze_Hl (Ar 0) (Ar 1) 0 inp ∧ (∀ j, j < 8 → sl j = none → Ar 2 j = -1) ∧ (∀ j, j < 8 → ∀ L, sl j = some L → L.length ≤ 60 ∧ Ar 2 j = nI L.length ∧ ze_Hl (Ar 3) (Ar 4) (60 * j) L)
/-- the reference's state has the value σ -/
def ze_rM (ms : ze_MS) (σ : ze_Sg) : Prop := ∃ (ma co le : Nat) (Ar : Nat → Nat → Int32), ms = (σ.2.2.2, σ.2.2.1, σ.1.length, ma, co, le, Ar) ∧ ze_rA Ar σ.1 σ.2.1 ∧ 3 ≤ σ.2.2.2 ∧ σ.2.2.2 ≤ 6
/-- the rows that are made -/
def ze_Mk (Ar : Nat → Nat → Int32) (ma : Nat) (L : List ze_Row) : Prop := ma = L.length ∧ ze_Hl (Ar 5) (Ar 6) 0 (L.take 60)
section ZEA
variable {G : ze_G} {ad : Nat → Nat} {x : ze_XS} {mem : Nat} {mvd : Int64} {ty ma co le : Nat} {Ar : Nat → Nat → Int32} {cells slots pc : Nat} {lv : List (Nat × Value)} {st : List Value}
theorem ze_genA (k : ∀ A1, A1 = Ar → ze_V G 48 ad (ze_E (ze_i G) ad x (mem, mvd, ty, ma, co, le, A1)) cells slots pc lv st) : ze_V G 48 ad (ze_E (ze_i G) ad x (mem, mvd, ty, ma, co, le, Ar)) cells slots pc lv st := k Ar rfl
end ZEA
theorem ze_au {Ar A1 : Nat → Nat → Int32} {i : Nat} {f : Nat → Int32} (e : A1 = va_up Ar i f) : A1 i = f := by rw [e, va_up_self]
theorem ze_ao {Ar A1 : Nat → Nat → Int32} {i : Nat} {f : Nat → Int32} (e : A1 = va_up Ar i f) : ∀ j, j ≠ i → A1 j = Ar j := fun j h => by rw [e, va_up_ne _ _ h]
section ZRA
variable {Ar A1 : Nat → Nat → Int32} {inp inp' L : List ze_Row} {sl : Nat → Option (List ze_Row)} {j ma : Nat} {k v : Int32}
theorem ze_rA_neg (h : ze_rA Ar inp sl) (hj : j < 8) (hn : Ar 2 j < 0) : sl j = none := by
  cases e : sl j with
  | none => rfl
  | some L =>
    obtain ⟨h1, h2, -⟩ := h.2.2.2 j hj L e
    rw [h2] at hn
    exact absurd hn (nI_pos (by omega))
theorem ze_rA_pos (h : ze_rA Ar inp sl) (hj : j < 8) (hn : ¬ Ar 2 j < 0) : ∃ L, sl j = some L ∧ L.length ≤ 60 ∧ Ar 2 j = nI L.length ∧ ze_Hl (Ar 3) (Ar 4) (60 * j) L := by
  cases e : sl j with
  | none => exact absurd (by rw [h.2.2.1 j hj e]; decide) hn
  | some L => exact ⟨L, rfl, h.2.2.2 j hj L e⟩
/-- nothing but the made rows has changed -/
theorem ze_rA_56 (h : ze_rA Ar inp sl) (e : ∀ z, z ≠ 5 → z ≠ 6 → z ≠ 7 → A1 z = Ar z) : ze_rA A1 inp sl := by
  unfold ze_rA
  rw [e 0 (by decide) (by decide) (by decide), e 1 (by decide) (by decide) (by decide), e 2 (by decide) (by decide) (by decide), e 3 (by decide) (by decide) (by decide), e 4 (by decide) (by decide) (by decide)]
  exact h
theorem ze_rA_set (h : ze_rA Ar inp sl) (hj : j < 8) (hl : L.length ≤ 60) (h0 : A1 0 = Ar 0) (h1 : A1 1 = Ar 1) (h2 : A1 2 = upd (Ar 2) j (nI L.length)) (h3 : ze_Hl (A1 3) (A1 4) (60 * j) L) (ho : ∀ q, q < 60 * j ∨ 60 * j + 60 ≤ q → A1 3 q = Ar 3 q ∧ A1 4 q = Ar 4 q) : ze_rA A1 inp (va_up sl j (some L)) := by
  refine ⟨h.1, by rw [h0, h1]; exact h.2.1, fun q hq hL => ?_, fun q hq K hL => ?_⟩
  · by_cases e : q = j
    · subst e; rw [va_up_self] at hL; cases hL
    · rw [va_up_ne _ _ e] at hL
      rw [h2, pk_un e]
      exact h.2.2.1 q hq hL
  · by_cases e : q = j
    · subst e
      rw [va_up_self] at hL
      cases hL
      exact ⟨hl, by rw [h2, pk_us], h3⟩
    · rw [va_up_ne _ _ e] at hL
      obtain ⟨a, b, c⟩ := h.2.2.2 q hq K hL
      refine ⟨a, by rw [h2, pk_un e]; exact b, ze_Hl_eq c (fun p p1 p2 => ho p ?_)⟩
      rcases Nat.lt_or_gt_of_ne e with z | z
      · left; omega
      · right; omega
theorem ze_rA_drop (h : ze_rA Ar inp sl) (e : A1 = va_up Ar 2 (upd (Ar 2) j (-1))) : ze_rA A1 inp (va_up sl j none) := by
  have o := ze_ao e
  refine ⟨h.1, by rw [o 0 (by decide), o 1 (by decide)]; exact h.2.1, fun q hq hL => ?_, fun q hq K hL => ?_⟩
  · rw [ze_au e]
    by_cases e : q = j
    · subst e; rw [pk_us]
    · rw [va_up_ne _ _ e] at hL
      rw [pk_un e]
      exact h.2.2.1 q hq hL
  · rw [ze_au e, o 3 (by decide), o 4 (by decide)]
    by_cases e : q = j
    · subst e; rw [va_up_self] at hL; cases hL
    · rw [va_up_ne _ _ e] at hL
      rw [pk_un e]
      exact h.2.2.2 q hq K hL
theorem ze_rA_in (h : ze_rA Ar inp sl) (hl : inp'.length ≤ 60) (hi : ze_Hl (A1 0) (A1 1) 0 inp') (o : ∀ z, z ≠ 0 → z ≠ 1 → A1 z = Ar z) : ze_rA A1 inp' sl := by
  refine ⟨hl, hi, ?_⟩
  rw [o 2 (by decide) (by decide), o 3 (by decide) (by decide), o 4 (by decide) (by decide)]
  exact h.2.2
theorem ze_Mk_0 : ze_Mk Ar 0 [] := ⟨rfl, ze_Hl_nil⟩
theorem ze_Mk_full (h : ze_Mk Ar ma L) (hf : ¬ ma < 60) : ze_Mk Ar (ma + 1) (L ++ [(k, v)]) := by
  refine ⟨by simp [h.1], ?_⟩
  rw [List.take_append_of_le_length (by have := h.1; omega)]
  exact h.2
theorem ze_Mk_snoc (h : ze_Mk Ar ma L) (hf : ma < 60) (h5 : A1 5 = upd (Ar 5) ma k) (h6 : A1 6 = upd (Ar 6) ma v) : ze_Mk A1 (ma + 1) (L ++ [(k, v)]) := by
  obtain ⟨h1, h2⟩ := h
  subst h1
  refine ⟨by simp, ?_⟩
  rw [List.take_of_length_le (by omega)] at h2
  rw [List.take_of_length_le (by simp; omega), h5, h6]
  have := ze_Hl_snoc (r := (k, v)) h2
  rw [Nat.zero_add] at this
  exact this
end ZRA
/-- the reference's refusal -/
def ze_rfs (sl : Nat → Option (List ze_Row)) (ok : Bool) (a b into : Int32) : Int32 := if (ok && ze_isS a && ze_isS b && ze_isS into) = false then -1 else match sl (ze_n a), sl (ze_n b) with
  | some _, some _ => match sl (ze_n into) with
    | some _ => -3
    | none => 0
  | _, _ => -2
theorem ze_rfs_ne {σ : ze_Sg} {ok : Bool} {a b into : Int32} {f : List ze_Row → List ze_Row → List ze_Row × Nat} (h : ¬ ze_rfs σ.2.1 ok a b into = 0) : sp_op σ ok a b into f = (ze_rfs σ.2.1 ok a b into, σ) := by
  unfold sp_op
  unfold ze_rfs at h ⊢
  by_cases hs : (ok && ze_isS a && ze_isS b && ze_isS into) = false
  · rw [if_pos hs, if_pos hs]
  · rw [if_neg hs] at h ⊢
    rw [if_neg hs]
    cases ha : σ.2.1 (ze_n a) with
    | none => rfl
    | some A =>
      cases hb : σ.2.1 (ze_n b) with
      | none => rfl
      | some B =>
        cases hi : σ.2.1 (ze_n into) with
        | none => rw [ha, hb, hi] at h; exact absurd rfl h
        | some I => rfl
theorem ze_rfs_0 {σ : ze_Sg} {ok : Bool} {a b into : Int32} (h : ze_rfs σ.2.1 ok a b into = 0) : ∃ (ja jb ji : Nat) (A B : List ze_Row), ja < 8 ∧ jb < 8 ∧ ji < 8 ∧ a = nI ja ∧ b = nI jb ∧ into = nI ji ∧ ji ≠ ja ∧ ji ≠ jb ∧ σ.2.1 ja = some A ∧ σ.2.1 jb = some B ∧ σ.2.1 ji = none ∧ ok = true ∧ ∀ f, sp_op σ ok a b into f = sp_fin σ ji (f A B) := by
  unfold ze_rfs at h
  by_cases hs : (ok && ze_isS a && ze_isS b && ze_isS into) = false
  · rw [if_pos hs] at h; exact absurd h (by decide)
  · rw [if_neg hs] at h
    have hs0 := hs
    simp only [Bool.not_eq_false, Bool.and_eq_true] at hs
    obtain ⟨ja, hja, rfl⟩ := ze_isS_nI hs.1.1.2
    obtain ⟨jb, hjb, rfl⟩ := ze_isS_nI hs.1.2
    obtain ⟨ji, hji, rfl⟩ := ze_isS_nI hs.2
    have na := ze_n_nI (j := ja) (by omega)
    have nb := ze_n_nI (j := jb) (by omega)
    have ni := ze_n_nI (j := ji) (by omega)
    rw [na, nb, ni] at h
    cases ha : σ.2.1 ja with
    | none => rw [ha] at h; exact absurd (show (-2 : Int32) = 0 from h) (by decide)
    | some A =>
      cases hb : σ.2.1 jb with
      | none => rw [ha, hb] at h; exact absurd (show (-2 : Int32) = 0 from h) (by decide)
      | some B =>
        cases hi : σ.2.1 ji with
        | some I => rw [ha, hb, hi] at h; exact absurd (show (-3 : Int32) = 0 from h) (by decide)
        | none =>
          refine ⟨ja, jb, ji, A, B, hja, hjb, hji, rfl, rfl, rfl, fun e => ?_, fun e => ?_, ha, hb, hi, hs.1.1.1, fun f => ?_⟩
          · rw [e, ha] at hi; cases hi
          · rw [e, hb] at hi; cases hi
          · unfold sp_op
            rw [if_neg hs0]
            simp only [na, nb, ni, ha, hb, hi]
end
section
set_option maxRecDepth 100000 in
set_option maxHeartbeats 4000000 in
theorem c_M_size (l : Launch) (D : va_G) (ids : Nat → ClassId) (n : Nat) (ad : Nat → Nat) (E : Nat → va_E) (a : Nat) (ha : a < 100000) : ze_M l D ids y_M_size ws_M_size (ze_rm 1) 0 0 n ad E [.int (nI a)] (ze_p0 n ad E (fun v => v = some (.int (nI (ze_sz a))))) := by
  refine ze_enter (cc := b_M_size) (maxL := 1) (ret := (some .int)) (by decide +kernel) rfl (Nat.le_of_ble_eq_true rfl) ?_
  rintro G rfl rfl rfl - C Rt
  refine ze_lv (lv' := [(0, .int (nI a))]) rfl ?_
  refine ze_iload_n C d_M_size_0 0 rfl rfl ?_
  refine ze_iconst (v := nI 3) C d_M_size_1 (by decide) ?_
  refine ze_iaddN C d_M_size_2 ?_
  refine ze_iconst (v := nI 4) C d_M_size_3 (by decide) ?_
  refine ze_idivN C d_M_size_4 (by omega) (by omega) (by omega) ?_
  exact ze_iret C Rt d_M_size_5 (⟨rfl, rfl, rfl, rfl⟩)

set_option maxRecDepth 100000 in
set_option maxHeartbeats 4000000 in
theorem c_M_slot (l : Launch) (D : va_G) (ids : Nat → ClassId) (n : Nat) (ad : Nat → Nat) (E : Nat → va_E) (s : Int32) : ze_M l D ids y_M_slot ws_M_slot (ze_rm 1) 0 0 n ad E [.int s] (ze_p0 n ad E (fun v => v = some (.int (ze_bi (ze_isS s))))) := by
  refine ze_enter (cc := b_M_slot) (maxL := 1) (ret := (some .boolean)) (by decide +kernel) rfl (Nat.le_of_ble_eq_true rfl) ?_
  rintro G rfl rfl rfl - C Rt
  refine ze_lv (lv' := [(0, .int s)]) rfl ?_
  refine ze_iload_n C d_M_slot_0 0 rfl rfl ?_
  refine ze_if_lt 14 C d_M_slot_1 (by decide) (fun h1 => ?_) (fun h1 => ?_)
  · refine ze_iconst (v := nI 0) C d_M_slot_14 (by decide) ?_
    exact ze_zret C Rt (by decide) d_M_slot_15 (⟨rfl, rfl, rfl, by rw [ze_isS_f1 h1]; rfl⟩)
  · refine ze_iload_n C d_M_slot_4 0 rfl rfl ?_
    refine ze_bipush (v := nI 8) C d_M_slot_5 (by decide) ?_
    refine ze_icmp_ge 14 C d_M_slot_7 (by decide) (fun h7 => ?_) (fun h7 => ?_)
    · refine ze_iconst (v := nI 0) C d_M_slot_14 (by decide) ?_
      exact ze_zret C Rt (by decide) d_M_slot_15 (⟨rfl, rfl, rfl, by rw [ze_isS_f2 h7]; rfl⟩)
    · refine ze_iconst (v := nI 1) C d_M_slot_10 (by decide) ?_
      refine ze_goto 15 C d_M_slot_11 (by decide) ?_
      exact ze_zret C Rt (by decide) d_M_slot_15 (⟨rfl, rfl, rfl, by rw [ze_isS_t h1 h7]; rfl⟩)

def ze_cp (k v l w : Int32) : Int32 := if k ≠ l then (if k < l then -1 else 1) else if v ≠ w then (if v < w then -1 else 1) else 0
theorem ze_cp_lt {k v l w : Int32} : ze_cp k v l w < 0 ↔ ze_lt 2 (k, v) (l, w) = true := by
  rw [ze_lt_iff]
  unfold ze_cp
  by_cases h1 : k = l
  · subst h1
    rw [if_neg (by simp)]
    by_cases h2 : v = w
    · subst h2; simp
    · rw [if_pos h2]
      by_cases h3 : v < w
      · rw [if_pos h3]; rw [Int32.lt_iff_toInt_lt] at h3; simp [h3]
      · rw [if_neg h3]; rw [Int32.lt_iff_toInt_lt] at h3; simp [h3]
  · rw [if_pos h1]
    have h4 : ¬ k.toInt = l.toInt := fun z => h1 (Int32.toInt_inj.mp z)
    by_cases h3 : k < l
    · rw [if_pos h3]; rw [Int32.lt_iff_toInt_lt] at h3; simp [h3]
    · rw [if_neg h3]; rw [Int32.lt_iff_toInt_lt] at h3; simp [h3, h4]
theorem ze_cp_eq {k v l w : Int32} : ze_cp k v l w = 0 ↔ k = l ∧ v = w := by
  unfold ze_cp
  by_cases h1 : k = l
  · subst h1
    rw [if_neg (by simp)]
    by_cases h2 : v = w
    · subst h2; simp
    · rw [if_pos h2]
      by_cases h3 : v < w
      · rw [if_pos h3]; simp [h2]
      · rw [if_neg h3]; simp [h2]
  · rw [if_pos h1]
    by_cases h3 : k < l
    · rw [if_pos h3]; simp [h1]
    · rw [if_neg h3]; simp [h1]

set_option maxRecDepth 100000 in
set_option maxHeartbeats 4000000 in
theorem c_M_compare (ll : Launch) (D : va_G) (ids : Nat → ClassId) (n : Nat) (ad : Nat → Nat) (E : Nat → va_E) (k v l w : Int32) : ze_M ll D ids y_M_compare ws_M_compare (ze_rm 1) 0 0 n ad E [.int k, .int v, .int l, .int w] (ze_p0 n ad E (fun w9 => w9 = some (.int (ze_cp k v l w)))) := by
  refine ze_enter (cc := b_M_compare) (maxL := 4) (ret := (some .int)) (by decide +kernel) rfl (Nat.le_of_ble_eq_true rfl) ?_
  rintro G rfl rfl rfl - C Rt
  refine ze_lv (lv' := [(0, .int k), (1, .int v), (2, .int l), (3, .int w)]) rfl ?_
  refine ze_iload_n C d_M_compare_0 0 rfl rfl ?_
  refine ze_iload_n C d_M_compare_1 2 rfl rfl ?_
  refine ze_icmp_eq 18 C d_M_compare_2 (by decide) (fun h2 => ?_) (fun h2 => ?_)
  · refine ze_iload_n C d_M_compare_18 1 rfl rfl ?_
    refine ze_iload_n C d_M_compare_19 3 rfl rfl ?_
    refine ze_icmp_eq 36 C d_M_compare_20 (by decide) (fun h20 => ?_) (fun h20 => ?_)
    · refine ze_iconst (v := nI 0) C d_M_compare_36 (by decide) ?_
      exact ze_iret C Rt d_M_compare_37 (⟨rfl, rfl, rfl, by unfold ze_cp; rw [if_neg (fun z => z h2), if_neg (fun z => z h20)]; rfl⟩)
    · refine ze_iload_n C d_M_compare_23 1 rfl rfl ?_
      refine ze_iload_n C d_M_compare_24 3 rfl rfl ?_
      refine ze_icmp_ge 32 C d_M_compare_25 (by decide) (fun h25 => ?_) (fun h25 => ?_)
      · refine ze_iconst (v := nI 1) C d_M_compare_32 (by decide) ?_
        refine ze_goto 37 C d_M_compare_33 (by decide) ?_
        exact ze_iret C Rt d_M_compare_37 (⟨rfl, rfl, rfl, by unfold ze_cp; rw [if_neg (fun z => z h2), if_pos h20, if_neg (Int32.not_lt.mpr h25)]; rfl⟩)
      · refine ze_iconst (v := -1) C d_M_compare_28 (by decide) ?_
        refine ze_goto 37 C d_M_compare_29 (by decide) ?_
        exact ze_iret C Rt d_M_compare_37 (⟨rfl, rfl, rfl, by unfold ze_cp; rw [if_neg (fun z => z h2), if_pos h20, if_pos (Int32.not_le.mp h25)]⟩)
  · refine ze_iload_n C d_M_compare_5 0 rfl rfl ?_
    refine ze_iload_n C d_M_compare_6 2 rfl rfl ?_
    refine ze_icmp_ge 14 C d_M_compare_7 (by decide) (fun h7 => ?_) (fun h7 => ?_)
    · refine ze_iconst (v := nI 1) C d_M_compare_14 (by decide) ?_
      refine ze_goto 37 C d_M_compare_15 (by decide) ?_
      exact ze_iret C Rt d_M_compare_37 (⟨rfl, rfl, rfl, by unfold ze_cp; rw [if_pos h2, if_neg (Int32.not_lt.mpr h7)]; rfl⟩)
    · refine ze_iconst (v := -1) C d_M_compare_10 (by decide) ?_
      refine ze_goto 37 C d_M_compare_11 (by decide) ?_
      exact ze_iret C Rt d_M_compare_37 (⟨rfl, rfl, rfl, by unfold ze_cp; rw [if_pos h2, if_pos (Int32.not_le.mp h7)]⟩)

set_option maxRecDepth 100000 in
set_option maxHeartbeats 4000000 in
theorem c_M_make (l : Launch) (D : va_G) (ids : Nat → ClassId) (ad : Nat → Nat) (x : ze_XS) (M : Nat) (mv : Int64) (ty ma co le : Nat) (Ar : Nat → Nat → Int32) (L : List ze_Row) (hk : ze_Mk Ar ma L) (hma : ma < 100000) (key value : Int32) : ze_MM l D ids ad x y_M_make ws_M_make 1 (M, mv, ty, ma, co, le, Ar) [.ref (ad 39), .int key, .int value] (fun v ms' => v = none ∧ ∃ A', ms' = (M, mv, ty, ma + 1, co, le, A') ∧ ze_Mk A' (ma + 1) (L ++ [(key, value)]) ∧ ∀ z, z ≠ 5 → z ≠ 6 → A' z = Ar z) := by
  refine ze_enter (cc := b_M_make) (maxL := 3) (ret := none) (by decide +kernel) rfl (Nat.le_of_ble_eq_true rfl) ?_
  rintro G rfl rfl rfl - C Rt
  refine ze_lv (lv' := [(0, .ref (ad 39)), (1, .int key), (2, .int value)]) rfl ?_
  refine ze_aload_n C d_M_make_0 0 rfl rfl ?_
  refine ze_getf (k := 39) C fl_M_55 (by decide) ze_E_m rfl d_M_make_1 ?_
  refine ze_bipush (v := nI 60) C d_M_make_4 (by decide) ?_
  refine ze_icmp_geN 29 C d_M_make_6 (by decide) (by omega) (by omega) (fun h6 => ?_) (fun h6 => ?_)
  · refine ze_aload_n C d_M_make_29 0 rfl rfl ?_
    refine ze_dup C d_M_make_30 rfl ?_
    refine ze_getf (k := 39) C fl_M_55 (by decide) ze_E_m rfl d_M_make_31 ?_
    refine ze_iconst (v := nI 1) C d_M_make_34 (by decide) ?_
    refine ze_iaddN C d_M_make_35 ?_
    refine ze_putf (k := 39) C fp_M_55 (by decide) ze_E_m rfl rfl (Nat.le_of_ble_eq_true rfl) d_M_make_36 ?_
    refine ze_eqE (ze_up_m (ms' := (M, mv, ty, ma + 1, co, le, Ar)) rfl rfl) ?_
    exact ze_vret C Rt d_M_make_39 (⟨rfl, rfl, _, rfl, rfl, Ar, rfl, ze_Mk_full hk (by omega), fun _ _ _ => rfl⟩)
  · refine ze_aload_n C d_M_make_9 0 rfl rfl ?_
    refine ze_getf (k := 39) C fl_M_25 (by decide) ze_E_m rfl d_M_make_10 ?_
    refine ze_aload_n C d_M_make_13 0 rfl rfl ?_
    refine ze_getf (k := 39) C fl_M_55 (by decide) ze_E_m rfl d_M_make_14 ?_
    refine ze_iload_n C d_M_make_17 1 rfl rfl ?_
    refine ze_iast (k := 40 + 5) (i := ma) C (by decide) (ze_E_a (j := 5)) (by show _ < 60; omega) (by decide) d_M_make_18 ?_
    refine ze_eqE (ze_up_a (j := 5)) ?_
    refine ze_genA (fun A1 eA1 => ?_)
    refine ze_aload_n C d_M_make_19 0 rfl rfl ?_
    refine ze_getf (k := 39) C fl_M_28 (by decide) ze_E_m rfl d_M_make_20 ?_
    refine ze_aload_n C d_M_make_23 0 rfl rfl ?_
    refine ze_getf (k := 39) C fl_M_55 (by decide) ze_E_m rfl d_M_make_24 ?_
    refine ze_iload_n C d_M_make_27 2 rfl rfl ?_
    refine ze_iast (k := 40 + 6) (i := ma) C (by decide) (ze_E_a (j := 6)) (by show _ < 60; omega) (by decide) d_M_make_28 ?_
    refine ze_eqE (ze_up_a (j := 6)) ?_
    refine ze_genA (fun A2 eA2 => ?_)
    refine ze_aload_n C d_M_make_29 0 rfl rfl ?_
    refine ze_dup C d_M_make_30 rfl ?_
    refine ze_getf (k := 39) C fl_M_55 (by decide) ze_E_m rfl d_M_make_31 ?_
    refine ze_iconst (v := nI 1) C d_M_make_34 (by decide) ?_
    refine ze_iaddN C d_M_make_35 ?_
    refine ze_putf (k := 39) C fp_M_55 (by decide) ze_E_m rfl rfl (Nat.le_of_ble_eq_true rfl) d_M_make_36 ?_
    refine ze_eqE (ze_up_m (ms' := (M, mv, ty, ma + 1, co, le, A2)) rfl rfl) ?_
    exact ze_vret C Rt d_M_make_39 (⟨rfl, rfl, _, rfl, rfl, A2, rfl, ze_Mk_snoc hk (by omega) (by rw [ze_ao eA2 5 (by decide), ze_au eA1]) (by rw [ze_au eA2, ze_ao eA1 6 (by decide)]), fun z z1 z2 => (ze_ao eA2 z z2).trans (ze_ao eA1 z z1)⟩)

set_option maxRecDepth 100000 in
set_option maxHeartbeats 4000000 in
theorem c_M_put (l : Launch) (D : va_G) (ids : Nat → ClassId) (ad : Nat → Nat) (x : ze_XS) (M : Nat) (mv : Int64) (ma co le : Nat) (Ar : Nat → Nat → Int32) (inp : List ze_Row) (sl : Nat → Option (List ze_Row)) (hR : ze_rA Ar inp sl) (hM : 3 ≤ M ∧ M ≤ 6) (k vv : Int32) : ze_MM l D ids ad x y_M_put ws_M_put 20 (M, mv, inp.length, ma, co, le, Ar) [.ref (ad 39), .int k, .int vv] (fun v ms' => v = some (.int (sp_put (inp, sl, mv, M) k vv).1) ∧ ze_rM ms' (sp_put (inp, sl, mv, M) k vv).2) := by
  refine ze_enter (cc := b_M_put) (maxL := 3) (ret := (some .boolean)) (by decide +kernel) rfl (Nat.le_of_ble_eq_true rfl) ?_
  rintro G rfl rfl rfl - C Rt
  refine ze_lv (lv' := [(0, .ref (ad 39)), (1, .int k), (2, .int vv)]) rfl ?_
  have hin := hR.1
  refine ze_aload_n C d_M_put_0 0 rfl rfl ?_
  refine ze_getf (k := 39) C fl_M_44 (by decide) ze_E_m rfl d_M_put_1 ?_
  refine ze_bipush (v := nI 60) C d_M_put_4 (by decide) ?_
  refine ze_icmp_neN 11 C d_M_put_6 (by decide) (by omega) (by omega) (fun h6 => ?_) (fun h6 => ?_)
  · refine ze_aload_n C d_M_put_11 0 rfl rfl ?_
    refine ze_getf (k := 39) C fl_M_7 (by decide) ze_E_m rfl d_M_put_12 ?_
    refine ze_aload_n C d_M_put_15 0 rfl rfl ?_
    refine ze_getf (k := 39) C fl_M_44 (by decide) ze_E_m rfl d_M_put_16 ?_
    refine ze_iload_n C d_M_put_19 1 rfl rfl ?_
    refine ze_iast (k := 40 + 0) (i := inp.length) C (by decide) (ze_E_a (j := 0)) (by show _ < 60; omega) (by decide) d_M_put_20 ?_
    refine ze_eqE (ze_up_a (j := 0)) ?_
    refine ze_genA (fun A1 eA1 => ?_)
    refine ze_aload_n C d_M_put_21 0 rfl rfl ?_
    refine ze_getf (k := 39) C fl_M_13 (by decide) ze_E_m rfl d_M_put_22 ?_
    refine ze_aload_n C d_M_put_25 0 rfl rfl ?_
    refine ze_getf (k := 39) C fl_M_44 (by decide) ze_E_m rfl d_M_put_26 ?_
    refine ze_iload_n C d_M_put_29 2 rfl rfl ?_
    refine ze_iast (k := 40 + 1) (i := inp.length) C (by decide) (ze_E_a (j := 1)) (by show _ < 60; omega) (by decide) d_M_put_30 ?_
    refine ze_eqE (ze_up_a (j := 1)) ?_
    refine ze_genA (fun A2 eA2 => ?_)
    refine ze_aload_n C d_M_put_31 0 rfl rfl ?_
    refine ze_dup C d_M_put_32 rfl ?_
    refine ze_getf (k := 39) C fl_M_44 (by decide) ze_E_m rfl d_M_put_33 ?_
    refine ze_iconst (v := nI 1) C d_M_put_36 (by decide) ?_
    refine ze_iaddN C d_M_put_37 ?_
    refine ze_putf (k := 39) C fp_M_44 (by decide) ze_E_m rfl rfl (Nat.le_of_ble_eq_true rfl) d_M_put_38 ?_
    refine ze_eqE (ze_up_m (ms' := (M, mv, inp.length + 1, ma, co, le, A2)) rfl rfl) ?_
    refine ze_iconst (v := nI 1) C d_M_put_41 (by decide) ?_
    exact ze_zret C Rt (by decide) d_M_put_42 (⟨rfl, rfl, _, rfl, by rw [sp_put, if_neg h6]; rfl, by rw [sp_put, if_neg h6]; exact ⟨ma, co, le, A2, by simp, ze_rA_in hR (by simp; omega) (by rw [ze_ao eA2 0 (by decide), ze_au eA1, ze_au eA2, ze_ao eA1 1 (by decide)]; have h7 := ze_Hl_snoc (r := (k, vv)) hR.2.1; rw [Nat.zero_add] at h7; exact h7) (fun z z1 z2 => (ze_ao eA2 z z2).trans (ze_ao eA1 z z1)), hM.1, hM.2⟩⟩)
  · refine ze_iconst (v := nI 0) C d_M_put_9 (by decide) ?_
    exact ze_zret C Rt (by decide) d_M_put_10 (⟨rfl, rfl, _, rfl, by rw [sp_put, if_pos h6]; rfl, by rw [sp_put, if_pos h6]; exact ⟨ma, co, le, Ar, rfl, hR, hM.1, hM.2⟩⟩)

set_option maxRecDepth 100000 in
set_option maxHeartbeats 4000000 in
theorem c_M_transfers (l : Launch) (D : va_G) (ids : Nat → ClassId) (ad : Nat → Nat) (x : ze_XS) (M : Nat) (mv : Int64) (ma co le : Nat) (Ar : Nat → Nat → Int32) (inp : List ze_Row) (sl : Nat → Option (List ze_Row)) (hR : ze_rA Ar inp sl) (hM : 3 ≤ M ∧ M ≤ 6)  : ze_MM l D ids ad x y_M_transfers ws_M_transfers 20 (M, mv, inp.length, ma, co, le, Ar) [.ref (ad 39)] (fun v ms' => v = some (.long mv) ∧ ze_rM ms' (inp, sl, mv, M)) := by
  refine ze_enter (cc := b_M_transfers) (maxL := 1) (ret := (some .long)) (by decide +kernel) rfl (Nat.le_of_ble_eq_true rfl) ?_
  rintro G rfl rfl rfl - C Rt
  refine ze_lv (lv' := [(0, .ref (ad 39))]) rfl ?_
  have hin := hR.1
  refine ze_aload_n C d_M_transfers_0 0 rfl rfl ?_
  refine ze_getf (k := 39) C fl_M_51 (by decide) ze_E_m rfl d_M_transfers_1 ?_
  exact ze_lret C Rt d_M_transfers_4 (⟨rfl, rfl, _, rfl, rfl, ⟨ma, co, le, Ar, rfl, hR, hM.1, hM.2⟩⟩)

set_option maxRecDepth 100000 in
set_option maxHeartbeats 4000000 in
theorem c_M_drop (l : Launch) (D : va_G) (ids : Nat → ClassId) (ad : Nat → Nat) (x : ze_XS) (M : Nat) (mv : Int64) (ma co le : Nat) (Ar : Nat → Nat → Int32) (inp : List ze_Row) (sl : Nat → Option (List ze_Row)) (hR : ze_rA Ar inp sl) (hM : 3 ≤ M ∧ M ≤ 6) (s : Int32) : ze_MM l D ids ad x y_M_drop ws_M_drop 20 (M, mv, inp.length, ma, co, le, Ar) [.ref (ad 39), .int s] (fun v ms' => v = some (.int (sp_drop (inp, sl, mv, M) s).1) ∧ ze_rM ms' (sp_drop (inp, sl, mv, M) s).2) := by
  refine ze_enter (cc := b_M_drop) (maxL := 3) (ret := (some .int)) (by decide +kernel) rfl (Nat.le_of_ble_eq_true rfl) ?_
  rintro G rfl rfl rfl - C Rt
  refine ze_lv (lv' := [(0, .ref (ad 39)), (1, .int s)]) rfl ?_
  have hin := hR.1
  refine ze_iload_n C d_M_drop_0 1 rfl rfl ?_
  refine ze_callS (st := []) C (c_M_slot (ze_l G) (ze_D G) (ze_i G) _ _ _ s) (ks_M_47 (ze_rml (by decide) (by decide))) rfl (Nat.le_of_ble_eq_true rfl) ⟨Nat.le_of_ble_eq_true rfl, Nat.le_of_ble_eq_true rfl⟩ d_M_drop_1 ?_
  rintro _ _ _ _ ⟨rfl, rfl, rfl, rfl⟩
  refine ze_norm (c2 := 0) (s2 := 0) (st' := [.int (ze_bi (ze_isS s))]) rfl rfl rfl ?_
  refine ze_if_ne 9 C d_M_drop_4 (by decide) (fun h4 => ?_) (fun h4 => ?_)
  · obtain ⟨j, hj, rfl⟩ := ze_isS_nI (ze_bi1 h4)
    have hnj := ze_n_nI (j := j) (by omega)
    refine ze_aload_n C d_M_drop_9 0 rfl rfl ?_
    refine ze_getf (k := 39) C fl_M_16 (by decide) ze_E_m rfl d_M_drop_10 ?_
    refine ze_iload_n C d_M_drop_13 1 rfl rfl ?_
    refine ze_iald (k := 40 + 2) (i := j) C (by decide) (ze_E_a (j := 2)) (by show _ < 8; omega) (by decide) d_M_drop_14 ?_
    refine ze_if_ge 21 C d_M_drop_15 (by decide) (fun h15 => ?_) (fun h15 => ?_)
    · obtain ⟨L, hL, hL1, hL2, -⟩ := ze_rA_pos hR hj (Int32.not_lt.mpr h15)
      have hsp : sp_drop (inp, sl, mv, M) (nI j) = (nI L.length, (inp, va_up sl j none, mv, M)) := by rw [sp_drop, if_neg (by rw [ze_isS_j hj]; decide)]; simp only [hnj, hL]
      refine ze_aload_n C d_M_drop_21 0 rfl rfl ?_
      refine ze_getf (k := 39) C fl_M_16 (by decide) ze_E_m rfl d_M_drop_22 ?_
      refine ze_iload_n C d_M_drop_25 1 rfl rfl ?_
      refine ze_iald (k := 40 + 2) (i := j) C (by decide) (ze_E_a (j := 2)) (by show _ < 8; omega) (by decide) d_M_drop_26 ?_
      refine ze_istore_n (lv' := [(2, .int (Ar 2 j)), (0, .ref (ad 39)), (1, .int (nI j))]) C d_M_drop_27 rfl (by decide) rfl ?_
      refine ze_aload_n C d_M_drop_28 1 rfl rfl ?_
      refine ze_getf (k := 39) C fl_M_16 (by decide) ze_E_m rfl d_M_drop_29 ?_
      refine ze_iload_n C d_M_drop_32 2 rfl rfl ?_
      refine ze_iconst (v := -1) C d_M_drop_33 (by decide) ?_
      refine ze_iast (k := 40 + 2) (i := j) C (by decide) (ze_E_a (j := 2)) (by show _ < 8; omega) (by decide) d_M_drop_34 ?_
      refine ze_eqE (ze_up_a (j := 2)) ?_
      refine ze_genA (fun A1 eA1 => ?_)
      refine ze_iload_n C d_M_drop_35 0 rfl rfl ?_
      exact ze_iret C Rt d_M_drop_36 (⟨rfl, rfl, _, rfl, by rw [hsp, hL2], by rw [hsp]; exact ⟨ma, co, le, A1, rfl, ze_rA_drop hR eA1, hM.1, hM.2⟩⟩)
    · have hoff := ze_rA_neg hR hj (Int32.not_le.mp h15)
      have hsp : sp_drop (inp, sl, mv, M) (nI j) = (-2, (inp, sl, mv, M)) := by rw [sp_drop, if_neg (by rw [ze_isS_j hj]; decide)]; simp only [hnj, hoff]
      refine ze_bipush (v := -2) C d_M_drop_18 (by decide) ?_
      exact ze_iret C Rt d_M_drop_20 (⟨rfl, rfl, _, rfl, by rw [hsp], by rw [hsp]; exact ⟨ma, co, le, Ar, rfl, hR, hM.1, hM.2⟩⟩)
  · refine ze_iconst (v := -1) C d_M_drop_7 (by decide) ?_
    exact ze_iret C Rt d_M_drop_8 (⟨rfl, rfl, _, rfl, by rw [sp_drop, if_pos (ze_bi0.mp h4)], by rw [sp_drop, if_pos (ze_bi0.mp h4)]; exact ⟨ma, co, le, Ar, rfl, hR, hM.1, hM.2⟩⟩)

theorem ze_rows_A {Ar : Nat → Nat → Int32} {inp : List ze_Row} {sl : Nat → Option (List ze_Row)} {mv : Int64} {M j : Nat} (hR : ze_rA Ar inp sl) (hj : j < 8) : sp_rows (inp, sl, mv, M) (nI j) = Ar 2 j := by
  rw [sp_rows, if_neg (by rw [ze_isS_j hj]; decide)]
  simp only [ze_n_nI (Nat.lt_trans hj (by decide : 8 < 2 ^ 31))]
  cases e : sl j with
  | none => exact (hR.2.2.1 j hj e).symm
  | some L => exact (hR.2.2.2 j hj L e).2.1.symm

set_option maxRecDepth 100000 in
set_option maxHeartbeats 4000000 in
theorem c_M_rows (l : Launch) (D : va_G) (ids : Nat → ClassId) (ad : Nat → Nat) (x : ze_XS) (M : Nat) (mv : Int64) (ma co le : Nat) (Ar : Nat → Nat → Int32) (inp : List ze_Row) (sl : Nat → Option (List ze_Row)) (hR : ze_rA Ar inp sl) (hM : 3 ≤ M ∧ M ≤ 6) (s : Int32) : ze_MM l D ids ad x y_M_rows ws_M_rows 20 (M, mv, inp.length, ma, co, le, Ar) [.ref (ad 39), .int s] (fun v ms' => v = some (.int (sp_rows (inp, sl, mv, M) s)) ∧ ze_rM ms' (inp, sl, mv, M)) := by
  refine ze_enter (cc := b_M_rows) (maxL := 2) (ret := (some .int)) (by decide +kernel) rfl (Nat.le_of_ble_eq_true rfl) ?_
  rintro G rfl rfl rfl - C Rt
  refine ze_lv (lv' := [(0, .ref (ad 39)), (1, .int s)]) rfl ?_
  have hin := hR.1
  refine ze_iload_n C d_M_rows_0 1 rfl rfl ?_
  refine ze_callS (st := []) C (c_M_slot (ze_l G) (ze_D G) (ze_i G) _ _ _ s) (ks_M_47 (ze_rml (by decide) (by decide))) rfl (Nat.le_of_ble_eq_true rfl) ⟨Nat.le_of_ble_eq_true rfl, Nat.le_of_ble_eq_true rfl⟩ d_M_rows_1 ?_
  rintro _ _ _ _ ⟨rfl, rfl, rfl, rfl⟩
  refine ze_norm (c2 := 0) (s2 := 0) (st' := [.int (ze_bi (ze_isS s))]) rfl rfl rfl ?_
  refine ze_if_eq 16 C d_M_rows_4 (by decide) (fun h4 => ?_) (fun h4 => ?_)
  · refine ze_iconst (v := -1) C d_M_rows_16 (by decide) ?_
    exact ze_iret C Rt d_M_rows_17 (⟨rfl, rfl, _, rfl, by rw [sp_rows, if_pos (ze_bi0.mp h4)], ⟨ma, co, le, Ar, rfl, hR, hM.1, hM.2⟩⟩)
  · obtain ⟨j, hj, rfl⟩ := ze_isS_nI (ze_bi1 h4)
    refine ze_aload_n C d_M_rows_7 0 rfl rfl ?_
    refine ze_getf (k := 39) C fl_M_16 (by decide) ze_E_m rfl d_M_rows_8 ?_
    refine ze_iload_n C d_M_rows_11 1 rfl rfl ?_
    refine ze_iald (k := 40 + 2) (i := j) C (by decide) (ze_E_a (j := 2)) (by show _ < 8; omega) (by decide) d_M_rows_12 ?_
    refine ze_goto 17 C d_M_rows_13 (by decide) ?_
    exact ze_iret C Rt d_M_rows_17 (⟨rfl, rfl, _, rfl, by rw [ze_rows_A hR hj], ⟨ma, co, le, Ar, rfl, hR, hM.1, hM.2⟩⟩)

theorem ze_at_A {f : ze_Row → Int32} {Ar : Nat → Nat → Int32} {inp : List ze_Row} {sl : Nat → Option (List ze_Row)} {mv : Int64} {M j : Nat} {p : Int32} (hR : ze_rA Ar inp sl) (hj : j < 8) : (p < 0 → sp_at f (inp, sl, mv, M) (nI j) p = 0) ∧ (Ar 2 j ≤ p → ¬ p < 0 → sp_at f (inp, sl, mv, M) (nI j) p = 0) ∧ (¬ p < 0 → ¬ Ar 2 j ≤ p → ∃ q, q < 60 ∧ p = nI q ∧ sp_at f (inp, sl, mv, M) (nI j) p = f (Ar 3 (60 * j + q), Ar 4 (60 * j + q))) := by
  have hz : (0 : Int32).toInt = 0 := rfl
  unfold sp_at
  rw [if_neg (by rw [ze_isS_j hj]; decide)]
  simp only [ze_n_nI (Nat.lt_trans hj (by decide : 8 < 2 ^ 31))]
  cases e : sl j with
  | none =>
    refine ⟨fun _ => rfl, fun _ _ => rfl, fun h1 h2 => ?_⟩
    rw [hR.2.2.1 j hj e] at h2
    rw [Int32.lt_iff_toInt_lt, hz] at h1
    rw [Int32.le_iff_toInt_le, show (-1 : Int32).toInt = -1 from rfl] at h2
    omega
  | some L =>
    obtain ⟨l1, l2, l3⟩ := hR.2.2.2 j hj L e
    rw [l2]
    simp only
    refine ⟨fun h => ?_, fun h h0 => ?_, fun h0 h => ?_⟩
    · rw [Int32.lt_iff_toInt_lt, hz] at h
      rw [if_pos h]
    · rw [Int32.lt_iff_toInt_lt, hz] at h0
      rw [Int32.le_iff_toInt_le, nI_toInt (by omega)] at h
      rw [if_neg h0, List.getElem?_eq_none (by omega)]
    · obtain ⟨q, hq, rfl⟩ := nI_of h0
      rw [nI_leI (by omega) hq] at h
      refine ⟨q, by omega, rfl, ?_⟩
      rw [nI_toInt hq, if_neg (by omega), Int.toNat_natCast, ze_Hl_row l3 (by omega)]

set_option maxRecDepth 100000 in
set_option maxHeartbeats 4000000 in
theorem c_M_key (l : Launch) (D : va_G) (ids : Nat → ClassId) (ad : Nat → Nat) (x : ze_XS) (M : Nat) (mv : Int64) (ma co le : Nat) (Ar : Nat → Nat → Int32) (inp : List ze_Row) (sl : Nat → Option (List ze_Row)) (hR : ze_rA Ar inp sl) (hM : 3 ≤ M ∧ M ≤ 6) (s p : Int32) : ze_MM l D ids ad x y_M_key ws_M_key 20 (M, mv, inp.length, ma, co, le, Ar) [.ref (ad 39), .int s, .int p] (fun v ms' => v = some (.int (sp_at (fun r => r.1) (inp, sl, mv, M) s p)) ∧ ze_rM ms' (inp, sl, mv, M)) := by
  refine ze_enter (cc := b_M_key) (maxL := 3) (ret := (some .int)) (by decide +kernel) rfl (Nat.le_of_ble_eq_true rfl) ?_
  rintro G rfl rfl rfl - C Rt
  refine ze_lv (lv' := [(0, .ref (ad 39)), (1, .int s), (2, .int p)]) rfl ?_
  have hin := hR.1
  refine ze_iload_n C d_M_key_0 1 rfl rfl ?_
  refine ze_callS (st := []) C (c_M_slot (ze_l G) (ze_D G) (ze_i G) _ _ _ s) (ks_M_47 (ze_rml (by decide) (by decide))) rfl (Nat.le_of_ble_eq_true rfl) ⟨Nat.le_of_ble_eq_true rfl, Nat.le_of_ble_eq_true rfl⟩ d_M_key_1 ?_
  rintro _ _ _ _ ⟨rfl, rfl, rfl, rfl⟩
  refine ze_norm (c2 := 0) (s2 := 0) (st' := [.int (ze_bi (ze_isS s))]) rfl rfl rfl ?_
  refine ze_if_eq 35 C d_M_key_4 (by decide) (fun h4 => ?_) (fun h4 => ?_)
  · refine ze_iconst (v := nI 0) C d_M_key_35 (by decide) ?_
    exact ze_iret C Rt d_M_key_36 (⟨rfl, rfl, _, rfl, by rw [sp_at, if_pos (ze_bi0.mp h4)]; rfl, ⟨ma, co, le, Ar, rfl, hR, hM.1, hM.2⟩⟩)
  · obtain ⟨j, hj, rfl⟩ := ze_isS_nI (ze_bi1 h4)
    refine ze_iload_n C d_M_key_7 2 rfl rfl ?_
    refine ze_if_lt 35 C d_M_key_8 (by decide) (fun h8 => ?_) (fun h8 => ?_)
    · refine ze_iconst (v := nI 0) C d_M_key_35 (by decide) ?_
      exact ze_iret C Rt d_M_key_36 (⟨rfl, rfl, _, rfl, by rw [(ze_at_A (f := fun r => r.1) (mv := mv) (M := M) (p := p) hR hj).1 h8]; rfl, ⟨ma, co, le, Ar, rfl, hR, hM.1, hM.2⟩⟩)
    · refine ze_iload_n C d_M_key_11 2 rfl rfl ?_
      refine ze_aload_n C d_M_key_12 0 rfl rfl ?_
      refine ze_getf (k := 39) C fl_M_16 (by decide) ze_E_m rfl d_M_key_13 ?_
      refine ze_iload_n C d_M_key_16 1 rfl rfl ?_
      refine ze_iald (k := 40 + 2) (i := j) C (by decide) (ze_E_a (j := 2)) (by show _ < 8; omega) (by decide) d_M_key_17 ?_
      refine ze_icmp_ge 35 C d_M_key_18 (by decide) (fun h18 => ?_) (fun h18 => ?_)
      · refine ze_iconst (v := nI 0) C d_M_key_35 (by decide) ?_
        exact ze_iret C Rt d_M_key_36 (⟨rfl, rfl, _, rfl, by rw [(ze_at_A (f := fun r => r.1) (mv := mv) (M := M) (p := p) hR hj).2.1 h18 h8]; rfl, ⟨ma, co, le, Ar, rfl, hR, hM.1, hM.2⟩⟩)
      · obtain ⟨q, hq, rfl, hsp⟩ := (ze_at_A (f := fun r => r.1) (mv := mv) (M := M) (p := p) hR hj).2.2 h8 h18
        refine ze_aload_n C d_M_key_21 0 rfl rfl ?_
        refine ze_getf (k := 39) C fl_M_19 (by decide) ze_E_m rfl d_M_key_22 ?_
        refine ze_bipush (v := nI 60) C d_M_key_25 (by decide) ?_
        refine ze_iload_n C d_M_key_27 1 rfl rfl ?_
        refine ze_imulN C d_M_key_28 ?_
        refine ze_iload_n C d_M_key_29 2 rfl rfl ?_
        refine ze_iaddN C d_M_key_30 ?_
        refine ze_iald (k := 40 + 3) (i := 60 * j + q) C (by decide) (ze_E_a (j := 3)) (by show _ < 480; omega) (by decide) d_M_key_31 ?_
        refine ze_goto 36 C d_M_key_32 (by decide) ?_
        exact ze_iret C Rt d_M_key_36 (⟨rfl, rfl, _, rfl, by rw [hsp], ⟨ma, co, le, Ar, rfl, hR, hM.1, hM.2⟩⟩)

set_option maxRecDepth 100000 in
set_option maxHeartbeats 4000000 in
theorem c_M_value (l : Launch) (D : va_G) (ids : Nat → ClassId) (ad : Nat → Nat) (x : ze_XS) (M : Nat) (mv : Int64) (ma co le : Nat) (Ar : Nat → Nat → Int32) (inp : List ze_Row) (sl : Nat → Option (List ze_Row)) (hR : ze_rA Ar inp sl) (hM : 3 ≤ M ∧ M ≤ 6) (s p : Int32) : ze_MM l D ids ad x y_M_value ws_M_value 20 (M, mv, inp.length, ma, co, le, Ar) [.ref (ad 39), .int s, .int p] (fun v ms' => v = some (.int (sp_at (fun r => r.2) (inp, sl, mv, M) s p)) ∧ ze_rM ms' (inp, sl, mv, M)) := by
  refine ze_enter (cc := b_M_value) (maxL := 3) (ret := (some .int)) (by decide +kernel) rfl (Nat.le_of_ble_eq_true rfl) ?_
  rintro G rfl rfl rfl - C Rt
  refine ze_lv (lv' := [(0, .ref (ad 39)), (1, .int s), (2, .int p)]) rfl ?_
  have hin := hR.1
  refine ze_iload_n C d_M_value_0 1 rfl rfl ?_
  refine ze_callS (st := []) C (c_M_slot (ze_l G) (ze_D G) (ze_i G) _ _ _ s) (ks_M_47 (ze_rml (by decide) (by decide))) rfl (Nat.le_of_ble_eq_true rfl) ⟨Nat.le_of_ble_eq_true rfl, Nat.le_of_ble_eq_true rfl⟩ d_M_value_1 ?_
  rintro _ _ _ _ ⟨rfl, rfl, rfl, rfl⟩
  refine ze_norm (c2 := 0) (s2 := 0) (st' := [.int (ze_bi (ze_isS s))]) rfl rfl rfl ?_
  refine ze_if_eq 35 C d_M_value_4 (by decide) (fun h4 => ?_) (fun h4 => ?_)
  · refine ze_iconst (v := nI 0) C d_M_value_35 (by decide) ?_
    exact ze_iret C Rt d_M_value_36 (⟨rfl, rfl, _, rfl, by rw [sp_at, if_pos (ze_bi0.mp h4)]; rfl, ⟨ma, co, le, Ar, rfl, hR, hM.1, hM.2⟩⟩)
  · obtain ⟨j, hj, rfl⟩ := ze_isS_nI (ze_bi1 h4)
    refine ze_iload_n C d_M_value_7 2 rfl rfl ?_
    refine ze_if_lt 35 C d_M_value_8 (by decide) (fun h8 => ?_) (fun h8 => ?_)
    · refine ze_iconst (v := nI 0) C d_M_value_35 (by decide) ?_
      exact ze_iret C Rt d_M_value_36 (⟨rfl, rfl, _, rfl, by rw [(ze_at_A (f := fun r => r.2) (mv := mv) (M := M) (p := p) hR hj).1 h8]; rfl, ⟨ma, co, le, Ar, rfl, hR, hM.1, hM.2⟩⟩)
    · refine ze_iload_n C d_M_value_11 2 rfl rfl ?_
      refine ze_aload_n C d_M_value_12 0 rfl rfl ?_
      refine ze_getf (k := 39) C fl_M_16 (by decide) ze_E_m rfl d_M_value_13 ?_
      refine ze_iload_n C d_M_value_16 1 rfl rfl ?_
      refine ze_iald (k := 40 + 2) (i := j) C (by decide) (ze_E_a (j := 2)) (by show _ < 8; omega) (by decide) d_M_value_17 ?_
      refine ze_icmp_ge 35 C d_M_value_18 (by decide) (fun h18 => ?_) (fun h18 => ?_)
      · refine ze_iconst (v := nI 0) C d_M_value_35 (by decide) ?_
        exact ze_iret C Rt d_M_value_36 (⟨rfl, rfl, _, rfl, by rw [(ze_at_A (f := fun r => r.2) (mv := mv) (M := M) (p := p) hR hj).2.1 h18 h8]; rfl, ⟨ma, co, le, Ar, rfl, hR, hM.1, hM.2⟩⟩)
      · obtain ⟨q, hq, rfl, hsp⟩ := (ze_at_A (f := fun r => r.2) (mv := mv) (M := M) (p := p) hR hj).2.2 h8 h18
        refine ze_aload_n C d_M_value_21 0 rfl rfl ?_
        refine ze_getf (k := 39) C fl_M_22 (by decide) ze_E_m rfl d_M_value_22 ?_
        refine ze_bipush (v := nI 60) C d_M_value_25 (by decide) ?_
        refine ze_iload_n C d_M_value_27 1 rfl rfl ?_
        refine ze_imulN C d_M_value_28 ?_
        refine ze_iload_n C d_M_value_29 2 rfl rfl ?_
        refine ze_iaddN C d_M_value_30 ?_
        refine ze_iald (k := 40 + 4) (i := 60 * j + q) C (by decide) (ze_E_a (j := 4)) (by show _ < 480; omega) (by decide) d_M_value_31 ?_
        refine ze_goto 36 C d_M_value_32 (by decide) ?_
        exact ze_iret C Rt d_M_value_36 (⟨rfl, rfl, _, rfl, by rw [hsp], ⟨ma, co, le, Ar, rfl, hR, hM.1, hM.2⟩⟩)
end
