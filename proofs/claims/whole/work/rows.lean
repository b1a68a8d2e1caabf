section
-- ===== PART A: goes FIRST, ahead of the names: the tables' words, and 'selects' of the private methods out of them =====
/-- a private method of a class that the tables say can be made, by its rows of tables_1 -/
def lw_okq (q : MethodName × Nat) : Prop := (q.1.cls ≠ "java/lang/invoke/MethodHandle" ∧ q.1.cls ≠ "java/lang/invoke/VarHandle") ∧ Cond.instantiable q.1.cls q.2 ∈ tables_1 ∧ Cond.privateMethod q.1 ∈ tables_1 ∧ Cond.instanceMethod q.1 ∈ tables_1
theorem lw_p0 : lw_okq (⟨"BlockExecutor", "finish", "(IJ)I"⟩, 8) := ⟨⟨by decide +kernel, by decide +kernel⟩, List.mem_of_getElem? (i := 8) (by decide +kernel), List.mem_of_getElem? (i := 105) (by decide +kernel), List.mem_of_getElem? (i := 106) (by decide +kernel)⟩
theorem lw_p1 : lw_okq (⟨"BlockExecutor", "holdsTable", "(I)Z"⟩, 8) := ⟨⟨by decide +kernel, by decide +kernel⟩, List.mem_of_getElem? (i := 8) (by decide +kernel), List.mem_of_getElem? (i := 117) (by decide +kernel), List.mem_of_getElem? (i := 118) (by decide +kernel)⟩
theorem lw_p2 : lw_okq (⟨"BlockExecutor", "holdsRow", "(II)Z"⟩, 8) := ⟨⟨by decide +kernel, by decide +kernel⟩, List.mem_of_getElem? (i := 8) (by decide +kernel), List.mem_of_getElem? (i := 125) (by decide +kernel), List.mem_of_getElem? (i := 126) (by decide +kernel)⟩
theorem lw_p3 : lw_okq (⟨"BlockExecutor", "refusalOf", "(III)I"⟩, 8) := ⟨⟨by decide +kernel, by decide +kernel⟩, List.mem_of_getElem? (i := 8) (by decide +kernel), List.mem_of_getElem? (i := 137) (by decide +kernel), List.mem_of_getElem? (i := 138) (by decide +kernel)⟩
theorem lw_p4 : lw_okq (⟨"BlockExecutor", "sortCost", "(I)J"⟩, 8) := ⟨⟨by decide +kernel, by decide +kernel⟩, List.mem_of_getElem? (i := 8) (by decide +kernel), List.mem_of_getElem? (i := 151) (by decide +kernel), List.mem_of_getElem? (i := 152) (by decide +kernel)⟩
theorem lw_p5 : lw_okq (⟨"BlockExecutor", "groupOneRound", "(LBlockExecutor$Table;LBlockExecutor$Table;)V"⟩, 8) := ⟨⟨by decide +kernel, by decide +kernel⟩, List.mem_of_getElem? (i := 8) (by decide +kernel), List.mem_of_getElem? (i := 172) (by decide +kernel), List.mem_of_getElem? (i := 173) (by decide +kernel)⟩
theorem lw_p6 : lw_okq (⟨"BlockExecutor", "rowsInMemory", "()I"⟩, 8) := ⟨⟨by decide +kernel, by decide +kernel⟩, List.mem_of_getElem? (i := 8) (by decide +kernel), List.mem_of_getElem? (i := 180) (by decide +kernel), List.mem_of_getElem? (i := 181) (by decide +kernel)⟩
theorem lw_p7 : lw_okq (⟨"BlockExecutor", "mergeBags", "(ILBlockExecutor$Table;)V"⟩, 8) := ⟨⟨by decide +kernel, by decide +kernel⟩, List.mem_of_getElem? (i := 8) (by decide +kernel), List.mem_of_getElem? (i := 188) (by decide +kernel), List.mem_of_getElem? (i := 189) (by decide +kernel)⟩
theorem lw_p8 : lw_okq (⟨"BlockExecutor", "isNextFromA", "(II)Z"⟩, 8) := ⟨⟨by decide +kernel, by decide +kernel⟩, List.mem_of_getElem? (i := 8) (by decide +kernel), List.mem_of_getElem? (i := 192) (by decide +kernel), List.mem_of_getElem? (i := 193) (by decide +kernel)⟩
theorem lw_p9 : lw_okq (⟨"BlockExecutor", "joinRanges", "(IIIIILBlockExecutor$Table;)J"⟩, 8) := ⟨⟨by decide +kernel, by decide +kernel⟩, List.mem_of_getElem? (i := 8) (by decide +kernel), List.mem_of_getElem? (i := 208) (by decide +kernel), List.mem_of_getElem? (i := 209) (by decide +kernel)⟩
theorem lw_p10 : lw_okq (⟨"BlockExecutor", "joinByChunks", "(IIIILBlockExecutor$Table;)J"⟩, 8) := ⟨⟨by decide +kernel, by decide +kernel⟩, List.mem_of_getElem? (i := 8) (by decide +kernel), List.mem_of_getElem? (i := 212) (by decide +kernel), List.mem_of_getElem? (i := 213) (by decide +kernel)⟩
theorem lw_p11 : lw_okq (⟨"BlockExecutor", "joinWithChunk", "(IIIILBlockExecutor$Table;)V"⟩, 8) := ⟨⟨by decide +kernel, by decide +kernel⟩, List.mem_of_getElem? (i := 8) (by decide +kernel), List.mem_of_getElem? (i := 216) (by decide +kernel), List.mem_of_getElem? (i := 217) (by decide +kernel)⟩
theorem lw_p12 : lw_okq (⟨"BlockExecutor", "partition", "(LBlockExecutor$Table;[IIII)V"⟩, 8) := ⟨⟨by decide +kernel, by decide +kernel⟩, List.mem_of_getElem? (i := 8) (by decide +kernel), List.mem_of_getElem? (i := 220) (by decide +kernel), List.mem_of_getElem? (i := 221) (by decide +kernel)⟩
theorem lw_p13 : lw_okq (⟨"BlockExecutor", "digitOf", "(II)I"⟩, 8) := ⟨⟨by decide +kernel, by decide +kernel⟩, List.mem_of_getElem? (i := 8) (by decide +kernel), List.mem_of_getElem? (i := 224) (by decide +kernel), List.mem_of_getElem? (i := 225) (by decide +kernel)⟩
theorem lw_p14 : lw_okq (⟨"BlockExecutor", "endOfPart", "([IIIII)I"⟩, 8) := ⟨⟨by decide +kernel, by decide +kernel⟩, List.mem_of_getElem? (i := 8) (by decide +kernel), List.mem_of_getElem? (i := 232) (by decide +kernel), List.mem_of_getElem? (i := 233) (by decide +kernel)⟩
theorem lw_p15 : lw_okq (⟨"BlockExecutorModel", "refuse", "(ZIII)I"⟩, 14) := ⟨⟨by decide +kernel, by decide +kernel⟩, List.mem_of_getElem? (i := 247) (by decide +kernel), List.mem_of_getElem? (i := 330) (by decide +kernel), List.mem_of_getElem? (i := 331) (by decide +kernel)⟩
def lw_privs_1 : List (MethodName × Nat) := [(⟨"BlockExecutor", "finish", "(IJ)I"⟩, 8), (⟨"BlockExecutor", "holdsTable", "(I)Z"⟩, 8), (⟨"BlockExecutor", "holdsRow", "(II)Z"⟩, 8), (⟨"BlockExecutor", "refusalOf", "(III)I"⟩, 8), (⟨"BlockExecutor", "sortCost", "(I)J"⟩, 8), (⟨"BlockExecutor", "groupOneRound", "(LBlockExecutor$Table;LBlockExecutor$Table;)V"⟩, 8), (⟨"BlockExecutor", "rowsInMemory", "()I"⟩, 8), (⟨"BlockExecutor", "mergeBags", "(ILBlockExecutor$Table;)V"⟩, 8), (⟨"BlockExecutor", "isNextFromA", "(II)Z"⟩, 8), (⟨"BlockExecutor", "joinRanges", "(IIIIILBlockExecutor$Table;)J"⟩, 8), (⟨"BlockExecutor", "joinByChunks", "(IIIILBlockExecutor$Table;)J"⟩, 8), (⟨"BlockExecutor", "joinWithChunk", "(IIIILBlockExecutor$Table;)V"⟩, 8), (⟨"BlockExecutor", "partition", "(LBlockExecutor$Table;[IIII)V"⟩, 8), (⟨"BlockExecutor", "digitOf", "(II)I"⟩, 8), (⟨"BlockExecutor", "endOfPart", "([IIIII)I"⟩, 8), (⟨"BlockExecutorModel", "refuse", "(ZIII)I"⟩, 14)]
theorem lw_r1 : ∀ q ∈ lw_privs_1, lw_okq q := List.forall_mem_cons.mpr ⟨lw_p0, List.forall_mem_cons.mpr ⟨lw_p1, List.forall_mem_cons.mpr ⟨lw_p2, List.forall_mem_cons.mpr ⟨lw_p3, List.forall_mem_cons.mpr ⟨lw_p4, List.forall_mem_cons.mpr ⟨lw_p5, List.forall_mem_cons.mpr ⟨lw_p6, List.forall_mem_cons.mpr ⟨lw_p7, List.forall_mem_cons.mpr ⟨lw_p8, List.forall_mem_cons.mpr ⟨lw_p9, List.forall_mem_cons.mpr ⟨lw_p10, List.forall_mem_cons.mpr ⟨lw_p11, List.forall_mem_cons.mpr ⟨lw_p12, List.forall_mem_cons.mpr ⟨lw_p13, List.forall_mem_cons.mpr ⟨lw_p14, List.forall_mem_cons.mpr ⟨lw_p15, fun _ h => absurd h List.not_mem_nil⟩⟩⟩⟩⟩⟩⟩⟩⟩⟩⟩⟩⟩⟩⟩⟩
theorem lw_p16 : lw_okq (⟨"BlockExecutorModel", "before", "(IIII)Z"⟩, 14) := ⟨⟨by decide +kernel, by decide +kernel⟩, List.mem_of_getElem? (i := 247) (by decide +kernel), List.mem_of_getElem? (i := 334) (by decide +kernel), List.mem_of_getElem? (i := 335) (by decide +kernel)⟩
theorem lw_p17 : lw_okq (⟨"BlockExecutorModel", "sortCost", "(I)J"⟩, 14) := ⟨⟨by decide +kernel, by decide +kernel⟩, List.mem_of_getElem? (i := 247) (by decide +kernel), List.mem_of_getElem? (i := 341) (by decide +kernel), List.mem_of_getElem? (i := 342) (by decide +kernel)⟩
theorem lw_p18 : lw_okq (⟨"BlockExecutorModel", "finish", "(I)I"⟩, 14) := ⟨⟨by decide +kernel, by decide +kernel⟩, List.mem_of_getElem? (i := 247) (by decide +kernel), List.mem_of_getElem? (i := 346) (by decide +kernel), List.mem_of_getElem? (i := 347) (by decide +kernel)⟩
theorem lw_p19 : lw_okq (⟨"BlockExecutorModel", "make", "(II)V"⟩, 14) := ⟨⟨by decide +kernel, by decide +kernel⟩, List.mem_of_getElem? (i := 247) (by decide +kernel), List.mem_of_getElem? (i := 354) (by decide +kernel), List.mem_of_getElem? (i := 355) (by decide +kernel)⟩
theorem lw_p20 : lw_okq (⟨"BlockExecutorModel", "next", "(III)I"⟩, 14) := ⟨⟨by decide +kernel, by decide +kernel⟩, List.mem_of_getElem? (i := 247) (by decide +kernel), List.mem_of_getElem? (i := 362) (by decide +kernel), List.mem_of_getElem? (i := 363) (by decide +kernel)⟩
theorem lw_p21 : lw_okq (⟨"BlockExecutorModel", "times", "(III)I"⟩, 14) := ⟨⟨by decide +kernel, by decide +kernel⟩, List.mem_of_getElem? (i := 247) (by decide +kernel), List.mem_of_getElem? (i := 370) (by decide +kernel), List.mem_of_getElem? (i := 371) (by decide +kernel)⟩
theorem lw_p22 : lw_okq (⟨"BlockExecutorModel", "rank", "(II)I"⟩, 14) := ⟨⟨by decide +kernel, by decide +kernel⟩, List.mem_of_getElem? (i := 247) (by decide +kernel), List.mem_of_getElem? (i := 378) (by decide +kernel), List.mem_of_getElem? (i := 379) (by decide +kernel)⟩
theorem lw_p23 : lw_okq (⟨"BlockExecutorModel", "behind", "(II)I"⟩, 14) := ⟨⟨by decide +kernel, by decide +kernel⟩, List.mem_of_getElem? (i := 247) (by decide +kernel), List.mem_of_getElem? (i := 382) (by decide +kernel), List.mem_of_getElem? (i := 383) (by decide +kernel)⟩
theorem lw_p24 : lw_okq (⟨"BlockExecutorModel", "visit", "(II)Z"⟩, 14) := ⟨⟨by decide +kernel, by decide +kernel⟩, List.mem_of_getElem? (i := 247) (by decide +kernel), List.mem_of_getElem? (i := 390) (by decide +kernel), List.mem_of_getElem? (i := 391) (by decide +kernel)⟩
theorem lw_p25 : lw_okq (⟨"BlockExecutorModel", "many", "(IZI)I"⟩, 14) := ⟨⟨by decide +kernel, by decide +kernel⟩, List.mem_of_getElem? (i := 247) (by decide +kernel), List.mem_of_getElem? (i := 394) (by decide +kernel), List.mem_of_getElem? (i := 395) (by decide +kernel)⟩
theorem lw_p26 : lw_okq (⟨"BlockExecutorModel", "here", "(I)Z"⟩, 14) := ⟨⟨by decide +kernel, by decide +kernel⟩, List.mem_of_getElem? (i := 247) (by decide +kernel), List.mem_of_getElem? (i := 398) (by decide +kernel), List.mem_of_getElem? (i := 399) (by decide +kernel)⟩
theorem lw_p27 : lw_okq (⟨"BlockExecutorModel", "digit", "(II)I"⟩, 14) := ⟨⟨by decide +kernel, by decide +kernel⟩, List.mem_of_getElem? (i := 247) (by decide +kernel), List.mem_of_getElem? (i := 402) (by decide +kernel), List.mem_of_getElem? (i := 403) (by decide +kernel)⟩
theorem lw_p28 : lw_okq (⟨"BlockExecutorModel", "chunks", "(III)V"⟩, 14) := ⟨⟨by decide +kernel, by decide +kernel⟩, List.mem_of_getElem? (i := 247) (by decide +kernel), List.mem_of_getElem? (i := 406) (by decide +kernel), List.mem_of_getElem? (i := 407) (by decide +kernel)⟩
theorem lw_p29 : lw_okq (⟨"BlockExecutorModel", "chunk", "(IIII)V"⟩, 14) := ⟨⟨by decide +kernel, by decide +kernel⟩, List.mem_of_getElem? (i := 247) (by decide +kernel), List.mem_of_getElem? (i := 410) (by decide +kernel), List.mem_of_getElem? (i := 411) (by decide +kernel)⟩
def lw_privs_2 : List (MethodName × Nat) := [(⟨"BlockExecutorModel", "before", "(IIII)Z"⟩, 14), (⟨"BlockExecutorModel", "sortCost", "(I)J"⟩, 14), (⟨"BlockExecutorModel", "finish", "(I)I"⟩, 14), (⟨"BlockExecutorModel", "make", "(II)V"⟩, 14), (⟨"BlockExecutorModel", "next", "(III)I"⟩, 14), (⟨"BlockExecutorModel", "times", "(III)I"⟩, 14), (⟨"BlockExecutorModel", "rank", "(II)I"⟩, 14), (⟨"BlockExecutorModel", "behind", "(II)I"⟩, 14), (⟨"BlockExecutorModel", "visit", "(II)Z"⟩, 14), (⟨"BlockExecutorModel", "many", "(IZI)I"⟩, 14), (⟨"BlockExecutorModel", "here", "(I)Z"⟩, 14), (⟨"BlockExecutorModel", "digit", "(II)I"⟩, 14), (⟨"BlockExecutorModel", "chunks", "(III)V"⟩, 14), (⟨"BlockExecutorModel", "chunk", "(IIII)V"⟩, 14)]
theorem lw_r2 : ∀ q ∈ lw_privs_2, lw_okq q := List.forall_mem_cons.mpr ⟨lw_p16, List.forall_mem_cons.mpr ⟨lw_p17, List.forall_mem_cons.mpr ⟨lw_p18, List.forall_mem_cons.mpr ⟨lw_p19, List.forall_mem_cons.mpr ⟨lw_p20, List.forall_mem_cons.mpr ⟨lw_p21, List.forall_mem_cons.mpr ⟨lw_p22, List.forall_mem_cons.mpr ⟨lw_p23, List.forall_mem_cons.mpr ⟨lw_p24, List.forall_mem_cons.mpr ⟨lw_p25, List.forall_mem_cons.mpr ⟨lw_p26, List.forall_mem_cons.mpr ⟨lw_p27, List.forall_mem_cons.mpr ⟨lw_p28, List.forall_mem_cons.mpr ⟨lw_p29, fun _ h => absurd h List.not_mem_nil⟩⟩⟩⟩⟩⟩⟩⟩⟩⟩⟩⟩⟩⟩
def lw_privs : List (MethodName × Nat) := lw_privs_1 ++ (lw_privs_2)
def lw_tbl : List Cond := k2_sels lw_privs ++ tables_1
theorem lw_privs_ok : ∀ q ∈ lw_privs, lw_okq q := by
  show ∀ q ∈ lw_privs_1 ++ (lw_privs_2), lw_okq q
  exact List.forall_mem_append.mpr ⟨lw_r1, lw_r2⟩
end
section
def R_T : String := "BlockExecutor$Table"
def R_X : String := "BlockExecutor"
def R_M : String := "BlockExecutorModel"
def R_L : String := "BlockExecutorLaw"
def R_I : String := "java/lang/Integer"
def R_J : String := "java/lang/Math"
abbrev ze_RT : String := R_T
def F_T : u_T := fun k => match k with
  | 0 => ("BlockExecutor$Table", "keys", "[I", true)
  | 1 => ("BlockExecutor$Table", "values", "[I", true)
  | 2 => ("BlockExecutor$Table", "count", "I", false)
  | _ => ("BlockExecutor$Table", "overfull", "Z", false)
def zt_T : Nat → FieldType := fun k => match k with
  | 0 => .array .int
  | 1 => .array .int
  | 2 => .int
  | _ => .boolean
theorem zn_T : ∀ a, a < 4 → ∀ b, b < 4 → a ≠ b → (F_T a).2.1 ≠ (F_T b).2.1 := by decide +kernel
theorem zt_T_ok : ∀ k, k < 4 → parseFieldDescriptor (F_T k).2.2.1 = some (zt_T k) := by decide +kernel
def F_X : u_T := fun k => match k with
  | 0 => ("BlockExecutor", "frames", "I", true)
  | 1 => ("BlockExecutor", "tables", "[LBlockExecutor$Table;", true)
  | 2 => ("BlockExecutor", "held", "[Z", true)
  | 3 => ("BlockExecutor", "input", "LBlockExecutor$Table;", true)
  | 4 => ("BlockExecutor", "workA", "LBlockExecutor$Table;", true)
  | 5 => ("BlockExecutor", "workB", "LBlockExecutor$Table;", true)
  | 6 => ("BlockExecutor", "spare", "LBlockExecutor$Table;", true)
  | _ => ("BlockExecutor", "moved", "J", false)
def zt_X : Nat → FieldType := fun k => match k with
  | 0 => .int
  | 1 => .array (.object "BlockExecutor$Table")
  | 2 => .array .boolean
  | 3 => .object "BlockExecutor$Table"
  | 4 => .object "BlockExecutor$Table"
  | 5 => .object "BlockExecutor$Table"
  | 6 => .object "BlockExecutor$Table"
  | _ => .long
theorem zn_X : ∀ a, a < 8 → ∀ b, b < 8 → a ≠ b → (F_X a).2.1 ≠ (F_X b).2.1 := by decide +kernel
theorem zt_X_ok : ∀ k, k < 8 → parseFieldDescriptor (F_X k).2.2.1 = some (zt_X k) := by decide +kernel
def F_M : u_T := fun k => match k with
  | 0 => ("BlockExecutorModel", "memory", "I", true)
  | 1 => ("BlockExecutorModel", "moved", "J", false)
  | 2 => ("BlockExecutorModel", "typed", "I", false)
  | 3 => ("BlockExecutorModel", "typedKey", "[I", true)
  | 4 => ("BlockExecutorModel", "typedValue", "[I", true)
  | 5 => ("BlockExecutorModel", "count", "[I", true)
  | 6 => ("BlockExecutorModel", "keys", "[I", true)
  | 7 => ("BlockExecutorModel", "values", "[I", true)
  | 8 => ("BlockExecutorModel", "made", "I", false)
  | 9 => ("BlockExecutorModel", "madeKey", "[I", true)
  | 10 => ("BlockExecutorModel", "madeValue", "[I", true)
  | 11 => ("BlockExecutorModel", "cost", "J", false)
  | 12 => ("BlockExecutorModel", "level", "I", false)
  | _ => ("BlockExecutorModel", "path", "[I", true)
def zt_M : Nat → FieldType := fun k => match k with
  | 0 => .int
  | 1 => .long
  | 2 => .int
  | 3 => .array .int
  | 4 => .array .int
  | 5 => .array .int
  | 6 => .array .int
  | 7 => .array .int
  | 8 => .int
  | 9 => .array .int
  | 10 => .array .int
  | 11 => .long
  | 12 => .int
  | _ => .array .int
theorem zn_M : ∀ a, a < 14 → ∀ b, b < 14 → a ≠ b → (F_M a).2.1 ≠ (F_M b).2.1 := by decide +kernel
theorem zt_M_ok : ∀ k, k < 14 → parseFieldDescriptor (F_M k).2.2.1 = some (zt_M k) := by decide +kernel
abbrev vwCl : List vw_C := [(R_T, F_T, 4), (R_X, F_X, 8), (R_M, F_M, 14)]
abbrev ze_kT : Nat := 0
abbrev ze_kX : Nat := 1
abbrev ze_kM : Nat := 2
abbrev b_X_init : ByteArray := prog_1_method_1_code
def y_X_init : MethodName := ⟨R_X, "<init>", "(I)V"⟩
abbrev b_J_max : ByteArray := prog_6_method_65_code
def y_J_max : MethodName := ⟨R_J, "max", "(II)I"⟩
abbrev b_J_min : ByteArray := prog_6_method_69_code
def y_J_min : MethodName := ⟨R_J, "min", "(II)I"⟩
abbrev b_T_init : ByteArray := prog_2_method_1_code
def y_T_init : MethodName := ⟨R_T, "<init>", "()V"⟩
abbrev b_X_put : ByteArray := prog_1_method_2_code
def y_X_put : MethodName := ⟨R_X, "put", "(II)Z"⟩
abbrev b_T_append : ByteArray := prog_2_method_3_code
def y_T_append : MethodName := ⟨R_T, "append", "(II)V"⟩
abbrev b_X_store : ByteArray := prog_1_method_3_code
def y_X_store : MethodName := ⟨R_X, "store", "(I)I"⟩
abbrev b_X_isSlot : ByteArray := prog_1_method_16_code
def y_X_isSlot : MethodName := ⟨R_X, "isSlot", "(I)Z"⟩
abbrev b_T_copyFrom : ByteArray := prog_2_method_4_code
def y_T_copyFrom : MethodName := ⟨R_T, "copyFrom", "(LBlockExecutor$Table;)V"⟩
abbrev b_T_clear : ByteArray := prog_2_method_2_code
def y_T_clear : MethodName := ⟨R_T, "clear", "()V"⟩
abbrev b_X_sizeOf : ByteArray := prog_1_method_21_code
def y_X_sizeOf : MethodName := ⟨R_X, "sizeOf", "(I)I"⟩
abbrev b_X_dividedUp : ByteArray := prog_1_method_22_code
def y_X_dividedUp : MethodName := ⟨R_X, "dividedUp", "(II)I"⟩
abbrev b_X_finish : ByteArray := prog_1_method_20_code
def y_X_finish : MethodName := ⟨R_X, "finish", "(IJ)I"⟩
abbrev b_X_drop : ByteArray := prog_1_method_4_code
def y_X_drop : MethodName := ⟨R_X, "drop", "(I)I"⟩
abbrev b_X_rows : ByteArray := prog_1_method_5_code
def y_X_rows : MethodName := ⟨R_X, "rows", "(I)I"⟩
abbrev b_X_holdsTable : ByteArray := prog_1_method_17_code
def y_X_holdsTable : MethodName := ⟨R_X, "holdsTable", "(I)Z"⟩
abbrev b_X_key : ByteArray := prog_1_method_6_code
def y_X_key : MethodName := ⟨R_X, "key", "(II)I"⟩
abbrev b_X_holdsRow : ByteArray := prog_1_method_18_code
def y_X_holdsRow : MethodName := ⟨R_X, "holdsRow", "(II)Z"⟩
abbrev b_X_value : ByteArray := prog_1_method_7_code
def y_X_value : MethodName := ⟨R_X, "value", "(II)I"⟩
abbrev b_X_sort : ByteArray := prog_1_method_8_code
def y_X_sort : MethodName := ⟨R_X, "sort", "(III)I"⟩
abbrev b_X_refusalOf : ByteArray := prog_1_method_19_code
def y_X_refusalOf : MethodName := ⟨R_X, "refusalOf", "(III)I"⟩
abbrev b_T_arrange : ByteArray := prog_2_method_5_code
def y_T_arrange : MethodName := ⟨R_T, "arrange", "(I)V"⟩
abbrev b_X_compareRows : ByteArray := prog_1_method_35_code
def y_X_compareRows : MethodName := ⟨R_X, "compareRows", "(IIIII)I"⟩
abbrev b_I_compare : ByteArray := prog_5_method_40_code
def y_I_compare : MethodName := ⟨R_I, "compare", "(II)I"⟩
abbrev b_X_sortCost : ByteArray := prog_1_method_23_code
def y_X_sortCost : MethodName := ⟨R_X, "sortCost", "(I)J"⟩
abbrev b_X_select : ByteArray := prog_1_method_9_code
def y_X_select : MethodName := ⟨R_X, "select", "(IIII)I"⟩
abbrev b_X_distinct : ByteArray := prog_1_method_10_code
def y_X_distinct : MethodName := ⟨R_X, "distinct", "(II)I"⟩
abbrev b_T_dropRepeats : ByteArray := prog_2_method_6_code
def y_T_dropRepeats : MethodName := ⟨R_T, "dropRepeats", "()V"⟩
abbrev b_X_group : ByteArray := prog_1_method_11_code
def y_X_group : MethodName := ⟨R_X, "group", "(II)I"⟩
abbrev b_X_groupOneRound : ByteArray := prog_1_method_25_code
def y_X_groupOneRound : MethodName := ⟨R_X, "groupOneRound", "(LBlockExecutor$Table;LBlockExecutor$Table;)V"⟩
abbrev b_T_placeOfKey : ByteArray := prog_2_method_7_code
def y_T_placeOfKey : MethodName := ⟨R_T, "placeOfKey", "(II)I"⟩
abbrev b_X_rowsInMemory : ByteArray := prog_1_method_24_code
def y_X_rowsInMemory : MethodName := ⟨R_X, "rowsInMemory", "()I"⟩
abbrev b_X_combine : ByteArray := prog_1_method_12_code
def y_X_combine : MethodName := ⟨R_X, "combine", "(IIII)I"⟩
abbrev b_X_mergeBags : ByteArray := prog_1_method_26_code
def y_X_mergeBags : MethodName := ⟨R_X, "mergeBags", "(ILBlockExecutor$Table;)V"⟩
abbrev b_X_isNextFromA : ByteArray := prog_1_method_27_code
def y_X_isNextFromA : MethodName := ⟨R_X, "isNextFromA", "(II)Z"⟩
abbrev b_T_repeatsFrom : ByteArray := prog_2_method_8_code
def y_T_repeatsFrom : MethodName := ⟨R_T, "repeatsFrom", "(III)I"⟩
abbrev b_X_timesInResult : ByteArray := prog_1_method_28_code
def y_X_timesInResult : MethodName := ⟨R_X, "timesInResult", "(III)I"⟩
abbrev b_X_join : ByteArray := prog_1_method_13_code
def y_X_join : MethodName := ⟨R_X, "join", "(III)I"⟩
abbrev b_X_joinRanges : ByteArray := prog_1_method_29_code
def y_X_joinRanges : MethodName := ⟨R_X, "joinRanges", "(IIIIILBlockExecutor$Table;)J"⟩
abbrev b_X_joinByChunks : ByteArray := prog_1_method_30_code
def y_X_joinByChunks : MethodName := ⟨R_X, "joinByChunks", "(IIIILBlockExecutor$Table;)J"⟩
abbrev b_X_joinWithChunk : ByteArray := prog_1_method_31_code
def y_X_joinWithChunk : MethodName := ⟨R_X, "joinWithChunk", "(IIIILBlockExecutor$Table;)V"⟩
abbrev b_X_partition : ByteArray := prog_1_method_32_code
def y_X_partition : MethodName := ⟨R_X, "partition", "(LBlockExecutor$Table;[IIII)V"⟩
abbrev b_X_digitOf : ByteArray := prog_1_method_34_code
def y_X_digitOf : MethodName := ⟨R_X, "digitOf", "(II)I"⟩
abbrev b_J_floorMod : ByteArray := prog_6_method_50_code
def y_J_floorMod : MethodName := ⟨R_J, "floorMod", "(II)I"⟩
abbrev b_X_endOfPart : ByteArray := prog_1_method_33_code
def y_X_endOfPart : MethodName := ⟨R_X, "endOfPart", "([IIIII)I"⟩
abbrev b_X_transfers : ByteArray := prog_1_method_14_code
def y_X_transfers : MethodName := ⟨R_X, "transfers", "()J"⟩
abbrev b_X_blocks : ByteArray := prog_1_method_15_code
def y_X_blocks : MethodName := ⟨R_X, "blocks", "()I"⟩
abbrev b_L_cell : ByteArray := method_2_code
def y_L_cell : MethodName := ⟨R_L, "cell", "([II)I"⟩
abbrev b_M_init : ByteArray := prog_4_method_1_code
def y_M_init : MethodName := ⟨R_M, "<init>", "(I)V"⟩
abbrev b_M_put : ByteArray := prog_4_method_5_code
def y_M_put : MethodName := ⟨R_M, "put", "(II)Z"⟩
abbrev b_M_store : ByteArray := prog_4_method_6_code
def y_M_store : MethodName := ⟨R_M, "store", "(I)I"⟩
abbrev b_M_slot : ByteArray := prog_4_method_3_code
def y_M_slot : MethodName := ⟨R_M, "slot", "(I)Z"⟩
abbrev b_M_size : ByteArray := prog_4_method_2_code
def y_M_size : MethodName := ⟨R_M, "size", "(I)I"⟩
abbrev b_M_drop : ByteArray := prog_4_method_7_code
def y_M_drop : MethodName := ⟨R_M, "drop", "(I)I"⟩
abbrev b_M_rows : ByteArray := prog_4_method_8_code
def y_M_rows : MethodName := ⟨R_M, "rows", "(I)I"⟩
abbrev b_M_key : ByteArray := prog_4_method_9_code
def y_M_key : MethodName := ⟨R_M, "key", "(II)I"⟩
abbrev b_M_value : ByteArray := prog_4_method_10_code
def y_M_value : MethodName := ⟨R_M, "value", "(II)I"⟩
abbrev b_M_sort : ByteArray := prog_4_method_16_code
def y_M_sort : MethodName := ⟨R_M, "sort", "(III)I"⟩
abbrev b_M_refuse : ByteArray := prog_4_method_11_code
def y_M_refuse : MethodName := ⟨R_M, "refuse", "(ZIII)I"⟩
abbrev b_M_before : ByteArray := prog_4_method_15_code
def y_M_before : MethodName := ⟨R_M, "before", "(IIII)Z"⟩
abbrev b_M_compare : ByteArray := prog_4_method_14_code
def y_M_compare : MethodName := ⟨R_M, "compare", "(IIII)I"⟩
abbrev b_M_sortCost : ByteArray := prog_4_method_4_code
def y_M_sortCost : MethodName := ⟨R_M, "sortCost", "(I)J"⟩
abbrev b_M_finish : ByteArray := prog_4_method_13_code
def y_M_finish : MethodName := ⟨R_M, "finish", "(I)I"⟩
abbrev b_M_select : ByteArray := prog_4_method_17_code
def y_M_select : MethodName := ⟨R_M, "select", "(IIII)I"⟩
abbrev b_M_make : ByteArray := prog_4_method_12_code
def y_M_make : MethodName := ⟨R_M, "make", "(II)V"⟩
abbrev b_M_distinct : ByteArray := prog_4_method_20_code
def y_M_distinct : MethodName := ⟨R_M, "distinct", "(II)I"⟩
abbrev b_M_next : ByteArray := prog_4_method_19_code
def y_M_next : MethodName := ⟨R_M, "next", "(III)I"⟩
abbrev b_M_combine : ByteArray := prog_4_method_21_code
def y_M_combine : MethodName := ⟨R_M, "combine", "(IIII)I"⟩
abbrev b_M_times : ByteArray := prog_4_method_18_code
def y_M_times : MethodName := ⟨R_M, "times", "(III)I"⟩
abbrev b_M_group : ByteArray := prog_4_method_24_code
def y_M_group : MethodName := ⟨R_M, "group", "(II)I"⟩
abbrev b_M_rank : ByteArray := prog_4_method_22_code
def y_M_rank : MethodName := ⟨R_M, "rank", "(II)I"⟩
abbrev b_M_behind : ByteArray := prog_4_method_23_code
def y_M_behind : MethodName := ⟨R_M, "behind", "(II)I"⟩
abbrev b_M_join : ByteArray := prog_4_method_31_code
def y_M_join : MethodName := ⟨R_M, "join", "(III)I"⟩
abbrev b_M_visit : ByteArray := prog_4_method_30_code
def y_M_visit : MethodName := ⟨R_M, "visit", "(II)Z"⟩
abbrev b_M_many : ByteArray := prog_4_method_27_code
def y_M_many : MethodName := ⟨R_M, "many", "(IZI)I"⟩
abbrev b_M_here : ByteArray := prog_4_method_26_code
def y_M_here : MethodName := ⟨R_M, "here", "(I)Z"⟩
abbrev b_M_digit : ByteArray := prog_4_method_25_code
def y_M_digit : MethodName := ⟨R_M, "digit", "(II)I"⟩
abbrev b_M_chunks : ByteArray := prog_4_method_28_code
def y_M_chunks : MethodName := ⟨R_M, "chunks", "(III)V"⟩
abbrev b_M_chunk : ByteArray := prog_4_method_29_code
def y_M_chunk : MethodName := ⟨R_M, "chunk", "(IIII)V"⟩
abbrev b_M_transfers : ByteArray := prog_4_method_32_code
def y_M_transfers : MethodName := ⟨R_M, "transfers", "()J"⟩
abbrev b_M_blocks : ByteArray := prog_4_method_33_code
def y_M_blocks : MethodName := ⟨R_M, "blocks", "()I"⟩
abbrev b_L_law : ByteArray := code
/-- the words that every method may use: those of the tables that outlast a call -/
def ze_B : List Cond := lw_tbl.filter goodWord
theorem ze_Bt (i : Nat) {w : Cond} (h : tables_1[i]? = some w) (g : goodWord w = true) : w ∈ ze_B := List.mem_filter.mpr ⟨List.mem_append_right _ (List.mem_of_getElem? h), g⟩
theorem ze_Bs (i : Nat) {q : MethodName × Nat} (h : lw_privs[i]? = some q) : Cond.selects q.1.cls q.1 q.1 ∈ ze_B := List.mem_filter.mpr ⟨List.mem_append_left _ (List.mem_map.mpr ⟨q, List.mem_of_getElem? h, rfl⟩), rfl⟩
theorem ze_Bg {w : Cond} (h : w ∈ ze_B) : (w.onTables && w.keeps) = true ∨ ∃ ty, w = .arrayClass ty := good_of_word (List.mem_filter.mp h).2
abbrev ws_X_init : List Cond := .code y_X_init b_X_init 3 none :: ze_B
abbrev ws_J_max : List Cond := .code y_J_max b_J_max 2 (some .int) :: ze_B
abbrev ws_J_min : List Cond := .code y_J_min b_J_min 2 (some .int) :: ze_B
abbrev ws_T_init : List Cond := .code y_T_init b_T_init 1 none :: ze_B
abbrev ws_X_put : List Cond := .code y_X_put b_X_put 3 (some .boolean) :: ze_B
abbrev ws_T_append : List Cond := .code y_T_append b_T_append 3 none :: ze_B
abbrev ws_X_store : List Cond := .code y_X_store b_X_store 2 (some .int) :: ze_B
abbrev ws_X_isSlot : List Cond := .code y_X_isSlot b_X_isSlot 1 (some .boolean) :: ze_B
abbrev ws_T_copyFrom : List Cond := .code y_T_copyFrom b_T_copyFrom 2 none :: ze_B
abbrev ws_T_clear : List Cond := .code y_T_clear b_T_clear 1 none :: ze_B
abbrev ws_X_sizeOf : List Cond := .code y_X_sizeOf b_X_sizeOf 1 (some .int) :: ze_B
abbrev ws_X_dividedUp : List Cond := .code y_X_dividedUp b_X_dividedUp 2 (some .int) :: ze_B
abbrev ws_X_finish : List Cond := .code y_X_finish b_X_finish 5 (some .int) :: ze_B
abbrev ws_X_drop : List Cond := .code y_X_drop b_X_drop 2 (some .int) :: ze_B
abbrev ws_X_rows : List Cond := .code y_X_rows b_X_rows 2 (some .int) :: ze_B
abbrev ws_X_holdsTable : List Cond := .code y_X_holdsTable b_X_holdsTable 2 (some .boolean) :: ze_B
abbrev ws_X_key : List Cond := .code y_X_key b_X_key 3 (some .int) :: ze_B
abbrev ws_X_holdsRow : List Cond := .code y_X_holdsRow b_X_holdsRow 3 (some .boolean) :: ze_B
abbrev ws_X_value : List Cond := .code y_X_value b_X_value 3 (some .int) :: ze_B
abbrev ws_X_sort : List Cond := .code y_X_sort b_X_sort 6 (some .int) :: ze_B
abbrev ws_X_refusalOf : List Cond := .code y_X_refusalOf b_X_refusalOf 4 (some .int) :: ze_B
abbrev ws_T_arrange : List Cond := .code y_T_arrange b_T_arrange 6 none :: ze_B
abbrev ws_X_compareRows : List Cond := .code y_X_compareRows b_X_compareRows 6 (some .int) :: ze_B
abbrev ws_I_compare : List Cond := .code y_I_compare b_I_compare 2 (some .int) :: ze_B
abbrev ws_X_sortCost : List Cond := .code y_X_sortCost b_X_sortCost 5 (some .long) :: ze_B
abbrev ws_X_select : List Cond := .code y_X_select b_X_select 9 (some .int) :: ze_B
abbrev ws_X_distinct : List Cond := .code y_X_distinct b_X_distinct 6 (some .int) :: ze_B
abbrev ws_T_dropRepeats : List Cond := .code y_T_dropRepeats b_T_dropRepeats 3 none :: ze_B
abbrev ws_X_group : List Cond := .code y_X_group b_X_group 8 (some .int) :: ze_B
abbrev ws_X_groupOneRound : List Cond := .code y_X_groupOneRound b_X_groupOneRound 8 none :: ze_B
abbrev ws_T_placeOfKey : List Cond := .code y_T_placeOfKey b_T_placeOfKey 4 (some .int) :: ze_B
abbrev ws_X_rowsInMemory : List Cond := .code y_X_rowsInMemory b_X_rowsInMemory 1 (some .int) :: ze_B
abbrev ws_X_combine : List Cond := .code y_X_combine b_X_combine 9 (some .int) :: ze_B
abbrev ws_X_mergeBags : List Cond := .code y_X_mergeBags b_X_mergeBags 13 none :: ze_B
abbrev ws_X_isNextFromA : List Cond := .code y_X_isNextFromA b_X_isNextFromA 4 (some .boolean) :: ze_B
abbrev ws_T_repeatsFrom : List Cond := .code y_T_repeatsFrom b_T_repeatsFrom 5 (some .int) :: ze_B
abbrev ws_X_timesInResult : List Cond := .code y_X_timesInResult b_X_timesInResult 3 (some .int) :: ze_B
abbrev ws_X_join : List Cond := .code y_X_join b_X_join 8 (some .int) :: ze_B
abbrev ws_X_joinRanges : List Cond := .code y_X_joinRanges b_X_joinRanges 14 (some .long) :: ze_B
abbrev ws_X_joinByChunks : List Cond := .code y_X_joinByChunks b_X_joinByChunks 10 (some .long) :: ze_B
abbrev ws_X_joinWithChunk : List Cond := .code y_X_joinWithChunk b_X_joinWithChunk 8 none :: ze_B
abbrev ws_X_partition : List Cond := .code y_X_partition b_X_partition 8 none :: ze_B
abbrev ws_X_digitOf : List Cond := .code y_X_digitOf b_X_digitOf 6 (some .int) :: ze_B
abbrev ws_J_floorMod : List Cond := .code y_J_floorMod b_J_floorMod 3 (some .int) :: ze_B
abbrev ws_X_endOfPart : List Cond := .code y_X_endOfPart b_X_endOfPart 7 (some .int) :: ze_B
abbrev ws_X_transfers : List Cond := .code y_X_transfers b_X_transfers 1 (some .long) :: ze_B
abbrev ws_X_blocks : List Cond := .code y_X_blocks b_X_blocks 3 (some .int) :: ze_B
abbrev ws_L_cell : List Cond := .code y_L_cell b_L_cell 2 (some .int) :: ze_B
abbrev ws_M_init : List Cond := .code y_M_init b_M_init 3 none :: ze_B
abbrev ws_M_put : List Cond := .code y_M_put b_M_put 3 (some .boolean) :: ze_B
abbrev ws_M_store : List Cond := .code y_M_store b_M_store 3 (some .int) :: ze_B
abbrev ws_M_slot : List Cond := .code y_M_slot b_M_slot 1 (some .boolean) :: ze_B
abbrev ws_M_size : List Cond := .code y_M_size b_M_size 1 (some .int) :: ze_B
abbrev ws_M_drop : List Cond := .code y_M_drop b_M_drop 3 (some .int) :: ze_B
abbrev ws_M_rows : List Cond := .code y_M_rows b_M_rows 2 (some .int) :: ze_B
abbrev ws_M_key : List Cond := .code y_M_key b_M_key 3 (some .int) :: ze_B
abbrev ws_M_value : List Cond := .code y_M_value b_M_value 3 (some .int) :: ze_B
abbrev ws_M_sort : List Cond := .code y_M_sort b_M_sort 9 (some .int) :: ze_B
abbrev ws_M_refuse : List Cond := .code y_M_refuse b_M_refuse 5 (some .int) :: ze_B
abbrev ws_M_before : List Cond := .code y_M_before b_M_before 8 (some .boolean) :: ze_B
abbrev ws_M_compare : List Cond := .code y_M_compare b_M_compare 4 (some .int) :: ze_B
abbrev ws_M_sortCost : List Cond := .code y_M_sortCost b_M_sortCost 5 (some .long) :: ze_B
abbrev ws_M_finish : List Cond := .code y_M_finish b_M_finish 3 (some .int) :: ze_B
abbrev ws_M_select : List Cond := .code y_M_select b_M_select 8 (some .int) :: ze_B
abbrev ws_M_make : List Cond := .code y_M_make b_M_make 3 none :: ze_B
abbrev ws_M_distinct : List Cond := .code y_M_distinct b_M_distinct 5 (some .int) :: ze_B
abbrev ws_M_next : List Cond := .code y_M_next b_M_next 9 (some .int) :: ze_B
abbrev ws_M_combine : List Cond := .code y_M_combine b_M_combine 11 (some .int) :: ze_B
abbrev ws_M_times : List Cond := .code y_M_times b_M_times 6 (some .int) :: ze_B
abbrev ws_M_group : List Cond := .code y_M_group b_M_group 8 (some .int) :: ze_B
abbrev ws_M_rank : List Cond := .code y_M_rank b_M_rank 8 (some .int) :: ze_B
abbrev ws_M_behind : List Cond := .code y_M_behind b_M_behind 5 (some .int) :: ze_B
abbrev ws_M_join : List Cond := .code y_M_join b_M_join 6 (some .int) :: ze_B
abbrev ws_M_visit : List Cond := .code y_M_visit b_M_visit 9 (some .boolean) :: ze_B
abbrev ws_M_many : List Cond := .code y_M_many b_M_many 7 (some .int) :: ze_B
abbrev ws_M_here : List Cond := .code y_M_here b_M_here 3 (some .boolean) :: ze_B
abbrev ws_M_digit : List Cond := .code y_M_digit b_M_digit 6 (some .int) :: ze_B
abbrev ws_M_chunks : List Cond := .code y_M_chunks b_M_chunks 8 none :: ze_B
abbrev ws_M_chunk : List Cond := .code y_M_chunk b_M_chunk 7 none :: ze_B
abbrev ws_M_transfers : List Cond := .code y_M_transfers b_M_transfers 1 (some .long) :: ze_B
abbrev ws_M_blocks : List Cond := .code y_M_blocks b_M_blocks 3 (some .int) :: ze_B
theorem ze_gc_ {c0 : Cond} {ws : List Cond} (h : ∀ w ∈ ws, w ∈ ze_B) : GoodIn (c0 :: ze_B) ws := fun w hw => ⟨List.mem_cons_of_mem _ (h w hw), ze_Bg (h w hw)⟩
theorem ze_gcons {c1 : Cond} {ws : List Cond} (h1 : c1 ∈ ze_B) (h : ∀ w ∈ ws, w ∈ ze_B) : ∀ w ∈ c1 :: ws, w ∈ ze_B := List.forall_mem_cons.mpr ⟨h1, h⟩
theorem ze_gB : ∀ w ∈ ze_B, w ∈ ze_B := fun _ h => h
theorem zw_0 : (.initialized R_L : Cond) ∈ ze_B := ze_Bt 0 (by decide +kernel) rfl
theorem zw_1 : (.initialized R_X : Cond) ∈ ze_B := ze_Bt 1 (by decide +kernel) rfl
theorem zw_2 : (.initialized R_J : Cond) ∈ ze_B := ze_Bt 2 (by decide +kernel) rfl
theorem zw_3 : (.initialized R_T : Cond) ∈ ze_B := ze_Bt 3 (by decide +kernel) rfl
theorem zw_4 : (.initialized R_M : Cond) ∈ ze_B := ze_Bt 4 (by decide +kernel) rfl
theorem zw_5 : (.initialized "java/lang/System" : Cond) ∈ ze_B := ze_Bt 5 (by decide +kernel) rfl
theorem zw_6 : (.initialized R_I : Cond) ∈ ze_B := ze_Bt 6 (by decide +kernel) rfl
theorem zw_7 : (.classLink R_L 7 R_X : Cond) ∈ ze_B := ze_Bt 7 (by decide +kernel) rfl
theorem zw_8 : (.instantiable R_X 8 : Cond) ∈ ze_B := ze_Bt 8 (by decide +kernel) rfl
theorem zw_9 : (.methodLink R_L 15 y_X_init : Cond) ∈ ze_B := ze_Bt 9 (by decide +kernel) rfl
theorem zw_10 : (.instanceMethod y_X_init : Cond) ∈ ze_B := ze_Bt 10 (by decide +kernel) rfl
theorem zw_11 : (.code y_X_init b_X_init 3 none : Cond) ∈ ze_B := ze_Bt 11 rfl rfl
theorem zw_12 : (.methodLink R_X 1 objectInit : Cond) ∈ ze_B := ze_Bt 12 (by decide +kernel) rfl
theorem zw_13 : (.instanceMethod objectInit : Cond) ∈ ze_B := ze_Bt 13 (by decide +kernel) rfl
theorem zw_14 : (.code objectInit ⟨#[0xb1]⟩ 1 none : Cond) ∈ ze_B := ze_Bt 14 rfl rfl
theorem zw_15 : (.methodLink R_X 9 y_J_max : Cond) ∈ ze_B := ze_Bt 15 (by decide +kernel) rfl
theorem zw_16 : (.static y_J_max : Cond) ∈ ze_B := ze_Bt 16 (by decide +kernel) rfl
theorem zw_17 : (.code y_J_max b_J_max 2 (some .int) : Cond) ∈ ze_B := ze_Bt 17 rfl rfl
theorem zw_18 : (.methodLink R_X 15 y_J_min : Cond) ∈ ze_B := ze_Bt 18 (by decide +kernel) rfl
theorem zw_19 : (.static y_J_min : Cond) ∈ ze_B := ze_Bt 19 (by decide +kernel) rfl
theorem zw_20 : (.code y_J_min b_J_min 2 (some .int) : Cond) ∈ ze_B := ze_Bt 20 rfl rfl
theorem zw_21 : (.classLink R_X 22 R_T : Cond) ∈ ze_B := ze_Bt 21 (by decide +kernel) rfl
theorem zw_23 : (.instantiable R_T 4 : Cond) ∈ ze_B := ze_Bt 23 (by decide +kernel) rfl
theorem zw_25 : (.instanceMethod y_T_init : Cond) ∈ ze_B := ze_Bt 25 (by decide +kernel) rfl
theorem zw_26 : (.code y_T_init b_T_init 1 none : Cond) ∈ ze_B := ze_Bt 26 rfl rfl
theorem zw_27 : (.methodLink R_T 3 objectInit : Cond) ∈ ze_B := ze_Bt 27 (by decide +kernel) rfl
theorem zw_28 : (.fieldLink R_T 9 "BlockExecutor$Table" "keys" "[I" : Cond) ∈ ze_B := ze_Bt 28 (by decide +kernel) rfl
theorem zw_29 : (.fieldLink R_X 83 "BlockExecutor$Table" "keys" "[I" : Cond) ∈ ze_B := ze_Bt 29 (by decide +kernel) rfl
theorem zw_30 : (.fieldLink R_T 15 "BlockExecutor$Table" "values" "[I" : Cond) ∈ ze_B := ze_Bt 30 (by decide +kernel) rfl
theorem zw_31 : (.fieldLink R_X 87 "BlockExecutor$Table" "values" "[I" : Cond) ∈ ze_B := ze_Bt 31 (by decide +kernel) rfl
theorem zw_32 : (.fieldLink R_T 18 "BlockExecutor$Table" "count" "I" : Cond) ∈ ze_B := ze_Bt 32 (by decide +kernel) rfl
theorem zw_33 : (.fieldLink R_X 50 "BlockExecutor$Table" "count" "I" : Cond) ∈ ze_B := ze_Bt 33 (by decide +kernel) rfl
theorem zw_34 : (.fieldLink R_T 22 "BlockExecutor$Table" "overfull" "Z" : Cond) ∈ ze_B := ze_Bt 34 (by decide +kernel) rfl
theorem zw_35 : (.fieldLink R_X 117 "BlockExecutor$Table" "overfull" "Z" : Cond) ∈ ze_B := ze_Bt 35 (by decide +kernel) rfl
theorem zw_36 : (.laysFinal R_T "BlockExecutor$Table" "keys" "[I" : Cond) ∈ ze_B := ze_Bt 36 (by decide +kernel) rfl
theorem zw_38 : (.laysFinal R_T "BlockExecutor$Table" "values" "[I" : Cond) ∈ ze_B := ze_Bt 38 (by decide +kernel) rfl
theorem zw_40 : (.lays R_T "BlockExecutor$Table" "count" "I" : Cond) ∈ ze_B := ze_Bt 40 (by decide +kernel) rfl
theorem zw_42 : (.lays R_T "BlockExecutor$Table" "overfull" "Z" : Cond) ∈ ze_B := ze_Bt 42 (by decide +kernel) rfl
theorem zw_45 : (.arrayClass .int : Cond) ∈ ze_B := ze_Bt 45 (by decide +kernel) rfl
theorem zw_46 : (.fieldLink R_X 18 "BlockExecutor" "frames" "I" : Cond) ∈ ze_B := ze_Bt 46 (by decide +kernel) rfl
theorem zw_47 : (.fieldLink R_X 24 "BlockExecutor" "tables" "[LBlockExecutor$Table;" : Cond) ∈ ze_B := ze_Bt 47 (by decide +kernel) rfl
theorem zw_48 : (.fieldLink R_X 29 "BlockExecutor" "held" "[Z" : Cond) ∈ ze_B := ze_Bt 48 (by decide +kernel) rfl
theorem zw_49 : (.fieldLink R_X 33 "BlockExecutor" "input" "LBlockExecutor$Table;" : Cond) ∈ ze_B := ze_Bt 49 (by decide +kernel) rfl
theorem zw_50 : (.fieldLink R_X 37 "BlockExecutor" "workA" "LBlockExecutor$Table;" : Cond) ∈ ze_B := ze_Bt 50 (by decide +kernel) rfl
theorem zw_51 : (.fieldLink R_X 40 "BlockExecutor" "workB" "LBlockExecutor$Table;" : Cond) ∈ ze_B := ze_Bt 51 (by decide +kernel) rfl
theorem zw_52 : (.fieldLink R_X 43 "BlockExecutor" "spare" "LBlockExecutor$Table;" : Cond) ∈ ze_B := ze_Bt 52 (by decide +kernel) rfl
theorem zw_53 : (.fieldLink R_X 46 "BlockExecutor" "moved" "J" : Cond) ∈ ze_B := ze_Bt 53 (by decide +kernel) rfl
theorem zw_54 : (.laysFinal R_X "BlockExecutor" "frames" "I" : Cond) ∈ ze_B := ze_Bt 54 (by decide +kernel) rfl
theorem zw_56 : (.laysFinal R_X "BlockExecutor" "tables" "[LBlockExecutor$Table;" : Cond) ∈ ze_B := ze_Bt 56 (by decide +kernel) rfl
theorem zw_58 : (.laysFinal R_X "BlockExecutor" "held" "[Z" : Cond) ∈ ze_B := ze_Bt 58 (by decide +kernel) rfl
theorem zw_60 : (.laysFinal R_X "BlockExecutor" "input" "LBlockExecutor$Table;" : Cond) ∈ ze_B := ze_Bt 60 (by decide +kernel) rfl
theorem zw_62 : (.laysFinal R_X "BlockExecutor" "workA" "LBlockExecutor$Table;" : Cond) ∈ ze_B := ze_Bt 62 (by decide +kernel) rfl
theorem zw_64 : (.laysFinal R_X "BlockExecutor" "workB" "LBlockExecutor$Table;" : Cond) ∈ ze_B := ze_Bt 64 (by decide +kernel) rfl
theorem zw_66 : (.laysFinal R_X "BlockExecutor" "spare" "LBlockExecutor$Table;" : Cond) ∈ ze_B := ze_Bt 66 (by decide +kernel) rfl
theorem zw_68 : (.lays R_X "BlockExecutor" "moved" "J" : Cond) ∈ ze_B := ze_Bt 68 (by decide +kernel) rfl
theorem zw_71 : (.arrayClass .boolean : Cond) ∈ ze_B := ze_Bt 71 (by decide +kernel) rfl
theorem zw_72 : (.methodLink R_L 21 y_X_put : Cond) ∈ ze_B := ze_Bt 72 (by decide +kernel) rfl
theorem zw_73 : (.instanceMethod y_X_put : Cond) ∈ ze_B := ze_Bt 73 (by decide +kernel) rfl
theorem zw_74 : (.selects R_X y_X_put y_X_put : Cond) ∈ ze_B := ze_Bt 74 (by decide +kernel) rfl
theorem zw_75 : (.code y_X_put b_X_put 3 (some .boolean) : Cond) ∈ ze_B := ze_Bt 75 rfl rfl
theorem zw_76 : (.methodLink R_X 53 y_T_append : Cond) ∈ ze_B := ze_Bt 76 (by decide +kernel) rfl
theorem zw_77 : (.instanceMethod y_T_append : Cond) ∈ ze_B := ze_Bt 77 (by decide +kernel) rfl
theorem zw_78 : (.selects R_T y_T_append y_T_append : Cond) ∈ ze_B := ze_Bt 78 (by decide +kernel) rfl
theorem zw_79 : (.code y_T_append b_T_append 3 none : Cond) ∈ ze_B := ze_Bt 79 rfl rfl
theorem zw_80 : (.methodLink R_L 26 y_X_store : Cond) ∈ ze_B := ze_Bt 80 (by decide +kernel) rfl
theorem zw_81 : (.instanceMethod y_X_store : Cond) ∈ ze_B := ze_Bt 81 (by decide +kernel) rfl
theorem zw_82 : (.selects R_X y_X_store y_X_store : Cond) ∈ ze_B := ze_Bt 82 (by decide +kernel) rfl
theorem zw_83 : (.code y_X_store b_X_store 2 (some .int) : Cond) ∈ ze_B := ze_Bt 83 rfl rfl
theorem zw_84 : (.methodLink R_X 57 y_X_isSlot : Cond) ∈ ze_B := ze_Bt 84 (by decide +kernel) rfl
theorem zw_85 : (.static y_X_isSlot : Cond) ∈ ze_B := ze_Bt 85 (by decide +kernel) rfl
theorem zw_86 : (.code y_X_isSlot b_X_isSlot 1 (some .boolean) : Cond) ∈ ze_B := ze_Bt 86 rfl rfl
theorem zw_87 : (.methodLink R_X 61 y_T_copyFrom : Cond) ∈ ze_B := ze_Bt 87 (by decide +kernel) rfl
theorem zw_88 : (.instanceMethod y_T_copyFrom : Cond) ∈ ze_B := ze_Bt 88 (by decide +kernel) rfl
theorem zw_89 : (.selects R_T y_T_copyFrom y_T_copyFrom : Cond) ∈ ze_B := ze_Bt 89 (by decide +kernel) rfl
theorem zw_90 : (.code y_T_copyFrom b_T_copyFrom 2 none : Cond) ∈ ze_B := ze_Bt 90 rfl rfl
theorem zw_91 : (.methodLink R_T 26 arraycopyName : Cond) ∈ ze_B := ze_Bt 91 (by decide +kernel) rfl
theorem zw_92 : (.static arraycopyName : Cond) ∈ ze_B := ze_Bt 92 (by decide +kernel) rfl
theorem zw_93 : (.native arraycopyName : Cond) ∈ ze_B := ze_Bt 93 (by decide +kernel) rfl
theorem zw_94 : (.methodLink R_X 65 y_T_clear : Cond) ∈ ze_B := ze_Bt 94 (by decide +kernel) rfl
theorem zw_95 : (.instanceMethod y_T_clear : Cond) ∈ ze_B := ze_Bt 95 (by decide +kernel) rfl
theorem zw_96 : (.selects R_T y_T_clear y_T_clear : Cond) ∈ ze_B := ze_Bt 96 (by decide +kernel) rfl
theorem zw_97 : (.code y_T_clear b_T_clear 1 none : Cond) ∈ ze_B := ze_Bt 97 rfl rfl
theorem zw_98 : (.methodLink R_X 68 y_X_sizeOf : Cond) ∈ ze_B := ze_Bt 98 (by decide +kernel) rfl
theorem zw_99 : (.static y_X_sizeOf : Cond) ∈ ze_B := ze_Bt 99 (by decide +kernel) rfl
theorem zw_100 : (.code y_X_sizeOf b_X_sizeOf 1 (some .int) : Cond) ∈ ze_B := ze_Bt 100 rfl rfl
theorem zw_101 : (.methodLink R_X 121 y_X_dividedUp : Cond) ∈ ze_B := ze_Bt 101 (by decide +kernel) rfl
theorem zw_102 : (.static y_X_dividedUp : Cond) ∈ ze_B := ze_Bt 102 (by decide +kernel) rfl
theorem zw_103 : (.code y_X_dividedUp b_X_dividedUp 2 (some .int) : Cond) ∈ ze_B := ze_Bt 103 rfl rfl
theorem zw_104 : (.methodLink R_X 72 y_X_finish : Cond) ∈ ze_B := ze_Bt 104 (by decide +kernel) rfl
theorem zw_106 : (.instanceMethod y_X_finish : Cond) ∈ ze_B := ze_Bt 106 (by decide +kernel) rfl
theorem zw_107 : (.code y_X_finish b_X_finish 5 (some .int) : Cond) ∈ ze_B := ze_Bt 107 rfl rfl
theorem zw_108 : (.methodLink R_L 31 y_X_drop : Cond) ∈ ze_B := ze_Bt 108 (by decide +kernel) rfl
theorem zw_109 : (.instanceMethod y_X_drop : Cond) ∈ ze_B := ze_Bt 109 (by decide +kernel) rfl
theorem zw_110 : (.selects R_X y_X_drop y_X_drop : Cond) ∈ ze_B := ze_Bt 110 (by decide +kernel) rfl
theorem zw_111 : (.code y_X_drop b_X_drop 2 (some .int) : Cond) ∈ ze_B := ze_Bt 111 rfl rfl
theorem zw_112 : (.methodLink R_L 35 y_X_rows : Cond) ∈ ze_B := ze_Bt 112 (by decide +kernel) rfl
theorem zw_113 : (.instanceMethod y_X_rows : Cond) ∈ ze_B := ze_Bt 113 (by decide +kernel) rfl
theorem zw_114 : (.selects R_X y_X_rows y_X_rows : Cond) ∈ ze_B := ze_Bt 114 (by decide +kernel) rfl
theorem zw_115 : (.code y_X_rows b_X_rows 2 (some .int) : Cond) ∈ ze_B := ze_Bt 115 rfl rfl
theorem zw_116 : (.methodLink R_X 76 y_X_holdsTable : Cond) ∈ ze_B := ze_Bt 116 (by decide +kernel) rfl
theorem zw_118 : (.instanceMethod y_X_holdsTable : Cond) ∈ ze_B := ze_Bt 118 (by decide +kernel) rfl
theorem zw_119 : (.code y_X_holdsTable b_X_holdsTable 2 (some .boolean) : Cond) ∈ ze_B := ze_Bt 119 rfl rfl
theorem zw_120 : (.methodLink R_L 39 y_X_key : Cond) ∈ ze_B := ze_Bt 120 (by decide +kernel) rfl
theorem zw_121 : (.instanceMethod y_X_key : Cond) ∈ ze_B := ze_Bt 121 (by decide +kernel) rfl
theorem zw_122 : (.selects R_X y_X_key y_X_key : Cond) ∈ ze_B := ze_Bt 122 (by decide +kernel) rfl
theorem zw_123 : (.code y_X_key b_X_key 3 (some .int) : Cond) ∈ ze_B := ze_Bt 123 rfl rfl
theorem zw_124 : (.methodLink R_X 79 y_X_holdsRow : Cond) ∈ ze_B := ze_Bt 124 (by decide +kernel) rfl
theorem zw_126 : (.instanceMethod y_X_holdsRow : Cond) ∈ ze_B := ze_Bt 126 (by decide +kernel) rfl
theorem zw_127 : (.code y_X_holdsRow b_X_holdsRow 3 (some .boolean) : Cond) ∈ ze_B := ze_Bt 127 rfl rfl
theorem zw_128 : (.methodLink R_L 44 y_X_value : Cond) ∈ ze_B := ze_Bt 128 (by decide +kernel) rfl
theorem zw_129 : (.instanceMethod y_X_value : Cond) ∈ ze_B := ze_Bt 129 (by decide +kernel) rfl
theorem zw_130 : (.selects R_X y_X_value y_X_value : Cond) ∈ ze_B := ze_Bt 130 (by decide +kernel) rfl
theorem zw_131 : (.code y_X_value b_X_value 3 (some .int) : Cond) ∈ ze_B := ze_Bt 131 rfl rfl
theorem zw_132 : (.methodLink R_L 48 y_X_sort : Cond) ∈ ze_B := ze_Bt 132 (by decide +kernel) rfl
theorem zw_133 : (.instanceMethod y_X_sort : Cond) ∈ ze_B := ze_Bt 133 (by decide +kernel) rfl
theorem zw_134 : (.selects R_X y_X_sort y_X_sort : Cond) ∈ ze_B := ze_Bt 134 (by decide +kernel) rfl
theorem zw_135 : (.code y_X_sort b_X_sort 6 (some .int) : Cond) ∈ ze_B := ze_Bt 135 rfl rfl
theorem zw_136 : (.methodLink R_X 90 y_X_refusalOf : Cond) ∈ ze_B := ze_Bt 136 (by decide +kernel) rfl
theorem zw_138 : (.instanceMethod y_X_refusalOf : Cond) ∈ ze_B := ze_Bt 138 (by decide +kernel) rfl
theorem zw_139 : (.code y_X_refusalOf b_X_refusalOf 4 (some .int) : Cond) ∈ ze_B := ze_Bt 139 rfl rfl
theorem zw_140 : (.methodLink R_X 94 y_T_arrange : Cond) ∈ ze_B := ze_Bt 140 (by decide +kernel) rfl
theorem zw_141 : (.instanceMethod y_T_arrange : Cond) ∈ ze_B := ze_Bt 141 (by decide +kernel) rfl
theorem zw_142 : (.selects R_T y_T_arrange y_T_arrange : Cond) ∈ ze_B := ze_Bt 142 (by decide +kernel) rfl
theorem zw_143 : (.code y_T_arrange b_T_arrange 6 none : Cond) ∈ ze_B := ze_Bt 143 rfl rfl
theorem zw_145 : (.static y_X_compareRows : Cond) ∈ ze_B := ze_Bt 145 (by decide +kernel) rfl
theorem zw_146 : (.code y_X_compareRows b_X_compareRows 6 (some .int) : Cond) ∈ ze_B := ze_Bt 146 rfl rfl
theorem zw_147 : (.methodLink R_X 174 y_I_compare : Cond) ∈ ze_B := ze_Bt 147 (by decide +kernel) rfl
theorem zw_148 : (.static y_I_compare : Cond) ∈ ze_B := ze_Bt 148 (by decide +kernel) rfl
theorem zw_149 : (.code y_I_compare b_I_compare 2 (some .int) : Cond) ∈ ze_B := ze_Bt 149 rfl rfl
theorem zw_150 : (.methodLink R_X 98 y_X_sortCost : Cond) ∈ ze_B := ze_Bt 150 (by decide +kernel) rfl
theorem zw_152 : (.instanceMethod y_X_sortCost : Cond) ∈ ze_B := ze_Bt 152 (by decide +kernel) rfl
theorem zw_153 : (.code y_X_sortCost b_X_sortCost 5 (some .long) : Cond) ∈ ze_B := ze_Bt 153 rfl rfl
theorem zw_154 : (.constantLong R_X 124 2 : Cond) ∈ ze_B := ze_Bt 154 (by decide +kernel) rfl
theorem zw_155 : (.methodLink R_L 53 y_X_select : Cond) ∈ ze_B := ze_Bt 155 (by decide +kernel) rfl
theorem zw_156 : (.instanceMethod y_X_select : Cond) ∈ ze_B := ze_Bt 156 (by decide +kernel) rfl
theorem zw_157 : (.selects R_X y_X_select y_X_select : Cond) ∈ ze_B := ze_Bt 157 (by decide +kernel) rfl
theorem zw_158 : (.code y_X_select b_X_select 9 (some .int) : Cond) ∈ ze_B := ze_Bt 158 rfl rfl
theorem zw_159 : (.methodLink R_L 58 y_X_distinct : Cond) ∈ ze_B := ze_Bt 159 (by decide +kernel) rfl
theorem zw_160 : (.instanceMethod y_X_distinct : Cond) ∈ ze_B := ze_Bt 160 (by decide +kernel) rfl
theorem zw_161 : (.selects R_X y_X_distinct y_X_distinct : Cond) ∈ ze_B := ze_Bt 161 (by decide +kernel) rfl
theorem zw_162 : (.code y_X_distinct b_X_distinct 6 (some .int) : Cond) ∈ ze_B := ze_Bt 162 rfl rfl
theorem zw_163 : (.methodLink R_X 102 y_T_dropRepeats : Cond) ∈ ze_B := ze_Bt 163 (by decide +kernel) rfl
theorem zw_164 : (.instanceMethod y_T_dropRepeats : Cond) ∈ ze_B := ze_Bt 164 (by decide +kernel) rfl
theorem zw_165 : (.selects R_T y_T_dropRepeats y_T_dropRepeats : Cond) ∈ ze_B := ze_Bt 165 (by decide +kernel) rfl
theorem zw_166 : (.code y_T_dropRepeats b_T_dropRepeats 3 none : Cond) ∈ ze_B := ze_Bt 166 rfl rfl
theorem zw_167 : (.methodLink R_L 62 y_X_group : Cond) ∈ ze_B := ze_Bt 167 (by decide +kernel) rfl
theorem zw_168 : (.instanceMethod y_X_group : Cond) ∈ ze_B := ze_Bt 168 (by decide +kernel) rfl
theorem zw_169 : (.selects R_X y_X_group y_X_group : Cond) ∈ ze_B := ze_Bt 169 (by decide +kernel) rfl
theorem zw_170 : (.code y_X_group b_X_group 8 (some .int) : Cond) ∈ ze_B := ze_Bt 170 rfl rfl
theorem zw_171 : (.methodLink R_X 105 y_X_groupOneRound : Cond) ∈ ze_B := ze_Bt 171 (by decide +kernel) rfl
theorem zw_173 : (.instanceMethod y_X_groupOneRound : Cond) ∈ ze_B := ze_Bt 173 (by decide +kernel) rfl
theorem zw_174 : (.code y_X_groupOneRound b_X_groupOneRound 8 none : Cond) ∈ ze_B := ze_Bt 174 rfl rfl
theorem zw_175 : (.methodLink R_X 126 y_T_placeOfKey : Cond) ∈ ze_B := ze_Bt 175 (by decide +kernel) rfl
theorem zw_176 : (.instanceMethod y_T_placeOfKey : Cond) ∈ ze_B := ze_Bt 176 (by decide +kernel) rfl
theorem zw_177 : (.selects R_T y_T_placeOfKey y_T_placeOfKey : Cond) ∈ ze_B := ze_Bt 177 (by decide +kernel) rfl
theorem zw_178 : (.code y_T_placeOfKey b_T_placeOfKey 4 (some .int) : Cond) ∈ ze_B := ze_Bt 178 rfl rfl
theorem zw_179 : (.methodLink R_X 129 y_X_rowsInMemory : Cond) ∈ ze_B := ze_Bt 179 (by decide +kernel) rfl
theorem zw_181 : (.instanceMethod y_X_rowsInMemory : Cond) ∈ ze_B := ze_Bt 181 (by decide +kernel) rfl
theorem zw_182 : (.code y_X_rowsInMemory b_X_rowsInMemory 1 (some .int) : Cond) ∈ ze_B := ze_Bt 182 rfl rfl
theorem zw_183 : (.methodLink R_L 66 y_X_combine : Cond) ∈ ze_B := ze_Bt 183 (by decide +kernel) rfl
theorem zw_184 : (.instanceMethod y_X_combine : Cond) ∈ ze_B := ze_Bt 184 (by decide +kernel) rfl
theorem zw_185 : (.selects R_X y_X_combine y_X_combine : Cond) ∈ ze_B := ze_Bt 185 (by decide +kernel) rfl
theorem zw_186 : (.code y_X_combine b_X_combine 9 (some .int) : Cond) ∈ ze_B := ze_Bt 186 rfl rfl
theorem zw_187 : (.methodLink R_X 109 y_X_mergeBags : Cond) ∈ ze_B := ze_Bt 187 (by decide +kernel) rfl
theorem zw_189 : (.instanceMethod y_X_mergeBags : Cond) ∈ ze_B := ze_Bt 189 (by decide +kernel) rfl
theorem zw_190 : (.code y_X_mergeBags b_X_mergeBags 13 none : Cond) ∈ ze_B := ze_Bt 190 rfl rfl
theorem zw_191 : (.methodLink R_X 133 y_X_isNextFromA : Cond) ∈ ze_B := ze_Bt 191 (by decide +kernel) rfl
theorem zw_193 : (.instanceMethod y_X_isNextFromA : Cond) ∈ ze_B := ze_Bt 193 (by decide +kernel) rfl
theorem zw_194 : (.code y_X_isNextFromA b_X_isNextFromA 4 (some .boolean) : Cond) ∈ ze_B := ze_Bt 194 rfl rfl
theorem zw_195 : (.methodLink R_X 142 y_X_compareRows : Cond) ∈ ze_B := ze_Bt 195 (by decide +kernel) rfl
theorem zw_196 : (.methodLink R_X 136 y_T_repeatsFrom : Cond) ∈ ze_B := ze_Bt 196 (by decide +kernel) rfl
theorem zw_197 : (.instanceMethod y_T_repeatsFrom : Cond) ∈ ze_B := ze_Bt 197 (by decide +kernel) rfl
theorem zw_198 : (.selects R_T y_T_repeatsFrom y_T_repeatsFrom : Cond) ∈ ze_B := ze_Bt 198 (by decide +kernel) rfl
theorem zw_199 : (.code y_T_repeatsFrom b_T_repeatsFrom 5 (some .int) : Cond) ∈ ze_B := ze_Bt 199 rfl rfl
theorem zw_200 : (.methodLink R_X 139 y_X_timesInResult : Cond) ∈ ze_B := ze_Bt 200 (by decide +kernel) rfl
theorem zw_201 : (.static y_X_timesInResult : Cond) ∈ ze_B := ze_Bt 201 (by decide +kernel) rfl
theorem zw_202 : (.code y_X_timesInResult b_X_timesInResult 3 (some .int) : Cond) ∈ ze_B := ze_Bt 202 rfl rfl
theorem zw_203 : (.methodLink R_L 70 y_X_join : Cond) ∈ ze_B := ze_Bt 203 (by decide +kernel) rfl
theorem zw_204 : (.instanceMethod y_X_join : Cond) ∈ ze_B := ze_Bt 204 (by decide +kernel) rfl
theorem zw_205 : (.selects R_X y_X_join y_X_join : Cond) ∈ ze_B := ze_Bt 205 (by decide +kernel) rfl
theorem zw_206 : (.code y_X_join b_X_join 8 (some .int) : Cond) ∈ ze_B := ze_Bt 206 rfl rfl
theorem zw_207 : (.methodLink R_X 113 y_X_joinRanges : Cond) ∈ ze_B := ze_Bt 207 (by decide +kernel) rfl
theorem zw_209 : (.instanceMethod y_X_joinRanges : Cond) ∈ ze_B := ze_Bt 209 (by decide +kernel) rfl
theorem zw_210 : (.code y_X_joinRanges b_X_joinRanges 14 (some .long) : Cond) ∈ ze_B := ze_Bt 210 rfl rfl
theorem zw_211 : (.methodLink R_X 146 y_X_joinByChunks : Cond) ∈ ze_B := ze_Bt 211 (by decide +kernel) rfl
theorem zw_213 : (.instanceMethod y_X_joinByChunks : Cond) ∈ ze_B := ze_Bt 213 (by decide +kernel) rfl
theorem zw_214 : (.code y_X_joinByChunks b_X_joinByChunks 10 (some .long) : Cond) ∈ ze_B := ze_Bt 214 rfl rfl
theorem zw_215 : (.methodLink R_X 158 y_X_joinWithChunk : Cond) ∈ ze_B := ze_Bt 215 (by decide +kernel) rfl
theorem zw_217 : (.instanceMethod y_X_joinWithChunk : Cond) ∈ ze_B := ze_Bt 217 (by decide +kernel) rfl
theorem zw_218 : (.code y_X_joinWithChunk b_X_joinWithChunk 8 none : Cond) ∈ ze_B := ze_Bt 218 rfl rfl
theorem zw_219 : (.methodLink R_X 150 y_X_partition : Cond) ∈ ze_B := ze_Bt 219 (by decide +kernel) rfl
theorem zw_221 : (.instanceMethod y_X_partition : Cond) ∈ ze_B := ze_Bt 221 (by decide +kernel) rfl
theorem zw_222 : (.code y_X_partition b_X_partition 8 none : Cond) ∈ ze_B := ze_Bt 222 rfl rfl
theorem zw_223 : (.methodLink R_X 162 y_X_digitOf : Cond) ∈ ze_B := ze_Bt 223 (by decide +kernel) rfl
theorem zw_225 : (.instanceMethod y_X_digitOf : Cond) ∈ ze_B := ze_Bt 225 (by decide +kernel) rfl
theorem zw_226 : (.code y_X_digitOf b_X_digitOf 6 (some .int) : Cond) ∈ ze_B := ze_Bt 226 rfl rfl
theorem zw_227 : (.methodLink R_X 171 y_J_floorMod : Cond) ∈ ze_B := ze_Bt 227 (by decide +kernel) rfl
theorem zw_228 : (.static y_J_floorMod : Cond) ∈ ze_B := ze_Bt 228 (by decide +kernel) rfl
theorem zw_229 : (.code y_J_floorMod b_J_floorMod 3 (some .int) : Cond) ∈ ze_B := ze_Bt 229 rfl rfl
theorem zw_230 : (.methodLink R_X 165 arraycopyName : Cond) ∈ ze_B := ze_Bt 230 (by decide +kernel) rfl
theorem zw_231 : (.methodLink R_X 154 y_X_endOfPart : Cond) ∈ ze_B := ze_Bt 231 (by decide +kernel) rfl
theorem zw_233 : (.instanceMethod y_X_endOfPart : Cond) ∈ ze_B := ze_Bt 233 (by decide +kernel) rfl
theorem zw_234 : (.code y_X_endOfPart b_X_endOfPart 7 (some .int) : Cond) ∈ ze_B := ze_Bt 234 rfl rfl
theorem zw_235 : (.methodLink R_L 74 y_X_transfers : Cond) ∈ ze_B := ze_Bt 235 (by decide +kernel) rfl
theorem zw_236 : (.instanceMethod y_X_transfers : Cond) ∈ ze_B := ze_Bt 236 (by decide +kernel) rfl
theorem zw_237 : (.selects R_X y_X_transfers y_X_transfers : Cond) ∈ ze_B := ze_Bt 237 (by decide +kernel) rfl
theorem zw_238 : (.code y_X_transfers b_X_transfers 1 (some .long) : Cond) ∈ ze_B := ze_Bt 238 rfl rfl
theorem zw_239 : (.methodLink R_L 79 y_X_blocks : Cond) ∈ ze_B := ze_Bt 239 (by decide +kernel) rfl
theorem zw_240 : (.instanceMethod y_X_blocks : Cond) ∈ ze_B := ze_Bt 240 (by decide +kernel) rfl
theorem zw_241 : (.selects R_X y_X_blocks y_X_blocks : Cond) ∈ ze_B := ze_Bt 241 (by decide +kernel) rfl
theorem zw_242 : (.code y_X_blocks b_X_blocks 3 (some .int) : Cond) ∈ ze_B := ze_Bt 242 rfl rfl
theorem zw_243 : (.methodLink R_L 9 y_L_cell : Cond) ∈ ze_B := ze_Bt 243 (by decide +kernel) rfl
theorem zw_244 : (.static y_L_cell : Cond) ∈ ze_B := ze_Bt 244 (by decide +kernel) rfl
theorem zw_245 : (.code y_L_cell b_L_cell 2 (some .int) : Cond) ∈ ze_B := ze_Bt 245 rfl rfl
theorem zw_246 : (.classLink R_L 18 R_M : Cond) ∈ ze_B := ze_Bt 246 (by decide +kernel) rfl
theorem zw_247 : (.instantiable R_M 14 : Cond) ∈ ze_B := ze_Bt 247 (by decide +kernel) rfl
theorem zw_248 : (.methodLink R_L 20 y_M_init : Cond) ∈ ze_B := ze_Bt 248 (by decide +kernel) rfl
theorem zw_249 : (.instanceMethod y_M_init : Cond) ∈ ze_B := ze_Bt 249 (by decide +kernel) rfl
theorem zw_250 : (.code y_M_init b_M_init 3 none : Cond) ∈ ze_B := ze_Bt 250 rfl rfl
theorem zw_251 : (.methodLink R_M 1 objectInit : Cond) ∈ ze_B := ze_Bt 251 (by decide +kernel) rfl
theorem zw_252 : (.fieldLink R_M 34 "BlockExecutorModel" "memory" "I" : Cond) ∈ ze_B := ze_Bt 252 (by decide +kernel) rfl
theorem zw_253 : (.fieldLink R_M 51 "BlockExecutorModel" "moved" "J" : Cond) ∈ ze_B := ze_Bt 253 (by decide +kernel) rfl
theorem zw_254 : (.fieldLink R_M 44 "BlockExecutorModel" "typed" "I" : Cond) ∈ ze_B := ze_Bt 254 (by decide +kernel) rfl
theorem zw_255 : (.fieldLink R_M 7 "BlockExecutorModel" "typedKey" "[I" : Cond) ∈ ze_B := ze_Bt 255 (by decide +kernel) rfl
theorem zw_256 : (.fieldLink R_M 13 "BlockExecutorModel" "typedValue" "[I" : Cond) ∈ ze_B := ze_Bt 256 (by decide +kernel) rfl
theorem zw_257 : (.fieldLink R_M 16 "BlockExecutorModel" "count" "[I" : Cond) ∈ ze_B := ze_Bt 257 (by decide +kernel) rfl
theorem zw_258 : (.fieldLink R_M 19 "BlockExecutorModel" "keys" "[I" : Cond) ∈ ze_B := ze_Bt 258 (by decide +kernel) rfl
theorem zw_259 : (.fieldLink R_M 22 "BlockExecutorModel" "values" "[I" : Cond) ∈ ze_B := ze_Bt 259 (by decide +kernel) rfl
theorem zw_260 : (.fieldLink R_M 55 "BlockExecutorModel" "made" "I" : Cond) ∈ ze_B := ze_Bt 260 (by decide +kernel) rfl
theorem zw_261 : (.fieldLink R_M 25 "BlockExecutorModel" "madeKey" "[I" : Cond) ∈ ze_B := ze_Bt 261 (by decide +kernel) rfl
theorem zw_262 : (.fieldLink R_M 28 "BlockExecutorModel" "madeValue" "[I" : Cond) ∈ ze_B := ze_Bt 262 (by decide +kernel) rfl
theorem zw_263 : (.fieldLink R_M 58 "BlockExecutorModel" "cost" "J" : Cond) ∈ ze_B := ze_Bt 263 (by decide +kernel) rfl
theorem zw_264 : (.fieldLink R_M 98 "BlockExecutorModel" "level" "I" : Cond) ∈ ze_B := ze_Bt 264 (by decide +kernel) rfl
theorem zw_265 : (.fieldLink R_M 31 "BlockExecutorModel" "path" "[I" : Cond) ∈ ze_B := ze_Bt 265 (by decide +kernel) rfl
theorem zw_266 : (.laysFinal R_M "BlockExecutorModel" "memory" "I" : Cond) ∈ ze_B := ze_Bt 266 (by decide +kernel) rfl
theorem zw_268 : (.lays R_M "BlockExecutorModel" "moved" "J" : Cond) ∈ ze_B := ze_Bt 268 (by decide +kernel) rfl
theorem zw_270 : (.lays R_M "BlockExecutorModel" "typed" "I" : Cond) ∈ ze_B := ze_Bt 270 (by decide +kernel) rfl
theorem zw_272 : (.laysFinal R_M "BlockExecutorModel" "typedKey" "[I" : Cond) ∈ ze_B := ze_Bt 272 (by decide +kernel) rfl
theorem zw_274 : (.laysFinal R_M "BlockExecutorModel" "typedValue" "[I" : Cond) ∈ ze_B := ze_Bt 274 (by decide +kernel) rfl
theorem zw_276 : (.laysFinal R_M "BlockExecutorModel" "count" "[I" : Cond) ∈ ze_B := ze_Bt 276 (by decide +kernel) rfl
theorem zw_278 : (.laysFinal R_M "BlockExecutorModel" "keys" "[I" : Cond) ∈ ze_B := ze_Bt 278 (by decide +kernel) rfl
theorem zw_280 : (.laysFinal R_M "BlockExecutorModel" "values" "[I" : Cond) ∈ ze_B := ze_Bt 280 (by decide +kernel) rfl
theorem zw_282 : (.lays R_M "BlockExecutorModel" "made" "I" : Cond) ∈ ze_B := ze_Bt 282 (by decide +kernel) rfl
theorem zw_284 : (.laysFinal R_M "BlockExecutorModel" "madeKey" "[I" : Cond) ∈ ze_B := ze_Bt 284 (by decide +kernel) rfl
theorem zw_286 : (.laysFinal R_M "BlockExecutorModel" "madeValue" "[I" : Cond) ∈ ze_B := ze_Bt 286 (by decide +kernel) rfl
theorem zw_288 : (.lays R_M "BlockExecutorModel" "cost" "J" : Cond) ∈ ze_B := ze_Bt 288 (by decide +kernel) rfl
theorem zw_290 : (.lays R_M "BlockExecutorModel" "level" "I" : Cond) ∈ ze_B := ze_Bt 290 (by decide +kernel) rfl
theorem zw_292 : (.laysFinal R_M "BlockExecutorModel" "path" "[I" : Cond) ∈ ze_B := ze_Bt 292 (by decide +kernel) rfl
theorem zw_295 : (.methodLink R_L 25 y_M_put : Cond) ∈ ze_B := ze_Bt 295 (by decide +kernel) rfl
theorem zw_296 : (.instanceMethod y_M_put : Cond) ∈ ze_B := ze_Bt 296 (by decide +kernel) rfl
theorem zw_297 : (.selects R_M y_M_put y_M_put : Cond) ∈ ze_B := ze_Bt 297 (by decide +kernel) rfl
theorem zw_298 : (.code y_M_put b_M_put 3 (some .boolean) : Cond) ∈ ze_B := ze_Bt 298 rfl rfl
theorem zw_299 : (.methodLink R_L 30 y_M_store : Cond) ∈ ze_B := ze_Bt 299 (by decide +kernel) rfl
theorem zw_300 : (.instanceMethod y_M_store : Cond) ∈ ze_B := ze_Bt 300 (by decide +kernel) rfl
theorem zw_301 : (.selects R_M y_M_store y_M_store : Cond) ∈ ze_B := ze_Bt 301 (by decide +kernel) rfl
theorem zw_302 : (.code y_M_store b_M_store 3 (some .int) : Cond) ∈ ze_B := ze_Bt 302 rfl rfl
theorem zw_303 : (.methodLink R_M 47 y_M_slot : Cond) ∈ ze_B := ze_Bt 303 (by decide +kernel) rfl
theorem zw_304 : (.static y_M_slot : Cond) ∈ ze_B := ze_Bt 304 (by decide +kernel) rfl
theorem zw_305 : (.code y_M_slot b_M_slot 1 (some .boolean) : Cond) ∈ ze_B := ze_Bt 305 rfl rfl
theorem zw_306 : (.methodLink R_M 38 y_M_size : Cond) ∈ ze_B := ze_Bt 306 (by decide +kernel) rfl
theorem zw_307 : (.static y_M_size : Cond) ∈ ze_B := ze_Bt 307 (by decide +kernel) rfl
theorem zw_308 : (.code y_M_size b_M_size 1 (some .int) : Cond) ∈ ze_B := ze_Bt 308 rfl rfl
theorem zw_309 : (.methodLink R_L 34 y_M_drop : Cond) ∈ ze_B := ze_Bt 309 (by decide +kernel) rfl
theorem zw_310 : (.instanceMethod y_M_drop : Cond) ∈ ze_B := ze_Bt 310 (by decide +kernel) rfl
theorem zw_311 : (.selects R_M y_M_drop y_M_drop : Cond) ∈ ze_B := ze_Bt 311 (by decide +kernel) rfl
theorem zw_312 : (.code y_M_drop b_M_drop 3 (some .int) : Cond) ∈ ze_B := ze_Bt 312 rfl rfl
theorem zw_313 : (.methodLink R_L 38 y_M_rows : Cond) ∈ ze_B := ze_Bt 313 (by decide +kernel) rfl
theorem zw_314 : (.instanceMethod y_M_rows : Cond) ∈ ze_B := ze_Bt 314 (by decide +kernel) rfl
theorem zw_315 : (.selects R_M y_M_rows y_M_rows : Cond) ∈ ze_B := ze_Bt 315 (by decide +kernel) rfl
theorem zw_316 : (.code y_M_rows b_M_rows 2 (some .int) : Cond) ∈ ze_B := ze_Bt 316 rfl rfl
theorem zw_317 : (.methodLink R_L 43 y_M_key : Cond) ∈ ze_B := ze_Bt 317 (by decide +kernel) rfl
theorem zw_318 : (.instanceMethod y_M_key : Cond) ∈ ze_B := ze_Bt 318 (by decide +kernel) rfl
theorem zw_319 : (.selects R_M y_M_key y_M_key : Cond) ∈ ze_B := ze_Bt 319 (by decide +kernel) rfl
theorem zw_320 : (.code y_M_key b_M_key 3 (some .int) : Cond) ∈ ze_B := ze_Bt 320 rfl rfl
theorem zw_321 : (.methodLink R_L 47 y_M_value : Cond) ∈ ze_B := ze_Bt 321 (by decide +kernel) rfl
theorem zw_322 : (.instanceMethod y_M_value : Cond) ∈ ze_B := ze_Bt 322 (by decide +kernel) rfl
theorem zw_323 : (.selects R_M y_M_value y_M_value : Cond) ∈ ze_B := ze_Bt 323 (by decide +kernel) rfl
theorem zw_324 : (.code y_M_value b_M_value 3 (some .int) : Cond) ∈ ze_B := ze_Bt 324 rfl rfl
theorem zw_325 : (.methodLink R_L 52 y_M_sort : Cond) ∈ ze_B := ze_Bt 325 (by decide +kernel) rfl
theorem zw_326 : (.instanceMethod y_M_sort : Cond) ∈ ze_B := ze_Bt 326 (by decide +kernel) rfl
theorem zw_327 : (.selects R_M y_M_sort y_M_sort : Cond) ∈ ze_B := ze_Bt 327 (by decide +kernel) rfl
theorem zw_328 : (.code y_M_sort b_M_sort 9 (some .int) : Cond) ∈ ze_B := ze_Bt 328 rfl rfl
theorem zw_329 : (.methodLink R_M 65 y_M_refuse : Cond) ∈ ze_B := ze_Bt 329 (by decide +kernel) rfl
theorem zw_331 : (.instanceMethod y_M_refuse : Cond) ∈ ze_B := ze_Bt 331 (by decide +kernel) rfl
theorem zw_332 : (.code y_M_refuse b_M_refuse 5 (some .int) : Cond) ∈ ze_B := ze_Bt 332 rfl rfl
theorem zw_333 : (.methodLink R_M 69 y_M_before : Cond) ∈ ze_B := ze_Bt 333 (by decide +kernel) rfl
theorem zw_335 : (.instanceMethod y_M_before : Cond) ∈ ze_B := ze_Bt 335 (by decide +kernel) rfl
theorem zw_336 : (.code y_M_before b_M_before 8 (some .boolean) : Cond) ∈ ze_B := ze_Bt 336 rfl rfl
theorem zw_337 : (.methodLink R_M 61 y_M_compare : Cond) ∈ ze_B := ze_Bt 337 (by decide +kernel) rfl
theorem zw_338 : (.static y_M_compare : Cond) ∈ ze_B := ze_Bt 338 (by decide +kernel) rfl
theorem zw_339 : (.code y_M_compare b_M_compare 4 (some .int) : Cond) ∈ ze_B := ze_Bt 339 rfl rfl
theorem zw_340 : (.methodLink R_M 73 y_M_sortCost : Cond) ∈ ze_B := ze_Bt 340 (by decide +kernel) rfl
theorem zw_342 : (.instanceMethod y_M_sortCost : Cond) ∈ ze_B := ze_Bt 342 (by decide +kernel) rfl
theorem zw_343 : (.code y_M_sortCost b_M_sortCost 5 (some .long) : Cond) ∈ ze_B := ze_Bt 343 rfl rfl
theorem zw_344 : (.constantLong R_M 42 2 : Cond) ∈ ze_B := ze_Bt 344 (by decide +kernel) rfl
theorem zw_345 : (.methodLink R_M 77 y_M_finish : Cond) ∈ ze_B := ze_Bt 345 (by decide +kernel) rfl
theorem zw_347 : (.instanceMethod y_M_finish : Cond) ∈ ze_B := ze_Bt 347 (by decide +kernel) rfl
theorem zw_348 : (.code y_M_finish b_M_finish 3 (some .int) : Cond) ∈ ze_B := ze_Bt 348 rfl rfl
theorem zw_349 : (.methodLink R_L 57 y_M_select : Cond) ∈ ze_B := ze_Bt 349 (by decide +kernel) rfl
theorem zw_350 : (.instanceMethod y_M_select : Cond) ∈ ze_B := ze_Bt 350 (by decide +kernel) rfl
theorem zw_351 : (.selects R_M y_M_select y_M_select : Cond) ∈ ze_B := ze_Bt 351 (by decide +kernel) rfl
theorem zw_352 : (.code y_M_select b_M_select 8 (some .int) : Cond) ∈ ze_B := ze_Bt 352 rfl rfl
theorem zw_353 : (.methodLink R_M 80 y_M_make : Cond) ∈ ze_B := ze_Bt 353 (by decide +kernel) rfl
theorem zw_355 : (.instanceMethod y_M_make : Cond) ∈ ze_B := ze_Bt 355 (by decide +kernel) rfl
theorem zw_356 : (.code y_M_make b_M_make 3 none : Cond) ∈ ze_B := ze_Bt 356 rfl rfl
theorem zw_357 : (.methodLink R_L 61 y_M_distinct : Cond) ∈ ze_B := ze_Bt 357 (by decide +kernel) rfl
theorem zw_358 : (.instanceMethod y_M_distinct : Cond) ∈ ze_B := ze_Bt 358 (by decide +kernel) rfl
theorem zw_359 : (.selects R_M y_M_distinct y_M_distinct : Cond) ∈ ze_B := ze_Bt 359 (by decide +kernel) rfl
theorem zw_360 : (.code y_M_distinct b_M_distinct 5 (some .int) : Cond) ∈ ze_B := ze_Bt 360 rfl rfl
theorem zw_361 : (.methodLink R_M 84 y_M_next : Cond) ∈ ze_B := ze_Bt 361 (by decide +kernel) rfl
theorem zw_363 : (.instanceMethod y_M_next : Cond) ∈ ze_B := ze_Bt 363 (by decide +kernel) rfl
theorem zw_364 : (.code y_M_next b_M_next 9 (some .int) : Cond) ∈ ze_B := ze_Bt 364 rfl rfl
theorem zw_365 : (.methodLink R_L 69 y_M_combine : Cond) ∈ ze_B := ze_Bt 365 (by decide +kernel) rfl
theorem zw_366 : (.instanceMethod y_M_combine : Cond) ∈ ze_B := ze_Bt 366 (by decide +kernel) rfl
theorem zw_367 : (.selects R_M y_M_combine y_M_combine : Cond) ∈ ze_B := ze_Bt 367 (by decide +kernel) rfl
theorem zw_368 : (.code y_M_combine b_M_combine 11 (some .int) : Cond) ∈ ze_B := ze_Bt 368 rfl rfl
theorem zw_369 : (.methodLink R_M 88 y_M_times : Cond) ∈ ze_B := ze_Bt 369 (by decide +kernel) rfl
theorem zw_371 : (.instanceMethod y_M_times : Cond) ∈ ze_B := ze_Bt 371 (by decide +kernel) rfl
theorem zw_372 : (.code y_M_times b_M_times 6 (some .int) : Cond) ∈ ze_B := ze_Bt 372 rfl rfl
theorem zw_373 : (.methodLink R_L 65 y_M_group : Cond) ∈ ze_B := ze_Bt 373 (by decide +kernel) rfl
theorem zw_374 : (.instanceMethod y_M_group : Cond) ∈ ze_B := ze_Bt 374 (by decide +kernel) rfl
theorem zw_375 : (.selects R_M y_M_group y_M_group : Cond) ∈ ze_B := ze_Bt 375 (by decide +kernel) rfl
theorem zw_376 : (.code y_M_group b_M_group 8 (some .int) : Cond) ∈ ze_B := ze_Bt 376 rfl rfl
theorem zw_377 : (.methodLink R_M 91 y_M_rank : Cond) ∈ ze_B := ze_Bt 377 (by decide +kernel) rfl
theorem zw_379 : (.instanceMethod y_M_rank : Cond) ∈ ze_B := ze_Bt 379 (by decide +kernel) rfl
theorem zw_380 : (.code y_M_rank b_M_rank 8 (some .int) : Cond) ∈ ze_B := ze_Bt 380 rfl rfl
theorem zw_381 : (.methodLink R_M 95 y_M_behind : Cond) ∈ ze_B := ze_Bt 381 (by decide +kernel) rfl
theorem zw_383 : (.instanceMethod y_M_behind : Cond) ∈ ze_B := ze_Bt 383 (by decide +kernel) rfl
theorem zw_384 : (.code y_M_behind b_M_behind 5 (some .int) : Cond) ∈ ze_B := ze_Bt 384 rfl rfl
theorem zw_385 : (.methodLink R_L 73 y_M_join : Cond) ∈ ze_B := ze_Bt 385 (by decide +kernel) rfl
theorem zw_386 : (.instanceMethod y_M_join : Cond) ∈ ze_B := ze_Bt 386 (by decide +kernel) rfl
theorem zw_387 : (.selects R_M y_M_join y_M_join : Cond) ∈ ze_B := ze_Bt 387 (by decide +kernel) rfl
theorem zw_388 : (.code y_M_join b_M_join 6 (some .int) : Cond) ∈ ze_B := ze_Bt 388 rfl rfl
theorem zw_389 : (.methodLink R_M 119 y_M_visit : Cond) ∈ ze_B := ze_Bt 389 (by decide +kernel) rfl
theorem zw_391 : (.instanceMethod y_M_visit : Cond) ∈ ze_B := ze_Bt 391 (by decide +kernel) rfl
theorem zw_392 : (.code y_M_visit b_M_visit 9 (some .boolean) : Cond) ∈ ze_B := ze_Bt 392 rfl rfl
theorem zw_393 : (.methodLink R_M 107 y_M_many : Cond) ∈ ze_B := ze_Bt 393 (by decide +kernel) rfl
theorem zw_395 : (.instanceMethod y_M_many : Cond) ∈ ze_B := ze_Bt 395 (by decide +kernel) rfl
theorem zw_396 : (.code y_M_many b_M_many 7 (some .int) : Cond) ∈ ze_B := ze_Bt 396 rfl rfl
theorem zw_397 : (.methodLink R_M 104 y_M_here : Cond) ∈ ze_B := ze_Bt 397 (by decide +kernel) rfl
theorem zw_399 : (.instanceMethod y_M_here : Cond) ∈ ze_B := ze_Bt 399 (by decide +kernel) rfl
theorem zw_400 : (.code y_M_here b_M_here 3 (some .boolean) : Cond) ∈ ze_B := ze_Bt 400 rfl rfl
theorem zw_401 : (.methodLink R_M 101 y_M_digit : Cond) ∈ ze_B := ze_Bt 401 (by decide +kernel) rfl
theorem zw_403 : (.instanceMethod y_M_digit : Cond) ∈ ze_B := ze_Bt 403 (by decide +kernel) rfl
theorem zw_404 : (.code y_M_digit b_M_digit 6 (some .int) : Cond) ∈ ze_B := ze_Bt 404 rfl rfl
theorem zw_405 : (.methodLink R_M 115 y_M_chunks : Cond) ∈ ze_B := ze_Bt 405 (by decide +kernel) rfl
theorem zw_407 : (.instanceMethod y_M_chunks : Cond) ∈ ze_B := ze_Bt 407 (by decide +kernel) rfl
theorem zw_408 : (.code y_M_chunks b_M_chunks 8 none : Cond) ∈ ze_B := ze_Bt 408 rfl rfl
theorem zw_409 : (.methodLink R_M 111 y_M_chunk : Cond) ∈ ze_B := ze_Bt 409 (by decide +kernel) rfl
theorem zw_411 : (.instanceMethod y_M_chunk : Cond) ∈ ze_B := ze_Bt 411 (by decide +kernel) rfl
theorem zw_412 : (.code y_M_chunk b_M_chunk 7 none : Cond) ∈ ze_B := ze_Bt 412 rfl rfl
theorem zw_413 : (.methodLink R_L 78 y_M_transfers : Cond) ∈ ze_B := ze_Bt 413 (by decide +kernel) rfl
theorem zw_414 : (.instanceMethod y_M_transfers : Cond) ∈ ze_B := ze_Bt 414 (by decide +kernel) rfl
theorem zw_415 : (.selects R_M y_M_transfers y_M_transfers : Cond) ∈ ze_B := ze_Bt 415 (by decide +kernel) rfl
theorem zw_416 : (.code y_M_transfers b_M_transfers 1 (some .long) : Cond) ∈ ze_B := ze_Bt 416 rfl rfl
theorem zw_417 : (.methodLink R_L 83 y_M_blocks : Cond) ∈ ze_B := ze_Bt 417 (by decide +kernel) rfl
theorem zw_418 : (.instanceMethod y_M_blocks : Cond) ∈ ze_B := ze_Bt 418 (by decide +kernel) rfl
theorem zw_419 : (.selects R_M y_M_blocks y_M_blocks : Cond) ∈ ze_B := ze_Bt 419 (by decide +kernel) rfl
theorem zw_420 : (.code y_M_blocks b_M_blocks 3 (some .int) : Cond) ∈ ze_B := ze_Bt 420 rfl rfl
theorem zs_0 : (.selects R_X y_X_finish y_X_finish : Cond) ∈ ze_B := ze_Bs (q := (y_X_finish, 8)) 0 (by decide +kernel)
theorem zs_1 : (.selects R_X y_X_holdsTable y_X_holdsTable : Cond) ∈ ze_B := ze_Bs (q := (y_X_holdsTable, 8)) 1 (by decide +kernel)
theorem zs_2 : (.selects R_X y_X_holdsRow y_X_holdsRow : Cond) ∈ ze_B := ze_Bs (q := (y_X_holdsRow, 8)) 2 (by decide +kernel)
theorem zs_3 : (.selects R_X y_X_refusalOf y_X_refusalOf : Cond) ∈ ze_B := ze_Bs (q := (y_X_refusalOf, 8)) 3 (by decide +kernel)
theorem zs_4 : (.selects R_X y_X_sortCost y_X_sortCost : Cond) ∈ ze_B := ze_Bs (q := (y_X_sortCost, 8)) 4 (by decide +kernel)
theorem zs_5 : (.selects R_X y_X_groupOneRound y_X_groupOneRound : Cond) ∈ ze_B := ze_Bs (q := (y_X_groupOneRound, 8)) 5 (by decide +kernel)
theorem zs_6 : (.selects R_X y_X_rowsInMemory y_X_rowsInMemory : Cond) ∈ ze_B := ze_Bs (q := (y_X_rowsInMemory, 8)) 6 (by decide +kernel)
theorem zs_7 : (.selects R_X y_X_mergeBags y_X_mergeBags : Cond) ∈ ze_B := ze_Bs (q := (y_X_mergeBags, 8)) 7 (by decide +kernel)
theorem zs_8 : (.selects R_X y_X_isNextFromA y_X_isNextFromA : Cond) ∈ ze_B := ze_Bs (q := (y_X_isNextFromA, 8)) 8 (by decide +kernel)
theorem zs_9 : (.selects R_X y_X_joinRanges y_X_joinRanges : Cond) ∈ ze_B := ze_Bs (q := (y_X_joinRanges, 8)) 9 (by decide +kernel)
theorem zs_10 : (.selects R_X y_X_joinByChunks y_X_joinByChunks : Cond) ∈ ze_B := ze_Bs (q := (y_X_joinByChunks, 8)) 10 (by decide +kernel)
theorem zs_11 : (.selects R_X y_X_joinWithChunk y_X_joinWithChunk : Cond) ∈ ze_B := ze_Bs (q := (y_X_joinWithChunk, 8)) 11 (by decide +kernel)
theorem zs_12 : (.selects R_X y_X_partition y_X_partition : Cond) ∈ ze_B := ze_Bs (q := (y_X_partition, 8)) 12 (by decide +kernel)
theorem zs_13 : (.selects R_X y_X_digitOf y_X_digitOf : Cond) ∈ ze_B := ze_Bs (q := (y_X_digitOf, 8)) 13 (by decide +kernel)
theorem zs_14 : (.selects R_X y_X_endOfPart y_X_endOfPart : Cond) ∈ ze_B := ze_Bs (q := (y_X_endOfPart, 8)) 14 (by decide +kernel)
theorem zs_15 : (.selects R_M y_M_refuse y_M_refuse : Cond) ∈ ze_B := ze_Bs (q := (y_M_refuse, 14)) 15 (by decide +kernel)
theorem zs_16 : (.selects R_M y_M_before y_M_before : Cond) ∈ ze_B := ze_Bs (q := (y_M_before, 14)) 16 (by decide +kernel)
theorem zs_17 : (.selects R_M y_M_sortCost y_M_sortCost : Cond) ∈ ze_B := ze_Bs (q := (y_M_sortCost, 14)) 17 (by decide +kernel)
theorem zs_18 : (.selects R_M y_M_finish y_M_finish : Cond) ∈ ze_B := ze_Bs (q := (y_M_finish, 14)) 18 (by decide +kernel)
theorem zs_19 : (.selects R_M y_M_make y_M_make : Cond) ∈ ze_B := ze_Bs (q := (y_M_make, 14)) 19 (by decide +kernel)
theorem zs_20 : (.selects R_M y_M_next y_M_next : Cond) ∈ ze_B := ze_Bs (q := (y_M_next, 14)) 20 (by decide +kernel)
theorem zs_21 : (.selects R_M y_M_times y_M_times : Cond) ∈ ze_B := ze_Bs (q := (y_M_times, 14)) 21 (by decide +kernel)
theorem zs_22 : (.selects R_M y_M_rank y_M_rank : Cond) ∈ ze_B := ze_Bs (q := (y_M_rank, 14)) 22 (by decide +kernel)
theorem zs_23 : (.selects R_M y_M_behind y_M_behind : Cond) ∈ ze_B := ze_Bs (q := (y_M_behind, 14)) 23 (by decide +kernel)
theorem zs_24 : (.selects R_M y_M_visit y_M_visit : Cond) ∈ ze_B := ze_Bs (q := (y_M_visit, 14)) 24 (by decide +kernel)
theorem zs_25 : (.selects R_M y_M_many y_M_many : Cond) ∈ ze_B := ze_Bs (q := (y_M_many, 14)) 25 (by decide +kernel)
theorem zs_26 : (.selects R_M y_M_here y_M_here : Cond) ∈ ze_B := ze_Bs (q := (y_M_here, 14)) 26 (by decide +kernel)
theorem zs_27 : (.selects R_M y_M_digit y_M_digit : Cond) ∈ ze_B := ze_Bs (q := (y_M_digit, 14)) 27 (by decide +kernel)
theorem zs_28 : (.selects R_M y_M_chunks y_M_chunks : Cond) ∈ ze_B := ze_Bs (q := (y_M_chunks, 14)) 28 (by decide +kernel)
theorem zs_29 : (.selects R_M y_M_chunk y_M_chunk : Cond) ∈ ze_B := ze_Bs (q := (y_M_chunk, 14)) 29 (by decide +kernel)
theorem in_T : ∀ w ∈ u_ws R_T F_T 4, w ∈ ze_B := (ze_gcons zw_36 ( ze_gcons zw_38 ( ze_gcons zw_40 ( ze_gcons zw_42 (fun _ h => absurd h List.not_mem_nil)))) : ∀ w ∈ ([.laysFinal R_T "BlockExecutor$Table" "keys" "[I", .laysFinal R_T "BlockExecutor$Table" "values" "[I", .lays R_T "BlockExecutor$Table" "count" "I", .lays R_T "BlockExecutor$Table" "overfull" "Z"] : List Cond), w ∈ ze_B)
theorem in_X : ∀ w ∈ u_ws R_X F_X 8, w ∈ ze_B := (ze_gcons zw_54 ( ze_gcons zw_56 ( ze_gcons zw_58 ( ze_gcons zw_60 ( ze_gcons zw_62 ( ze_gcons zw_64 ( ze_gcons zw_66 ( ze_gcons zw_68 (fun _ h => absurd h List.not_mem_nil)))))))) : ∀ w ∈ ([.laysFinal R_X "BlockExecutor" "frames" "I", .laysFinal R_X "BlockExecutor" "tables" "[LBlockExecutor$Table;", .laysFinal R_X "BlockExecutor" "held" "[Z", .laysFinal R_X "BlockExecutor" "input" "LBlockExecutor$Table;", .laysFinal R_X "BlockExecutor" "workA" "LBlockExecutor$Table;", .laysFinal R_X "BlockExecutor" "workB" "LBlockExecutor$Table;", .laysFinal R_X "BlockExecutor" "spare" "LBlockExecutor$Table;", .lays R_X "BlockExecutor" "moved" "J"] : List Cond), w ∈ ze_B)
theorem in_M : ∀ w ∈ u_ws R_M F_M 14, w ∈ ze_B := (ze_gcons zw_266 ( ze_gcons zw_268 ( ze_gcons zw_270 ( ze_gcons zw_272 ( ze_gcons zw_274 ( ze_gcons zw_276 ( ze_gcons zw_278 ( ze_gcons zw_280 ( ze_gcons zw_282 ( ze_gcons zw_284 ( ze_gcons zw_286 ( ze_gcons zw_288 ( ze_gcons zw_290 ( ze_gcons zw_292 (fun _ h => absurd h List.not_mem_nil)))))))))))))) : ∀ w ∈ ([.laysFinal R_M "BlockExecutorModel" "memory" "I", .lays R_M "BlockExecutorModel" "moved" "J", .lays R_M "BlockExecutorModel" "typed" "I", .laysFinal R_M "BlockExecutorModel" "typedKey" "[I", .laysFinal R_M "BlockExecutorModel" "typedValue" "[I", .laysFinal R_M "BlockExecutorModel" "count" "[I", .laysFinal R_M "BlockExecutorModel" "keys" "[I", .laysFinal R_M "BlockExecutorModel" "values" "[I", .lays R_M "BlockExecutorModel" "made" "I", .laysFinal R_M "BlockExecutorModel" "madeKey" "[I", .laysFinal R_M "BlockExecutorModel" "madeValue" "[I", .lays R_M "BlockExecutorModel" "cost" "J", .lays R_M "BlockExecutorModel" "level" "I", .laysFinal R_M "BlockExecutorModel" "path" "[I"] : List Cond), w ∈ ze_B)
/-- what the tables say beside the words: the two links of nest mates, the array over tables -/
def ze_N (U : State) : Prop := va_Nw (.methodLinkNest R_X 28 y_T_init "BlockExecutor") U ∧ va_Nw (.methodLinkNest R_T 32 y_X_compareRows "BlockExecutor") U ∧ va_AO R_T U
theorem ze_N.same {u U : State} (h : u.vm = U.vm) (hN : ze_N u) : ze_N U := ⟨va_Nw.same rfl h hN.1, va_Nw.same rfl h hN.2.1, va_AO.moved (by rw [← h]; exact Vm.Alike.refl _) hN.2.2⟩
theorem ze_N.warm {s U : State} (hN : ze_N s) (hW : s.WarmedH U.vm) : ze_N U := ⟨va_Nw.warmM hW hN.1, va_Nw.warmM hW hN.2.1, va_AO.moved hW.alike hN.2.2⟩
end
section
/-! THE LAYER: one judgement ze_V over a world of numbered cells. Cell k lies at address ad k and holds E k; a store changes E at one number. The static facts of a method are ze_C, its end is ze_Rt, a contract is ze_M. -/
def ze_w (n : Nat) (ad : Nat → Nat) (E : Nat → va_E) : va_W := (List.range n).map (fun k => (ad k, E k))
theorem ze_w_get {n : Nat} {ad : Nat → Nat} {E : Nat → va_E} {k : Nat} (h : k < n) : (ze_w n ad E)[k]? = some (ad k, E k) := by
  simp [ze_w, h]
theorem ze_w_eq {n : Nat} {ad : Nat → Nat} {E : Nat → va_E} {k : Nat} {e : va_E} (h : k < n) (he : E k = e) : (ze_w n ad E)[k]? = some (ad k, e) := by
  rw [ze_w_get h, he]
theorem ze_w_inv {n : Nat} {ad : Nat → Nat} {E : Nat → va_E} {k : Nat} {q : Nat × va_E} (h : (ze_w n ad E)[k]? = some q) : k < n ∧ q = (ad k, E k) := by
  by_cases hk : k < n
  · rw [ze_w_get hk] at h
    exact ⟨hk, (Option.some.inj h).symm⟩
  · simp [ze_w, hk] at h
theorem ze_w_set {n : Nat} {ad : Nat → Nat} {E : Nat → va_E} {k : Nat} {e : va_E} (h : k < n) : (ze_w n ad E).set k (ad k, e) = ze_w n ad (va_up E k e) := by
  apply List.ext_getElem?
  intro j
  by_cases hj : j = k
  · subst hj
    rw [List.getElem?_set_self (by simp [ze_w, h]), ze_w_get h, va_up_self]
  · rw [List.getElem?_set_ne (Ne.symm hj)]
    by_cases hn : j < n
    · rw [ze_w_get hn, ze_w_get hn, va_up_ne _ _ hj]
    · simp [ze_w, hn]
theorem ze_w_push {n : Nat} {ad : Nat → Nat} {E : Nat → va_E} {q : Nat} {e : va_E} : ze_w n ad E ++ [(q, e)] = ze_w (n + 1) (va_up ad n q) (va_up E n e) := by
  unfold ze_w
  rw [List.range_succ, List.map_append]
  congr 1
  · apply List.map_congr_left
    intro k hk
    have hk := List.mem_range.mp hk
    rw [va_up_ne _ _ (by omega), va_up_ne _ _ (by omega)]
  · simp [va_up]
/-- the world's cells, and those that come from sz on -/
def ze_Af (n : Nat) (ad : Nat → Nat) (sz : Nat) : Nat → Prop := fun q => (∃ k, k < n ∧ q = ad k) ∨ sz ≤ q
abbrev ze_ty (ids : Nat → ClassId) : List (ClassId × FieldType) := [(ids 0, .int), (ids 1, .boolean), (ids 2, .object ze_RT)]
abbrev ze_G : Type := Program × Launch × Env × Room × State × MethodId × Array Value × List Frame × Method × Code × (State → Prop) × Nat × va_G × (Nat → ClassId) × (Nat → Prop)
abbrev ze_p (G : ze_G) : Program := G.1
abbrev ze_l (G : ze_G) : Launch := G.2.1
abbrev ze_e (G : ze_G) : Env := G.2.2.1
abbrev ze_R (G : ze_G) : Room := G.2.2.2.1
abbrev ze_s (G : ze_G) : State := G.2.2.2.2.1
abbrev ze_m (G : ze_G) : MethodId := G.2.2.2.2.2.1
abbrev ze_a (G : ze_G) : Array Value := G.2.2.2.2.2.2.1
abbrev ze_b (G : ze_G) : List Frame := G.2.2.2.2.2.2.2.1
abbrev ze_me (G : ze_G) : Method := G.2.2.2.2.2.2.2.2.1
abbrev ze_c (G : ze_G) : Code := G.2.2.2.2.2.2.2.2.2.1
abbrev ze_Q (G : ze_G) : State → Prop := G.2.2.2.2.2.2.2.2.2.2.1
abbrev ze_nL (G : ze_G) : Nat := G.2.2.2.2.2.2.2.2.2.2.2.1
abbrev ze_D (G : ze_G) : va_G := G.2.2.2.2.2.2.2.2.2.2.2.2.1
abbrev ze_i (G : ze_G) : Nat → ClassId := G.2.2.2.2.2.2.2.2.2.2.2.2.2.1
abbrev ze_A (G : ze_G) : Nat → Prop := G.2.2.2.2.2.2.2.2.2.2.2.2.2.2
/-- the machine at pc with the listed locals, the stack st and the world (n, ad, E) comes to the method's end -/
def ze_V (G : ze_G) (n : Nat) (ad : Nat → Nat) (E : Nat → va_E) (cells slots pc : Nat) (lv : List (Nat × Value)) (st : List Value) : Prop :=
  ∀ (H : Heap) (locs : List Loc) (ls : Array Slot), va_P (ze_D G) vwCl (ze_w n ad E) H → va_D (ze_A G) (ze_w n ad E) → va_S (ze_A G) (ze_s G).heap H locs → lv_has ls (ze_nL G) lv →
    W (ze_p G) (ze_l G) (ze_e G) (ze_R G) (ze_s G) (ze_m G) (ze_a G) (ze_b G) (ze_me G) (ze_c G) H locs cells slots (ze_Q G) (F0 (ze_m G) pc ls st)
/-- a method's static facts: code, words, class, room -/
def ze_C (G : ze_G) (cc : ByteArray) (Ts : List Cond) (own : String) (rm : Room) (nL : Nat) : Prop :=
  (ze_p G).tables.exec = Jvm.exec ∧ (ze_c G).code = cc ∧ (ze_c G).maxLocals = ze_nL G ∧ (ze_s G).vm.findClass own = some (ze_m G).cls ∧ (∀ w ∈ Ts, w.before (ze_a G) (ze_s G) = true) ∧ va_K (ze_D G) vwCl (ze_ty (ze_i G)) (ze_s G) ∧ (∀ q, (ze_s G).heap.size ≤ q → ze_A G q) ∧ (ze_me G).locks = false ∧ ze_R G = rm ∧ ze_nL G = nL ∧ ze_N (ze_s G)
section ZEC
variable {G : ze_G} {cc : ByteArray} {Ts : List Cond} {own : String} {rm : Room} {nL : Nat}
theorem ze_C.x (C : ze_C G cc Ts own rm nL) : (ze_p G).tables.exec = Jvm.exec := C.1
theorem ze_C.b (C : ze_C G cc Ts own rm nL) : (ze_c G).code = cc := C.2.1
theorem ze_C.ml (C : ze_C G cc Ts own rm nL) : (ze_c G).maxLocals = ze_nL G := C.2.2.1
theorem ze_C.ow (C : ze_C G cc Ts own rm nL) : (ze_s G).vm.findClass own = some (ze_m G).cls := C.2.2.2.1
theorem ze_C.ts (C : ze_C G cc Ts own rm nL) : ∀ w ∈ Ts, w.before (ze_a G) (ze_s G) = true := C.2.2.2.2.1
theorem ze_C.K (C : ze_C G cc Ts own rm nL) : va_K (ze_D G) vwCl (ze_ty (ze_i G)) (ze_s G) := C.2.2.2.2.2.1
theorem ze_C.A (C : ze_C G cc Ts own rm nL) : ∀ q, (ze_s G).heap.size ≤ q → ze_A G q := C.2.2.2.2.2.2.1
theorem ze_C.lk (C : ze_C G cc Ts own rm nL) : (ze_me G).locks = false := C.2.2.2.2.2.2.2.1
theorem ze_C.R (C : ze_C G cc Ts own rm nL) : ze_R G = rm := C.2.2.2.2.2.2.2.2.1
theorem ze_C.nl (C : ze_C G cc Ts own rm nL) : ze_nL G = nL := C.2.2.2.2.2.2.2.2.2.1
theorem ze_C.N (C : ze_C G cc Ts own rm nL) : ze_N (ze_s G) := C.2.2.2.2.2.2.2.2.2.2
end ZEC
abbrev ze_Po : Type := Option Value → Nat → (Nat → Nat) → (Nat → va_E) → Prop
/-- a method's end: answer and new world satisfy post; outside of A nothing has changed -/
def ze_Qc (D : va_G) (ids : Nat → ClassId) (A : Nat → Prop) (post : ze_Po) : Array Value → State → Outcome → State → Prop := fun _ st oc t =>
  (∃ (v : Option Value) (n : Nat) (ad : Nat → Nat) (E : Nat → va_E), oc = .returned v ∧ post v n ad E ∧ va_P D vwCl (ze_w n ad E) t.heap ∧ va_K D vwCl (ze_ty ids) t ∧ va_D A (ze_w n ad E)) ∧ va_F A st t
def ze_Rt (G : ze_G) (ret : Option FieldType) (mc ms : Nat) (post : ze_Po) : Prop :=
  (ze_me G).sig.returnType = ret ∧ ze_Q G = MQ (ze_b G) (ze_Qc (ze_D G) (ze_i G) (ze_A G) post) (ze_a G) (ze_s G) mc ms (ze_A G)
/-- the contract of y at the world (n, ad, E) and the arguments av -/
def ze_M (l : Launch) (D : va_G) (ids : Nat → ClassId) (y : MethodName) (ws : List Cond) (rm : Room) (mc ms : Nat) (n : Nat) (ad : Nat → Nat) (E : Nat → va_E) (av : List Value) (post : ze_Po) : Prop :=
  ∀ sz : Nat, Met l y ws rm (va_Pc av (fun U => U.heap.size = sz ∧ va_P D vwCl (ze_w n ad E) U.heap ∧ va_K D vwCl (ze_ty ids) U ∧ va_D (fun _ => True) (ze_w n ad E) ∧ ze_N U)) (ze_Qc D ids (ze_Af n ad sz) post) mc ms (ze_Af n ad sz)
theorem ze_enter {l : Launch} {D : va_G} {ids : Nat → ClassId} {y : MethodName} {ws ws' : List Cond} {rm : Room} {mc ms n : Nat} {ad : Nat → Nat} {E : Nat → va_E} {av : List Value} {post : ze_Po} {cc : ByteArray} {maxL : Nat} {ret : Option FieldType}
    (hy : plainName y.cls = true) (hw : ws = Cond.code y cc maxL ret :: ws') (hlen : (lg_sl av).length ≤ maxL)
    (body : ∀ G : ze_G, ze_l G = l → ze_D G = D → ze_i G = ids → (ze_me G).name = y.name → ze_C G cc ws y.cls rm maxL → ze_Rt G ret mc ms post → ze_V G n ad E 0 0 0 (lv_args 0 av) []) : ze_M l D ids y ws rm mc ms n ad E av post := by
  intro sz
  refine Met.ofW (cc := cc) (maxL := maxL) (ret := ret) hy hw ?_
  intro p e s m args below meth c s₁ B hml hv
  obtain ⟨rfl, hsz, hP, hK, hD0, hN⟩ := hv
  subst hsz
  have hl := lv_entry av (n := maxL) hlen
  rw [lg_entry_eq]
  have hD : va_D (ze_Af n ad s.heap.size) (ze_w n ad E) := ⟨hD0.1, fun k q hk => by
    obtain ⟨h1, h2⟩ := ze_w_inv hk
    exact Or.inl ⟨k, h1, by rw [h2]⟩⟩
  exact body (p, l, e, (headSpec ws rm).room, s, m, av.toArray, below, meth, c, MQ below (ze_Qc D ids (ze_Af n ad s.heap.size) post) av.toArray s mc ms (ze_Af n ad s.heap.size), maxL, D, ids, ze_Af n ad s.heap.size) rfl rfl rfl (name_of_methodNamed B.named B.method).1
    ⟨B.exec, B.bytes, hml, findClass_of_methodNamed B.named, atoms_spec (ws := ws) B.pre, hK, fun q h => Or.inr h, B.notSynchronized, rfl, rfl, hN⟩ ⟨B.returns, rfl⟩ s.heap [] _ hP hD va_S.rf hl
section ZER
variable {G : ze_G} {cc : ByteArray} {Ts : List Cond} {own : String} {rm : Room} {nL : Nat} {n : Nat} {ad : Nat → Nat} {E : Nat → va_E} {cells slots pc : Nat} {lv : List (Nat × Value)} {st : List Value} {mc ms : Nat} {post : ze_Po}
theorem ze_sub (lv' : List (Nat × Value)) (ks : List Nat) (h : lv_pick lv ks = lv') (k : ze_V G n ad E cells slots pc lv' st) : ze_V G n ad E cells slots pc lv st := fun H locs ls hP hD hS hl => k H locs ls hP hD hS (lv_sub hl ks h)
theorem ze_lv {lv' : List (Nat × Value)} (h : lv = lv') (k : ze_V G n ad E cells slots pc lv' st) : ze_V G n ad E cells slots pc lv st := h ▸ k
theorem ze_eqE {E' : Nat → va_E} (h : E = E') (k : ze_V G n ad E' cells slots pc lv st) : ze_V G n ad E cells slots pc lv st := h ▸ k
theorem ze_eqS {st' : List Value} (h : st = st') (k : ze_V G n ad E cells slots pc lv st') : ze_V G n ad E cells slots pc lv st := h ▸ k
theorem ze_widen {c2 s2 : Nat} (h1 : cells ≤ c2) (h2 : slots ≤ s2) (k : ze_V G n ad E c2 s2 pc lv st) : ze_V G n ad E cells slots pc lv st := fun H locs ls hP hD hS hl => W.widen h1 h2 (k H locs ls hP hD hS hl)
-- ends
theorem ze_iret {v : Int32} (C : ze_C G cc Ts own rm nL) (Rt : ze_Rt G (some .int) cells slots post) (d : decode cc pc = .ok (.ireturn, 1)) (h : post (some (.int v)) n ad E) : ze_V G n ad E cells slots pc lv [.int v] := by
  intro H locs ls hP hD hS hl
  rw [Rt.2]
  have hlk := C.lk
  exact W.iret C.x C.b Rt.1 (fun t ht hW => ⟨⟨_, n, ad, E, rfl, h, by rw [ht]; exact hP, va_K.moved hW.alike C.K, hD⟩, hS.F ht⟩) hS.2.2 d
theorem ze_zret {v : Int32} (C : ze_C G cc Ts own rm nL) (Rt : ze_Rt G (some .boolean) cells slots post) (hv : narrow .boolean (.int v) = .int v) (d : decode cc pc = .ok (.ireturn, 1)) (h : post (some (.int v)) n ad E) : ze_V G n ad E cells slots pc lv [.int v] := by
  intro H locs ls hP hD hS hl
  rw [Rt.2]
  have hlk := C.lk
  exact W.zret C.x C.b Rt.1 hv (fun t ht hW => ⟨⟨_, n, ad, E, rfl, h, by rw [ht]; exact hP, va_K.moved hW.alike C.K, hD⟩, hS.F ht⟩) hS.2.2 d
theorem ze_lret {v : Int64} (C : ze_C G cc Ts own rm nL) (Rt : ze_Rt G (some .long) cells slots post) (d : decode cc pc = .ok (.lreturn, 1)) (h : post (some (.long v)) n ad E) : ze_V G n ad E cells slots pc lv [.long v] := by
  intro H locs ls hP hD hS hl
  rw [Rt.2]
  have hlk := C.lk
  exact W.lret C.x C.b Rt.1 (fun t ht hW => ⟨⟨_, n, ad, E, rfl, h, by rw [ht]; exact hP, va_K.moved hW.alike C.K, hD⟩, hS.F ht⟩) hS.2.2 d
theorem ze_vret (C : ze_C G cc Ts own rm nL) (Rt : ze_Rt G none cells slots post) (d : decode cc pc = .ok (.return_, 1)) (h : post none n ad E) : ze_V G n ad E cells slots pc lv [] := by
  intro H locs ls hP hD hS hl
  rw [Rt.2]
  have hlk := C.lk
  exact W.vret C.x C.b Rt.1 (fun t ht hW => ⟨⟨_, n, ad, E, rfl, h, by rw [ht]; exact hP, va_K.moved hW.alike C.K, hD⟩, hS.F ht⟩) hS.2.2 d
theorem ze_iconst {z : Int} {v : Int32} (C : ze_C G cc Ts own rm nL) (d : decode cc pc = .ok (.iconst z, 1)) (hv : Int32.ofInt z = v) (k : ze_V G n ad E cells slots (pc + 1) lv (.int v :: st)) : ze_V G n ad E cells slots pc lv st := fun H locs ls hP hD hS hl => lv_iconst C.x C.b d hv (k H locs ls hP hD hS hl)
theorem ze_bipush {z : Int} {v : Int32} (C : ze_C G cc Ts own rm nL) (d : decode cc pc = .ok (.bipush z, 2)) (hv : (Int8.ofInt z).toInt32 = v) (k : ze_V G n ad E cells slots (pc + 2) lv (.int v :: st)) : ze_V G n ad E cells slots pc lv st := fun H locs ls hP hD hS hl => lv_bipush C.x C.b d hv (k H locs ls hP hD hS hl)
theorem ze_sipush {z : Int} {v : Int32} (C : ze_C G cc Ts own rm nL) (d : decode cc pc = .ok (.sipush z, 3)) (hv : (Int16.ofInt z).toInt32 = v) (k : ze_V G n ad E cells slots (pc + 3) lv (.int v :: st)) : ze_V G n ad E cells slots pc lv st := fun H locs ls hP hD hS hl => lv_sipush C.x C.b d hv (k H locs ls hP hD hS hl)
theorem ze_lconst {z : Fin 2} {v : Int64} (C : ze_C G cc Ts own rm nL) (d : decode cc pc = .ok (.lconst z, 1)) (hv : Int64.ofNat (z : Nat) = v) (k : ze_V G n ad E cells slots (pc + 1) lv (.long v :: st)) : ze_V G n ad E cells slots pc lv st := fun H locs ls hP hD hS hl => lv_lconst C.x C.b d hv (k H locs ls hP hD hS hl)
theorem ze_ldc2 {idx : Nat} {v : Int64} (C : ze_C G cc Ts own rm nL) (d : decode cc pc = .ok (.ldc2_w idx, 3)) (hc : Cond.constantLong own idx v ∈ Ts) (k : ze_V G n ad E cells slots (pc + 3) lv (.long v :: st)) : ze_V G n ad E cells slots pc lv st := fun H locs ls hP hD hS hl => lv_ldc2 C.x C.b C.ow (C.ts _ hc) d (k H locs ls hP hD hS hl)
theorem ze_iload_n {z : Fin 4} {i : Nat} {x : Int32} (C : ze_C G cc Ts own rm nL) (d : decode cc pc = .ok (.iload_n z, 1)) (j : Nat) (hj : lv[j]? = some (i, .int x)) (hi : (z : Nat) = i) (k : ze_V G n ad E cells slots (pc + 1) lv (.int x :: st)) : ze_V G n ad E cells slots pc lv st := fun H locs ls hP hD hS hl => lv_iload_n C.x C.b d hi (lv_at hl j hj) (k H locs ls hP hD hS hl)
theorem ze_iload {i : Nat} {x : Int32} (C : ze_C G cc Ts own rm nL) (d : decode cc pc = .ok (.iload i, 2)) (j : Nat) (hj : lv[j]? = some (i, .int x)) (k : ze_V G n ad E cells slots (pc + 2) lv (.int x :: st)) : ze_V G n ad E cells slots pc lv st := fun H locs ls hP hD hS hl => lv_iload C.x C.b d (lv_at hl j hj) (k H locs ls hP hD hS hl)
theorem ze_istore_n {z : Fin 4} {i : Nat} {x : Int32} {lv' : List (Nat × Value)} (C : ze_C G cc Ts own rm nL) (d : decode cc pc = .ok (.istore_n z, 1)) (hi : (z : Nat) = i) (hn : i < nL) (hl' : (i, Value.int x) :: lv.filter (fun q => !(q.1 == i) && !(q.1 + 1 == i && q.2.category == 2)) = lv') (k : ze_V G n ad E cells slots (pc + 1) lv' st) : ze_V G n ad E cells slots pc lv (.int x :: st) := fun H locs ls hP hD hS hl => lv_istore_n C.x C.b d hi hl (by rw [C.nl]; exact hn) hl' (fun ls' hl2 => k H locs ls' hP hD hS hl2)
theorem ze_istore {i : Nat} {x : Int32} {lv' : List (Nat × Value)} (C : ze_C G cc Ts own rm nL) (d : decode cc pc = .ok (.istore i, 2)) (hn : i < nL) (hl' : (i, Value.int x) :: lv.filter (fun q => !(q.1 == i) && !(q.1 + 1 == i && q.2.category == 2)) = lv') (k : ze_V G n ad E cells slots (pc + 2) lv' st) : ze_V G n ad E cells slots pc lv (.int x :: st) := fun H locs ls hP hD hS hl => lv_istore C.x C.b d hl (by rw [C.nl]; exact hn) hl' (fun ls' hl2 => k H locs ls' hP hD hS hl2)
theorem ze_lload_n {z : Fin 4} {i : Nat} {x : Int64} (C : ze_C G cc Ts own rm nL) (d : decode cc pc = .ok (.lload_n z, 1)) (j : Nat) (hj : lv[j]? = some (i, .long x)) (hi : (z : Nat) = i) (k : ze_V G n ad E cells slots (pc + 1) lv (.long x :: st)) : ze_V G n ad E cells slots pc lv st := fun H locs ls hP hD hS hl => lv_lload_n C.x C.b d hi (lv_at hl j hj) (k H locs ls hP hD hS hl)
theorem ze_lload {i : Nat} {x : Int64} (C : ze_C G cc Ts own rm nL) (d : decode cc pc = .ok (.lload i, 2)) (j : Nat) (hj : lv[j]? = some (i, .long x)) (k : ze_V G n ad E cells slots (pc + 2) lv (.long x :: st)) : ze_V G n ad E cells slots pc lv st := fun H locs ls hP hD hS hl => lv_lload C.x C.b d (lv_at hl j hj) (k H locs ls hP hD hS hl)
theorem ze_lstore_n {z : Fin 4} {i : Nat} {x : Int64} {lv' : List (Nat × Value)} (C : ze_C G cc Ts own rm nL) (d : decode cc pc = .ok (.lstore_n z, 1)) (hi : (z : Nat) = i) (hn : i + 1 < nL) (hl' : (i, Value.long x) :: lv.filter (fun q => !(q.1 == i) && (!(q.1 == i + 1) && !(q.1 + 1 == i && q.2.category == 2))) = lv') (k : ze_V G n ad E cells slots (pc + 1) lv' st) : ze_V G n ad E cells slots pc lv (.long x :: st) := fun H locs ls hP hD hS hl => lv_lstore_n C.x C.b d hi hl (by rw [C.nl]; exact hn) hl' (fun ls' hl2 => k H locs ls' hP hD hS hl2)
theorem ze_lstore {i : Nat} {x : Int64} {lv' : List (Nat × Value)} (C : ze_C G cc Ts own rm nL) (d : decode cc pc = .ok (.lstore i, 2)) (hn : i + 1 < nL) (hl' : (i, Value.long x) :: lv.filter (fun q => !(q.1 == i) && (!(q.1 == i + 1) && !(q.1 + 1 == i && q.2.category == 2))) = lv') (k : ze_V G n ad E cells slots (pc + 2) lv' st) : ze_V G n ad E cells slots pc lv (.long x :: st) := fun H locs ls hP hD hS hl => lv_lstore C.x C.b d hl (by rw [C.nl]; exact hn) hl' (fun ls' hl2 => k H locs ls' hP hD hS hl2)
theorem ze_aload_n {z : Fin 4} {i : Nat} {x : Nat} (C : ze_C G cc Ts own rm nL) (d : decode cc pc = .ok (.aload_n z, 1)) (j : Nat) (hj : lv[j]? = some (i, .ref x)) (hi : (z : Nat) = i) (k : ze_V G n ad E cells slots (pc + 1) lv (.ref x :: st)) : ze_V G n ad E cells slots pc lv st := fun H locs ls hP hD hS hl => lv_aload_n C.x C.b d hi (lv_at hl j hj) (k H locs ls hP hD hS hl)
theorem ze_aload {i : Nat} {x : Nat} (C : ze_C G cc Ts own rm nL) (d : decode cc pc = .ok (.aload i, 2)) (j : Nat) (hj : lv[j]? = some (i, .ref x)) (k : ze_V G n ad E cells slots (pc + 2) lv (.ref x :: st)) : ze_V G n ad E cells slots pc lv st := fun H locs ls hP hD hS hl => lv_aload C.x C.b d (lv_at hl j hj) (k H locs ls hP hD hS hl)
theorem ze_astore_n {z : Fin 4} {i : Nat} {x : Nat} {lv' : List (Nat × Value)} (C : ze_C G cc Ts own rm nL) (d : decode cc pc = .ok (.astore_n z, 1)) (hi : (z : Nat) = i) (hn : i < nL) (hl' : (i, Value.ref x) :: lv.filter (fun q => !(q.1 == i) && !(q.1 + 1 == i && q.2.category == 2)) = lv') (k : ze_V G n ad E cells slots (pc + 1) lv' st) : ze_V G n ad E cells slots pc lv (.ref x :: st) := fun H locs ls hP hD hS hl => lv_astore_n C.x C.b d hi hl (by rw [C.nl]; exact hn) hl' (fun ls' hl2 => k H locs ls' hP hD hS hl2)
theorem ze_astore {i : Nat} {x : Nat} {lv' : List (Nat × Value)} (C : ze_C G cc Ts own rm nL) (d : decode cc pc = .ok (.astore i, 2)) (hn : i < nL) (hl' : (i, Value.ref x) :: lv.filter (fun q => !(q.1 == i) && !(q.1 + 1 == i && q.2.category == 2)) = lv') (k : ze_V G n ad E cells slots (pc + 2) lv' st) : ze_V G n ad E cells slots pc lv (.ref x :: st) := fun H locs ls hP hD hS hl => lv_astore C.x C.b d hl (by rw [C.nl]; exact hn) hl' (fun ls' hl2 => k H locs ls' hP hD hS hl2)
theorem ze_iinc {i j : Nat} {z : Int} {x v : Int32} {lv' : List (Nat × Value)} (C : ze_C G cc Ts own rm nL) (d : decode cc pc = .ok (.iinc i z, 3)) (hj : lv[j]? = some (i, .int x)) (hv : x + Int32.ofInt z = v) (hn : i < nL) (hl' : (i, Value.int v) :: lv.filter (fun q => !(q.1 == i) && !(q.1 + 1 == i && q.2.category == 2)) = lv') (k : ze_V G n ad E cells slots (pc + 3) lv' st) : ze_V G n ad E cells slots pc lv st := fun H locs ls hP hD hS hl => lv_iinc C.x C.b d hl hj hv (by rw [C.nl]; exact hn) hl' (fun ls' hl2 => k H locs ls' hP hD hS hl2)
theorem ze_iadd {x y : Int32} (C : ze_C G cc Ts own rm nL) (d : decode cc pc = .ok (.iadd, 1)) (k : ze_V G n ad E cells slots (pc + 1) lv (.int (x + y) :: st)) : ze_V G n ad E cells slots pc lv (.int y :: .int x :: st) := fun H locs ls hP hD hS hl => lv_iadd C.x C.b d (k H locs ls hP hD hS hl)
theorem ze_isub {x y : Int32} (C : ze_C G cc Ts own rm nL) (d : decode cc pc = .ok (.isub, 1)) (k : ze_V G n ad E cells slots (pc + 1) lv (.int (x - y) :: st)) : ze_V G n ad E cells slots pc lv (.int y :: .int x :: st) := fun H locs ls hP hD hS hl => lv_isub C.x C.b d (k H locs ls hP hD hS hl)
theorem ze_imul {x y : Int32} (C : ze_C G cc Ts own rm nL) (d : decode cc pc = .ok (.imul, 1)) (k : ze_V G n ad E cells slots (pc + 1) lv (.int (x * y) :: st)) : ze_V G n ad E cells slots pc lv (.int y :: .int x :: st) := fun H locs ls hP hD hS hl => lv_imul C.x C.b d (k H locs ls hP hD hS hl)
theorem ze_iand {x y : Int32} (C : ze_C G cc Ts own rm nL) (d : decode cc pc = .ok (.iand, 1)) (k : ze_V G n ad E cells slots (pc + 1) lv (.int (x &&& y) :: st)) : ze_V G n ad E cells slots pc lv (.int y :: .int x :: st) := fun H locs ls hP hD hS hl => lv_iand C.x C.b d (k H locs ls hP hD hS hl)
theorem ze_ior {x y : Int32} (C : ze_C G cc Ts own rm nL) (d : decode cc pc = .ok (.ior, 1)) (k : ze_V G n ad E cells slots (pc + 1) lv (.int (x ||| y) :: st)) : ze_V G n ad E cells slots pc lv (.int y :: .int x :: st) := fun H locs ls hP hD hS hl => lv_ior C.x C.b d (k H locs ls hP hD hS hl)
theorem ze_ixor {x y : Int32} (C : ze_C G cc Ts own rm nL) (d : decode cc pc = .ok (.ixor, 1)) (k : ze_V G n ad E cells slots (pc + 1) lv (.int (x ^^^ y) :: st)) : ze_V G n ad E cells slots pc lv (.int y :: .int x :: st) := fun H locs ls hP hD hS hl => lv_ixor C.x C.b d (k H locs ls hP hD hS hl)
theorem ze_idiv {x y : Int32} (C : ze_C G cc Ts own rm nL) (d : decode cc pc = .ok (.idiv, 1)) (h0 : ¬ y = 0) (k : ze_V G n ad E cells slots (pc + 1) lv (.int (x / y) :: st)) : ze_V G n ad E cells slots pc lv (.int y :: .int x :: st) := fun H locs ls hP hD hS hl => lv_idiv C.x C.b d h0 (k H locs ls hP hD hS hl)
theorem ze_irem {x y : Int32} (C : ze_C G cc Ts own rm nL) (d : decode cc pc = .ok (.irem, 1)) (h0 : ¬ y = 0) (k : ze_V G n ad E cells slots (pc + 1) lv (.int (x - x / y * y) :: st)) : ze_V G n ad E cells slots pc lv (.int y :: .int x :: st) := fun H locs ls hP hD hS hl => lv_irem C.x C.b d h0 (k H locs ls hP hD hS hl)
theorem ze_ladd {x y : Int64} (C : ze_C G cc Ts own rm nL) (d : decode cc pc = .ok (.ladd, 1)) (k : ze_V G n ad E cells slots (pc + 1) lv (.long (x + y) :: st)) : ze_V G n ad E cells slots pc lv (.long y :: .long x :: st) := fun H locs ls hP hD hS hl => lv_ladd C.x C.b d (k H locs ls hP hD hS hl)
theorem ze_lsub {x y : Int64} (C : ze_C G cc Ts own rm nL) (d : decode cc pc = .ok (.lsub, 1)) (k : ze_V G n ad E cells slots (pc + 1) lv (.long (x - y) :: st)) : ze_V G n ad E cells slots pc lv (.long y :: .long x :: st) := fun H locs ls hP hD hS hl => lv_lsub C.x C.b d (k H locs ls hP hD hS hl)
theorem ze_lmul {x y : Int64} (C : ze_C G cc Ts own rm nL) (d : decode cc pc = .ok (.lmul, 1)) (k : ze_V G n ad E cells slots (pc + 1) lv (.long (x * y) :: st)) : ze_V G n ad E cells slots pc lv (.long y :: .long x :: st) := fun H locs ls hP hD hS hl => lv_lmul C.x C.b d (k H locs ls hP hD hS hl)
theorem ze_i2l {x : Int32} {v : Int64} (C : ze_C G cc Ts own rm nL) (d : decode cc pc = .ok (.i2l, 1)) (hv : x.toInt64 = v) (k : ze_V G n ad E cells slots (pc + 1) lv (.long v :: st)) : ze_V G n ad E cells slots pc lv (.int x :: st) := fun H locs ls hP hD hS hl => lv_i2l C.x C.b d hv (k H locs ls hP hD hS hl)
theorem ze_lcmp {x y : Int64} (C : ze_C G cc Ts own rm nL) (d : decode cc pc = .ok (.lcmp, 1)) (k : ze_V G n ad E cells slots (pc + 1) lv (.int (lg_cmp x y) :: st)) : ze_V G n ad E cells slots pc lv (.long y :: .long x :: st) := fun H locs ls hP hD hS hl => W.lcmp C.x C.b d (k H locs ls hP hD hS hl)
theorem ze_iaddN {a b : Nat} (C : ze_C G cc Ts own rm nL) (d : decode cc pc = .ok (.iadd, 1)) (k : ze_V G n ad E cells slots (pc + 1) lv (.int (nI (a + b)) :: st)) : ze_V G n ad E cells slots pc lv (.int (nI b) :: .int (nI a) :: st) := fun H locs ls hP hD hS hl => lv_iadd C.x C.b d (by rw [nI_add]; exact k H locs ls hP hD hS hl)
theorem ze_isubN {a b : Nat} (C : ze_C G cc Ts own rm nL) (d : decode cc pc = .ok (.isub, 1)) (h : b ≤ a) (k : ze_V G n ad E cells slots (pc + 1) lv (.int (nI (a - b)) :: st)) : ze_V G n ad E cells slots pc lv (.int (nI b) :: .int (nI a) :: st) := fun H locs ls hP hD hS hl => lv_isub C.x C.b d (by rw [pk_sub h]; exact k H locs ls hP hD hS hl)
theorem ze_imulN {a b : Nat} (C : ze_C G cc Ts own rm nL) (d : decode cc pc = .ok (.imul, 1)) (k : ze_V G n ad E cells slots (pc + 1) lv (.int (nI (a * b)) :: st)) : ze_V G n ad E cells slots pc lv (.int (nI b) :: .int (nI a) :: st) := fun H locs ls hP hD hS hl => lv_imul C.x C.b d (by rw [pk_mul]; exact k H locs ls hP hD hS hl)
theorem ze_idivN {a b : Nat} (C : ze_C G cc Ts own rm nL) (d : decode cc pc = .ok (.idiv, 1)) (ha : a < 2 ^ 31) (h0 : 0 < b) (hb : b < 2 ^ 31) (k : ze_V G n ad E cells slots (pc + 1) lv (.int (nI (a / b)) :: st)) : ze_V G n ad E cells slots pc lv (.int (nI b) :: .int (nI a) :: st) := fun H locs ls hP hD hS hl => lv_idiv C.x C.b d (nI_ne0 h0 hb) (by rw [pk_div ha h0 hb]; exact k H locs ls hP hD hS hl)
theorem ze_iremN {a b : Nat} (C : ze_C G cc Ts own rm nL) (d : decode cc pc = .ok (.irem, 1)) (ha : a < 2 ^ 31) (h0 : 0 < b) (hb : b < 2 ^ 31) (k : ze_V G n ad E cells slots (pc + 1) lv (.int (nI (a % b)) :: st)) : ze_V G n ad E cells slots pc lv (.int (nI b) :: .int (nI a) :: st) := fun H locs ls hP hD hS hl => lv_irem C.x C.b d (nI_ne0 h0 hb) (by rw [pk_rem ha h0 hb]; exact k H locs ls hP hD hS hl)
theorem ze_laddN {a b : Nat} (C : ze_C G cc Ts own rm nL) (d : decode cc pc = .ok (.ladd, 1)) (k : ze_V G n ad E cells slots (pc + 1) lv (.long (lN (a + b)) :: st)) : ze_V G n ad E cells slots pc lv (.long (lN b) :: .long (lN a) :: st) := fun H locs ls hP hD hS hl => lv_ladd C.x C.b d (by rw [lN_add]; exact k H locs ls hP hD hS hl)
theorem ze_lmulN {a b : Nat} (C : ze_C G cc Ts own rm nL) (d : decode cc pc = .ok (.lmul, 1)) (k : ze_V G n ad E cells slots (pc + 1) lv (.long (lN (a * b)) :: st)) : ze_V G n ad E cells slots pc lv (.long (lN b) :: .long (lN a) :: st) := fun H locs ls hP hD hS hl => lv_lmul C.x C.b d (by rw [lN_mul]; exact k H locs ls hP hD hS hl)
theorem ze_i2lN {a : Nat} (C : ze_C G cc Ts own rm nL) (d : decode cc pc = .ok (.i2l, 1)) (ha : a < 2 ^ 31) (k : ze_V G n ad E cells slots (pc + 1) lv (.long (lN a) :: st)) : ze_V G n ad E cells slots pc lv (.int (nI a) :: st) := fun H locs ls hP hD hS hl => lv_i2l C.x C.b d (nI_l ha) (k H locs ls hP hD hS hl)
theorem ze_dup {v : Value} (C : ze_C G cc Ts own rm nL) (d : decode cc pc = .ok (.dup, 1)) (hv : v.category = 1) (k : ze_V G n ad E cells slots (pc + 1) lv (v :: v :: st)) : ze_V G n ad E cells slots pc lv (v :: st) := fun H locs ls hP hD hS hl => lv_dup C.x C.b d hv (k H locs ls hP hD hS hl)
theorem ze_pop {v : Value} (C : ze_C G cc Ts own rm nL) (d : decode cc pc = .ok (.pop, 1)) (hv : v.category = 1) (k : ze_V G n ad E cells slots (pc + 1) lv st) : ze_V G n ad E cells slots pc lv (v :: st) := fun H locs ls hP hD hS hl => lv_pop C.x C.b d hv (k H locs ls hP hD hS hl)
theorem ze_dup_x1 {v w : Value} (C : ze_C G cc Ts own rm nL) (d : decode cc pc = .ok (.dup_x1, 1)) (hv : v.category = 1) (hw : w.category = 1) (k : ze_V G n ad E cells slots (pc + 1) lv (v :: w :: v :: st)) : ze_V G n ad E cells slots pc lv (v :: w :: st) := fun H locs ls hP hD hS hl => lv_dup_x1 C.x C.b d hv hw (k H locs ls hP hD hS hl)
theorem ze_dup2 {v w : Value} (C : ze_C G cc Ts own rm nL) (d : decode cc pc = .ok (.dup2, 1)) (hv : v.category = 1) (hw : w.category = 1) (k : ze_V G n ad E cells slots (pc + 1) lv (v :: w :: v :: w :: st)) : ze_V G n ad E cells slots pc lv (v :: w :: st) := fun H locs ls hP hD hS hl => lv_dup2_11 C.x C.b d hv hw (k H locs ls hP hD hS hl)
theorem ze_if_eq {x : Int32} {off : Int} (tgt : Nat) (C : ze_C G cc Ts own rm nL) (d : decode cc pc = .ok (.ifCond .eq off, 3)) (ht : (pc : Int) + off = (tgt : Int)) (kt : x = 0 → ze_V G n ad E cells slots tgt lv st) (kf : ¬ (x = 0) → ze_V G n ad E cells slots (pc + 3) lv st) : ze_V G n ad E cells slots pc lv (.int x :: st) := fun H locs ls hP hD hS hl => lv_if_eq C.x C.b d ht (fun h => kt h H locs ls hP hD hS hl) (fun h => kf h H locs ls hP hD hS hl)
theorem ze_if_eqN {a : Nat} {off : Int} (tgt : Nat) (C : ze_C G cc Ts own rm nL) (d : decode cc pc = .ok (.ifCond .eq off, 3)) (ht : (pc : Int) + off = (tgt : Int)) (ha : a < 2 ^ 31) (kt : a = 0 → ze_V G n ad E cells slots tgt lv st) (kf : a ≠ 0 → ze_V G n ad E cells slots (pc + 3) lv st) : ze_V G n ad E cells slots pc lv (.int (nI a) :: st) := ze_if_eq tgt C d ht (fun h => kt ((nI_eq ha (by decide : 0 < 2 ^ 31)).mp h)) (fun h => kf (by have h := (not_congr (nI_eq ha (by decide : 0 < 2 ^ 31))).mp h; exact h))
theorem ze_icmp_eq {x y : Int32} {off : Int} (tgt : Nat) (C : ze_C G cc Ts own rm nL) (d : decode cc pc = .ok (.if_icmp .eq off, 3)) (ht : (pc : Int) + off = (tgt : Int)) (kt : x = y → ze_V G n ad E cells slots tgt lv st) (kf : ¬ (x = y) → ze_V G n ad E cells slots (pc + 3) lv st) : ze_V G n ad E cells slots pc lv (.int y :: .int x :: st) := fun H locs ls hP hD hS hl => lv_icmp_eq C.x C.b d ht (fun h => kt h H locs ls hP hD hS hl) (fun h => kf h H locs ls hP hD hS hl)
theorem ze_icmp_eqN {a b : Nat} {off : Int} (tgt : Nat) (C : ze_C G cc Ts own rm nL) (d : decode cc pc = .ok (.if_icmp .eq off, 3)) (ht : (pc : Int) + off = (tgt : Int)) (ha : a < 2 ^ 31) (hb : b < 2 ^ 31) (kt : a = b → ze_V G n ad E cells slots tgt lv st) (kf : a ≠ b → ze_V G n ad E cells slots (pc + 3) lv st) : ze_V G n ad E cells slots pc lv (.int (nI b) :: .int (nI a) :: st) := ze_icmp_eq tgt C d ht (fun h => kt ((nI_eq ha hb).mp h)) (fun h => kf (by have h := (not_congr (nI_eq ha hb)).mp h; exact h))
theorem ze_if_ne {x : Int32} {off : Int} (tgt : Nat) (C : ze_C G cc Ts own rm nL) (d : decode cc pc = .ok (.ifCond .ne off, 3)) (ht : (pc : Int) + off = (tgt : Int)) (kt : ¬ x = 0 → ze_V G n ad E cells slots tgt lv st) (kf : x = 0 → ze_V G n ad E cells slots (pc + 3) lv st) : ze_V G n ad E cells slots pc lv (.int x :: st) := fun H locs ls hP hD hS hl => lv_if_ne C.x C.b d ht (fun h => kt h H locs ls hP hD hS hl) (fun h => kf h H locs ls hP hD hS hl)
theorem ze_if_neN {a : Nat} {off : Int} (tgt : Nat) (C : ze_C G cc Ts own rm nL) (d : decode cc pc = .ok (.ifCond .ne off, 3)) (ht : (pc : Int) + off = (tgt : Int)) (ha : a < 2 ^ 31) (kt : a ≠ 0 → ze_V G n ad E cells slots tgt lv st) (kf : a = 0 → ze_V G n ad E cells slots (pc + 3) lv st) : ze_V G n ad E cells slots pc lv (.int (nI a) :: st) := ze_if_ne tgt C d ht (fun h => kt ((not_congr (nI_eq ha (by decide : 0 < 2 ^ 31))).mp h)) (fun h => kf ((nI_eq ha (by decide : 0 < 2 ^ 31)).mp h))
theorem ze_icmp_ne {x y : Int32} {off : Int} (tgt : Nat) (C : ze_C G cc Ts own rm nL) (d : decode cc pc = .ok (.if_icmp .ne off, 3)) (ht : (pc : Int) + off = (tgt : Int)) (kt : ¬ x = y → ze_V G n ad E cells slots tgt lv st) (kf : x = y → ze_V G n ad E cells slots (pc + 3) lv st) : ze_V G n ad E cells slots pc lv (.int y :: .int x :: st) := fun H locs ls hP hD hS hl => lv_icmp_ne C.x C.b d ht (fun h => kt h H locs ls hP hD hS hl) (fun h => kf h H locs ls hP hD hS hl)
theorem ze_icmp_neN {a b : Nat} {off : Int} (tgt : Nat) (C : ze_C G cc Ts own rm nL) (d : decode cc pc = .ok (.if_icmp .ne off, 3)) (ht : (pc : Int) + off = (tgt : Int)) (ha : a < 2 ^ 31) (hb : b < 2 ^ 31) (kt : a ≠ b → ze_V G n ad E cells slots tgt lv st) (kf : a = b → ze_V G n ad E cells slots (pc + 3) lv st) : ze_V G n ad E cells slots pc lv (.int (nI b) :: .int (nI a) :: st) := ze_icmp_ne tgt C d ht (fun h => kt ((not_congr (nI_eq ha hb)).mp h)) (fun h => kf ((nI_eq ha hb).mp h))
theorem ze_if_lt {x : Int32} {off : Int} (tgt : Nat) (C : ze_C G cc Ts own rm nL) (d : decode cc pc = .ok (.ifCond .lt off, 3)) (ht : (pc : Int) + off = (tgt : Int)) (kt : x < 0 → ze_V G n ad E cells slots tgt lv st) (kf : ¬ (x < 0) → ze_V G n ad E cells slots (pc + 3) lv st) : ze_V G n ad E cells slots pc lv (.int x :: st) := fun H locs ls hP hD hS hl => lv_if_lt C.x C.b d ht (fun h => kt h H locs ls hP hD hS hl) (fun h => kf h H locs ls hP hD hS hl)
theorem ze_if_ltN {a : Nat} {off : Int} (tgt : Nat) (C : ze_C G cc Ts own rm nL) (d : decode cc pc = .ok (.ifCond .lt off, 3)) (ht : (pc : Int) + off = (tgt : Int)) (ha : a < 2 ^ 31) (kt : a < 0 → ze_V G n ad E cells slots tgt lv st) (kf : 0 ≤ a → ze_V G n ad E cells slots (pc + 3) lv st) : ze_V G n ad E cells slots pc lv (.int (nI a) :: st) := ze_if_lt tgt C d ht (fun h => kt ((nI_ltI ha (by decide : 0 < 2 ^ 31)).mp h)) (fun h => kf (by have h := (not_congr (nI_ltI ha (by decide : 0 < 2 ^ 31))).mp h; exact Nat.not_lt.mp h))
theorem ze_icmp_lt {x y : Int32} {off : Int} (tgt : Nat) (C : ze_C G cc Ts own rm nL) (d : decode cc pc = .ok (.if_icmp .lt off, 3)) (ht : (pc : Int) + off = (tgt : Int)) (kt : x < y → ze_V G n ad E cells slots tgt lv st) (kf : ¬ (x < y) → ze_V G n ad E cells slots (pc + 3) lv st) : ze_V G n ad E cells slots pc lv (.int y :: .int x :: st) := fun H locs ls hP hD hS hl => lv_icmp_lt C.x C.b d ht (fun h => kt h H locs ls hP hD hS hl) (fun h => kf h H locs ls hP hD hS hl)
theorem ze_icmp_ltN {a b : Nat} {off : Int} (tgt : Nat) (C : ze_C G cc Ts own rm nL) (d : decode cc pc = .ok (.if_icmp .lt off, 3)) (ht : (pc : Int) + off = (tgt : Int)) (ha : a < 2 ^ 31) (hb : b < 2 ^ 31) (kt : a < b → ze_V G n ad E cells slots tgt lv st) (kf : b ≤ a → ze_V G n ad E cells slots (pc + 3) lv st) : ze_V G n ad E cells slots pc lv (.int (nI b) :: .int (nI a) :: st) := ze_icmp_lt tgt C d ht (fun h => kt ((nI_ltI ha hb).mp h)) (fun h => kf (by have h := (not_congr (nI_ltI ha hb)).mp h; exact Nat.not_lt.mp h))
theorem ze_if_ge {x : Int32} {off : Int} (tgt : Nat) (C : ze_C G cc Ts own rm nL) (d : decode cc pc = .ok (.ifCond .ge off, 3)) (ht : (pc : Int) + off = (tgt : Int)) (kt : 0 ≤ x → ze_V G n ad E cells slots tgt lv st) (kf : ¬ (0 ≤ x) → ze_V G n ad E cells slots (pc + 3) lv st) : ze_V G n ad E cells slots pc lv (.int x :: st) := fun H locs ls hP hD hS hl => lv_if_ge C.x C.b d ht (fun h => kt h H locs ls hP hD hS hl) (fun h => kf h H locs ls hP hD hS hl)
theorem ze_if_geN {a : Nat} {off : Int} (tgt : Nat) (C : ze_C G cc Ts own rm nL) (d : decode cc pc = .ok (.ifCond .ge off, 3)) (ht : (pc : Int) + off = (tgt : Int)) (ha : a < 2 ^ 31) (kt : 0 ≤ a → ze_V G n ad E cells slots tgt lv st) (kf : a < 0 → ze_V G n ad E cells slots (pc + 3) lv st) : ze_V G n ad E cells slots pc lv (.int (nI a) :: st) := ze_if_ge tgt C d ht (fun h => kt ((nI_leI (by decide : 0 < 2 ^ 31) ha).mp h)) (fun h => kf (by have h := (not_congr (nI_leI (by decide : 0 < 2 ^ 31) ha)).mp h; exact Nat.not_le.mp h))
theorem ze_icmp_ge {x y : Int32} {off : Int} (tgt : Nat) (C : ze_C G cc Ts own rm nL) (d : decode cc pc = .ok (.if_icmp .ge off, 3)) (ht : (pc : Int) + off = (tgt : Int)) (kt : y ≤ x → ze_V G n ad E cells slots tgt lv st) (kf : ¬ (y ≤ x) → ze_V G n ad E cells slots (pc + 3) lv st) : ze_V G n ad E cells slots pc lv (.int y :: .int x :: st) := fun H locs ls hP hD hS hl => lv_icmp_ge C.x C.b d ht (fun h => kt h H locs ls hP hD hS hl) (fun h => kf h H locs ls hP hD hS hl)
theorem ze_icmp_geN {a b : Nat} {off : Int} (tgt : Nat) (C : ze_C G cc Ts own rm nL) (d : decode cc pc = .ok (.if_icmp .ge off, 3)) (ht : (pc : Int) + off = (tgt : Int)) (ha : a < 2 ^ 31) (hb : b < 2 ^ 31) (kt : b ≤ a → ze_V G n ad E cells slots tgt lv st) (kf : a < b → ze_V G n ad E cells slots (pc + 3) lv st) : ze_V G n ad E cells slots pc lv (.int (nI b) :: .int (nI a) :: st) := ze_icmp_ge tgt C d ht (fun h => kt ((nI_leI hb ha).mp h)) (fun h => kf (by have h := (not_congr (nI_leI hb ha)).mp h; exact Nat.not_le.mp h))
theorem ze_if_gt {x : Int32} {off : Int} (tgt : Nat) (C : ze_C G cc Ts own rm nL) (d : decode cc pc = .ok (.ifCond .gt off, 3)) (ht : (pc : Int) + off = (tgt : Int)) (kt : 0 < x → ze_V G n ad E cells slots tgt lv st) (kf : ¬ (0 < x) → ze_V G n ad E cells slots (pc + 3) lv st) : ze_V G n ad E cells slots pc lv (.int x :: st) := fun H locs ls hP hD hS hl => lv_if_gt C.x C.b d ht (fun h => kt h H locs ls hP hD hS hl) (fun h => kf h H locs ls hP hD hS hl)
theorem ze_if_gtN {a : Nat} {off : Int} (tgt : Nat) (C : ze_C G cc Ts own rm nL) (d : decode cc pc = .ok (.ifCond .gt off, 3)) (ht : (pc : Int) + off = (tgt : Int)) (ha : a < 2 ^ 31) (kt : 0 < a → ze_V G n ad E cells slots tgt lv st) (kf : a ≤ 0 → ze_V G n ad E cells slots (pc + 3) lv st) : ze_V G n ad E cells slots pc lv (.int (nI a) :: st) := ze_if_gt tgt C d ht (fun h => kt ((nI_ltI (by decide : 0 < 2 ^ 31) ha).mp h)) (fun h => kf (by have h := (not_congr (nI_ltI (by decide : 0 < 2 ^ 31) ha)).mp h; exact Nat.not_lt.mp h))
theorem ze_icmp_gt {x y : Int32} {off : Int} (tgt : Nat) (C : ze_C G cc Ts own rm nL) (d : decode cc pc = .ok (.if_icmp .gt off, 3)) (ht : (pc : Int) + off = (tgt : Int)) (kt : y < x → ze_V G n ad E cells slots tgt lv st) (kf : ¬ (y < x) → ze_V G n ad E cells slots (pc + 3) lv st) : ze_V G n ad E cells slots pc lv (.int y :: .int x :: st) := fun H locs ls hP hD hS hl => lv_icmp_gt C.x C.b d ht (fun h => kt h H locs ls hP hD hS hl) (fun h => kf h H locs ls hP hD hS hl)
theorem ze_icmp_gtN {a b : Nat} {off : Int} (tgt : Nat) (C : ze_C G cc Ts own rm nL) (d : decode cc pc = .ok (.if_icmp .gt off, 3)) (ht : (pc : Int) + off = (tgt : Int)) (ha : a < 2 ^ 31) (hb : b < 2 ^ 31) (kt : b < a → ze_V G n ad E cells slots tgt lv st) (kf : a ≤ b → ze_V G n ad E cells slots (pc + 3) lv st) : ze_V G n ad E cells slots pc lv (.int (nI b) :: .int (nI a) :: st) := ze_icmp_gt tgt C d ht (fun h => kt ((nI_ltI hb ha).mp h)) (fun h => kf (by have h := (not_congr (nI_ltI hb ha)).mp h; exact Nat.not_lt.mp h))
theorem ze_if_le {x : Int32} {off : Int} (tgt : Nat) (C : ze_C G cc Ts own rm nL) (d : decode cc pc = .ok (.ifCond .le off, 3)) (ht : (pc : Int) + off = (tgt : Int)) (kt : x ≤ 0 → ze_V G n ad E cells slots tgt lv st) (kf : ¬ (x ≤ 0) → ze_V G n ad E cells slots (pc + 3) lv st) : ze_V G n ad E cells slots pc lv (.int x :: st) := fun H locs ls hP hD hS hl => lv_if_le C.x C.b d ht (fun h => kt h H locs ls hP hD hS hl) (fun h => kf h H locs ls hP hD hS hl)
theorem ze_if_leN {a : Nat} {off : Int} (tgt : Nat) (C : ze_C G cc Ts own rm nL) (d : decode cc pc = .ok (.ifCond .le off, 3)) (ht : (pc : Int) + off = (tgt : Int)) (ha : a < 2 ^ 31) (kt : a ≤ 0 → ze_V G n ad E cells slots tgt lv st) (kf : 0 < a → ze_V G n ad E cells slots (pc + 3) lv st) : ze_V G n ad E cells slots pc lv (.int (nI a) :: st) := ze_if_le tgt C d ht (fun h => kt ((nI_leI ha (by decide : 0 < 2 ^ 31)).mp h)) (fun h => kf (by have h := (not_congr (nI_leI ha (by decide : 0 < 2 ^ 31))).mp h; exact Nat.not_le.mp h))
theorem ze_icmp_le {x y : Int32} {off : Int} (tgt : Nat) (C : ze_C G cc Ts own rm nL) (d : decode cc pc = .ok (.if_icmp .le off, 3)) (ht : (pc : Int) + off = (tgt : Int)) (kt : x ≤ y → ze_V G n ad E cells slots tgt lv st) (kf : ¬ (x ≤ y) → ze_V G n ad E cells slots (pc + 3) lv st) : ze_V G n ad E cells slots pc lv (.int y :: .int x :: st) := fun H locs ls hP hD hS hl => lv_icmp_le C.x C.b d ht (fun h => kt h H locs ls hP hD hS hl) (fun h => kf h H locs ls hP hD hS hl)
theorem ze_icmp_leN {a b : Nat} {off : Int} (tgt : Nat) (C : ze_C G cc Ts own rm nL) (d : decode cc pc = .ok (.if_icmp .le off, 3)) (ht : (pc : Int) + off = (tgt : Int)) (ha : a < 2 ^ 31) (hb : b < 2 ^ 31) (kt : a ≤ b → ze_V G n ad E cells slots tgt lv st) (kf : b < a → ze_V G n ad E cells slots (pc + 3) lv st) : ze_V G n ad E cells slots pc lv (.int (nI b) :: .int (nI a) :: st) := ze_icmp_le tgt C d ht (fun h => kt ((nI_leI ha hb).mp h)) (fun h => kf (by have h := (not_congr (nI_leI ha hb)).mp h; exact Nat.not_le.mp h))
theorem ze_goto {off : Int} (tgt : Nat) (C : ze_C G cc Ts own rm nL) (d : decode cc pc = .ok (.goto off, 3)) (ht : (pc : Int) + off = (tgt : Int)) (k : ze_V G n ad E cells slots tgt lv st) : ze_V G n ad E cells slots pc lv st := fun H locs ls hP hD hS hl => lv_goto C.x C.b d ht (k H locs ls hP hD hS hl)
theorem ze_tableIn {dflt lo hi : Int} {offs : Array Int} {len : Nat} {x : Int32} {off : Int} (tgt : Nat) (C : ze_C G cc Ts own rm nL) (d : decode cc pc = .ok (.tableswitch dflt lo hi offs, len)) (h1 : ¬ x.toInt < lo) (h2 : ¬ hi < x.toInt) (ho : offs[(x.toInt - lo).toNat]? = some off) (ht : (pc : Int) + off = (tgt : Int)) (k : ze_V G n ad E cells slots tgt lv st) : ze_V G n ad E cells slots pc lv (.int x :: st) := fun H locs ls hP hD hS hl => lv_tableIn C.x C.b d h1 h2 ho ht (k H locs ls hP hD hS hl)
theorem ze_tableOut {dflt lo hi : Int} {offs : Array Int} {len : Nat} {x : Int32} (tgt : Nat) (C : ze_C G cc Ts own rm nL) (d : decode cc pc = .ok (.tableswitch dflt lo hi offs, len)) (h : x.toInt < lo ∨ hi < x.toInt) (ht : (pc : Int) + dflt = (tgt : Int)) (k : ze_V G n ad E cells slots tgt lv st) : ze_V G n ad E cells slots pc lv (.int x :: st) := fun H locs ls hP hD hS hl => lv_tableOut C.x C.b d h ht (k H locs ls hP hD hS hl)
/-- the word of a getfield: the object's class is number ci of the worlds' classes, the field its number j -/
def ze_Fl (Ts : List Cond) (own : String) (idx ci j : Nat) : Prop := ∃ (C : String) (T : u_T) (N : Nat), vwCl[ci]? = some (C, T, N) ∧ j < N ∧ (∀ w ∈ u_ws C T N, w ∈ Ts) ∧ Cond.fieldLink own idx (T j).1 (T j).2.1 (T j).2.2.1 ∈ Ts
def ze_Fp (Ts : List Cond) (own : String) (idx ci j : Nat) (ty : FieldType) (fin : Bool) : Prop := ∃ (C : String) (T : u_T) (N : Nat) (ty0 : Nat → FieldType), vwCl[ci]? = some (C, T, N) ∧ j < N ∧ (∀ w ∈ u_ws C T N, w ∈ Ts) ∧ Cond.fieldLink own idx (T j).1 (T j).2.1 (T j).2.2.1 ∈ Ts ∧ (∀ k, k < N → parseFieldDescriptor (T k).2.2.1 = some (ty0 k)) ∧ (∀ a, a < N → ∀ b, b < N → a ≠ b → (T a).2.1 ≠ (T b).2.1) ∧ (T j).2.2.2 = fin ∧ (T j).1 = own ∧ parseFieldDescriptor (T j).2.2.1 = some ty
theorem ze_getf {k ci j idx : Nat} {fs : List Value} {v : Value} (C : ze_C G cc Ts own rm nL) (hF : ze_Fl Ts own idx ci j) (hk : k < n) (hE : E k = .inr (ci, fs)) (hv : fs[j]? = some v) (d : decode cc pc = .ok (.getfield idx, 3)) (kk : ze_V G n ad E cells slots (pc + 3) lv (v :: st)) : ze_V G n ad E cells slots pc lv (.ref (ad k) :: st) := by
  intro H locs ls hP hD hS hl
  obtain ⟨Cn, T, N, h1, h2, h3, h4⟩ := hF
  exact va_get (D := ze_D G) C.x C.b C.ts h3 C.ow C.K hP k (ze_w_eq hk hE) h1 j h2 (C.ts _ h4) (fun _ h => h) hv d (kk H locs ls hP hD hS hl)
theorem ze_putf {k ci j idx : Nat} {fs : List Value} {v : Value} {ty : FieldType} (C : ze_C G cc Ts own rm nL) (hF : ze_Fp Ts own idx ci j ty false) (hk : k < n) (hE : E k = .inr (ci, fs)) (hn : narrow ty v = v) (hf : fits ty v = true) (hj : j < fs.length) (d : decode cc pc = .ok (.putfield idx, 3)) (kk : ze_V G n ad (va_up E k (.inr (ci, fs.set j v))) cells slots (pc + 3) lv st) : ze_V G n ad E cells slots pc lv (v :: .ref (ad k) :: st) := by
  intro H locs ls hP hD hS hl
  obtain ⟨Cn, T, N, ty0, h1, h2, h3, h4, h5, h6, h7, hown, h8⟩ := hF
  refine va_put (D := ze_D G) C.x C.b C.ts h3 ty0 h5 h6 C.ow C.K hP hD hS k (ze_w_eq hk hE) h1 j h2 (C.ts _ h4) (fun _ h => h) h7 h8 hn hf hj d (fun H1 locs1 hP1 hD1 hS1 => ?_)
  rw [ze_w_set hk] at hP1 hD1
  exact kk H1 locs1 ls hP1 hD1 hS1 hl
theorem ze_putF {k ci j idx : Nat} {fs : List Value} {v : Value} {ty : FieldType} (C : ze_C G cc Ts own rm nL) (hF : ze_Fp Ts own idx ci j ty true) (hin : (ze_me G).name = "<init>") (hk : k < n) (hE : E k = .inr (ci, fs)) (hn : narrow ty v = v) (hf : fits ty v = true) (hj : j < fs.length) (d : decode cc pc = .ok (.putfield idx, 3)) (kk : ze_V G n ad (va_up E k (.inr (ci, fs.set j v))) cells slots (pc + 3) lv st) : ze_V G n ad E cells slots pc lv (v :: .ref (ad k) :: st) := by
  intro H locs ls hP hD hS hl
  obtain ⟨Cn, T, N, ty0, h1, h2, h3, h4, h5, h6, h7, hown, h8⟩ := hF
  refine va_putF (D := ze_D G) C.x C.b C.ts h3 ty0 h5 h6 C.ow C.K hP hD hS k (ze_w_eq hk hE) h1 j h2 (C.ts _ h4) (fun _ h => h) h7 hin hown h8 hn hf hj d (fun H1 locs1 hP1 hD1 hS1 => ?_)
  rw [ze_w_set hk] at hP1 hD1
  exact kk H1 locs1 ls hP1 hD1 hS1 hl
theorem ze_iald {k len i : Nat} {f : Nat → Int32} (C : ze_C G cc Ts own rm nL) (hk : k < n) (hE : E k = .inl (ze_i G 0, len, .inl f)) (hi : i < len) (hlen : len < 2 ^ 31) (d : decode cc pc = .ok (.iaload, 1)) (kk : ze_V G n ad E cells slots (pc + 1) lv (.int (f i) :: st)) : ze_V G n ad E cells slots pc lv (.int (nI i) :: .ref (ad k) :: st) := by
  intro H locs ls hP hD hS hl
  refine va_iald (D := ze_D G) C.x C.b C.K hP k 0 (ze_w_eq hk hE) rfl (vp_in_nI hi hlen) d ?_
  rw [nI_clamp (Nat.lt_trans hi hlen)]
  exact kk H locs ls hP hD hS hl
theorem ze_iast {k len i : Nat} {f : Nat → Int32} {x : Int32} (C : ze_C G cc Ts own rm nL) (hk : k < n) (hE : E k = .inl (ze_i G 0, len, .inl f)) (hi : i < len) (hlen : len < 2 ^ 31) (d : decode cc pc = .ok (.iastore, 1)) (kk : ze_V G n ad (va_up E k (.inl (ze_i G 0, len, .inl (upd f i x)))) cells slots (pc + 1) lv st) : ze_V G n ad E cells slots pc lv (.int x :: .int (nI i) :: .ref (ad k) :: st) := by
  intro H locs ls hP hD hS hl
  refine va_iast (D := ze_D G) C.x C.b C.K hP hD hS k 0 (ze_w_eq hk hE) rfl (vp_in_nI hi hlen) d (fun H1 locs1 hP1 hD1 hS1 => ?_)
  rw [nI_clamp (Nat.lt_trans hi hlen), ze_w_set hk] at hP1 hD1
  exact kk H1 locs1 ls hP1 hD1 hS1 hl
theorem ze_zald {k len i : Nat} {f : Nat → Int32} (C : ze_C G cc Ts own rm nL) (hk : k < n) (hE : E k = .inl (ze_i G 1, len, .inl f)) (hi : i < len) (hlen : len < 2 ^ 31) (d : decode cc pc = .ok (.baload, 1)) (kk : ze_V G n ad E cells slots (pc + 1) lv (.int (f i) :: st)) : ze_V G n ad E cells slots pc lv (.int (nI i) :: .ref (ad k) :: st) := by
  intro H locs ls hP hD hS hl
  refine va_zald (D := ze_D G) C.x C.b C.K hP k 1 (ze_w_eq hk hE) rfl (vp_in_nI hi hlen) d ?_
  rw [nI_clamp (Nat.lt_trans hi hlen)]
  exact kk H locs ls hP hD hS hl
theorem ze_zast {k len i : Nat} {f : Nat → Int32} {x : Int32} (C : ze_C G cc Ts own rm nL) (hk : k < n) (hE : E k = .inl (ze_i G 1, len, .inl f)) (hi : i < len) (hlen : len < 2 ^ 31) (hx : vp_nar .boolean x = x) (d : decode cc pc = .ok (.bastore, 1)) (kk : ze_V G n ad (va_up E k (.inl (ze_i G 1, len, .inl (upd f i x)))) cells slots (pc + 1) lv st) : ze_V G n ad E cells slots pc lv (.int x :: .int (nI i) :: .ref (ad k) :: st) := by
  intro H locs ls hP hD hS hl
  refine va_zast (D := ze_D G) C.x C.b C.K hP hD hS k 1 (ze_w_eq hk hE) rfl (vp_in_nI hi hlen) d (fun H1 locs1 hP1 hD1 hS1 => ?_)
  rw [nI_clamp (Nat.lt_trans hi hlen), hx, ze_w_set hk] at hP1 hD1
  exact kk H1 locs1 ls hP1 hD1 hS1 hl
theorem ze_aald {k len i a : Nat} {f : Nat → Option Nat} (C : ze_C G cc Ts own rm nL) (hk : k < n) (hE : E k = .inl (ze_i G 2, len, .inr (.inr (.inr (.inr f))))) (hi : i < len) (hlen : len < 2 ^ 31) (ha : f i = some a) (d : decode cc pc = .ok (.aaload, 1)) (kk : ze_V G n ad E cells slots (pc + 1) lv (.ref a :: st)) : ze_V G n ad E cells slots pc lv (.int (nI i) :: .ref (ad k) :: st) := by
  intro H locs ls hP hD hS hl
  refine va_aldq (D := ze_D G) C.x C.b C.K hP k 2 (ze_w_eq hk hE) rfl (vp_in_nI hi hlen) d ?_
  rw [nI_clamp (Nat.lt_trans hi hlen), ha]
  exact kk H locs ls hP hD hS hl
theorem ze_aast {k len i q ci : Nat} {f : Nat → Option Nat} {vs : List Value} {T : u_T} {N : Nat} (C : ze_C G cc Ts own rm nL) (hk : k < n) (hE : E k = .inl (ze_i G 2, len, .inr (.inr (.inr (.inr f))))) (hi : i < len) (hlen : len < 2 ^ 31) (hq : q < n) (hEq : E q = .inr (ci, vs)) (hc : vwCl[ci]? = some (ze_RT, T, N)) (d : decode cc pc = .ok (.aastore, 1)) (kk : ze_V G n ad (va_up E k (.inl (ze_i G 2, len, .inr (.inr (.inr (.inr (va_up f i (some (ad q))))))))) cells slots (pc + 1) lv st) : ze_V G n ad E cells slots pc lv (.ref (ad q) :: .int (nI i) :: .ref (ad k) :: st) := by
  intro H locs ls hP hD hS hl
  refine va_astq (D := ze_D G) (r := (ze_RT, T, N)) C.x C.b C.K hP hD hS k 2 q ci (ze_w_eq hk hE) rfl (ze_w_eq hq hEq) hc (vp_in_nI hi hlen) d (fun H1 locs1 hP1 hD1 hS1 => ?_)
  rw [nI_clamp (Nat.lt_trans hi hlen), ze_w_set hk] at hP1 hD1
  exact kk H1 locs1 ls hP1 hD1 hS1 hl
theorem ze_copy {k0 k1 n0 n1 sp dp len idx : Nat} {f g : Nat → Int32} (C : ze_C G cc Ts own rm nL) (h1 : Cond.methodLink own idx arraycopyName ∈ Ts) (h2 : Cond.native arraycopyName ∈ Ts) (h3 : Cond.static arraycopyName ∈ Ts) (h4 : Cond.initialized "java/lang/System" ∈ Ts) (hk0 : k0 < n) (hk1 : k1 < n) (hE0 : E k0 = .inl (ze_i G 0, n0, .inl f)) (hE1 : E k1 = .inl (ze_i G 0, n1, .inl g)) (b0 : sp + len ≤ n0) (b1 : dp + len ≤ n1) (l0 : n0 < 2 ^ 31) (l1 : n1 < 2 ^ 31) (hf : 1 ≤ rm.frames) (hlo : (st.map fun v => v.category).sum + (nativeFrameWords "java/lang/System" "arraycopy" 5 + 11) ≤ rm.locals) (d : decode cc pc = .ok (.invokestatic idx, 3)) (kk : ze_V G n ad (va_up E k1 (.inl (ze_i G 0, n1, .inl (va_cpy f g sp dp len)))) cells slots (pc + 3) lv st) : ze_V G n ad E cells slots pc lv (.int (nI len) :: .int (nI dp) :: .ref (ad k1) :: .int (nI sp) :: .ref (ad k0) :: st) := by
  intro H locs ls hP hD hS hl
  have hR := C.R
  have c1 : (nI sp).toNatClampNeg = sp := nI_clamp (by omega)
  have c2 : (nI dp).toNatClampNeg = dp := nI_clamp (by omega)
  have c3 : (nI len).toNatClampNeg = len := nI_clamp (by omega)
  refine va_copyi (D := ze_D G) C.x C.b (C.ml.trans hl.1.symm) C.ow (C.ts _ h1) (C.ts _ h2) (C.ts _ h3) (C.ts _ h4) C.K hP hD hS k0 k1 0 0 (ze_w_eq hk0 hE0) (ze_w_eq hk1 hE1) rfl rfl rfl (nI_pos (by omega)) (nI_pos (by omega)) (nI_pos (by omega)) (by rw [c1, c3]; exact b0) (by rw [c2, c3]; exact b1) (fun i _ => rfl) (by rw [hR]; exact hf) (by rw [hR]; exact hlo) d (fun H1 locs1 hP1 hD1 hS1 => ?_)
  rw [c1, c2, c3, ze_w_set hk1] at hP1 hD1
  exact kk H1 locs1 ls hP1 hD1 hS1 hl
theorem ze_cont {H : Heap} {locs : List Loc} {ls : Array Slot} {st0 rest : List Value} {a : Array Value} {po : ze_Po} (hr : va_Run (ze_p G) (ze_l G) (ze_e G) (ze_R G) (ze_s G) (ze_m G) (ze_a G) (ze_b G) (ze_me G) (ze_c G) H locs cells slots mc ms (F0 (ze_m G) pc ls st0) rest (ze_Qc (ze_D G) (ze_i G) (ze_Af n ad H.size) po a) (ze_Af n ad H.size))
    (hD : va_D (ze_A G) (ze_w n ad E)) (hA : ∀ q, (ze_s G).heap.size ≤ q → ze_A G q) (hS : va_S (ze_A G) (ze_s G).heap H locs) (hl : lv_has ls (ze_nL G) lv)
    (kk : ∀ (v : Option Value) (n' : Nat) (ad' : Nat → Nat) (E' : Nat → va_E), po v n' ad' E' → ze_V G n' ad' E' (cells + mc) (slots + ms) (pc + 3) lv (v.toList ++ rest)) :
    W (ze_p G) (ze_l G) (ze_e G) (ze_R G) (ze_s G) (ze_m G) (ze_a G) (ze_b G) (ze_me G) (ze_c G) H locs cells slots (ze_Q G) (F0 (ze_m G) pc ls st0) := by
  intro T hT X
  obtain ⟨v, st₀, t, T', L, h0, X', hL, e1, e2, ⟨⟨v', n', ad', E', hv, hp, hP', hK', hD'⟩, hz, hk⟩, st⟩ := hr T hT X
  cases hv
  rw [h0] at hz hk
  have sub : ∀ q, ze_Af n ad H.size q → ze_A G q := by
    intro q hq
    rcases hq with ⟨k, h1, rfl⟩ | h
    · exact hD.2 k _ (ze_w_get h1)
    · exact hA q (Nat.le_trans hS.1 h)
  obtain ⟨t2, a1, b1⟩ := kk v n' ad' E' hp T'.heap (locs ++ L) ls (by rw [e1]; exact hP') (hD'.weaken (fun k q _ h => sub q.1 h))
    ⟨Nat.le_trans hS.1 (by rw [e1]; exact hz), fun q h1 h2 => by
      rw [e1, hk q (Nat.lt_of_lt_of_le h1 hS.1) (fun z => h2 (sub q z))]
      exact hS.2.1 q h1 h2, fun q hq => by
      rcases List.mem_append.mp hq with h | h
      · exact hS.2.2 q h
      · exact sub _ (hL q h)⟩ hl T' rfl X'
  exact ⟨t2, st t2 a1, b1⟩
theorem ze_blind {D : va_G} {ids : Nat → ClassId} {av : List Value} {sz : Nat} : FrameBlind (va_Pc av (fun U => U.heap.size = sz ∧ va_P D vwCl (ze_w n ad E) U.heap ∧ va_K D vwCl (ze_ty ids) U ∧ va_D (fun _ => True) (ze_w n ad E) ∧ ze_N U)) := fun a U g mk q => by
  obtain ⟨q0, q1, qP, qK, qD, qN⟩ := q
  exact ⟨q0, q1, qP, va_K.moved (u := U) (U := U.calling g mk a) (Vm.Alike.refl U.vm) qK, qD, ze_N.same (u := U) (U := U.calling g mk a) rfl qN⟩
/-- an invokevirtual's words and room -/
def ze_Kv (Ts : List Cond) (own : String) (idx : Nat) (y : MethodName) (ws : List Cond) (rm rm' : Room) (ci na : Nat) : Prop := ∃ (bytes : ByteArray) (maxL : Nat) (ret : Option FieldType) (ws' : List Cond) (Cn : String) (T : u_T) (N : Nat), GoodIn Ts (wsV own idx Cn y ws) ∧ ws = Cond.code y bytes maxL ret :: ws' ∧ (y.cls = Cn ∧ y.cls ≠ "java/lang/invoke/MethodHandle" ∧ y.cls ≠ "java/lang/invoke/VarHandle" ∧ (parseMethodDescriptor y.desc).map (fun d => d.parameters.length) = some na) ∧ (rm'.frames + 1 ≤ rm.frames ∧ 8 + (maxL + 11) + rm'.locals ≤ rm.locals) ∧ vwCl[ci]? = some (Cn, T, N)
theorem ze_callV {y : MethodName} {ws : List Cond} {rm' : Room} {idx k ci : Nat} {fs As : List Value} {po : ze_Po} {stk : List Value} (C : ze_C G cc Ts own rm nL) (hK : ze_Kv Ts own idx y ws rm rm' ci As.length) (M : ze_M (ze_l G) (ze_D G) (ze_i G) y ws rm' rm'.cells rm'.slots n ad E (.ref (ad k) :: As) po) (hk : k < n) (hE : E k = .inr (ci, fs)) (hstk : stk = As.reverse ++ .ref (ad k) :: st) (hsum : (st.map fun v => v.category).sum ≤ 8) (hcs : cells + rm'.cells ≤ rm.cells ∧ slots + rm'.slots ≤ rm.slots) (d : decode cc pc = .ok (.invokevirtual idx, 3))
    (kk : ∀ (v : Option Value) (n' : Nat) (ad' : Nat → Nat) (E' : Nat → va_E), po v n' ad' E' → ze_V G n' ad' E' (cells + rm'.cells) (slots + rm'.slots) (pc + 3) lv (v.toList ++ st)) : ze_V G n ad E cells slots pc lv stk := by
  intro H locs ls hP hD hS hl
  obtain ⟨bytes, maxL, ret, ws', Cn, T, N, h1, h2, h3, h4, h5⟩ := hK
  have hR := C.R
  refine ze_cont (va_runV (As := As) (rest := st) (C := Cn) (b := ad k) ⟨C.x, C.b, C.ml, C.ow, C.ts⟩ (M H.size) (cwV As.length C.ts h1 h2 rfl rfl h3 (by rw [hR]; exact h4)) ⟨ze_blind, va_recv C.K hP h5 (ze_w_eq hk hE), fun U hU hW => ⟨rfl, by rw [hU], by rw [hU]; exact hP, va_K.moved hW.alike C.K, hD.weaken (fun _ _ _ _ => trivial), C.N.warm hW⟩⟩ rfl rfl hl.1 (by exact hstk) (lv_room hsum) d (by rw [hR]; exact hcs)) hD C.A hS hl kk
/-- an invokestatic's words and room -/
def ze_Ks (Ts : List Cond) (own : String) (idx : Nat) (y : MethodName) (ws : List Cond) (rm rm' : Room) (na : Nat) : Prop := ∃ (bytes : ByteArray) (maxL : Nat) (ret : Option FieldType) (ws' : List Cond), GoodIn Ts (va_wsS own idx y ws) ∧ ws = Cond.code y bytes maxL ret :: ws' ∧ (y.cls ≠ "java/lang/invoke/MethodHandle" ∧ y.cls ≠ "java/lang/invoke/VarHandle" ∧ (parseMethodDescriptor y.desc).map (fun d => d.parameters.length) = some na) ∧ (rm'.frames + 1 ≤ rm.frames ∧ 8 + (maxL + 11) + rm'.locals ≤ rm.locals)
theorem ze_callS {y : MethodName} {ws : List Cond} {rm' : Room} {idx : Nat} {As : List Value} {po : ze_Po} {stk : List Value} (C : ze_C G cc Ts own rm nL) (hK : ze_Ks Ts own idx y ws rm rm' As.length) (M : ze_M (ze_l G) (ze_D G) (ze_i G) y ws rm' rm'.cells rm'.slots n ad E As po) (hstk : stk = As.reverse ++ st) (hsum : (st.map fun v => v.category).sum ≤ 8) (hcs : cells + rm'.cells ≤ rm.cells ∧ slots + rm'.slots ≤ rm.slots) (d : decode cc pc = .ok (.invokestatic idx, 3))
    (kk : ∀ (v : Option Value) (n' : Nat) (ad' : Nat → Nat) (E' : Nat → va_E), po v n' ad' E' → ze_V G n' ad' E' (cells + rm'.cells) (slots + rm'.slots) (pc + 3) lv (v.toList ++ st)) : ze_V G n ad E cells slots pc lv stk := by
  intro H locs ls hP hD hS hl
  obtain ⟨bytes, maxL, ret, ws', h1, h2, h3, h4⟩ := hK
  have hR := C.R
  refine ze_cont (va_runS (As := As) (rest := st) ⟨C.x, C.b, C.ml, C.ow, C.ts⟩ (M H.size) (va_cwS As.length C.ts h1 h2 rfl rfl h3 (by rw [hR]; exact h4)) ⟨ze_blind, fun U hU hW => ⟨rfl, by rw [hU], by rw [hU]; exact hP, va_K.moved hW.alike C.K, hD.weaken (fun _ _ _ _ => trivial), C.N.warm hW⟩⟩ rfl rfl hl.1 (by exact hstk) (lv_room hsum) d (by rw [hR]; exact hcs)) hD C.A hS hl kk
/-- a private static method of a nest mate -/
def ze_Kn (Ts : List Cond) (y : MethodName) (ws : List Cond) (rm rm' : Room) (na : Nat) : Prop := ∃ (bytes : ByteArray) (maxL : Nat) (ret : Option FieldType) (ws' : List Cond), GoodIn Ts ws ∧ ws = Cond.code y bytes maxL ret :: ws' ∧ Cond.initialized y.cls ∈ Ts ∧ Cond.static y ∈ Ts ∧ (y.cls ≠ "java/lang/invoke/MethodHandle" ∧ y.cls ≠ "java/lang/invoke/VarHandle" ∧ (parseMethodDescriptor y.desc).map (fun d => d.parameters.length) = some na) ∧ (rm'.frames + 1 ≤ rm.frames ∧ 8 + (maxL + 11) + rm'.locals ≤ rm.locals)
theorem ze_callSN {y : MethodName} {ws : List Cond} {rm' : Room} {idx : Nat} {host : String} {As : List Value} {po : ze_Po} {stk : List Value} (C : ze_C G cc Ts own rm nL) (hN : va_Nw (.methodLinkNest own idx y host) (ze_s G)) (hK : ze_Kn Ts y ws rm rm' As.length) (M : ze_M (ze_l G) (ze_D G) (ze_i G) y ws rm' rm'.cells rm'.slots n ad E As po) (hstk : stk = As.reverse ++ st) (hsum : (st.map fun v => v.category).sum ≤ 8) (hcs : cells + rm'.cells ≤ rm.cells ∧ slots + rm'.slots ≤ rm.slots) (d : decode cc pc = .ok (.invokestatic idx, 3))
    (kk : ∀ (v : Option Value) (n' : Nat) (ad' : Nat → Nat) (E' : Nat → va_E), po v n' ad' E' → ze_V G n' ad' E' (cells + rm'.cells) (slots + rm'.slots) (pc + 3) lv (v.toList ++ st)) : ze_V G n ad E cells slots pc lv stk := by
  intro H locs ls hP hD hS hl
  obtain ⟨bytes, maxL, ret, ws', h1, h2, h3, h4, h5, h6⟩ := hK
  have hR := C.R
  refine ze_cont (va_runSN (As := As) (rest := st) (host := host) ⟨C.x, C.b, C.ml, C.ow, C.ts⟩ (M H.size) ⟨va_cnB As.length C.ts h1 h2 rfl rfl hN (C.ts _ h3) h5 (by rw [hR]; exact h6), C.ts _ h4, trivial⟩ ⟨ze_blind, fun U hU hW => ⟨rfl, by rw [hU], by rw [hU]; exact hP, va_K.moved hW.alike C.K, hD.weaken (fun _ _ _ _ => trivial), C.N.warm hW⟩⟩ rfl rfl hl.1 (by exact hstk) (lv_room hsum) d (by rw [hR]; exact hcs)) hD C.A hS hl kk
end ZER
section ZEN
variable {G : ze_G} {cc : ByteArray} {Ts : List Cond} {own : String} {rm : Room} {nL : Nat} {n : Nat} {ad : Nat → Nat} {E : Nat → va_E} {cells slots pc : Nat} {lv : List (Nat × Value)} {st : List Value} {mc ms : Nat} {post : ze_Po}
theorem ze_newi {len : Nat} (C : ze_C G cc Ts own rm nL) (harr : Cond.arrayClass .int ∈ Ts) (hlen : len < 1000) (hc : cells + 1 ≤ rm.cells) (hs : slots + len ≤ rm.slots) (d : decode cc pc = .ok (.newarray .int, 2))
    (kk : ∀ ad' : Nat → Nat, (∀ k, k < n → ad' k = ad k) → ze_V G (n + 1) ad' (va_up E n (.inl (ze_i G 0, len, .inl (fun _ => 0)))) (cells + 1) (slots + len) (pc + 2) lv (.ref (ad' n) :: st)) : ze_V G n ad E cells slots pc lv (.int (nI len) :: st) := by
  intro H locs ls hP hD hS hl
  have hR := C.R
  refine va_newa (D := ze_D G) C.x C.b (atype := .int) (C.ts _ harr) (ty := .int) rfl C.K hP hD hS C.A (n := nI len) (N' := len) (a0 := (len, .inl (fun _ => 0))) (fun cA => rfl) (nI_pos (by omega)) (nI_clamp (by omega)) (by show len * 4 ≤ 536870912; omega) (by rw [hR]; exact hc) (by rw [hR]; exact hs) d (fun q cA H1 hK1 hP1 hD1 hS1 => ?_)
  have e : cA = ze_i G 0 := by
    have h1 := (hK1.2 3 (cA, .int) rfl).2
    have h2 := (C.K.2 0 (ze_i G 0, .int) rfl).2
    exact Option.some.inj (h1.symm.trans h2)
  subst e
  rw [ze_w_push] at hP1 hD1
  have h := kk (va_up ad n q) (fun k hk => va_up_ne _ _ (by omega)) H1 locs ls hP1 hD1 hS1 hl
  rw [va_up_self] at h
  exact h
theorem ze_newz {len : Nat} (C : ze_C G cc Ts own rm nL) (harr : Cond.arrayClass .boolean ∈ Ts) (hlen : len < 1000) (hc : cells + 1 ≤ rm.cells) (hs : slots + len ≤ rm.slots) (d : decode cc pc = .ok (.newarray .boolean, 2))
    (kk : ∀ ad' : Nat → Nat, (∀ k, k < n → ad' k = ad k) → ze_V G (n + 1) ad' (va_up E n (.inl (ze_i G 1, len, .inl (fun _ => 0)))) (cells + 1) (slots + len) (pc + 2) lv (.ref (ad' n) :: st)) : ze_V G n ad E cells slots pc lv (.int (nI len) :: st) := by
  intro H locs ls hP hD hS hl
  have hR := C.R
  refine va_newa (D := ze_D G) C.x C.b (atype := .boolean) (C.ts _ harr) (ty := .boolean) rfl C.K hP hD hS C.A (n := nI len) (N' := len) (a0 := (len, .inl (fun _ => 0))) (fun cA => rfl) (nI_pos (by omega)) (nI_clamp (by omega)) (by show len * 1 ≤ 536870912; omega) (by rw [hR]; exact hc) (by rw [hR]; exact hs) d (fun q cA H1 hK1 hP1 hD1 hS1 => ?_)
  have e : cA = ze_i G 1 := by
    have h1 := (hK1.2 3 (cA, .boolean) rfl).2
    have h2 := (C.K.2 1 (ze_i G 1, .boolean) rfl).2
    exact Option.some.inj (h1.symm.trans h2)
  subst e
  rw [ze_w_push] at hP1 hD1
  have h := kk (va_up ad n q) (fun k hk => va_up_ne _ _ (by omega)) H1 locs ls hP1 hD1 hS1 hl
  rw [va_up_self] at h
  exact h
theorem ze_newq {len idx : Nat} (C : ze_C G cc Ts own rm nL) (hcl : Cond.classLink own idx ze_RT ∈ Ts) (hov : va_AO ze_RT (ze_s G)) (hlen : len < 1000) (hc : cells + 1 ≤ rm.cells) (hs : slots + len ≤ rm.slots) (d : decode cc pc = .ok (.anewarray idx, 3))
    (kk : ∀ ad' : Nat → Nat, (∀ k, k < n → ad' k = ad k) → ze_V G (n + 1) ad' (va_up E n (.inl (ze_i G 2, len, .inr (.inr (.inr (.inr (fun _ => none))))))) (cells + 1) (slots + len) (pc + 3) lv (.ref (ad' n) :: st)) : ze_V G n ad E cells slots pc lv (.int (nI len) :: st) := by
  intro H locs ls hP hD hS hl
  have hR := C.R
  refine va_newq (D := ze_D G) C.x C.b C.ow (C.ts _ hcl) hov C.K hP hD hS C.A (n := nI len) (N' := len) (nI_pos (by omega)) (nI_clamp (by omega)) (by omega) (by rw [hR]; exact hc) (by rw [hR]; exact hs) d (fun q cA H1 hK1 hP1 hD1 hS1 => ?_)
  have e : cA = ze_i G 2 := by
    obtain ⟨k1, c1, -, -, -, h1⟩ := (hK1.2 3 (cA, .object ze_RT) rfl).2
    obtain ⟨k2, c2, -, -, -, h2⟩ := (C.K.2 2 (ze_i G 2, .object ze_RT) rfl).2
    exact Option.some.inj (h1.symm.trans h2)
  subst e
  rw [ze_w_push] at hP1 hD1
  have h := kk (va_up ad n q) (fun k hk => va_up_ne _ _ (by omega)) H1 locs ls hP1 hD1 hS1 hl
  rw [va_up_self] at h
  exact h
/-- the words of a new -/
def ze_Fn (Ts : List Cond) (own : String) (idx ci : Nat) (fs : List Value) : Prop := ∃ (C : String) (T : u_T) (N : Nat) (ty : Nat → FieldType), vwCl[ci]? = some (C, T, N) ∧ (∀ w ∈ u_ws C T N, w ∈ Ts) ∧ (∀ k, k < N → parseFieldDescriptor (T k).2.2.1 = some (ty k)) ∧ Cond.classLink own idx C ∈ Ts ∧ Cond.instantiable C N ∈ Ts ∧ Cond.initialized C ∈ Ts ∧ (∀ j, j < N → defaultValue (ty j) = vp_V fs j) ∧ N = fs.length
theorem ze_new {idx ci : Nat} {fs : List Value} (C : ze_C G cc Ts own rm nL) (hF : ze_Fn Ts own idx ci fs) (hc : cells + 1 ≤ rm.cells) (hs : slots + fs.length ≤ rm.slots) (d : decode cc pc = .ok (.new idx, 3))
    (kk : ∀ ad' : Nat → Nat, (∀ k, k < n → ad' k = ad k) → ze_V G (n + 1) ad' (va_up E n (.inr (ci, fs))) (cells + 1) (slots + fs.length) (pc + 3) lv (.ref (ad' n) :: st)) : ze_V G n ad E cells slots pc lv st := by
  intro H locs ls hP hD hS hl
  have hR := C.R
  obtain ⟨Cn, T, N, ty, h1, h2, h3, h4, h5, h6, h7, h8⟩ := hF
  subst h8
  refine va_new (D := ze_D G) C.x C.b C.ts h2 ty h3 C.ow (C.ts _ h4) (C.ts _ h5) (C.ts _ h6) C.K hP hD hS C.A h1 h7 (by rw [hR]; exact hc) (by rw [hR]; exact hs) d (fun q H1 hP1 hD1 hS1 => ?_)
  rw [ze_w_push] at hP1 hD1
  have h := kk (va_up ad n q) (fun k hk => va_up_ne _ _ (by omega)) H1 locs ls hP1 hD1 hS1 hl
  rw [va_up_self] at h
  exact h
theorem ze_objInit {idx k : Nat} (C : ze_C G cc Ts own rm nL) (h1 : Cond.methodLink own idx Lib.objectInit ∈ Ts) (h2 : Cond.instanceMethod Lib.objectInit ∈ Ts) (h3 : Cond.code Lib.objectInit ⟨#[0xb1]⟩ 1 none ∈ Ts) (hf : 1 ≤ rm.frames) (hlo : (st.map fun v => v.category).sum + 12 ≤ rm.locals) (d : decode cc pc = .ok (.invokespecial idx, 3)) (kk : ze_V G n ad E cells slots (pc + 3) lv st) : ze_V G n ad E cells slots pc lv (.ref (ad k) :: st) := by
  intro H locs ls hP hD hS hl
  have hR := C.R
  refine W.objInit C.x C.b C.ow (C.ts _ h1) (C.ts _ h2) (C.ts _ h3) rfl (by rw [C.ml]; exact hl.1) rfl d (by rw [hR]; exact hf) ?_ ?_
  · rw [hR]
    have : (F0 (ze_m G) pc ls (.ref (ad k) :: st)).monitorRoom = 0 := rfl
    rw [this]
    omega
  · exact kk H locs ls hP hD hS hl
/-- a constructor: of a class (methodLink), or private to a nest mate (methodLinkNest) -/
def ze_Ki (Ts : List Cond) (own : String) (idx : Nat) (y : MethodName) (ws : List Cond) (rm rm' : Room) (na : Nat) : Prop := ∃ (bytes : ByteArray) (maxL : Nat) (ws' : List Cond), GoodIn Ts ws ∧ ws = Cond.code y bytes maxL none :: ws' ∧ Cond.initialized y.cls ∈ Ts ∧ Cond.methodLink own idx y ∈ Ts ∧ Cond.instanceMethod y ∈ Ts ∧ y.name = "<init>" ∧ (y.cls ≠ "java/lang/invoke/MethodHandle" ∧ y.cls ≠ "java/lang/invoke/VarHandle" ∧ (parseMethodDescriptor y.desc).map (fun d => d.parameters.length) = some na) ∧ (rm'.frames + 1 ≤ rm.frames ∧ 8 + (maxL + 11) + rm'.locals ≤ rm.locals)
theorem ze_callI {y : MethodName} {ws : List Cond} {rm' : Room} {idx k : Nat} {As : List Value} {po : ze_Po} {stk : List Value} (C : ze_C G cc Ts own rm nL) (hK : ze_Ki Ts own idx y ws rm rm' As.length) (M : ze_M (ze_l G) (ze_D G) (ze_i G) y ws rm' rm'.cells rm'.slots n ad E (.ref (ad k) :: As) po) (hstk : stk = As.reverse ++ .ref (ad k) :: st) (hsum : (st.map fun v => v.category).sum ≤ 8) (hcs : cells + rm'.cells ≤ rm.cells ∧ slots + rm'.slots ≤ rm.slots) (d : decode cc pc = .ok (.invokespecial idx, 3))
    (kk : ∀ (v : Option Value) (n' : Nat) (ad' : Nat → Nat) (E' : Nat → va_E), po v n' ad' E' → ze_V G n' ad' E' (cells + rm'.cells) (slots + rm'.slots) (pc + 3) lv (v.toList ++ st)) : ze_V G n ad E cells slots pc lv stk := by
  intro H locs ls hP hD hS hl
  obtain ⟨bytes, maxL, ws', h1, h2, h3, h4, h5, h6, h7, h8⟩ := hK
  have hR := C.R
  refine ze_cont (va_runI (As := As) (rest := st) (b := ad k) ⟨C.x, C.b, C.ml, C.ow, C.ts⟩ (M H.size) (cwI As.length C.ts h1 h2 rfl rfl (C.ts _ h3) (C.ts _ h4) (C.ts _ h5) h6 h7 (by rw [hR]; exact h8)) ⟨ze_blind, fun U hU hW => ⟨rfl, by rw [hU], by rw [hU]; exact hP, va_K.moved hW.alike C.K, hD.weaken (fun _ _ _ _ => trivial), C.N.warm hW⟩⟩ rfl rfl hl.1 (by exact hstk) (lv_room hsum) d (by rw [hR]; exact hcs)) hD C.A hS hl kk
def ze_Kj (Ts : List Cond) (y : MethodName) (ws : List Cond) (rm rm' : Room) (na : Nat) : Prop := ∃ (bytes : ByteArray) (maxL : Nat) (ws' : List Cond), GoodIn Ts ws ∧ ws = Cond.code y bytes maxL none :: ws' ∧ Cond.initialized y.cls ∈ Ts ∧ Cond.instanceMethod y ∈ Ts ∧ y.name = "<init>" ∧ (y.cls ≠ "java/lang/invoke/MethodHandle" ∧ y.cls ≠ "java/lang/invoke/VarHandle" ∧ (parseMethodDescriptor y.desc).map (fun d => d.parameters.length) = some na) ∧ (rm'.frames + 1 ≤ rm.frames ∧ 8 + (maxL + 11) + rm'.locals ≤ rm.locals)
theorem ze_callIN {y : MethodName} {ws : List Cond} {rm' : Room} {idx k : Nat} {host : String} {As : List Value} {po : ze_Po} {stk : List Value} (C : ze_C G cc Ts own rm nL) (hN : va_Nw (.methodLinkNest own idx y host) (ze_s G)) (hK : ze_Kj Ts y ws rm rm' As.length) (M : ze_M (ze_l G) (ze_D G) (ze_i G) y ws rm' rm'.cells rm'.slots n ad E (.ref (ad k) :: As) po) (hstk : stk = As.reverse ++ .ref (ad k) :: st) (hsum : (st.map fun v => v.category).sum ≤ 8) (hcs : cells + rm'.cells ≤ rm.cells ∧ slots + rm'.slots ≤ rm.slots) (d : decode cc pc = .ok (.invokespecial idx, 3))
    (kk : ∀ (v : Option Value) (n' : Nat) (ad' : Nat → Nat) (E' : Nat → va_E), po v n' ad' E' → ze_V G n' ad' E' (cells + rm'.cells) (slots + rm'.slots) (pc + 3) lv (v.toList ++ st)) : ze_V G n ad E cells slots pc lv stk := by
  intro H locs ls hP hD hS hl
  obtain ⟨bytes, maxL, ws', h1, h2, h3, h5, h6, h7, h8⟩ := hK
  have hR := C.R
  refine ze_cont (va_runIN (As := As) (rest := st) (b := ad k) (host := host) ⟨C.x, C.b, C.ml, C.ow, C.ts⟩ (M H.size) ⟨va_cnB As.length C.ts h1 h2 rfl rfl hN (C.ts _ h3) h7 (by rw [hR]; exact h8), h6, C.ts _ h5⟩ ⟨ze_blind, fun U hU hW => ⟨rfl, by rw [hU], by rw [hU]; exact hP, va_K.moved hW.alike C.K, hD.weaken (fun _ _ _ _ => trivial), C.N.warm hW⟩⟩ rfl rfl hl.1 (by exact hstk) (lv_room hsum) d (by rw [hR]; exact hcs)) hD C.A hS hl kk
end ZEN
end
section
/-! THE STATE of class and reference, and the 48 cells that hold it: 0 the executor, 1 its tables, 2 held, 3 + 3 i the table i (0..7 the slots, 8 input, 9 workA, 10 workB, 11 spare) with its keys and values behind it; 39 the reference, 40.. its arrays. -/
abbrev ze_T : Type := (Nat → Int32) × (Nat → Int32) × Nat × Bool
abbrev ze_XS : Type := Nat × (Nat → ze_T) × (Nat → Bool) × Int64
/-- memory, moved, typed, made, cost, level; the arrays typedKey, typedValue, count, keys, values, madeKey, madeValue, path -/
abbrev ze_MS : Type := Nat × Int64 × Nat × Nat × Nat × Nat × (Nat → Nat → Int32)
def ze_bi (b : Bool) : Int32 := if b then 1 else 0
def ze_ct (ids : Nat → ClassId) (ad : Nat → Nat) (i : Nat) (t : ze_T) (r : Nat) : va_E :=
  if r = 0 then .inr (ze_kT, [.ref (ad (4 + 3 * i)), .ref (ad (5 + 3 * i)), .int (nI t.2.2.1), .int (ze_bi t.2.2.2)])
  else if r = 1 then .inl (ids 0, 60, .inl t.1) else .inl (ids 0, 60, .inl t.2.1)
def ze_EX (ids : Nat → ClassId) (ad : Nat → Nat) (x : ze_XS) (k : Nat) : va_E :=
  if k = 0 then .inr (ze_kX, [.int (nI x.1), .ref (ad 1), .ref (ad 2), .ref (ad 27), .ref (ad 30), .ref (ad 33), .ref (ad 36), .long x.2.2.2])
  else if k = 1 then .inl (ids 2, 8, .inr (.inr (.inr (.inr (fun j => some (ad (3 + 3 * j)))))))
  else if k = 2 then .inl (ids 1, 8, .inl (fun j => ze_bi (x.2.2.1 j)))
  else ze_ct ids ad (k / 3 - 1) (x.2.1 (k / 3 - 1)) (k % 3)
def ze_al (j : Nat) : Nat := if j = 2 then 8 else if j = 3 then 480 else if j = 4 then 480 else if j = 7 then 3 else 60
def ze_EM (ids : Nat → ClassId) (ad : Nat → Nat) (x : ze_MS) (k : Nat) : va_E :=
  if k = 39 then .inr (ze_kM, [.int (nI x.1), .long x.2.1, .int (nI x.2.2.1), .ref (ad 40), .ref (ad 41), .ref (ad 42), .ref (ad 43), .ref (ad 44), .int (nI x.2.2.2.1), .ref (ad 45), .ref (ad 46), .long (lN x.2.2.2.2.1), .int (nI x.2.2.2.2.2.1), .ref (ad 47)])
  else .inl (ids 0, ze_al (k - 40), .inl (x.2.2.2.2.2.2 (k - 40)))
def ze_E (ids : Nat → ClassId) (ad : Nat → Nat) (x : ze_XS) (ms : ze_MS) : Nat → va_E := fun k => if k < 39 then ze_EX ids ad x k else ze_EM ids ad ms k
section ZES
variable {ids : Nat → ClassId} {ad : Nat → Nat} {x : ze_XS} {ms : ze_MS} {M : Nat} {T : Nat → ze_T} {hd : Nat → Bool} {mv : Int64}
theorem ze_E_x : ze_E ids ad (M, T, hd, mv) ms 0 = .inr (ze_kX, [.int (nI M), .ref (ad 1), .ref (ad 2), .ref (ad 27), .ref (ad 30), .ref (ad 33), .ref (ad 36), .long mv]) := rfl
theorem ze_E_tabs : ze_E ids ad x ms 1 = .inl (ids 2, 8, .inr (.inr (.inr (.inr (fun j => some (ad (3 + 3 * j))))))) := rfl
theorem ze_E_held : ze_E ids ad (M, T, hd, mv) ms 2 = .inl (ids 1, 8, .inl (fun j => ze_bi (hd j))) := rfl
theorem ze_E_ct {i r : Nat} (hi : i < 12) (hr : r < 3) : ze_E ids ad x ms (3 + 3 * i + r) = ze_ct ids ad i (x.2.1 i) r := by
  have h1 : 3 + 3 * i + r < 39 := by omega
  have h2 : (3 + 3 * i + r) / 3 - 1 = i := by omega
  have h3 : (3 + 3 * i + r) % 3 = r := by omega
  have n0 : ¬ 3 + 3 * i + r = 0 := by omega
  have n1 : ¬ 3 + 3 * i + r = 1 := by omega
  have n2 : ¬ 3 + 3 * i + r = 2 := by omega
  simp only [ze_E, ze_EX, h1, if_true, n0, n1, n2, if_false, h2, h3]
theorem ze_E_t {i : Nat} (hi : i < 12) : ze_E ids ad (M, T, hd, mv) ms (3 + 3 * i) = .inr (ze_kT, [.ref (ad (4 + 3 * i)), .ref (ad (5 + 3 * i)), .int (nI (T i).2.2.1), .int (ze_bi (T i).2.2.2)]) := ze_E_ct (r := 0) hi (by decide)
theorem ze_E_k {i : Nat} (hi : i < 12) : ze_E ids ad (M, T, hd, mv) ms (4 + 3 * i) = .inl (ids 0, 60, .inl (T i).1) := by
  have h := ze_E_ct (ids := ids) (ad := ad) (x := (M, T, hd, mv)) (ms := ms) (r := 1) hi (by decide)
  rw [show 3 + 3 * i + 1 = 4 + 3 * i by omega] at h
  exact h
theorem ze_E_v {i : Nat} (hi : i < 12) : ze_E ids ad (M, T, hd, mv) ms (5 + 3 * i) = .inl (ids 0, 60, .inl (T i).2.1) := by
  have h := ze_E_ct (ids := ids) (ad := ad) (x := (M, T, hd, mv)) (ms := ms) (r := 2) hi (by decide)
  rw [show 3 + 3 * i + 2 = 5 + 3 * i by omega] at h
  exact h
theorem ze_E_m {mem : Nat} {mvd : Int64} {ty ma co le : Nat} {Ar : Nat → Nat → Int32} : ze_E ids ad x (mem, mvd, ty, ma, co, le, Ar) 39 = .inr (ze_kM, [.int (nI mem), .long mvd, .int (nI ty), .ref (ad 40), .ref (ad 41), .ref (ad 42), .ref (ad 43), .ref (ad 44), .int (nI ma), .ref (ad 45), .ref (ad 46), .long (lN co), .int (nI le), .ref (ad 47)]) := rfl
theorem ze_E_a {j : Nat} {mem : Nat} {mvd : Int64} {ty ma co le : Nat} {Ar : Nat → Nat → Int32} : ze_E ids ad x (mem, mvd, ty, ma, co, le, Ar) (40 + j) = .inl (ids 0, ze_al j, .inl (Ar j)) := by
  have h1 : ¬ 40 + j < 39 := by omega
  have h2 : ¬ 40 + j = 39 := by omega
  have h3 : 40 + j - 40 = j := by omega
  simp only [ze_E, ze_EM, h1, h2, if_false, h3]
theorem ze_up_ct {i r : Nat} {t : ze_T} {e : va_E} (hi : i < 12) (hr : r < 3) (he : e = ze_ct ids ad i t r) (ho : ∀ q, q < 3 → q ≠ r → ze_ct ids ad i t q = ze_ct ids ad i (T i) q) : va_up (ze_E ids ad (M, T, hd, mv) ms) (3 + 3 * i + r) e = ze_E ids ad (M, va_up T i t, hd, mv) ms := by
  funext k
  by_cases hk : k = 3 + 3 * i + r
  · subst hk
    rw [va_up_self, ze_E_ct hi hr, he]
    simp only [va_up_self]
  · rw [va_up_ne _ _ hk]
    by_cases h39 : k < 39
    · by_cases h3 : k < 3
      · have : k = 0 ∨ k = 1 ∨ k = 2 := by omega
        rcases this with rfl | rfl | rfl <;> rfl
      · by_cases hki : k / 3 - 1 = i
        · have e1 : k = 3 + 3 * i + k % 3 := by omega
          have hq : k % 3 < 3 := Nat.mod_lt _ (by decide)
          generalize k % 3 = q at e1 hq
          subst e1
          rw [ze_E_ct hi hq, ze_E_ct hi hq]
          simp only [va_up_self]
          exact (ho q hq (by omega)).symm
        · have n0 : ¬ k = 0 := by omega
          have n1 : ¬ k = 1 := by omega
          have n2 : ¬ k = 2 := by omega
          simp only [ze_E, ze_EX, h39, if_true, n0, n1, n2, if_false, va_up_ne _ _ hki]
    · simp only [ze_E, h39, if_false]
theorem ze_up_k {i : Nat} {f : Nat → Int32} (hi : i < 12) : va_up (ze_E ids ad (M, T, hd, mv) ms) (4 + 3 * i) (.inl (ids 0, 60, .inl f)) = ze_E ids ad (M, va_up T i (f, (T i).2), hd, mv) ms := by
  have h := ze_up_ct (ids := ids) (ad := ad) (M := M) (T := T) (hd := hd) (mv := mv) (ms := ms) (r := 1) (t := (f, (T i).2)) (e := .inl (ids 0, 60, .inl f)) hi (by decide) rfl (fun q hq hn => by
    have : q = 0 ∨ q = 2 := by omega
    rcases this with rfl | rfl <;> rfl)
  rw [show 3 + 3 * i + 1 = 4 + 3 * i by omega] at h
  exact h
theorem ze_up_v {i : Nat} {f : Nat → Int32} (hi : i < 12) : va_up (ze_E ids ad (M, T, hd, mv) ms) (5 + 3 * i) (.inl (ids 0, 60, .inl f)) = ze_E ids ad (M, va_up T i ((T i).1, f, (T i).2.2), hd, mv) ms := by
  have h := ze_up_ct (ids := ids) (ad := ad) (M := M) (T := T) (hd := hd) (mv := mv) (ms := ms) (r := 2) (t := ((T i).1, f, (T i).2.2)) (e := .inl (ids 0, 60, .inl f)) hi (by decide) rfl (fun q hq hn => by
    have : q = 0 ∨ q = 1 := by omega
    rcases this with rfl | rfl <;> rfl)
  rw [show 3 + 3 * i + 2 = 5 + 3 * i by omega] at h
  exact h
theorem ze_up_t {i n : Nat} {o : Bool} (hi : i < 12) : va_up (ze_E ids ad (M, T, hd, mv) ms) (3 + 3 * i) (.inr (ze_kT, [.ref (ad (4 + 3 * i)), .ref (ad (5 + 3 * i)), .int (nI n), .int (ze_bi o)])) = ze_E ids ad (M, va_up T i ((T i).1, (T i).2.1, n, o), hd, mv) ms :=
  ze_up_ct (r := 0) (t := ((T i).1, (T i).2.1, n, o)) hi (by decide) rfl (fun q hq hn => by
    have : q = 1 ∨ q = 2 := by omega
    rcases this with rfl | rfl <;> rfl)
theorem ze_up_held {f : Nat → Int32} {hd' : Nat → Bool} (hf : f = fun j => ze_bi (hd' j)) : va_up (ze_E ids ad (M, T, hd, mv) ms) 2 (.inl (ids 1, 8, .inl f)) = ze_E ids ad (M, T, hd', mv) ms := by
  subst hf
  funext k
  by_cases hk : k = 2
  · subst hk; rfl
  · rw [va_up_ne _ _ hk]
    simp only [ze_E, ze_EX, hk, if_false]
theorem ze_up_mv {mv' : Int64} : va_up (ze_E ids ad (M, T, hd, mv) ms) 0 (.inr (ze_kX, [.int (nI M), .ref (ad 1), .ref (ad 2), .ref (ad 27), .ref (ad 30), .ref (ad 33), .ref (ad 36), .long mv'])) = ze_E ids ad (M, T, hd, mv') ms := by
  funext k
  by_cases hk : k = 0
  · subst hk; rfl
  · rw [va_up_ne _ _ hk]
    simp only [ze_E, ze_EX, hk, if_false]
theorem ze_up_m {ms' : ze_MS} {e : va_E} (he : e = ze_EM ids ad ms' 39) (h : ms'.2.2.2.2.2.2 = ms.2.2.2.2.2.2) : va_up (ze_E ids ad x ms) 39 e = ze_E ids ad x ms' := by
  funext k
  by_cases hk : k = 39
  · subst hk; rw [va_up_self, he]; rfl
  · rw [va_up_ne _ _ hk]
    simp only [ze_E, ze_EM, hk, if_false, h]
theorem ze_up_a {j : Nat} {f : Nat → Int32} {mem : Nat} {mvd : Int64} {ty ma co le : Nat} {Ar : Nat → Nat → Int32} : va_up (ze_E ids ad x (mem, mvd, ty, ma, co, le, Ar)) (40 + j) (.inl (ids 0, ze_al j, .inl f)) = ze_E ids ad x (mem, mvd, ty, ma, co, le, va_up Ar j f) := by
  funext k
  by_cases hk : k = 40 + j
  · subst hk; rw [va_up_self, ze_E_a]; simp only [va_up_self]
  · rw [va_up_ne _ _ hk]
    by_cases h39 : k < 39
    · simp only [ze_E, h39, if_true]
    · by_cases h40 : k = 39
      · subst h40; rfl
      · have : k - 40 ≠ j := by omega
        simp only [ze_E, ze_EM, h39, h40, if_false, va_up_ne _ _ this]
theorem ze_up_eta {α : Type} (T : Nat → α) (i : Nat) : va_up T i (T i) = T := by
  funext j
  by_cases h : j = i
  · subst h; rw [va_up_self]
  · rw [va_up_ne _ _ h]
variable {i : Nat} {f g : Nat → Int32} {c : Nat} {o : Bool}
theorem ze_F_t (hi : i < 12) : ze_E ids ad (M, va_up T i (f, g, c, o), hd, mv) ms (3 + 3 * i) = .inr (ze_kT, [.ref (ad (4 + 3 * i)), .ref (ad (5 + 3 * i)), .int (nI c), .int (ze_bi o)]) := by
  rw [ze_E_t hi, va_up_self]
theorem ze_F_k (hi : i < 12) : ze_E ids ad (M, va_up T i (f, g, c, o), hd, mv) ms (4 + 3 * i) = .inl (ids 0, 60, .inl f) := by
  rw [ze_E_k hi, va_up_self]
theorem ze_F_v (hi : i < 12) : ze_E ids ad (M, va_up T i (f, g, c, o), hd, mv) ms (5 + 3 * i) = .inl (ids 0, 60, .inl g) := by
  rw [ze_E_v hi, va_up_self]
theorem ze_O_t {j : Nat} {t : ze_T} (hj : j < 12) (hn : j ≠ i) : ze_E ids ad (M, va_up T i t, hd, mv) ms (3 + 3 * j) = .inr (ze_kT, [.ref (ad (4 + 3 * j)), .ref (ad (5 + 3 * j)), .int (nI (T j).2.2.1), .int (ze_bi (T j).2.2.2)]) := by
  rw [ze_E_t hj, va_up_ne _ _ hn]
theorem ze_O_k {j : Nat} {t : ze_T} (hj : j < 12) (hn : j ≠ i) : ze_E ids ad (M, va_up T i t, hd, mv) ms (4 + 3 * j) = .inl (ids 0, 60, .inl (T j).1) := by
  rw [ze_E_k hj, va_up_ne _ _ hn]
theorem ze_O_v {j : Nat} {t : ze_T} (hj : j < 12) (hn : j ≠ i) : ze_E ids ad (M, va_up T i t, hd, mv) ms (5 + 3 * j) = .inl (ids 0, 60, .inl (T j).2.1) := by
  rw [ze_E_v hj, va_up_ne _ _ hn]
theorem ze_W_t {c' : Nat} {o' : Bool} (hi : i < 12) : va_up (ze_E ids ad (M, va_up T i (f, g, c, o), hd, mv) ms) (3 + 3 * i) (.inr (ze_kT, [.ref (ad (4 + 3 * i)), .ref (ad (5 + 3 * i)), .int (nI c'), .int (ze_bi o')])) = ze_E ids ad (M, va_up T i (f, g, c', o'), hd, mv) ms := by
  rw [ze_up_t hi, va_up_self, bx_uu]
theorem ze_W_k {f' : Nat → Int32} (hi : i < 12) : va_up (ze_E ids ad (M, va_up T i (f, g, c, o), hd, mv) ms) (4 + 3 * i) (.inl (ids 0, 60, .inl f')) = ze_E ids ad (M, va_up T i (f', g, c, o), hd, mv) ms := by
  rw [ze_up_k hi, va_up_self, bx_uu]
theorem ze_W_v {g' : Nat → Int32} (hi : i < 12) : va_up (ze_E ids ad (M, va_up T i (f, g, c, o), hd, mv) ms) (5 + 3 * i) (.inl (ids 0, 60, .inl g')) = ze_E ids ad (M, va_up T i (f, g', c, o), hd, mv) ms := by
  rw [ze_up_v hi, va_up_self, bx_uu]
end ZES
/-- the room of a method that makes nothing, k calls above the ground -/
def ze_rm (k : Nat) : Room := { frames := k, cells := 0, slots := 0, locals := 64 * k }
/-- nothing of the world has changed -/
def ze_p0 (n : Nat) (ad : Nat → Nat) (E : Nat → va_E) (P : Option Value → Prop) : ze_Po := fun v n' ad' E' => n' = n ∧ ad' = ad ∧ E' = E ∧ P v
/-- the class's state is new, the reference's as it was -/
def ze_pX (ids : Nat → ClassId) (ad : Nat → Nat) (ms : ze_MS) (P : Option Value → ze_XS → Prop) : ze_Po := fun v n' ad' E' => n' = 48 ∧ ad' = ad ∧ ∃ x', E' = ze_E ids ad x' ms ∧ P v x'
def ze_pM (ids : Nat → ClassId) (ad : Nat → Nat) (x : ze_XS) (P : Option Value → ze_MS → Prop) : ze_Po := fun v n' ad' E' => n' = 48 ∧ ad' = ad ∧ ∃ ms', E' = ze_E ids ad x ms' ∧ P v ms'
abbrev ze_MX (l : Launch) (D : va_G) (ids : Nat → ClassId) (ad : Nat → Nat) (ms : ze_MS) (y : MethodName) (ws : List Cond) (k : Nat) (x : ze_XS) (av : List Value) (P : Option Value → ze_XS → Prop) : Prop := ze_M l D ids y ws (ze_rm k) 0 0 48 ad (ze_E ids ad x ms) av (ze_pX ids ad ms P)
abbrev ze_MM (l : Launch) (D : va_G) (ids : Nat → ClassId) (ad : Nat → Nat) (x : ze_XS) (y : MethodName) (ws : List Cond) (k : Nat) (ms : ze_MS) (av : List Value) (P : Option Value → ze_MS → Prop) : Prop := ze_M l D ids y ws (ze_rm k) 0 0 48 ad (ze_E ids ad x ms) av (ze_pM ids ad x P)
end
section
/-! PURE: rows, their orders, the stable sorting by insertion, the places by rank, the sorted rows without repeats -/
abbrev ze_Row : Type := Int32 × Int32
/-- the order o: 0 by key, 1 by value, else by key and value -/
def ze_lt (o : Nat) (a b : ze_Row) : Bool :=
  if o = 0 then decide (a.1.toInt < b.1.toInt)
  else if o = 1 then decide (a.2.toInt < b.2.toInt)
  else decide (a.1.toInt < b.1.toInt ∨ (a.1.toInt = b.1.toInt ∧ a.2.toInt < b.2.toInt))
theorem ze_lt_iff (o : Nat) (a b : ze_Row) : ze_lt o a b = true ↔ ((o = 0 ∧ a.1.toInt < b.1.toInt) ∨ (o = 1 ∧ a.2.toInt < b.2.toInt) ∨ (o ≠ 0 ∧ o ≠ 1 ∧ (a.1.toInt < b.1.toInt ∨ (a.1.toInt = b.1.toInt ∧ a.2.toInt < b.2.toInt)))) := by
  unfold ze_lt
  split
  · rename_i h; subst h; simp
  · split
    · rename_i h; subst h; simp
    · rename_i h0 h1; simp [h0, h1]
theorem ze_lt_asym {o : Nat} {a b : ze_Row} (h : ze_lt o a b = true) : ze_lt o b a = false := by
  refine Bool.eq_false_iff.mpr (fun h2 => ?_)
  rw [ze_lt_iff] at h h2
  omega
theorem ze_lt_ntr {o : Nat} {a b c : ze_Row} (h1 : ze_lt o a b = false) (h2 : ze_lt o b c = false) : ze_lt o a c = false := by
  refine Bool.eq_false_iff.mpr (fun h3 => ?_)
  have h1 := Bool.eq_false_iff.mp h1
  have h2 := Bool.eq_false_iff.mp h2
  rw [ne_eq, ze_lt_iff] at h1 h2
  rw [ze_lt_iff] at h3
  omega
theorem ze_lt_trans {o : Nat} {a b c : ze_Row} (h1 : ze_lt o a b = true) (h2 : ze_lt o b c = true) : ze_lt o a c = true := by
  rw [ze_lt_iff] at h1 h2 ⊢
  omega
theorem ze_lt_tri {a b : ze_Row} (h1 : ze_lt 2 a b = false) (h2 : ze_lt 2 b a = false) : a = b := by
  have h1 := Bool.eq_false_iff.mp h1
  have h2 := Bool.eq_false_iff.mp h2
  rw [ne_eq, ze_lt_iff] at h1 h2
  have e1 : a.1.toInt = b.1.toInt := by omega
  have e2 : a.2.toInt = b.2.toInt := by omega
  exact Prod.ext (Int32.toInt_inj.mp e1) (Int32.toInt_inj.mp e2)
theorem ze_lt_irr {o : Nat} {a : ze_Row} : ze_lt o a a = false := by
  refine Bool.eq_false_iff.mpr (fun h => ?_)
  rw [ze_lt_iff] at h
  omega
/-- insertion into a list that lies backwards -/
def ze_insG {α : Type} (lt : α → α → Bool) (r : α) : List α → List α
  | [] => [r]
  | e :: Q => if lt r e = true then e :: ze_insG lt r Q else r :: e :: Q
def ze_srtG {α : Type} (lt : α → α → Bool) (L : List α) : List α := (L.foldl (fun Q r => ze_insG lt r Q) []).reverse
def ze_srt (o : Nat) (L : List ze_Row) : List ze_Row := ze_srtG (ze_lt o) L
theorem ze_insG_perm {α : Type} (lt : α → α → Bool) (r : α) : ∀ Q : List α, (ze_insG lt r Q).Perm (r :: Q)
  | [] => List.Perm.refl _
  | e :: Q => by
    by_cases h : lt r e = true
    · simp only [ze_insG, h, if_true]
      exact ((ze_insG_perm lt r Q).cons e).trans (List.Perm.swap r e Q)
    · simp only [ze_insG, h]
      exact List.Perm.refl _
theorem ze_fold_perm {α : Type} (lt : α → α → Bool) : ∀ (L Q : List α), (L.foldl (fun Q r => ze_insG lt r Q) Q).Perm (L ++ Q)
  | [], Q => List.Perm.refl _
  | a :: L, Q => by
    rw [List.foldl_cons]
    exact (ze_fold_perm lt L _).trans (((ze_insG_perm lt a Q).append_left L).trans List.perm_middle)
theorem ze_srtG_perm {α : Type} (lt : α → α → Bool) (L : List α) : (ze_srtG lt L).Perm L := by
  have h := ze_fold_perm lt L []
  rw [List.append_nil] at h
  exact (List.reverse_perm _).trans h
theorem ze_insG_map {α β : Type} {φ : α → β} {lt : β → β → Bool} (r : α) : ∀ Q : List α, (ze_insG (fun a b => lt (φ a) (φ b)) r Q).map φ = ze_insG lt (φ r) (Q.map φ)
  | [] => rfl
  | e :: Q => by
    by_cases h : lt (φ r) (φ e) = true
    · simp only [ze_insG, h, if_true, List.map_cons, ze_insG_map r Q]
    · simp only [ze_insG, h, List.map_cons]
      rfl
theorem ze_fold_map {α β : Type} {φ : α → β} {lt : β → β → Bool} : ∀ (L Q : List α), (L.foldl (fun Q r => ze_insG (fun a b => lt (φ a) (φ b)) r Q) Q).map φ = (L.map φ).foldl (fun Q r => ze_insG lt r Q) (Q.map φ)
  | [], Q => rfl
  | a :: L, Q => by
    rw [List.foldl_cons, ze_fold_map L, ze_insG_map, List.map_cons, List.foldl_cons]
theorem ze_srtG_map {α β : Type} {φ : α → β} {lt : β → β → Bool} (L : List α) : (ze_srtG (fun a b => lt (φ a) (φ b)) L).map φ = ze_srtG lt (L.map φ) := by
  unfold ze_srtG
  rw [List.map_reverse, ze_fold_map]
  rfl
/-- a before b: smaller, or not greater and of a smaller number -/
def ze_bf (lt : Nat → Nat → Bool) (a b : Nat) : Bool := lt a b || (!lt b a && decide (a < b))
theorem ze_bf_asym {lt : Nat → Nat → Bool} (as : ∀ a b, lt a b = true → lt b a = false) {a b : Nat} (h : ze_bf lt a b = true) : ze_bf lt b a = false := by
  unfold ze_bf at h ⊢
  cases h1 : lt a b with
  | true => simp [as a b h1]
  | false =>
    rw [h1] at h
    simp only [Bool.false_or, Bool.and_eq_true, Bool.not_eq_true', decide_eq_true_eq] at h
    rw [h.1]
    simp only [Bool.not_false, Bool.true_and, Bool.false_or, decide_eq_false_iff_not]
    omega
theorem ze_bf_irr {lt : Nat → Nat → Bool} (as : ∀ a b, lt a b = true → lt b a = false) {a : Nat} : ze_bf lt a a = false := by
  refine Bool.eq_false_iff.mpr (fun h => ?_)
  have := ze_bf_asym as h
  rw [h] at this
  cases this
theorem ze_bf_nlt {lt : Nat → Nat → Bool} (as : ∀ a b, lt a b = true → lt b a = false) {a b : Nat} (h : ze_bf lt a b = true) : lt b a = false := by
  unfold ze_bf at h
  cases h1 : lt a b with
  | true => exact as a b h1
  | false =>
    rw [h1] at h
    simp only [Bool.false_or, Bool.and_eq_true, Bool.not_eq_true'] at h
    exact h.1
theorem ze_insG_pw {lt : Nat → Nat → Bool} (as : ∀ a b, lt a b = true → lt b a = false) (nt : ∀ a b c, lt a b = false → lt b c = false → lt a c = false) (k : Nat) : ∀ Q : List Nat, Q.Pairwise (fun a b => ze_bf lt b a = true) → (∀ e ∈ Q, e < k) → (ze_insG lt k Q).Pairwise (fun a b => ze_bf lt b a = true)
  | [], _, _ => by simp [ze_insG]
  | e :: Q, hQ, hk => by
    obtain ⟨h1, h2⟩ := List.pairwise_cons.mp hQ
    by_cases h : lt k e = true
    · simp only [ze_insG, h, if_true]
      refine List.pairwise_cons.mpr ⟨fun z hz => ?_, ze_insG_pw as nt k Q h2 (fun z hz => hk z (List.mem_cons_of_mem _ hz))⟩
      rcases List.mem_cons.mp ((ze_insG_perm lt k Q).mem_iff.mp hz) with rfl | hz
      · simp [ze_bf, h]
      · exact h1 z hz
    · have h' : lt k e = false := Bool.eq_false_iff.mpr h
      simp only [ze_insG, h]
      refine List.pairwise_cons.mpr ⟨fun z hz => ?_, hQ⟩
      have hzk := hk z hz
      have hkz : lt k z = false := by
        rcases List.mem_cons.mp hz with rfl | hz
        · exact h'
        · exact nt k e z h' (ze_bf_nlt as (h1 z hz))
      simp [ze_bf, hkz, hzk]
theorem ze_fold_pw {lt : Nat → Nat → Bool} (as : ∀ a b, lt a b = true → lt b a = false) (nt : ∀ a b c, lt a b = false → lt b c = false → lt a c = false) : ∀ n : Nat, ((List.range n).foldl (fun Q r => ze_insG lt r Q) []).Pairwise (fun a b => ze_bf lt b a = true)
  | 0 => List.Pairwise.nil
  | n + 1 => by
    rw [List.range_succ, List.foldl_append]
    refine ze_insG_pw as nt n _ (ze_fold_pw as nt n) (fun e he => ?_)
    have h := (ze_fold_perm lt (List.range n) []).mem_iff.mp he
    rw [List.append_nil] at h
    exact List.mem_range.mp h
theorem ze_rank_at {lt : Nat → Nat → Bool} (as : ∀ a b, lt a b = true → lt b a = false) : ∀ (I : List Nat), I.Pairwise (fun a b => ze_bf lt a b = true) → ∀ (p i : Nat), I[p]? = some i → I.countP (fun j => ze_bf lt j i) = p
  | [], _, p, i, h => by simp at h
  | a :: I, hp, 0, i, h => by
    obtain ⟨h1, h2⟩ := List.pairwise_cons.mp hp
    simp only [List.getElem?_cons_zero, Option.some.injEq] at h
    subst h
    rw [List.countP_eq_zero]
    intro z hz
    rcases List.mem_cons.mp hz with rfl | hz
    · rw [ze_bf_irr as]; simp
    · rw [ze_bf_asym as (h1 z hz)]; simp
  | a :: I, hp, p + 1, i, h => by
    obtain ⟨h1, h2⟩ := List.pairwise_cons.mp hp
    rw [List.getElem?_cons_succ] at h
    rw [List.countP_cons_of_pos (p := fun j => ze_bf lt j i) (h1 i (List.mem_of_getElem? h)), ze_rank_at as I h2 p i h]
abbrev ze_li (o : Nat) (L : List ze_Row) : Nat → Nat → Bool := fun a b => ze_lt o (L.getD a (0, 0)) (L.getD b (0, 0))
theorem ze_li_as (o : Nat) (L : List ze_Row) : ∀ a b, ze_li o L a b = true → ze_li o L b a = false := fun a b h => ze_lt_asym (a := L.getD a (0, 0)) (b := L.getD b (0, 0)) h
theorem ze_li_nt (o : Nat) (L : List ze_Row) : ∀ a b c, ze_li o L a b = false → ze_li o L b c = false → ze_li o L a c = false := fun a b c h1 h2 => ze_lt_ntr (a := L.getD a (0, 0)) (b := L.getD b (0, 0)) (c := L.getD c (0, 0)) h1 h2
/-- how many rows stand before row i in the stable order -/
def ze_rk (o : Nat) (L : List ze_Row) (i : Nat) : Nat := (List.range L.length).countP (fun j => ze_bf (ze_li o L) j i)
def ze_ix (o : Nat) (L : List ze_Row) : List Nat := ze_srtG (ze_li o L) (List.range L.length)
theorem ze_ix_perm (o : Nat) (L : List ze_Row) : (ze_ix o L).Perm (List.range L.length) := ze_srtG_perm _ _
theorem ze_ix_pw (o : Nat) (L : List ze_Row) : (ze_ix o L).Pairwise (fun a b => ze_bf (ze_li o L) a b = true) := by
  have h := ze_fold_pw (lt := ze_li o L) (ze_li_as o L) (ze_li_nt o L) L.length
  unfold ze_ix ze_srtG
  rw [List.pairwise_reverse]
  exact h
theorem ze_ix_map (o : Nat) (L : List ze_Row) : ze_srt o L = (ze_ix o L).map (fun a => L.getD a (0, 0)) := by
  have h := ze_srtG_map (φ := fun a => L.getD a (0, 0)) (lt := ze_lt o) (List.range L.length)
  have hL : (List.range L.length).map (fun a => L.getD a (0, 0)) = L := by
    apply List.ext_getElem?
    intro j
    by_cases hj : j < L.length
    · simp [hj]
    · simp [hj]
  rw [hL] at h
  exact h.symm
theorem ze_rk_eq {o : Nat} {L : List ze_Row} {p i : Nat} (h : (ze_ix o L)[p]? = some i) : ze_rk o L i = p := by
  rw [ze_rk, ← (ze_ix_perm o L).countP_eq]
  exact ze_rank_at (lt := ze_li o L) (ze_li_as o L) _ (ze_ix_pw o L) p i h
theorem ze_ix_rk {o : Nat} {L : List ze_Row} {i : Nat} (hi : i < L.length) : (ze_ix o L)[ze_rk o L i]? = some i := by
  obtain ⟨p, hp⟩ := List.getElem?_of_mem ((ze_ix_perm o L).mem_iff.mpr (List.mem_range.mpr hi))
  rw [ze_rk_eq hp]
  exact hp
theorem ze_srt_perm (o : Nat) (L : List ze_Row) : (ze_srt o L).Perm L := ze_srtG_perm _ _
theorem ze_srt_len (o : Nat) (L : List ze_Row) : (ze_srt o L).length = L.length := (ze_srt_perm o L).length_eq
theorem ze_rk_lt {o : Nat} {L : List ze_Row} {i : Nat} (hi : i < L.length) : ze_rk o L i < L.length := by
  have h := (List.getElem?_eq_some_iff.mp (ze_ix_rk (o := o) hi)).1
  rw [(ze_ix_perm o L).length_eq, List.length_range] at h
  exact h
theorem ze_rk_inj {o : Nat} {L : List ze_Row} {i j : Nat} (hi : i < L.length) (hj : j < L.length) (h : ze_rk o L i = ze_rk o L j) : i = j := by
  have h1 := ze_ix_rk (o := o) hi
  have h2 := ze_ix_rk (o := o) hj
  rw [h, h2] at h1
  exact (Option.some.inj h1).symm
theorem ze_rk_sur {o : Nat} {L : List ze_Row} {p : Nat} (hp : p < L.length) : ∃ i, i < L.length ∧ ze_rk o L i = p := by
  have hl : p < (ze_ix o L).length := by rw [(ze_ix_perm o L).length_eq, List.length_range]; exact hp
  refine ⟨(ze_ix o L)[p], ?_, ze_rk_eq (List.getElem?_eq_getElem hl)⟩
  exact List.mem_range.mp ((ze_ix_perm o L).mem_iff.mp (List.getElem_mem hl))
theorem ze_srt_rk {o : Nat} {L : List ze_Row} {i : Nat} (hi : i < L.length) : (ze_srt o L)[ze_rk o L i]? = L[i]? := by
  rw [ze_ix_map, List.getElem?_map, ze_ix_rk hi]
  simp [hi]
theorem ze_srt_pw (o : Nat) (L : List ze_Row) : (ze_srt o L).Pairwise (fun a b => ze_lt o b a = false) := by
  rw [ze_ix_map, List.pairwise_map]
  exact (ze_ix_pw o L).imp (fun {a b} h => ze_bf_nlt (lt := ze_li o L) (ze_li_as o L) h)
/-- one step of the sorting: the rows behind r are greater, the row ahead of it isn't -/
theorem ze_ins_app {α : Type} {lt : α → α → Bool} {r : α} : ∀ (A B : List α), (∀ e ∈ A, lt r e = true) → ze_insG lt r (A ++ B) = A ++ ze_insG lt r B
  | [], B, _ => rfl
  | e :: A, B, h => by
    have he := h e List.mem_cons_self
    simp only [List.cons_append, ze_insG, he, if_true]
    rw [ze_ins_app A B (fun z hz => h z (List.mem_cons_of_mem _ hz))]
theorem ze_ins_split {α : Type} {lt : α → α → Bool} {r : α} {P1 P2 : List α} (h2 : ∀ e ∈ P2, lt r e = true) (h1 : ∀ e, P1.getLast? = some e → lt r e = false) : ze_insG lt r (P1 ++ P2).reverse = (P1 ++ r :: P2).reverse := by
  rw [List.reverse_append, ze_ins_app _ _ (fun e he => h2 e (List.mem_reverse.mp he))]
  have : ze_insG lt r P1.reverse = r :: P1.reverse := by
    cases hq : P1.reverse with
    | nil => rfl
    | cons e Q =>
      have hl : P1.getLast? = some e := by rw [← List.head?_reverse, hq]; rfl
      simp only [ze_insG, h1 e hl]
      rfl
  rw [this]
  simp
theorem ze_srt_snoc (o : Nat) (L : List ze_Row) (r : ze_Row) : ze_srt o (L ++ [r]) = (ze_insG (ze_lt o) r (ze_srt o L).reverse).reverse := by
  unfold ze_srt ze_srtG
  rw [List.foldl_append, List.reverse_reverse]
  rfl
/-- without repeats -/
def ze_dd (S : List ze_Row) : List ze_Row := S.foldl (fun K r => if K.getLast? = some r then K else K ++ [r]) []
theorem ze_dd_snoc (S : List ze_Row) (r : ze_Row) : ze_dd (S ++ [r]) = if (ze_dd S).getLast? = some r then ze_dd S else ze_dd S ++ [r] := by
  unfold ze_dd
  rw [List.foldl_append]
  rfl
theorem ze_dd_gen : ∀ (S K : List ze_Row), K.Pairwise (fun a b => ze_lt 2 a b = true) → (∀ a ∈ K, ∀ b ∈ S, ze_lt 2 b a = false) → S.Pairwise (fun a b => ze_lt 2 b a = false) →
    (S.foldl (fun K r => if K.getLast? = some r then K else K ++ [r]) K).Pairwise (fun a b => ze_lt 2 a b = true) ∧ ∀ r, r ∈ S.foldl (fun K r => if K.getLast? = some r then K else K ++ [r]) K ↔ r ∈ K ∨ r ∈ S
  | [], K, h1, _, _ => ⟨h1, fun r => by simp⟩
  | s :: S, K, h1, h2, h3 => by
    obtain ⟨h4, h5⟩ := List.pairwise_cons.mp h3
    rw [List.foldl_cons]
    by_cases hl : K.getLast? = some s
    · rw [if_pos hl]
      obtain ⟨g1, g2⟩ := ze_dd_gen S K h1 (fun a ha b hb => h2 a ha b (List.mem_cons_of_mem _ hb)) h5
      refine ⟨g1, fun r => ?_⟩
      rw [g2 r, List.mem_cons]
      constructor
      · rintro (h | h)
        · exact Or.inl h
        · exact Or.inr (Or.inr h)
      · rintro (h | rfl | h)
        · exact Or.inl h
        · exact Or.inl (List.mem_of_getLast? hl)
        · exact Or.inr h
    · rw [if_neg hl]
      have key : ∀ a ∈ K, ze_lt 2 a s = true := by
        intro a ha
        have hsa := h2 a ha s List.mem_cons_self
        cases hq : ze_lt 2 a s with
        | true => rfl
        | false =>
          have e := ze_lt_tri hq hsa
          subst e
          exfalso
          obtain ⟨K', z, rfl⟩ : ∃ K' z, K = K' ++ [z] := by
            rcases List.eq_nil_or_concat K with rfl | ⟨K', z, h⟩
            · cases ha
            · exact ⟨K', z, by simpa using h⟩
          rcases List.mem_append.mp ha with h | h
          · have hz := (List.pairwise_append.mp h1).2.2 a h z (List.mem_singleton.mpr rfl)
            rw [h2 z (by simp) a List.mem_cons_self] at hz
            cases hz
          · rw [List.mem_singleton.mp h] at hl
            simp at hl
      obtain ⟨g1, g2⟩ := ze_dd_gen S (K ++ [s]) (List.pairwise_append.mpr ⟨h1, List.pairwise_singleton _ _, fun a ha b hb => by rw [List.mem_singleton.mp hb]; exact key a ha⟩) (fun a ha b hb => by
        rcases List.mem_append.mp ha with h | h
        · exact h2 a h b (List.mem_cons_of_mem _ hb)
        · rw [List.mem_singleton.mp h]; exact h4 b hb) h5
      refine ⟨g1, fun r => ?_⟩
      rw [g2 r, List.mem_append, List.mem_singleton, List.mem_cons, or_assoc]
theorem ze_dd_ok {S : List ze_Row} (h : S.Pairwise (fun a b => ze_lt 2 b a = false)) : (ze_dd S).Pairwise (fun a b => ze_lt 2 a b = true) ∧ ∀ r, r ∈ ze_dd S ↔ r ∈ S := by
  obtain ⟨g1, g2⟩ := ze_dd_gen S [] List.Pairwise.nil (fun a ha => by cases ha) h
  exact ⟨g1, fun r => by rw [ze_dd, g2 r]; simp⟩
/-- two lists that rise and have the same members are one -/
theorem ze_up_uniq {A B : List ze_Row} (hA : A.Pairwise (fun a b => ze_lt 2 a b = true)) (hB : B.Pairwise (fun a b => ze_lt 2 a b = true)) (h : ∀ r, r ∈ A ↔ r ∈ B) : A = B := by
  have nd : ∀ {X : List ze_Row}, X.Pairwise (fun a b => ze_lt 2 a b = true) → X.Nodup := fun hX => hX.imp (fun {a b} h e => by
    subst e
    rw [ze_lt_irr] at h
    cases h)
  refine List.Perm.eq_of_pairwise (le := fun a b => ze_lt 2 a b = true) (fun a b _ _ h1 h2 => ?_) hA hB ((List.perm_ext_iff_of_nodup (nd hA) (nd hB)).mpr h)
  rw [ze_lt_asym h1] at h2
  cases h2
end
section
/-! PURE: the union of two bags row by row; the merge of two sorted lists -/
def ze_tm (kind a b : Nat) : Nat := if kind = 0 then max a b else if kind = 1 then min a b else if kind = 2 then a - b else a + b
def ze_pick : List ze_Row → List ze_Row → Option ze_Row
  | [], [] => none
  | [], b :: _ => some b
  | a :: _, [] => some a
  | a :: _, b :: _ => if ze_lt 2 b a = true then some b else some a
/-- how many rows at the head are r -/
def ze_rep (r : ze_Row) : List ze_Row → Nat
  | [] => 0
  | a :: A => if a = r then ze_rep r A + 1 else 0
def ze_mg (kind : Nat) : Nat → List ze_Row → List ze_Row → List ze_Row
  | 0, _, _ => []
  | k + 1, A, B => match ze_pick A B with
    | none => []
    | some r => List.replicate (ze_tm kind (ze_rep r A) (ze_rep r B)) r ++ ze_mg kind k (A.drop (ze_rep r A)) (B.drop (ze_rep r B))
def ze_un (A B : List ze_Row) : List ze_Row := ze_dd (ze_srt 2 (A ++ B))
def ze_cmb (kind : Nat) (A B : List ze_Row) : List ze_Row := (ze_un A B).flatMap (fun r => List.replicate (ze_tm kind (A.count r) (B.count r)) r)
abbrev ze_so (A : List ze_Row) : Prop := A.Pairwise (fun a b => ze_lt 2 b a = false)
abbrev ze_ri (A : List ze_Row) : Prop := A.Pairwise (fun a b => ze_lt 2 a b = true)
theorem ze_un_ri (A B : List ze_Row) : ze_ri (ze_un A B) := (ze_dd_ok (ze_srt_pw 2 _)).1
theorem ze_un_mem (A B : List ze_Row) (r : ze_Row) : r ∈ ze_un A B ↔ r ∈ A ∨ r ∈ B := by
  rw [ze_un, (ze_dd_ok (ze_srt_pw 2 _)).2 r, (ze_srt_perm 2 _).mem_iff, List.mem_append]
theorem ze_un_self (A : List ze_Row) : ze_un A A = ze_dd (ze_srt 2 A) := by
  refine ze_up_uniq (ze_un_ri A A) (ze_dd_ok (ze_srt_pw 2 _)).1 (fun r => ?_)
  rw [ze_un_mem, (ze_dd_ok (ze_srt_pw 2 _)).2 r, (ze_srt_perm 2 _).mem_iff]
  simp
theorem ze_gt_of {a x r : ze_Row} (h1 : ze_lt 2 r a = true) (h2 : ze_lt 2 x a = false) : ze_lt 2 r x = true := by
  cases h : ze_lt 2 r x with
  | true => rfl
  | false =>
    rw [ze_lt_ntr h h2] at h1
    cases h1
theorem ze_rep_ok (r : ze_Row) : ∀ A : List ze_Row, ze_so A → (∀ x ∈ A, ze_lt 2 x r = false) → (∀ x ∈ A.drop (ze_rep r A), ze_lt 2 r x = true) ∧ A.count r = ze_rep r A ∧ (∀ x, x ≠ r → A.count x = (A.drop (ze_rep r A)).count x) ∧ (∀ x, x ∈ A → x = r ∨ x ∈ A.drop (ze_rep r A)) ∧ ze_rep r A ≤ A.length
  | [], _, _ => by simp [ze_rep]
  | a :: A, hs, hr => by
    obtain ⟨h1, h2⟩ := List.pairwise_cons.mp hs
    by_cases ha : a = r
    · subst ha
      obtain ⟨g1, g2, g3, g4, g5⟩ := ze_rep_ok a A h2 (fun x hx => hr x (List.mem_cons_of_mem _ hx))
      simp only [ze_rep, if_true, List.drop_succ_cons]
      refine ⟨g1, by rw [List.count_cons_self, g2], fun x hx => by rw [List.count_cons_of_ne (Ne.symm hx), g3 x hx], fun x hx => ?_, by simp; omega⟩
      rcases List.mem_cons.mp hx with rfl | hx
      · exact Or.inl rfl
      · exact g4 x hx
    · simp only [ze_rep, ha, if_false, List.drop_zero]
      have hra : ze_lt 2 r a = true := by
        cases h : ze_lt 2 r a with
        | true => rfl
        | false => exact absurd (ze_lt_tri (hr a List.mem_cons_self) h) ha
      have hall : ∀ x ∈ a :: A, ze_lt 2 r x = true := by
        intro x hx
        rcases List.mem_cons.mp hx with rfl | hx
        · exact hra
        · exact ze_gt_of hra (h1 x hx)
      refine ⟨hall, ?_, by simp, fun x hx => Or.inr hx, Nat.zero_le _⟩
      rw [List.count_eq_zero]
      intro hx
      have := hall r hx
      rw [ze_lt_irr] at this
      cases this
theorem ze_so_drop {A : List ze_Row} (h : ze_so A) (k : Nat) : ze_so (A.drop k) := List.Pairwise.sublist (List.drop_sublist k A) h
theorem ze_pick_none {A B : List ze_Row} (h : ze_pick A B = none) : A = [] ∧ B = [] := by
  cases A <;> cases B <;> simp [ze_pick] at h ⊢
  split at h <;> cases h
theorem ze_pick_ok {A B : List ze_Row} {r : ze_Row} (hA : ze_so A) (hB : ze_so B) (h : ze_pick A B = some r) : (r ∈ A ∨ r ∈ B) ∧ (∀ x ∈ A, ze_lt 2 x r = false) ∧ (∀ x ∈ B, ze_lt 2 x r = false) := by
  have hd : ∀ {a : ze_Row} {L : List ze_Row}, ze_so (a :: L) → ∀ x ∈ a :: L, ze_lt 2 x a = false := by
    intro a L hL x hx
    rcases List.mem_cons.mp hx with rfl | hx
    · exact ze_lt_irr
    · exact (List.pairwise_cons.mp hL).1 x hx
  cases A with
  | nil =>
    cases B with
    | nil => simp [ze_pick] at h
    | cons b B =>
      simp only [ze_pick, Option.some.injEq] at h
      subst h
      exact ⟨Or.inr List.mem_cons_self, (fun x hx => absurd hx List.not_mem_nil), hd hB⟩
  | cons a A =>
    cases B with
    | nil =>
      simp only [ze_pick, Option.some.injEq] at h
      subst h
      exact ⟨Or.inl List.mem_cons_self, hd hA, (fun x hx => absurd hx List.not_mem_nil)⟩
    | cons b B =>
      by_cases hb : ze_lt 2 b a = true
      · simp only [ze_pick, hb, if_true, Option.some.injEq] at h
        subst h
        refine ⟨Or.inr List.mem_cons_self, fun x hx => ze_lt_ntr (hd hA x hx) (ze_lt_asym hb), hd hB⟩
      · simp only [ze_pick, hb] at h
        have h : a = r := by simpa using h
        subst h
        exact ⟨Or.inl List.mem_cons_self, hd hA, fun x hx => ze_lt_ntr (hd hB x hx) (Bool.eq_false_iff.mpr hb)⟩
theorem ze_mg_ok (kind : Nat) : ∀ (k : Nat) (A B D : List ze_Row), ze_so A → ze_so B → ze_ri D → (∀ r, r ∈ D ↔ r ∈ A ∨ r ∈ B) → A.length + B.length ≤ k → ze_mg kind k A B = D.flatMap (fun r => List.replicate (ze_tm kind (A.count r) (B.count r)) r)
  | 0, A, B, D, _, _, _, hm, hl => by
    have hA : A = [] := List.eq_nil_of_length_eq_zero (by omega)
    have hB : B = [] := List.eq_nil_of_length_eq_zero (by omega)
    subst hA; subst hB
    cases D with
    | nil => rfl
    | cons d D => simpa using (hm d).mp List.mem_cons_self
  | k + 1, A, B, D, hA, hB, hD, hm, hl => by
    cases hp : ze_pick A B with
    | none =>
      obtain ⟨rfl, rfl⟩ := ze_pick_none hp
      cases D with
      | nil => rfl
      | cons d D => simpa using (hm d).mp List.mem_cons_self
    | some r =>
      obtain ⟨p1, p2, p3⟩ := ze_pick_ok hA hB hp
      obtain ⟨a1, a2, a3, a4, a5⟩ := ze_rep_ok r A hA p2
      obtain ⟨b1, b2, b3, b4, b5⟩ := ze_rep_ok r B hB p3
      cases D with
      | nil => exact absurd ((hm r).mpr p1) (by simp)
      | cons d D =>
        obtain ⟨d1, d2⟩ := List.pairwise_cons.mp hD
        have hdr : d = r := by
          have hrd : ze_lt 2 d r = false := by
            rcases (hm d).mp List.mem_cons_self with h | h
            · exact p2 d h
            · exact p3 d h
          rcases List.mem_cons.mp ((hm r).mpr p1) with h | h
          · exact h.symm
          · rw [d1 r h] at hrd
            cases hrd
        subst hdr
        have ne : ∀ x ∈ D, x ≠ d := fun x hx e => by
          have := d1 x hx
          rw [e, ze_lt_irr] at this
          cases this
        have hmem : 1 ≤ ze_rep d A + ze_rep d B := by
          rw [← a2, ← b2]
          rcases p1 with h | h
          · have := List.count_pos_iff.mpr h; omega
          · have := List.count_pos_iff.mpr h; omega
        have ih := ze_mg_ok kind k (A.drop (ze_rep d A)) (B.drop (ze_rep d B)) D (ze_so_drop hA _) (ze_so_drop hB _) d2 (fun x => ?_) (by rw [List.length_drop, List.length_drop]; omega)
        · simp only [ze_mg, hp]
          rw [ih, List.flatMap_cons, a2, b2]
          congr 1
          rw [List.flatMap_def, List.flatMap_def]
          congr 1
          apply List.map_congr_left
          intro x hx
          rw [a3 x (ne x hx), b3 x (ne x hx)]
        · constructor
          · intro hx
            rcases (hm x).mp (List.mem_cons_of_mem _ hx) with h | h
            · exact Or.inl ((a4 x h).resolve_left (ne x hx))
            · exact Or.inr ((b4 x h).resolve_left (ne x hx))
          · intro h
            have hx : x ∈ d :: D := (hm x).mpr (h.imp List.mem_of_mem_drop List.mem_of_mem_drop)
            have hlt : ze_lt 2 d x = true := h.elim (a1 x) (b1 x)
            rcases List.mem_cons.mp hx with rfl | hx
            · rw [ze_lt_irr] at hlt; cases hlt
            · exact hx
/-- the merge of the sorted bags is the union row by row, each as often as the kind says -/
theorem ze_mg_cmb (kind : Nat) (A B : List ze_Row) (k : Nat) (hk : A.length + B.length ≤ k) : ze_mg kind k (ze_srt 2 A) (ze_srt 2 B) = ze_cmb kind A B := by
  rw [ze_mg_ok kind k _ _ (ze_un A B) (ze_srt_pw 2 A) (ze_srt_pw 2 B) (ze_un_ri A B) (fun r => by rw [ze_un_mem, (ze_srt_perm 2 A).mem_iff, (ze_srt_perm 2 B).mem_iff]) (by rw [ze_srt_len, ze_srt_len]; exact hk)]
  unfold ze_cmb
  congr 1
  funext r
  rw [(ze_srt_perm 2 A).count_eq, (ze_srt_perm 2 B).count_eq]
end
section
/-! PURE: groups. The keys in the order of their first rows, their sums, the rows whose keys come later than the first q keys -/
def ze_dk (L : List ze_Row) : List Int32 := L.foldl (fun K r => if r.1 ∈ K then K else K ++ [r.1]) []
def ze_sum (k : Int32) (L : List ze_Row) : Int32 := L.foldl (fun s r => if r.1 = k then s + r.2 else s) 0
def ze_grp (L : List ze_Row) : List ze_Row := (ze_dk L).map (fun k => (k, ze_sum k L))
/-- the rows that are left behind the first q keys -/
def ze_lf (L : List ze_Row) (q : Nat) : List ze_Row := L.filter (fun r => !decide (r.1 ∈ (ze_dk L).take q))
theorem ze_dk_snoc (L : List ze_Row) (r : ze_Row) : ze_dk (L ++ [r]) = if r.1 ∈ ze_dk L then ze_dk L else ze_dk L ++ [r.1] := by
  unfold ze_dk
  rw [List.foldl_append]
  rfl
theorem ze_sum_snoc (k : Int32) (L : List ze_Row) (r : ze_Row) : ze_sum k (L ++ [r]) = if r.1 = k then ze_sum k L + r.2 else ze_sum k L := by
  unfold ze_sum
  rw [List.foldl_append]
  rfl
theorem ze_snoc_ind {α : Type} {P : List α → Prop} (h0 : P []) (hs : ∀ L r, P L → P (L ++ [r])) (L : List α) : P L := by
  have : ∀ R : List α, P R.reverse := by
    intro R
    induction R with
    | nil => exact h0
    | cons a R ih =>
      rw [List.reverse_cons]
      exact hs _ a ih
  have h := this L.reverse
  rwa [List.reverse_reverse] at h
theorem ze_dk_mem (k : Int32) (L : List ze_Row) : k ∈ ze_dk L ↔ ∃ r ∈ L, r.1 = k := by
  refine ze_snoc_ind (P := fun L => k ∈ ze_dk L ↔ ∃ r ∈ L, r.1 = k) ?_ ?_ L
  · simp [ze_dk]
  · intro L r ih
    rw [ze_dk_snoc]
    by_cases h : r.1 ∈ ze_dk L
    · rw [if_pos h, ih]
      constructor
      · rintro ⟨x, hx, e⟩
        exact ⟨x, List.mem_append_left _ hx, e⟩
      · rintro ⟨x, hx, e⟩
        rcases List.mem_append.mp hx with hx | hx
        · exact ⟨x, hx, e⟩
        · rw [List.mem_singleton.mp hx] at e
          rw [← ih, ← e]
          exact h
    · rw [if_neg h, List.mem_append, ih, List.mem_singleton]
      constructor
      · rintro (⟨x, hx, e⟩ | e)
        · exact ⟨x, List.mem_append_left _ hx, e⟩
        · exact ⟨r, by simp, e.symm⟩
      · rintro ⟨x, hx, e⟩
        rcases List.mem_append.mp hx with hx | hx
        · exact Or.inl ⟨x, hx, e⟩
        · rw [List.mem_singleton.mp hx] at e
          exact Or.inr e.symm
theorem ze_dk_nodup (L : List ze_Row) : (ze_dk L).Nodup := by
  refine ze_snoc_ind (P := fun L => (ze_dk L).Nodup) ?_ ?_ L
  · simp [ze_dk]
  · intro L r ih
    rw [ze_dk_snoc]
    by_cases h : r.1 ∈ ze_dk L
    · rw [if_pos h]; exact ih
    · rw [if_neg h]
      refine List.pairwise_append.mpr ⟨ih, List.pairwise_singleton _ _, fun a ha b hb => ?_⟩
      rw [List.mem_singleton.mp hb]
      intro e
      exact h (e ▸ ha)
theorem ze_dk_len (L : List ze_Row) : (ze_dk L).length ≤ L.length := by
  refine ze_snoc_ind (P := fun L => (ze_dk L).length ≤ L.length) ?_ ?_ L
  · simp [ze_dk]
  · intro L r ih
    rw [ze_dk_snoc]
    by_cases h : r.1 ∈ ze_dk L
    · rw [if_pos h]; simp; omega
    · rw [if_neg h]; simp; omega
theorem ze_dk_filter (p : Int32 → Bool) (L : List ze_Row) : ze_dk (L.filter (fun r => p r.1)) = (ze_dk L).filter p := by
  refine ze_snoc_ind (P := fun L => ze_dk (L.filter (fun r => p r.1)) = (ze_dk L).filter p) ?_ ?_ L
  · simp [ze_dk]
  · intro L r ih
    rw [List.filter_append, ze_dk_snoc]
    by_cases hp : p r.1 = true
    · have e1 : [r].filter (fun r => p r.1) = [r] := by simp [hp]
      rw [e1, ze_dk_snoc, ih]
      by_cases h : r.1 ∈ ze_dk L
      · rw [if_pos h, if_pos (List.mem_filter.mpr ⟨h, hp⟩)]
      · rw [if_neg h, if_neg (fun q => h (List.mem_filter.mp q).1), List.filter_append]
        simp [hp]
    · have e1 : [r].filter (fun r => p r.1) = [] := by simp [hp]
      rw [e1, List.append_nil, ih]
      by_cases h : r.1 ∈ ze_dk L
      · rw [if_pos h]
      · rw [if_neg h, List.filter_append]
        simp [hp]
theorem ze_sum_filter (p : Int32 → Bool) (k : Int32) (hk : p k = true) (L : List ze_Row) : ze_sum k (L.filter (fun r => p r.1)) = ze_sum k L := by
  refine ze_snoc_ind (P := fun L => ze_sum k (L.filter (fun r => p r.1)) = ze_sum k L) ?_ ?_ L
  · rfl
  · intro L r ih
    rw [List.filter_append, ze_sum_snoc]
    by_cases hp : p r.1 = true
    · have e1 : [r].filter (fun r => p r.1) = [r] := by simp [hp]
      rw [e1, ze_sum_snoc, ih]
    · have e1 : [r].filter (fun r => p r.1) = [] := by simp [hp]
      have hne : ¬ r.1 = k := fun e => hp (e ▸ hk)
      rw [e1, List.append_nil, ih, if_neg hne]
theorem ze_sum_none (k : Int32) (L : List ze_Row) (h : k ∉ ze_dk L) : ze_sum k L = 0 := by
  revert h
  refine ze_snoc_ind (P := fun L => k ∉ ze_dk L → ze_sum k L = 0) ?_ ?_ L
  · intro _; rfl
  · intro L r ih h
    have h1 : ¬ r.1 = k := fun e => h ((ze_dk_mem k _).mpr ⟨r, by simp, e⟩)
    have h2 : k ∉ ze_dk L := fun q => by
      obtain ⟨x, hx, e⟩ := (ze_dk_mem k L).mp q
      exact h ((ze_dk_mem k _).mpr ⟨x, List.mem_append_left _ hx, e⟩)
    rw [ze_sum_snoc, if_neg h1, ih h2]
theorem ze_drop_filter {α : Type} [DecidableEq α] : ∀ (K : List α) (q : Nat), K.Nodup → K.filter (fun k => !decide (k ∈ K.take q)) = K.drop q
  | [], q, _ => by simp
  | a :: K, 0, _ => by simp
  | a :: K, q + 1, h => by
    obtain ⟨h1, h2⟩ := List.pairwise_cons.mp h
    have ih := ze_drop_filter K q h2
    rw [List.take_succ_cons, List.drop_succ_cons, List.filter_cons, ← ih]
    simp only [List.mem_cons, true_or, decide_true, Bool.not_true, Bool.false_eq_true, if_false]
    apply List.filter_congr
    intro k hk
    have : k ≠ a := fun e => h1 k hk e.symm
    simp [this]
/-- what is left behind q keys, behind the first e keys of it: what is left behind q + e keys -/
theorem ze_dk_lf (L : List ze_Row) (q : Nat) : ze_dk (ze_lf L q) = (ze_dk L).drop q := by
  unfold ze_lf
  rw [ze_dk_filter (fun k => !decide (k ∈ (ze_dk L).take q)) L]
  exact ze_drop_filter _ q (ze_dk_nodup L)
theorem ze_lf_lf (L : List ze_Row) (q e : Nat) : (ze_lf L q).filter (fun r => !decide (r.1 ∈ (ze_dk (ze_lf L q)).take e)) = ze_lf L (q + e) := by
  rw [ze_dk_lf]
  unfold ze_lf
  rw [List.filter_filter]
  apply List.filter_congr
  intro r _
  rw [List.take_add]
  simp only [List.mem_append]
  by_cases h1 : r.1 ∈ (ze_dk L).take q <;> by_cases h2 : r.1 ∈ ((ze_dk L).drop q).take e <;> simp [h1, h2]
theorem ze_sum_lf (L : List ze_Row) (q : Nat) {k : Int32} (hk : k ∈ ze_dk (ze_lf L q)) : ze_sum k (ze_lf L q) = ze_sum k L := by
  obtain ⟨r, hr, e⟩ := (ze_dk_mem _ _).mp hk
  have h := (List.mem_filter.mp hr).2
  rw [e] at h
  exact ze_sum_filter (fun k => !decide (k ∈ (ze_dk L).take q)) k h L
theorem ze_lf_nil {L : List ze_Row} {q : Nat} : ze_lf L q = [] ↔ (ze_dk L).length ≤ q := by
  constructor
  · intro h
    have h2 := ze_dk_lf L q
    rw [h] at h2
    have : ((ze_dk L).drop q).length = 0 := by rw [← h2]; rfl
    rw [List.length_drop] at this
    omega
  · intro h
    unfold ze_lf
    rw [List.filter_eq_nil_iff]
    intro r hr
    have : r.1 ∈ (ze_dk L).take q := by
      rw [List.take_of_length_le h]
      exact (ze_dk_mem _ _).mpr ⟨r, hr, rfl⟩
    simp [this]
theorem ze_lf_0 (L : List ze_Row) : ze_lf L 0 = L := by
  unfold ze_lf
  simp
end
section
/-! PURE: two columns that hold a list of rows from a place on -/
def ze_Hl (f g : Nat → Int32) (k : Nat) (L : List ze_Row) : Prop := ∀ (p : Nat) (r : ze_Row), L[p]? = some r → f (k + p) = r.1 ∧ g (k + p) = r.2
section ZEH
variable {f g f' g' : Nat → Int32} {k q : Nat} {L A B : List ze_Row} {r : ze_Row} {a b : Int32}
theorem ze_Hl_nil : ze_Hl f g k [] := fun p r h => by simp at h
theorem ze_Hl_eq (h : ze_Hl f g k L) (he : ∀ p, k ≤ p → p < k + L.length → f' p = f p ∧ g' p = g p) : ze_Hl f' g' k L := by
  intro p r hp
  have hl := (List.getElem?_eq_some_iff.mp hp).1
  obtain ⟨e1, e2⟩ := he (k + p) (by omega) (by omega)
  obtain ⟨h1, h2⟩ := h p r hp
  exact ⟨e1.trans h1, e2.trans h2⟩
theorem ze_Hl_app : ze_Hl f g k (A ++ B) ↔ ze_Hl f g k A ∧ ze_Hl f g (k + A.length) B := by
  constructor
  · intro h
    refine ⟨fun p r hp => h p r ?_, fun p r hp => ?_⟩
    · rw [List.getElem?_append_left (List.getElem?_eq_some_iff.mp hp).1]
      exact hp
    · have := h (A.length + p) r (by rw [List.getElem?_append_right (by omega), Nat.add_sub_cancel_left]; exact hp)
      rw [← Nat.add_assoc] at this
      exact this
  · rintro ⟨h1, h2⟩ p r hp
    by_cases hl : p < A.length
    · rw [List.getElem?_append_left hl] at hp
      exact h1 p r hp
    · rw [List.getElem?_append_right (by omega)] at hp
      have := h2 (p - A.length) r hp
      rw [show k + A.length + (p - A.length) = k + p by omega] at this
      exact this
theorem ze_Hl_one : ze_Hl f g k [r] ↔ f k = r.1 ∧ g k = r.2 := by
  constructor
  · intro h
    exact h 0 r rfl
  · intro h p x hp
    cases p with
    | zero =>
      simp only [List.getElem?_cons_zero, Option.some.injEq] at hp
      subst hp
      exact h
    | succ p => simp at hp
theorem ze_Hl_cons : ze_Hl f g k (r :: L) ↔ (f k = r.1 ∧ g k = r.2) ∧ ze_Hl f g (k + 1) L := by
  have h := ze_Hl_app (f := f) (g := g) (k := k) (A := [r]) (B := L)
  rw [ze_Hl_one] at h
  exact h
theorem ze_upd_ne {f : Nat → Int32} {q j : Nat} {a : Int32} (h : j ≠ q) : upd f q a j = f j := pk_un h
theorem ze_Hl_upd (h : ze_Hl f g k L) (hq : q < k ∨ k + L.length ≤ q) : ze_Hl (upd f q a) (upd g q b) k L :=
  ze_Hl_eq h (fun p h1 h2 => ⟨pk_un (by omega), pk_un (by omega)⟩)
theorem ze_Hl_updf (h : ze_Hl f g k L) (hq : q < k ∨ k + L.length ≤ q) : ze_Hl (upd f q a) g k L :=
  ze_Hl_eq h (fun p h1 h2 => ⟨pk_un (by omega), rfl⟩)
theorem ze_Hl_updg (h : ze_Hl f g k L) (hq : q < k ∨ k + L.length ≤ q) : ze_Hl f (upd g q b) k L :=
  ze_Hl_eq h (fun p h1 h2 => ⟨rfl, pk_un (by omega)⟩)
theorem ze_Hl_snoc (h : ze_Hl f g k L) : ze_Hl (upd f (k + L.length) r.1) (upd g (k + L.length) r.2) k (L ++ [r]) := by
  rw [ze_Hl_app, ze_Hl_one]
  exact ⟨ze_Hl_upd h (Or.inr (Nat.le_refl _)), pk_us, pk_us⟩
theorem ze_Hl_row (h : ze_Hl f g k L) {p : Nat} (hp : p < L.length) : L[p]? = some (f (k + p), g (k + p)) := by
  obtain ⟨h1, h2⟩ := h p L[p] (List.getElem?_eq_getElem hp)
  rw [List.getElem?_eq_getElem hp, h1, h2]
theorem ze_Hl_cpy {sp dp : Nat} (h : ze_Hl f g sp L) : ze_Hl (va_cpy f f' sp dp L.length) (va_cpy g g' sp dp L.length) dp L := by
  intro p r hp
  have hl := (List.getElem?_eq_some_iff.mp hp).1
  obtain ⟨h1, h2⟩ := h p r hp
  rw [pk_cpy_in (by omega) (by omega), pk_cpy_in (by omega) (by omega), show sp + (dp + p - dp) = sp + p by omega]
  exact ⟨h1, h2⟩
theorem ze_Hl_set {p : Nat} (h : ze_Hl f g k L) (hp : p < L.length) : ze_Hl (upd f (k + p) r.1) (upd g (k + p) r.2) k (L.set p r) := by
  intro j x hj
  by_cases e : j = p
  · subst e
    rw [List.getElem?_set_self hp] at hj
    cases hj
    exact ⟨pk_us, pk_us⟩
  · rw [List.getElem?_set_ne (Ne.symm e)] at hj
    obtain ⟨h1, h2⟩ := h j x hj
    exact ⟨(pk_un (by omega)).trans h1, (pk_un (by omega)).trans h2⟩
end ZEH
end
section
/-! THE VALUE that class and reference both keep: input, slots, transfers, frames; and what each call makes of it -/
def ze_sz (n : Nat) : Nat := (n + 3) / 4
/-- passes: from r runs, with M frames, at most k of them -/
def ze_ps (M : Nat) : Nat → Nat → Nat
  | 0, _ => 0
  | k + 1, r => if 1 < r then ze_ps M k ((r + (M - 1) - 1) / (M - 1)) + 1 else 0
def ze_sc (M n : Nat) : Nat := 2 * ze_sz n * (1 + ze_ps M 60 ((ze_sz n + M - 1) / M))
def ze_rm4 (M : Nat) : Nat := 4 * (M - 2)
/-- the cost of the rounds of group from the key q on -/
def ze_gc (e : Nat) (L : List ze_Row) : Nat → Nat → Nat
  | 0, _ => 0
  | k + 1, q => if q < (ze_dk L).length then ze_sz (ze_lf L q).length + ze_sz (ze_lf L (q + e)).length + ze_gc e L k (q + e) else 0
def ze_dg (M : Nat) (v : Int32) (lev : Nat) : Nat := (v.toInt % (((M - 1) * (M - 1) * (M - 1) : Nat) : Int)).toNat / (M - 1) ^ lev % (M - 1)
/-- the rows of A joined with those of B, A's rows outside -/
def ze_jr (A B : List ze_Row) : List ze_Row := A.flatMap (fun a => (B.filter (fun b => decide (b.1 = a.2))).map (fun b => (a.1, b.2)))
/-- B in chunks of w rows -/
def ze_jc (w : Nat) (A : List ze_Row) : Nat → List ze_Row → List ze_Row
  | 0, _ => []
  | k + 1, B => if B = [] then [] else ze_jr A (B.take w) ++ ze_jc w A k (B.drop w)
def ze_pt (M lev p : Nat) (f : ze_Row → Int32) (A : List ze_Row) : List ze_Row := A.filter (fun r => decide (ze_dg M (f r) lev = p))
/-- the join at a level, k levels above the last: rows and cost -/
def ze_jn (M : Nat) : Nat → List ze_Row → List ze_Row → List ze_Row × Nat
  | 0, A, B => if A = [] ∨ B = [] then ([], 0) else (ze_jc (ze_rm4 M) A B.length B, ze_sz B.length + (B.length + ze_rm4 M - 1) / ze_rm4 M * ze_sz A.length)
  | k + 1, A, B => if A = [] ∨ B = [] then ([], 0)
    else if B.length ≤ ze_rm4 M then (ze_jc (ze_rm4 M) A B.length B, ze_sz B.length + (B.length + ze_rm4 M - 1) / ze_rm4 M * ze_sz A.length)
    else ((List.range (M - 1)).flatMap (fun p => (ze_jn M k (ze_pt M (2 - k) p (fun r => r.2) A) (ze_pt M (2 - k) p (fun r => r.1) B)).1),
      ze_sz A.length + ze_sz B.length + ((List.range (M - 1)).map (fun p => ze_sz (ze_pt M (2 - k) p (fun r => r.2) A).length + ze_sz (ze_pt M (2 - k) p (fun r => r.1) B).length + (ze_jn M k (ze_pt M (2 - k) p (fun r => r.2) A) (ze_pt M (2 - k) p (fun r => r.1) B)).2)).sum)
/-- input, slots, moved, frames -/
abbrev ze_Sg : Type := List ze_Row × (Nat → Option (List ze_Row)) × Int64 × Nat
def ze_isS (s : Int32) : Bool := decide (0 ≤ s.toInt ∧ s.toInt < 8)
def ze_n (s : Int32) : Nat := s.toInt.toNat
def sp_put (σ : ze_Sg) (k v : Int32) : Int32 × ze_Sg := if σ.1.length = 60 then (0, σ) else (1, (σ.1 ++ [(k, v)], σ.2))
def sp_store (σ : ze_Sg) (into : Int32) : Int32 × ze_Sg :=
  if ze_isS into = false then (-1, σ) else match σ.2.1 (ze_n into) with
    | some _ => (-3, σ)
    | none => (nI σ.1.length, ([], va_up σ.2.1 (ze_n into) (some σ.1), σ.2.2.1 + lN (ze_sz σ.1.length), σ.2.2.2))
def sp_drop (σ : ze_Sg) (s : Int32) : Int32 × ze_Sg :=
  if ze_isS s = false then (-1, σ) else match σ.2.1 (ze_n s) with
    | none => (-2, σ)
    | some L => (nI L.length, (σ.1, va_up σ.2.1 (ze_n s) none, σ.2.2))
def sp_rows (σ : ze_Sg) (s : Int32) : Int32 := if ze_isS s = false then -1 else match σ.2.1 (ze_n s) with
  | none => -1
  | some L => nI L.length
def sp_at (f : ze_Row → Int32) (σ : ze_Sg) (s p : Int32) : Int32 := if ze_isS s = false then 0 else match σ.2.1 (ze_n s) with
  | none => 0
  | some L => if p.toInt < 0 then 0 else match L[p.toInt.toNat]? with
    | none => 0
    | some r => f r
def sp_fin (σ : ze_Sg) (j : Nat) (q : List ze_Row × Nat) : Int32 × ze_Sg := if 60 < q.1.length then (-4, σ) else (nI q.1.length, (σ.1, va_up σ.2.1 j (some q.1), σ.2.2.1 + lN q.2, σ.2.2.2))
def sp_op (σ : ze_Sg) (ok : Bool) (a b into : Int32) (f : List ze_Row → List ze_Row → List ze_Row × Nat) : Int32 × ze_Sg :=
  if (ok && ze_isS a && ze_isS b && ze_isS into) = false then (-1, σ) else match σ.2.1 (ze_n a), σ.2.1 (ze_n b) with
    | some A, some B => match σ.2.1 (ze_n into) with
      | some _ => (-3, σ)
      | none => sp_fin σ (ze_n into) (f A B)
    | _, _ => (-2, σ)
def sp_sort (σ : ze_Sg) (from_ order into : Int32) : Int32 × ze_Sg := sp_op σ (decide (0 ≤ order.toInt ∧ order.toInt ≤ 2)) from_ from_ into (fun A _ => (ze_srt (ze_n order) A, ze_sc σ.2.2.2 A.length))
def ze_sel (low high : Int32) (A : List ze_Row) : List ze_Row := A.filter (fun r => decide (low ≤ r.1 ∧ r.1 ≤ high))
def sp_select (σ : ze_Sg) (from_ low high into : Int32) : Int32 × ze_Sg := sp_op σ true from_ from_ into (fun A _ => (ze_sel low high A, ze_sz A.length + ze_sz (ze_sel low high A).length))
def sp_distinct (σ : ze_Sg) (from_ into : Int32) : Int32 × ze_Sg := sp_op σ true from_ from_ into (fun A _ => (ze_un A A, ze_sc σ.2.2.2 A.length + ze_sz A.length + ze_sz (ze_un A A).length))
def sp_group (σ : ze_Sg) (from_ into : Int32) : Int32 × ze_Sg := sp_op σ true from_ from_ into (fun A _ => (ze_grp A, ze_gc (ze_rm4 σ.2.2.2) A 60 0 + ze_sz (ze_grp A).length))
def sp_combine (σ : ze_Sg) (kind a b into : Int32) : Int32 × ze_Sg := sp_op σ (decide (0 ≤ kind.toInt ∧ kind.toInt ≤ 3)) a b into (fun A B => (ze_cmb (ze_n kind) A B, ze_sc σ.2.2.2 A.length + ze_sc σ.2.2.2 B.length + ze_sz A.length + ze_sz B.length + ze_sz (ze_cmb (ze_n kind) A B).length))
def sp_join (σ : ze_Sg) (a b into : Int32) : Int32 × ze_Sg := sp_op σ true a b into (fun A B => ((ze_jn σ.2.2.2 3 A B).1, (ze_jn σ.2.2.2 3 A B).2 + ze_sz (ze_jn σ.2.2.2 3 A B).1.length))
def sp_blocks (σ : ze_Sg) : Nat := ((List.range 8).map (fun j => match σ.2.1 j with
  | none => 0
  | some L => ze_sz L.length)).sum
/-- a table holds the rows L -/
def ze_H (t : ze_T) (L : List ze_Row) : Prop := t.2.2.1 = L.length ∧ L.length ≤ 60 ∧ ze_Hl t.1 t.2.1 0 L
/-- a table that was made of the rows L, of which it has room for 60 -/
def ze_Hu (t : ze_T) (L : List ze_Row) : Prop := t.2.2.1 = min L.length 60 ∧ t.2.2.2 = decide (60 < L.length) ∧ ze_Hl t.1 t.2.1 0 (L.take 60)
theorem ze_H_row {t : ze_T} {L : List ze_Row} {i : Nat} (h : ze_H t L) (hi : i < L.length) : L[i]? = some (t.1 i, t.2.1 i) := by
  have := ze_Hl_row h.2.2 hi
  rwa [Nat.zero_add] at this
theorem ze_Hu_H {t : ze_T} {L : List ze_Row} (h : ze_Hu t L) (hl : ¬ 60 < L.length) : ze_H t L := by
  obtain ⟨h1, h2, h3⟩ := h
  rw [List.take_of_length_le (by omega)] at h3
  exact ⟨by rw [h1]; omega, by omega, h3⟩
theorem ze_Hu_0 {f g : Nat → Int32} : ze_Hu (f, g, 0, false) [] := ⟨rfl, rfl, ze_Hl_nil⟩
/-- one more row -/
theorem ze_Hu_snoc {f g : Nat → Int32} {c : Nat} {o : Bool} {L : List ze_Row} {r : ze_Row} (h : ze_Hu (f, g, c, o) L) : ze_Hu (if c < 60 then (upd f c r.1, upd g c r.2, c + 1, o) else (f, g, c, true)) (L ++ [r]) := by
  obtain ⟨h1, h2, h3⟩ := h
  simp only at h1 h2 h3
  by_cases hc : c < 60
  · have hL : L.length = c := by omega
    rw [if_pos hc]
    refine ⟨by simp; omega, by rw [h2]; simp; omega, ?_⟩
    rw [List.take_of_length_le (by omega)] at h3
    rw [List.take_of_length_le (by simp; omega)]
    have := ze_Hl_snoc (r := r) h3
    rw [Nat.zero_add, hL] at this
    exact this
  · rw [if_neg hc]
    refine ⟨by simp; omega, by simp; omega, ?_⟩
    simp only
    rw [List.take_append_of_le_length (by omega)]
    exact h3
/-- the class's state x has the value σ -/
def ze_rX (x : ze_XS) (σ : ze_Sg) : Prop := x.1 = σ.2.2.2 ∧ 3 ≤ σ.2.2.2 ∧ σ.2.2.2 ≤ 6 ∧ x.2.2.2 = σ.2.2.1 ∧ ze_H (x.2.1 8) σ.1 ∧ (∀ j, j < 8 → σ.2.1 j = none → x.2.2.1 j = false) ∧ (∀ j, j < 8 → ∀ L, σ.2.1 j = some L → x.2.2.1 j = true ∧ ze_H (x.2.1 j) L)
end
section
/-! PURE: what the reference's searches find -/
theorem ze_nxt_some {A B D1 D2 : List ze_Row} {r : ze_Row} (hD : ze_un A B = D1 ++ D2) (hr : r ∈ A ∨ r ∈ B) (hgt : ∀ z, D1.getLast? = some z → ze_lt 2 z r = true) (hmin : ∀ x, (x ∈ A ∨ x ∈ B) → (∀ z, D1.getLast? = some z → ze_lt 2 z x = true) → ze_lt 2 x r = false) : ∃ D3, D2 = r :: D3 := by
  have hri := ze_un_ri A B
  rw [hD] at hri
  obtain ⟨r1, r2, r3⟩ := List.pairwise_append.mp hri
  have hrD : r ∈ D1 ++ D2 := by rw [← hD]; exact (ze_un_mem A B r).mpr hr
  have hr2 : r ∈ D2 := by
    rcases List.mem_append.mp hrD with h | h
    · exfalso
      rcases List.eq_nil_or_concat D1 with e | ⟨K, z, e⟩
      · rw [e] at h; cases h
      · have hz : D1.getLast? = some z := by rw [e]; simp
        have h1 := hgt z hz
        rw [e] at h r1
        simp only [List.concat_eq_append] at h r1
        rcases List.mem_append.mp h with h | h
        · have h2 := (List.pairwise_append.mp r1).2.2 r h z (by simp)
          rw [ze_lt_asym h1] at h2
          cases h2
        · rw [List.mem_singleton.mp h, ze_lt_irr] at h1
          cases h1
    · exact h
  cases D2 with
  | nil => cases hr2
  | cons d D3 =>
    refine ⟨D3, ?_⟩
    have hd : d ∈ A ∨ d ∈ B := (ze_un_mem A B d).mp (by rw [hD]; simp)
    have h1 := hmin d hd (fun z hz => r3 z (List.mem_of_getLast? hz) d List.mem_cons_self)
    rcases List.mem_cons.mp hr2 with e | h
    · rw [e]
    · rw [(List.pairwise_cons.mp r2).1 r h] at h1
      cases h1
theorem ze_nxt_none {A B D1 D2 : List ze_Row} (hD : ze_un A B = D1 ++ D2) (hn : ∀ x, (x ∈ A ∨ x ∈ B) → ∃ z, D1.getLast? = some z ∧ ze_lt 2 z x = false) : D2 = [] := by
  cases D2 with
  | nil => rfl
  | cons d D3 =>
    exfalso
    have hri := ze_un_ri A B
    rw [hD] at hri
    obtain ⟨r1, r2, r3⟩ := List.pairwise_append.mp hri
    obtain ⟨z, hz, h⟩ := hn d ((ze_un_mem A B d).mp (by rw [hD]; simp))
    rw [r3 z (List.mem_of_getLast? hz) d List.mem_cons_self] at h
    cases h
theorem ze_dk_app (P : List ze_Row) : ∀ Q : List ze_Row, ∃ K, ze_dk (P ++ Q) = ze_dk P ++ K := by
  intro Q
  refine ze_snoc_ind (P := fun Q => ∃ K, ze_dk (P ++ Q) = ze_dk P ++ K) ⟨[], by simp⟩ ?_ Q
  rintro Q r ⟨K, h⟩
  rw [← List.append_assoc, ze_dk_snoc, h]
  by_cases hr : r.1 ∈ ze_dk P ++ K
  · exact ⟨K, by rw [if_pos hr]⟩
  · exact ⟨K ++ [r.1], by rw [if_neg hr, List.append_assoc]⟩
/-- the first row of its key: its rank is the number of keys ahead of it -/
theorem ze_rank_first {L : List ze_Row} {i : Nat} {r : ze_Row} (hi : L[i]? = some r) (hf : r.1 ∉ ze_dk (L.take i)) : (ze_dk L)[(ze_dk (L.take i)).length]? = some r.1 := by
  have hlt := (List.getElem?_eq_some_iff.mp hi).1
  have e1 : L.take (i + 1) = L.take i ++ [r] := by
    rw [List.take_succ, hi]
    rfl
  obtain ⟨K, hK⟩ := ze_dk_app (L.take (i + 1)) (L.drop (i + 1))
  rw [List.take_append_drop, e1, ze_dk_snoc, if_neg hf] at hK
  rw [hK, List.append_assoc, List.getElem?_append_right (Nat.le_refl _)]
  simp
theorem ze_rank_lt {L : List ze_Row} {i ρ : Nat} {k : Int32} (hk : k ∈ ze_dk (L.take i)) (hρ : (ze_dk L)[ρ]? = some k) : ρ < (ze_dk (L.take i)).length := by
  obtain ⟨K, hK⟩ := ze_dk_app (L.take i) (L.drop i)
  rw [List.take_append_drop] at hK
  obtain ⟨p, hp⟩ := List.getElem?_of_mem hk
  have hpl := (List.getElem?_eq_some_iff.mp hp).1
  have h2 : (ze_dk L)[p]? = some k := by rw [hK, List.getElem?_append_left hpl]; exact hp
  have hnd := ze_dk_nodup L
  obtain ⟨l1, g1⟩ := List.getElem?_eq_some_iff.mp hρ
  obtain ⟨l2, g2⟩ := List.getElem?_eq_some_iff.mp h2
  have : ρ = p := (List.getElem_inj hnd).mp (g1.trans g2.symm)
  omega
theorem ze_rank_take {L : List ze_Row} {ρ q : Nat} {k : Int32} (hρ : (ze_dk L)[ρ]? = some k) : k ∈ (ze_dk L).take q ↔ ρ < q := by
  obtain ⟨l1, g1⟩ := List.getElem?_eq_some_iff.mp hρ
  constructor
  · intro h
    obtain ⟨p, hp⟩ := List.getElem?_of_mem h
    obtain ⟨l2, g2⟩ := List.getElem?_eq_some_iff.mp hp
    rw [List.length_take] at l2
    rw [List.getElem_take] at g2
    have : ρ = p := (List.getElem_inj (ze_dk_nodup L)).mp (g1.trans g2.symm)
    omega
  · intro h
    refine List.mem_of_getElem? (i := ρ) ?_
    rw [List.getElem?_take_of_lt h]
    exact hρ
theorem ze_sum_app (k : Int32) (P : List ze_Row) : ∀ Q : List ze_Row, k ∉ ze_dk P → ze_sum k (P ++ Q) = ze_sum k Q := by
  intro Q h
  refine ze_snoc_ind (P := fun Q => ze_sum k (P ++ Q) = ze_sum k Q) (by rw [List.append_nil, ze_sum_none k P h]; rfl) ?_ Q
  intro Q r ih
  rw [← List.append_assoc, ze_sum_snoc, ze_sum_snoc, ih]
end
