section
-- ===== PART A: goes FIRST, ahead of the names: the tables' words, and 'selects' of the private methods out of them =====
/-- a private method of a class that the tables say can be made, by its rows of tables_1 -/
def lw_okq (q : MethodName × Nat) : Prop := (q.1.cls ≠ "java/lang/invoke/MethodHandle" ∧ q.1.cls ≠ "java/lang/invoke/VarHandle") ∧ Cond.instantiable q.1.cls q.2 ∈ tables_1 ∧ Cond.privateMethod q.1 ∈ tables_1 ∧ Cond.instanceMethod q.1 ∈ tables_1
theorem lw_p0 : lw_okq (⟨"PeirceDesk$State", "clear", "(II)V"⟩, 3) := ⟨⟨by decide +kernel, by decide +kernel⟩, List.mem_of_getElem? (i := 27) (by decide +kernel), List.mem_of_getElem? (i := 35) (by decide +kernel), List.mem_of_getElem? (i := 36) (by decide +kernel)⟩
theorem lw_p1 : lw_okq (⟨"PeirceDesk$State", "writeIdentity", "([I)V"⟩, 3) := ⟨⟨by decide +kernel, by decide +kernel⟩, List.mem_of_getElem? (i := 27) (by decide +kernel), List.mem_of_getElem? (i := 39) (by decide +kernel), List.mem_of_getElem? (i := 40) (by decide +kernel)⟩
theorem lw_p2 : lw_okq (⟨"PeirceDesk$History", "remember", "(LPeirceDesk$State;)V"⟩, 3) := ⟨⟨by decide +kernel, by decide +kernel⟩, List.mem_of_getElem? (i := 208) (by decide +kernel), List.mem_of_getElem? (i := 254) (by decide +kernel), List.mem_of_getElem? (i := 255) (by decide +kernel)⟩
theorem lw_p3 : lw_okq (⟨"PeirceDesk$State", "copyFrom", "(LPeirceDesk$State;)V"⟩, 3) := ⟨⟨by decide +kernel, by decide +kernel⟩, List.mem_of_getElem? (i := 27) (by decide +kernel), List.mem_of_getElem? (i := 258) (by decide +kernel), List.mem_of_getElem? (i := 259) (by decide +kernel)⟩
theorem lw_p4 : lw_okq (⟨"PeirceDesk", "isPlace", "(II)Z"⟩, 6) := ⟨⟨by decide +kernel, by decide +kernel⟩, List.mem_of_getElem? (i := 13) (by decide +kernel), List.mem_of_getElem? (i := 279) (by decide +kernel), List.mem_of_getElem? (i := 280) (by decide +kernel)⟩
theorem lw_p5 : lw_okq (⟨"PeirceDesk$Algebra", "determinant", "([I)I"⟩, 11) := ⟨⟨by decide +kernel, by decide +kernel⟩, List.mem_of_getElem? (i := 21) (by decide +kernel), List.mem_of_getElem? (i := 287) (by decide +kernel), List.mem_of_getElem? (i := 288) (by decide +kernel)⟩
theorem lw_p6 : lw_okq (⟨"PeirceDesk$Rows", "load", "([ILPeirceDesk$State;)V"⟩, 3) := ⟨⟨by decide +kernel, by decide +kernel⟩, List.mem_of_getElem? (i := 64) (by decide +kernel), List.mem_of_getElem? (i := 291) (by decide +kernel), List.mem_of_getElem? (i := 292) (by decide +kernel)⟩
theorem lw_p7 : lw_okq (⟨"PeirceDesk$Rows", "clearRow", "(I)V"⟩, 3) := ⟨⟨by decide +kernel, by decide +kernel⟩, List.mem_of_getElem? (i := 64) (by decide +kernel), List.mem_of_getElem? (i := 295) (by decide +kernel), List.mem_of_getElem? (i := 296) (by decide +kernel)⟩
theorem lw_p8 : lw_okq (⟨"PeirceDesk$Rows", "reduce", "(I)I"⟩, 3) := ⟨⟨by decide +kernel, by decide +kernel⟩, List.mem_of_getElem? (i := 64) (by decide +kernel), List.mem_of_getElem? (i := 299) (by decide +kernel), List.mem_of_getElem? (i := 300) (by decide +kernel)⟩
theorem lw_p9 : lw_okq (⟨"PeirceDesk$Rows", "pivotRow", "(II)I"⟩, 3) := ⟨⟨by decide +kernel, by decide +kernel⟩, List.mem_of_getElem? (i := 64) (by decide +kernel), List.mem_of_getElem? (i := 303) (by decide +kernel), List.mem_of_getElem? (i := 304) (by decide +kernel)⟩
theorem lw_p10 : lw_okq (⟨"PeirceDesk$Rows", "exchange", "(II)V"⟩, 3) := ⟨⟨by decide +kernel, by decide +kernel⟩, List.mem_of_getElem? (i := 64) (by decide +kernel), List.mem_of_getElem? (i := 307) (by decide +kernel), List.mem_of_getElem? (i := 308) (by decide +kernel)⟩
theorem lw_p11 : lw_okq (⟨"PeirceDesk$Rows", "makePivotOne", "(II)V"⟩, 3) := ⟨⟨by decide +kernel, by decide +kernel⟩, List.mem_of_getElem? (i := 64) (by decide +kernel), List.mem_of_getElem? (i := 311) (by decide +kernel), List.mem_of_getElem? (i := 312) (by decide +kernel)⟩
theorem lw_p12 : lw_okq (⟨"PeirceDesk$Rows", "clearColumn", "(II)V"⟩, 3) := ⟨⟨by decide +kernel, by decide +kernel⟩, List.mem_of_getElem? (i := 64) (by decide +kernel), List.mem_of_getElem? (i := 318) (by decide +kernel), List.mem_of_getElem? (i := 319) (by decide +kernel)⟩
theorem lw_p13 : lw_okq (⟨"PeirceDesk$Algebra", "takeIdentityAsBase", "()V"⟩, 11) := ⟨⟨by decide +kernel, by decide +kernel⟩, List.mem_of_getElem? (i := 21) (by decide +kernel), List.mem_of_getElem? (i := 323) (by decide +kernel), List.mem_of_getElem? (i := 324) (by decide +kernel)⟩
theorem lw_p14 : lw_okq (⟨"PeirceDesk$Algebra", "unit", "()[I"⟩, 11) := ⟨⟨by decide +kernel, by decide +kernel⟩, List.mem_of_getElem? (i := 21) (by decide +kernel), List.mem_of_getElem? (i := 328) (by decide +kernel), List.mem_of_getElem? (i := 329) (by decide +kernel)⟩
theorem lw_p15 : lw_okq (⟨"PeirceDesk$Algebra", "takeAsBase", "([I)V"⟩, 11) := ⟨⟨by decide +kernel, by decide +kernel⟩, List.mem_of_getElem? (i := 21) (by decide +kernel), List.mem_of_getElem? (i := 332) (by decide +kernel), List.mem_of_getElem? (i := 333) (by decide +kernel)⟩
def lw_privs_1 : List (MethodName × Nat) := [(⟨"PeirceDesk$State", "clear", "(II)V"⟩, 3), (⟨"PeirceDesk$State", "writeIdentity", "([I)V"⟩, 3), (⟨"PeirceDesk$History", "remember", "(LPeirceDesk$State;)V"⟩, 3), (⟨"PeirceDesk$State", "copyFrom", "(LPeirceDesk$State;)V"⟩, 3), (⟨"PeirceDesk", "isPlace", "(II)Z"⟩, 6), (⟨"PeirceDesk$Algebra", "determinant", "([I)I"⟩, 11), (⟨"PeirceDesk$Rows", "load", "([ILPeirceDesk$State;)V"⟩, 3), (⟨"PeirceDesk$Rows", "clearRow", "(I)V"⟩, 3), (⟨"PeirceDesk$Rows", "reduce", "(I)I"⟩, 3), (⟨"PeirceDesk$Rows", "pivotRow", "(II)I"⟩, 3), (⟨"PeirceDesk$Rows", "exchange", "(II)V"⟩, 3), (⟨"PeirceDesk$Rows", "makePivotOne", "(II)V"⟩, 3), (⟨"PeirceDesk$Rows", "clearColumn", "(II)V"⟩, 3), (⟨"PeirceDesk$Algebra", "takeIdentityAsBase", "()V"⟩, 11), (⟨"PeirceDesk$Algebra", "unit", "()[I"⟩, 11), (⟨"PeirceDesk$Algebra", "takeAsBase", "([I)V"⟩, 11)]
theorem lw_r1 : ∀ q ∈ lw_privs_1, lw_okq q := List.forall_mem_cons.mpr ⟨lw_p0, List.forall_mem_cons.mpr ⟨lw_p1, List.forall_mem_cons.mpr ⟨lw_p2, List.forall_mem_cons.mpr ⟨lw_p3, List.forall_mem_cons.mpr ⟨lw_p4, List.forall_mem_cons.mpr ⟨lw_p5, List.forall_mem_cons.mpr ⟨lw_p6, List.forall_mem_cons.mpr ⟨lw_p7, List.forall_mem_cons.mpr ⟨lw_p8, List.forall_mem_cons.mpr ⟨lw_p9, List.forall_mem_cons.mpr ⟨lw_p10, List.forall_mem_cons.mpr ⟨lw_p11, List.forall_mem_cons.mpr ⟨lw_p12, List.forall_mem_cons.mpr ⟨lw_p13, List.forall_mem_cons.mpr ⟨lw_p14, List.forall_mem_cons.mpr ⟨lw_p15, fun _ h => absurd h List.not_mem_nil⟩⟩⟩⟩⟩⟩⟩⟩⟩⟩⟩⟩⟩⟩⟩⟩
theorem lw_p16 : lw_okq (⟨"PeirceDesk$Algebra", "readInverse", "([I)V"⟩, 11) := ⟨⟨by decide +kernel, by decide +kernel⟩, List.mem_of_getElem? (i := 21) (by decide +kernel), List.mem_of_getElem? (i := 337) (by decide +kernel), List.mem_of_getElem? (i := 338) (by decide +kernel)⟩
theorem lw_p17 : lw_okq (⟨"PeirceDesk$Algebra", "isOwnSquare", "([I)Z"⟩, 11) := ⟨⟨by decide +kernel, by decide +kernel⟩, List.mem_of_getElem? (i := 21) (by decide +kernel), List.mem_of_getElem? (i := 346) (by decide +kernel), List.mem_of_getElem? (i := 347) (by decide +kernel)⟩
theorem lw_p18 : lw_okq (⟨"PeirceDesk$Algebra", "product", "([I[I[I)V"⟩, 11) := ⟨⟨by decide +kernel, by decide +kernel⟩, List.mem_of_getElem? (i := 21) (by decide +kernel), List.mem_of_getElem? (i := 350) (by decide +kernel), List.mem_of_getElem? (i := 351) (by decide +kernel)⟩
theorem lw_p19 : lw_okq (⟨"PeirceDesk$Algebra", "multiply", "([I[I[I)V"⟩, 11) := ⟨⟨by decide +kernel, by decide +kernel⟩, List.mem_of_getElem? (i := 21) (by decide +kernel), List.mem_of_getElem? (i := 354) (by decide +kernel), List.mem_of_getElem? (i := 355) (by decide +kernel)⟩
theorem lw_p20 : lw_okq (⟨"PeirceDesk$Algebra", "writeSymmetric", "([I[I)V"⟩, 11) := ⟨⟨by decide +kernel, by decide +kernel⟩, List.mem_of_getElem? (i := 21) (by decide +kernel), List.mem_of_getElem? (i := 358) (by decide +kernel), List.mem_of_getElem? (i := 359) (by decide +kernel)⟩
theorem lw_p21 : lw_okq (⟨"PeirceDesk$Algebra", "findParts", "([I[I)V"⟩, 11) := ⟨⟨by decide +kernel, by decide +kernel⟩, List.mem_of_getElem? (i := 21) (by decide +kernel), List.mem_of_getElem? (i := 365) (by decide +kernel), List.mem_of_getElem? (i := 366) (by decide +kernel)⟩
theorem lw_p22 : lw_okq (⟨"PeirceDesk$Algebra", "operator", "([I[I[I)V"⟩, 11) := ⟨⟨by decide +kernel, by decide +kernel⟩, List.mem_of_getElem? (i := 21) (by decide +kernel), List.mem_of_getElem? (i := 369) (by decide +kernel), List.mem_of_getElem? (i := 370) (by decide +kernel)⟩
theorem lw_p23 : lw_okq (⟨"PeirceDesk$Algebra", "triple", "([I[I[I[I)V"⟩, 11) := ⟨⟨by decide +kernel, by decide +kernel⟩, List.mem_of_getElem? (i := 21) (by decide +kernel), List.mem_of_getElem? (i := 373) (by decide +kernel), List.mem_of_getElem? (i := 374) (by decide +kernel)⟩
theorem lw_p24 : lw_okq (⟨"PeirceDesk$Pad", "findFault", "()I"⟩, 7) := ⟨⟨by decide +kernel, by decide +kernel⟩, List.mem_of_getElem? (i := 123) (by decide +kernel), List.mem_of_getElem? (i := 385) (by decide +kernel), List.mem_of_getElem? (i := 386) (by decide +kernel)⟩
theorem lw_p25 : lw_okq (⟨"PeirceDesk$Pad", "takes", "(CI)Z"⟩, 7) := ⟨⟨by decide +kernel, by decide +kernel⟩, List.mem_of_getElem? (i := 123) (by decide +kernel), List.mem_of_getElem? (i := 389) (by decide +kernel), List.mem_of_getElem? (i := 390) (by decide +kernel)⟩
theorem lw_p26 : lw_okq (⟨"PeirceDesk$Pad", "takesDigit", "(C)Z"⟩, 7) := ⟨⟨by decide +kernel, by decide +kernel⟩, List.mem_of_getElem? (i := 123) (by decide +kernel), List.mem_of_getElem? (i := 393) (by decide +kernel), List.mem_of_getElem? (i := 394) (by decide +kernel)⟩
theorem lw_p27 : lw_okq (⟨"PeirceDesk$Pad", "takesFactor", "(C)Z"⟩, 7) := ⟨⟨by decide +kernel, by decide +kernel⟩, List.mem_of_getElem? (i := 123) (by decide +kernel), List.mem_of_getElem? (i := 397) (by decide +kernel), List.mem_of_getElem? (i := 398) (by decide +kernel)⟩
theorem lw_p28 : lw_okq (⟨"PeirceDesk$Pad", "takesBracket", "()Z"⟩, 7) := ⟨⟨by decide +kernel, by decide +kernel⟩, List.mem_of_getElem? (i := 123) (by decide +kernel), List.mem_of_getElem? (i := 404) (by decide +kernel), List.mem_of_getElem? (i := 405) (by decide +kernel)⟩
theorem lw_p29 : lw_okq (⟨"PeirceDesk$Pad", "takesInside", "(C)Z"⟩, 7) := ⟨⟨by decide +kernel, by decide +kernel⟩, List.mem_of_getElem? (i := 123) (by decide +kernel), List.mem_of_getElem? (i := 408) (by decide +kernel), List.mem_of_getElem? (i := 409) (by decide +kernel)⟩
theorem lw_p30 : lw_okq (⟨"PeirceDesk$Pad", "takesSign", "(C)Z"⟩, 7) := ⟨⟨by decide +kernel, by decide +kernel⟩, List.mem_of_getElem? (i := 123) (by decide +kernel), List.mem_of_getElem? (i := 412) (by decide +kernel), List.mem_of_getElem? (i := 413) (by decide +kernel)⟩
theorem lw_p31 : lw_okq (⟨"PeirceDesk$Pad", "takesOutside", "(CI)Z"⟩, 7) := ⟨⟨by decide +kernel, by decide +kernel⟩, List.mem_of_getElem? (i := 123) (by decide +kernel), List.mem_of_getElem? (i := 416) (by decide +kernel), List.mem_of_getElem? (i := 417) (by decide +kernel)⟩
def lw_privs_2 : List (MethodName × Nat) := [(⟨"PeirceDesk$Algebra", "readInverse", "([I)V"⟩, 11), (⟨"PeirceDesk$Algebra", "isOwnSquare", "([I)Z"⟩, 11), (⟨"PeirceDesk$Algebra", "product", "([I[I[I)V"⟩, 11), (⟨"PeirceDesk$Algebra", "multiply", "([I[I[I)V"⟩, 11), (⟨"PeirceDesk$Algebra", "writeSymmetric", "([I[I)V"⟩, 11), (⟨"PeirceDesk$Algebra", "findParts", "([I[I)V"⟩, 11), (⟨"PeirceDesk$Algebra", "operator", "([I[I[I)V"⟩, 11), (⟨"PeirceDesk$Algebra", "triple", "([I[I[I[I)V"⟩, 11), (⟨"PeirceDesk$Pad", "findFault", "()I"⟩, 7), (⟨"PeirceDesk$Pad", "takes", "(CI)Z"⟩, 7), (⟨"PeirceDesk$Pad", "takesDigit", "(C)Z"⟩, 7), (⟨"PeirceDesk$Pad", "takesFactor", "(C)Z"⟩, 7), (⟨"PeirceDesk$Pad", "takesBracket", "()Z"⟩, 7), (⟨"PeirceDesk$Pad", "takesInside", "(C)Z"⟩, 7), (⟨"PeirceDesk$Pad", "takesSign", "(C)Z"⟩, 7), (⟨"PeirceDesk$Pad", "takesOutside", "(CI)Z"⟩, 7)]
theorem lw_r2 : ∀ q ∈ lw_privs_2, lw_okq q := List.forall_mem_cons.mpr ⟨lw_p16, List.forall_mem_cons.mpr ⟨lw_p17, List.forall_mem_cons.mpr ⟨lw_p18, List.forall_mem_cons.mpr ⟨lw_p19, List.forall_mem_cons.mpr ⟨lw_p20, List.forall_mem_cons.mpr ⟨lw_p21, List.forall_mem_cons.mpr ⟨lw_p22, List.forall_mem_cons.mpr ⟨lw_p23, List.forall_mem_cons.mpr ⟨lw_p24, List.forall_mem_cons.mpr ⟨lw_p25, List.forall_mem_cons.mpr ⟨lw_p26, List.forall_mem_cons.mpr ⟨lw_p27, List.forall_mem_cons.mpr ⟨lw_p28, List.forall_mem_cons.mpr ⟨lw_p29, List.forall_mem_cons.mpr ⟨lw_p30, List.forall_mem_cons.mpr ⟨lw_p31, fun _ h => absurd h List.not_mem_nil⟩⟩⟩⟩⟩⟩⟩⟩⟩⟩⟩⟩⟩⟩⟩⟩
theorem lw_p32 : lw_okq (⟨"PeirceDesk$Pad", "target", "()I"⟩, 7) := ⟨⟨by decide +kernel, by decide +kernel⟩, List.mem_of_getElem? (i := 123) (by decide +kernel), List.mem_of_getElem? (i := 420) (by decide +kernel), List.mem_of_getElem? (i := 421) (by decide +kernel)⟩
theorem lw_p33 : lw_okq (⟨"PeirceDesk$Reckoner", "carryOut", "(LPeirceDesk$Pad;LPeirceDesk$Algebra;)I"⟩, 3) := ⟨⟨by decide +kernel, by decide +kernel⟩, List.mem_of_getElem? (i := 155) (by decide +kernel), List.mem_of_getElem? (i := 424) (by decide +kernel), List.mem_of_getElem? (i := 425) (by decide +kernel)⟩
theorem lw_p34 : lw_okq (⟨"PeirceDesk$Frame", "open", "(CI)V"⟩, 8) := ⟨⟨by decide +kernel, by decide +kernel⟩, List.mem_of_getElem? (i := 162) (by decide +kernel), List.mem_of_getElem? (i := 428) (by decide +kernel), List.mem_of_getElem? (i := 429) (by decide +kernel)⟩
theorem lw_p35 : lw_okq (⟨"PeirceDesk$Frame", "startSum", "()V"⟩, 8) := ⟨⟨by decide +kernel, by decide +kernel⟩, List.mem_of_getElem? (i := 162) (by decide +kernel), List.mem_of_getElem? (i := 432) (by decide +kernel), List.mem_of_getElem? (i := 433) (by decide +kernel)⟩
theorem lw_p36 : lw_okq (⟨"PeirceDesk$Reckoner", "openBracket", "(CI)V"⟩, 3) := ⟨⟨by decide +kernel, by decide +kernel⟩, List.mem_of_getElem? (i := 155) (by decide +kernel), List.mem_of_getElem? (i := 437) (by decide +kernel), List.mem_of_getElem? (i := 438) (by decide +kernel)⟩
theorem lw_p37 : lw_okq (⟨"PeirceDesk$Frame", "finish", "(LPeirceDesk$Algebra;)Z"⟩, 8) := ⟨⟨by decide +kernel, by decide +kernel⟩, List.mem_of_getElem? (i := 162) (by decide +kernel), List.mem_of_getElem? (i := 441) (by decide +kernel), List.mem_of_getElem? (i := 442) (by decide +kernel)⟩
theorem lw_p38 : lw_okq (⟨"PeirceDesk$Algebra", "inverse", "([I[I)Z"⟩, 11) := ⟨⟨by decide +kernel, by decide +kernel⟩, List.mem_of_getElem? (i := 21) (by decide +kernel), List.mem_of_getElem? (i := 448) (by decide +kernel), List.mem_of_getElem? (i := 449) (by decide +kernel)⟩
theorem lw_p39 : lw_okq (⟨"PeirceDesk$Reckoner", "closeBracket", "(I)V"⟩, 3) := ⟨⟨by decide +kernel, by decide +kernel⟩, List.mem_of_getElem? (i := 155) (by decide +kernel), List.mem_of_getElem? (i := 452) (by decide +kernel), List.mem_of_getElem? (i := 453) (by decide +kernel)⟩
theorem lw_p40 : lw_okq (⟨"PeirceDesk$Frame", "add", "([II)V"⟩, 8) := ⟨⟨by decide +kernel, by decide +kernel⟩, List.mem_of_getElem? (i := 162) (by decide +kernel), List.mem_of_getElem? (i := 456) (by decide +kernel), List.mem_of_getElem? (i := 457) (by decide +kernel)⟩
theorem lw_p41 : lw_okq (⟨"PeirceDesk$Reckoner", "read", "(CLPeirceDesk$Frame;LPeirceDesk$State;)V"⟩, 3) := ⟨⟨by decide +kernel, by decide +kernel⟩, List.mem_of_getElem? (i := 155) (by decide +kernel), List.mem_of_getElem? (i := 461) (by decide +kernel), List.mem_of_getElem? (i := 462) (by decide +kernel)⟩
theorem lw_p42 : lw_okq (⟨"PeirceDesk$Frame", "keepArgument", "()V"⟩, 8) := ⟨⟨by decide +kernel, by decide +kernel⟩, List.mem_of_getElem? (i := 162) (by decide +kernel), List.mem_of_getElem? (i := 466) (by decide +kernel), List.mem_of_getElem? (i := 467) (by decide +kernel)⟩
theorem lw_p43 : lw_okq (⟨"PeirceDesk$Reckoner", "result", "()[I"⟩, 3) := ⟨⟨by decide +kernel, by decide +kernel⟩, List.mem_of_getElem? (i := 155) (by decide +kernel), List.mem_of_getElem? (i := 473) (by decide +kernel), List.mem_of_getElem? (i := 474) (by decide +kernel)⟩
theorem lw_p44 : lw_okq (⟨"PeirceDesk$Algebra", "trace", "([I)I"⟩, 11) := ⟨⟨by decide +kernel, by decide +kernel⟩, List.mem_of_getElem? (i := 21) (by decide +kernel), List.mem_of_getElem? (i := 488) (by decide +kernel), List.mem_of_getElem? (i := 489) (by decide +kernel)⟩
theorem lw_p45 : lw_okq (⟨"PeirceDesk$Algebra", "rank", "([I)I"⟩, 11) := ⟨⟨by decide +kernel, by decide +kernel⟩, List.mem_of_getElem? (i := 21) (by decide +kernel), List.mem_of_getElem? (i := 492) (by decide +kernel), List.mem_of_getElem? (i := 493) (by decide +kernel)⟩
theorem lw_p46 : lw_okq (⟨"PeirceDesk$Algebra", "order", "([I)I"⟩, 11) := ⟨⟨by decide +kernel, by decide +kernel⟩, List.mem_of_getElem? (i := 21) (by decide +kernel), List.mem_of_getElem? (i := 496) (by decide +kernel), List.mem_of_getElem? (i := 497) (by decide +kernel)⟩
theorem lw_p47 : lw_okq (⟨"PeirceDesk$Algebra", "degree", "([I)I"⟩, 11) := ⟨⟨by decide +kernel, by decide +kernel⟩, List.mem_of_getElem? (i := 21) (by decide +kernel), List.mem_of_getElem? (i := 500) (by decide +kernel), List.mem_of_getElem? (i := 501) (by decide +kernel)⟩
def lw_privs_3 : List (MethodName × Nat) := [(⟨"PeirceDesk$Pad", "target", "()I"⟩, 7), (⟨"PeirceDesk$Reckoner", "carryOut", "(LPeirceDesk$Pad;LPeirceDesk$Algebra;)I"⟩, 3), (⟨"PeirceDesk$Frame", "open", "(CI)V"⟩, 8), (⟨"PeirceDesk$Frame", "startSum", "()V"⟩, 8), (⟨"PeirceDesk$Reckoner", "openBracket", "(CI)V"⟩, 3), (⟨"PeirceDesk$Frame", "finish", "(LPeirceDesk$Algebra;)Z"⟩, 8), (⟨"PeirceDesk$Algebra", "inverse", "([I[I)Z"⟩, 11), (⟨"PeirceDesk$Reckoner", "closeBracket", "(I)V"⟩, 3), (⟨"PeirceDesk$Frame", "add", "([II)V"⟩, 8), (⟨"PeirceDesk$Reckoner", "read", "(CLPeirceDesk$Frame;LPeirceDesk$State;)V"⟩, 3), (⟨"PeirceDesk$Frame", "keepArgument", "()V"⟩, 8), (⟨"PeirceDesk$Reckoner", "result", "()[I"⟩, 3), (⟨"PeirceDesk$Algebra", "trace", "([I)I"⟩, 11), (⟨"PeirceDesk$Algebra", "rank", "([I)I"⟩, 11), (⟨"PeirceDesk$Algebra", "order", "([I)I"⟩, 11), (⟨"PeirceDesk$Algebra", "degree", "([I)I"⟩, 11)]
theorem lw_r3 : ∀ q ∈ lw_privs_3, lw_okq q := List.forall_mem_cons.mpr ⟨lw_p32, List.forall_mem_cons.mpr ⟨lw_p33, List.forall_mem_cons.mpr ⟨lw_p34, List.forall_mem_cons.mpr ⟨lw_p35, List.forall_mem_cons.mpr ⟨lw_p36, List.forall_mem_cons.mpr ⟨lw_p37, List.forall_mem_cons.mpr ⟨lw_p38, List.forall_mem_cons.mpr ⟨lw_p39, List.forall_mem_cons.mpr ⟨lw_p40, List.forall_mem_cons.mpr ⟨lw_p41, List.forall_mem_cons.mpr ⟨lw_p42, List.forall_mem_cons.mpr ⟨lw_p43, List.forall_mem_cons.mpr ⟨lw_p44, List.forall_mem_cons.mpr ⟨lw_p45, List.forall_mem_cons.mpr ⟨lw_p46, List.forall_mem_cons.mpr ⟨lw_p47, fun _ h => absurd h List.not_mem_nil⟩⟩⟩⟩⟩⟩⟩⟩⟩⟩⟩⟩⟩⟩⟩⟩
theorem lw_p48 : lw_okq (⟨"PeirceDesk$Rows", "loadAll", "([[III)V"⟩, 3) := ⟨⟨by decide +kernel, by decide +kernel⟩, List.mem_of_getElem? (i := 64) (by decide +kernel), List.mem_of_getElem? (i := 504) (by decide +kernel), List.mem_of_getElem? (i := 505) (by decide +kernel)⟩
theorem lw_p49 : lw_okq (⟨"PeirceDesk$Algebra", "leastZeroPower", "([I)I"⟩, 11) := ⟨⟨by decide +kernel, by decide +kernel⟩, List.mem_of_getElem? (i := 21) (by decide +kernel), List.mem_of_getElem? (i := 509) (by decide +kernel), List.mem_of_getElem? (i := 510) (by decide +kernel)⟩
theorem lw_p50 : lw_okq (⟨"PeirceDesk", "registersNotZero", "()I"⟩, 6) := ⟨⟨by decide +kernel, by decide +kernel⟩, List.mem_of_getElem? (i := 13) (by decide +kernel), List.mem_of_getElem? (i := 518) (by decide +kernel), List.mem_of_getElem? (i := 519) (by decide +kernel)⟩
theorem lw_p51 : lw_okq (⟨"PeirceDesk", "registersOwnSquares", "()I"⟩, 6) := ⟨⟨by decide +kernel, by decide +kernel⟩, List.mem_of_getElem? (i := 13) (by decide +kernel), List.mem_of_getElem? (i := 522) (by decide +kernel), List.mem_of_getElem? (i := 523) (by decide +kernel)⟩
theorem lw_p52 : lw_okq (⟨"PeirceDesk$Algebra", "raise", "([II)V"⟩, 11) := ⟨⟨by decide +kernel, by decide +kernel⟩, List.mem_of_getElem? (i := 21) (by decide +kernel), List.mem_of_getElem? (i := 535) (by decide +kernel), List.mem_of_getElem? (i := 536) (by decide +kernel)⟩
theorem lw_p53 : lw_okq (⟨"PeirceDesk$Algebra", "tryRule", "([I[I[I)Z"⟩, 11) := ⟨⟨by decide +kernel, by decide +kernel⟩, List.mem_of_getElem? (i := 21) (by decide +kernel), List.mem_of_getElem? (i := 543) (by decide +kernel), List.mem_of_getElem? (i := 544) (by decide +kernel)⟩
theorem lw_p54 : lw_okq (⟨"PeirceDesk$Algebra", "countKind", "(I)I"⟩, 11) := ⟨⟨by decide +kernel, by decide +kernel⟩, List.mem_of_getElem? (i := 21) (by decide +kernel), List.mem_of_getElem? (i := 558) (by decide +kernel), List.mem_of_getElem? (i := 559) (by decide +kernel)⟩
theorem lw_p55 : lw_okq (⟨"PeirceDesk$Algebra", "isOfKind", "(I)Z"⟩, 11) := ⟨⟨by decide +kernel, by decide +kernel⟩, List.mem_of_getElem? (i := 21) (by decide +kernel), List.mem_of_getElem? (i := 562) (by decide +kernel), List.mem_of_getElem? (i := 563) (by decide +kernel)⟩
theorem lw_p56 : lw_okq (⟨"PeirceDesk$Pad", "append", "(JI)V"⟩, 7) := ⟨⟨by decide +kernel, by decide +kernel⟩, List.mem_of_getElem? (i := 123) (by decide +kernel), List.mem_of_getElem? (i := 582) (by decide +kernel), List.mem_of_getElem? (i := 583) (by decide +kernel)⟩
theorem lw_p57 : lw_okq (⟨"PeirceDesk$History", "takeBack", "(LPeirceDesk$State;)V"⟩, 3) := ⟨⟨by decide +kernel, by decide +kernel⟩, List.mem_of_getElem? (i := 208) (by decide +kernel), List.mem_of_getElem? (i := 598) (by decide +kernel), List.mem_of_getElem? (i := 599) (by decide +kernel)⟩
theorem lw_p58 : lw_okq (⟨"PeirceDeskModel", "clear", "(II)V"⟩, 20) := ⟨⟨by decide +kernel, by decide +kernel⟩, List.mem_of_getElem? (i := 611) (by decide +kernel), List.mem_of_getElem? (i := 617) (by decide +kernel), List.mem_of_getElem? (i := 618) (by decide +kernel)⟩
theorem lw_p59 : lw_okq (⟨"PeirceDeskModel", "record", "()V"⟩, 20) := ⟨⟨by decide +kernel, by decide +kernel⟩, List.mem_of_getElem? (i := 611) (by decide +kernel), List.mem_of_getElem? (i := 697) (by decide +kernel), List.mem_of_getElem? (i := 698) (by decide +kernel)⟩
theorem lw_p60 : lw_okq (⟨"PeirceDeskModel", "isCell", "(II)Z"⟩, 20) := ⟨⟨by decide +kernel, by decide +kernel⟩, List.mem_of_getElem? (i := 611) (by decide +kernel), List.mem_of_getElem? (i := 712) (by decide +kernel), List.mem_of_getElem? (i := 713) (by decide +kernel)⟩
theorem lw_p61 : lw_okq (⟨"PeirceDeskModel", "blank", "(I)V"⟩, 20) := ⟨⟨by decide +kernel, by decide +kernel⟩, List.mem_of_getElem? (i := 611) (by decide +kernel), List.mem_of_getElem? (i := 720) (by decide +kernel), List.mem_of_getElem? (i := 721) (by decide +kernel)⟩
theorem lw_p62 : lw_okq (⟨"PeirceDeskModel", "determinant", "(I)I"⟩, 20) := ⟨⟨by decide +kernel, by decide +kernel⟩, List.mem_of_getElem? (i := 611) (by decide +kernel), List.mem_of_getElem? (i := 724) (by decide +kernel), List.mem_of_getElem? (i := 725) (by decide +kernel)⟩
theorem lw_p63 : lw_okq (⟨"PeirceDeskModel", "within", "(I)I"⟩, 20) := ⟨⟨by decide +kernel, by decide +kernel⟩, List.mem_of_getElem? (i := 611) (by decide +kernel), List.mem_of_getElem? (i := 728) (by decide +kernel), List.mem_of_getElem? (i := 729) (by decide +kernel)⟩
def lw_privs_4 : List (MethodName × Nat) := [(⟨"PeirceDesk$Rows", "loadAll", "([[III)V"⟩, 3), (⟨"PeirceDesk$Algebra", "leastZeroPower", "([I)I"⟩, 11), (⟨"PeirceDesk", "registersNotZero", "()I"⟩, 6), (⟨"PeirceDesk", "registersOwnSquares", "()I"⟩, 6), (⟨"PeirceDesk$Algebra", "raise", "([II)V"⟩, 11), (⟨"PeirceDesk$Algebra", "tryRule", "([I[I[I)Z"⟩, 11), (⟨"PeirceDesk$Algebra", "countKind", "(I)I"⟩, 11), (⟨"PeirceDesk$Algebra", "isOfKind", "(I)Z"⟩, 11), (⟨"PeirceDesk$Pad", "append", "(JI)V"⟩, 7), (⟨"PeirceDesk$History", "takeBack", "(LPeirceDesk$State;)V"⟩, 3), (⟨"PeirceDeskModel", "clear", "(II)V"⟩, 20), (⟨"PeirceDeskModel", "record", "()V"⟩, 20), (⟨"PeirceDeskModel", "isCell", "(II)Z"⟩, 20), (⟨"PeirceDeskModel", "blank", "(I)V"⟩, 20), (⟨"PeirceDeskModel", "determinant", "(I)I"⟩, 20), (⟨"PeirceDeskModel", "within", "(I)I"⟩, 20)]
theorem lw_r4 : ∀ q ∈ lw_privs_4, lw_okq q := List.forall_mem_cons.mpr ⟨lw_p48, List.forall_mem_cons.mpr ⟨lw_p49, List.forall_mem_cons.mpr ⟨lw_p50, List.forall_mem_cons.mpr ⟨lw_p51, List.forall_mem_cons.mpr ⟨lw_p52, List.forall_mem_cons.mpr ⟨lw_p53, List.forall_mem_cons.mpr ⟨lw_p54, List.forall_mem_cons.mpr ⟨lw_p55, List.forall_mem_cons.mpr ⟨lw_p56, List.forall_mem_cons.mpr ⟨lw_p57, List.forall_mem_cons.mpr ⟨lw_p58, List.forall_mem_cons.mpr ⟨lw_p59, List.forall_mem_cons.mpr ⟨lw_p60, List.forall_mem_cons.mpr ⟨lw_p61, List.forall_mem_cons.mpr ⟨lw_p62, List.forall_mem_cons.mpr ⟨lw_p63, fun _ h => absurd h List.not_mem_nil⟩⟩⟩⟩⟩⟩⟩⟩⟩⟩⟩⟩⟩⟩⟩⟩
theorem lw_p64 : lw_okq (⟨"PeirceDeskModel", "cellOf", "(III)I"⟩, 20) := ⟨⟨by decide +kernel, by decide +kernel⟩, List.mem_of_getElem? (i := 611) (by decide +kernel), List.mem_of_getElem? (i := 732) (by decide +kernel), List.mem_of_getElem? (i := 733) (by decide +kernel)⟩
theorem lw_p65 : lw_okq (⟨"PeirceDeskModel", "load", "(II)V"⟩, 20) := ⟨⟨by decide +kernel, by decide +kernel⟩, List.mem_of_getElem? (i := 611) (by decide +kernel), List.mem_of_getElem? (i := 740) (by decide +kernel), List.mem_of_getElem? (i := 741) (by decide +kernel)⟩
theorem lw_p66 : lw_okq (⟨"PeirceDeskModel", "layBase", "()V"⟩, 20) := ⟨⟨by decide +kernel, by decide +kernel⟩, List.mem_of_getElem? (i := 611) (by decide +kernel), List.mem_of_getElem? (i := 744) (by decide +kernel), List.mem_of_getElem? (i := 745) (by decide +kernel)⟩
theorem lw_p67 : lw_okq (⟨"PeirceDeskModel", "invert", "(II)V"⟩, 20) := ⟨⟨by decide +kernel, by decide +kernel⟩, List.mem_of_getElem? (i := 611) (by decide +kernel), List.mem_of_getElem? (i := 748) (by decide +kernel), List.mem_of_getElem? (i := 749) (by decide +kernel)⟩
theorem lw_p68 : lw_okq (⟨"PeirceDeskModel", "over", "(I)I"⟩, 20) := ⟨⟨by decide +kernel, by decide +kernel⟩, List.mem_of_getElem? (i := 611) (by decide +kernel), List.mem_of_getElem? (i := 752) (by decide +kernel), List.mem_of_getElem? (i := 753) (by decide +kernel)⟩
theorem lw_p69 : lw_okq (⟨"PeirceDeskModel", "isOwnSquare", "(I)Z"⟩, 20) := ⟨⟨by decide +kernel, by decide +kernel⟩, List.mem_of_getElem? (i := 611) (by decide +kernel), List.mem_of_getElem? (i := 756) (by decide +kernel), List.mem_of_getElem? (i := 757) (by decide +kernel)⟩
theorem lw_p70 : lw_okq (⟨"PeirceDeskModel", "product", "(III)V"⟩, 20) := ⟨⟨by decide +kernel, by decide +kernel⟩, List.mem_of_getElem? (i := 611) (by decide +kernel), List.mem_of_getElem? (i := 760) (by decide +kernel), List.mem_of_getElem? (i := 761) (by decide +kernel)⟩
theorem lw_p71 : lw_okq (⟨"PeirceDeskModel", "times", "(III)V"⟩, 20) := ⟨⟨by decide +kernel, by decide +kernel⟩, List.mem_of_getElem? (i := 611) (by decide +kernel), List.mem_of_getElem? (i := 764) (by decide +kernel), List.mem_of_getElem? (i := 765) (by decide +kernel)⟩
theorem lw_p72 : lw_okq (⟨"PeirceDeskModel", "half", "()I"⟩, 20) := ⟨⟨by decide +kernel, by decide +kernel⟩, List.mem_of_getElem? (i := 611) (by decide +kernel), List.mem_of_getElem? (i := 768) (by decide +kernel), List.mem_of_getElem? (i := 769) (by decide +kernel)⟩
theorem lw_p73 : lw_okq (⟨"PeirceDeskModel", "add", "(IIIII)V"⟩, 20) := ⟨⟨by decide +kernel, by decide +kernel⟩, List.mem_of_getElem? (i := 611) (by decide +kernel), List.mem_of_getElem? (i := 772) (by decide +kernel), List.mem_of_getElem? (i := 773) (by decide +kernel)⟩
theorem lw_p74 : lw_okq (⟨"PeirceDeskModel", "areAlike", "(II)Z"⟩, 20) := ⟨⟨by decide +kernel, by decide +kernel⟩, List.mem_of_getElem? (i := 611) (by decide +kernel), List.mem_of_getElem? (i := 776) (by decide +kernel), List.mem_of_getElem? (i := 777) (by decide +kernel)⟩
theorem lw_p75 : lw_okq (⟨"PeirceDeskModel", "part", "(I)V"⟩, 20) := ⟨⟨by decide +kernel, by decide +kernel⟩, List.mem_of_getElem? (i := 611) (by decide +kernel), List.mem_of_getElem? (i := 780) (by decide +kernel), List.mem_of_getElem? (i := 781) (by decide +kernel)⟩
theorem lw_p76 : lw_okq (⟨"PeirceDeskModel", "operator", "(III)V"⟩, 20) := ⟨⟨by decide +kernel, by decide +kernel⟩, List.mem_of_getElem? (i := 611) (by decide +kernel), List.mem_of_getElem? (i := 784) (by decide +kernel), List.mem_of_getElem? (i := 785) (by decide +kernel)⟩
theorem lw_p77 : lw_okq (⟨"PeirceDeskModel", "copy", "(II)V"⟩, 20) := ⟨⟨by decide +kernel, by decide +kernel⟩, List.mem_of_getElem? (i := 611) (by decide +kernel), List.mem_of_getElem? (i := 788) (by decide +kernel), List.mem_of_getElem? (i := 789) (by decide +kernel)⟩
theorem lw_p78 : lw_okq (⟨"PeirceDeskModel", "store", "(II)V"⟩, 20) := ⟨⟨by decide +kernel, by decide +kernel⟩, List.mem_of_getElem? (i := 611) (by decide +kernel), List.mem_of_getElem? (i := 792) (by decide +kernel), List.mem_of_getElem? (i := 793) (by decide +kernel)⟩
theorem lw_p79 : lw_okq (⟨"PeirceDeskModel", "isNothing", "(I)Z"⟩, 20) := ⟨⟨by decide +kernel, by decide +kernel⟩, List.mem_of_getElem? (i := 611) (by decide +kernel), List.mem_of_getElem? (i := 796) (by decide +kernel), List.mem_of_getElem? (i := 797) (by decide +kernel)⟩
def lw_privs_5 : List (MethodName × Nat) := [(⟨"PeirceDeskModel", "cellOf", "(III)I"⟩, 20), (⟨"PeirceDeskModel", "load", "(II)V"⟩, 20), (⟨"PeirceDeskModel", "layBase", "()V"⟩, 20), (⟨"PeirceDeskModel", "invert", "(II)V"⟩, 20), (⟨"PeirceDeskModel", "over", "(I)I"⟩, 20), (⟨"PeirceDeskModel", "isOwnSquare", "(I)Z"⟩, 20), (⟨"PeirceDeskModel", "product", "(III)V"⟩, 20), (⟨"PeirceDeskModel", "times", "(III)V"⟩, 20), (⟨"PeirceDeskModel", "half", "()I"⟩, 20), (⟨"PeirceDeskModel", "add", "(IIIII)V"⟩, 20), (⟨"PeirceDeskModel", "areAlike", "(II)Z"⟩, 20), (⟨"PeirceDeskModel", "part", "(I)V"⟩, 20), (⟨"PeirceDeskModel", "operator", "(III)V"⟩, 20), (⟨"PeirceDeskModel", "copy", "(II)V"⟩, 20), (⟨"PeirceDeskModel", "store", "(II)V"⟩, 20), (⟨"PeirceDeskModel", "isNothing", "(I)Z"⟩, 20)]
theorem lw_r5 : ∀ q ∈ lw_privs_5, lw_okq q := List.forall_mem_cons.mpr ⟨lw_p64, List.forall_mem_cons.mpr ⟨lw_p65, List.forall_mem_cons.mpr ⟨lw_p66, List.forall_mem_cons.mpr ⟨lw_p67, List.forall_mem_cons.mpr ⟨lw_p68, List.forall_mem_cons.mpr ⟨lw_p69, List.forall_mem_cons.mpr ⟨lw_p70, List.forall_mem_cons.mpr ⟨lw_p71, List.forall_mem_cons.mpr ⟨lw_p72, List.forall_mem_cons.mpr ⟨lw_p73, List.forall_mem_cons.mpr ⟨lw_p74, List.forall_mem_cons.mpr ⟨lw_p75, List.forall_mem_cons.mpr ⟨lw_p76, List.forall_mem_cons.mpr ⟨lw_p77, List.forall_mem_cons.mpr ⟨lw_p78, List.forall_mem_cons.mpr ⟨lw_p79, fun _ h => absurd h List.not_mem_nil⟩⟩⟩⟩⟩⟩⟩⟩⟩⟩⟩⟩⟩⟩⟩⟩
theorem lw_p80 : lw_okq (⟨"PeirceDeskModel", "trace", "(I)I"⟩, 20) := ⟨⟨by decide +kernel, by decide +kernel⟩, List.mem_of_getElem? (i := 611) (by decide +kernel), List.mem_of_getElem? (i := 808) (by decide +kernel), List.mem_of_getElem? (i := 809) (by decide +kernel)⟩
theorem lw_p81 : lw_okq (⟨"PeirceDeskModel", "rankOf", "(I)I"⟩, 20) := ⟨⟨by decide +kernel, by decide +kernel⟩, List.mem_of_getElem? (i := 611) (by decide +kernel), List.mem_of_getElem? (i := 812) (by decide +kernel), List.mem_of_getElem? (i := 813) (by decide +kernel)⟩
theorem lw_p82 : lw_okq (⟨"PeirceDeskModel", "isNew", "(I)Z"⟩, 20) := ⟨⟨by decide +kernel, by decide +kernel⟩, List.mem_of_getElem? (i := 611) (by decide +kernel), List.mem_of_getElem? (i := 816) (by decide +kernel), List.mem_of_getElem? (i := 817) (by decide +kernel)⟩
theorem lw_p83 : lw_okq (⟨"PeirceDeskModel", "leadOf", "(I)I"⟩, 20) := ⟨⟨by decide +kernel, by decide +kernel⟩, List.mem_of_getElem? (i := 611) (by decide +kernel), List.mem_of_getElem? (i := 820) (by decide +kernel), List.mem_of_getElem? (i := 821) (by decide +kernel)⟩
theorem lw_p84 : lw_okq (⟨"PeirceDeskModel", "orderOf", "(I)I"⟩, 20) := ⟨⟨by decide +kernel, by decide +kernel⟩, List.mem_of_getElem? (i := 611) (by decide +kernel), List.mem_of_getElem? (i := 824) (by decide +kernel), List.mem_of_getElem? (i := 825) (by decide +kernel)⟩
theorem lw_p85 : lw_okq (⟨"PeirceDeskModel", "degreeOf", "(I)I"⟩, 20) := ⟨⟨by decide +kernel, by decide +kernel⟩, List.mem_of_getElem? (i := 611) (by decide +kernel), List.mem_of_getElem? (i := 828) (by decide +kernel), List.mem_of_getElem? (i := 829) (by decide +kernel)⟩
theorem lw_p86 : lw_okq (⟨"PeirceDeskModel", "endOf", "(I)I"⟩, 20) := ⟨⟨by decide +kernel, by decide +kernel⟩, List.mem_of_getElem? (i := 611) (by decide +kernel), List.mem_of_getElem? (i := 832) (by decide +kernel), List.mem_of_getElem? (i := 833) (by decide +kernel)⟩
theorem lw_p87 : lw_okq (⟨"PeirceDeskModel", "registersThat", "(Z)I"⟩, 20) := ⟨⟨by decide +kernel, by decide +kernel⟩, List.mem_of_getElem? (i := 611) (by decide +kernel), List.mem_of_getElem? (i := 840) (by decide +kernel), List.mem_of_getElem? (i := 841) (by decide +kernel)⟩
theorem lw_p88 : lw_okq (⟨"PeirceDeskModel", "isOfKind", "(II)Z"⟩, 20) := ⟨⟨by decide +kernel, by decide +kernel⟩, List.mem_of_getElem? (i := 611) (by decide +kernel), List.mem_of_getElem? (i := 864) (by decide +kernel), List.mem_of_getElem? (i := 865) (by decide +kernel)⟩
theorem lw_p89 : lw_okq (⟨"PeirceDeskModel", "work", "()I"⟩, 20) := ⟨⟨by decide +kernel, by decide +kernel⟩, List.mem_of_getElem? (i := 611) (by decide +kernel), List.mem_of_getElem? (i := 881) (by decide +kernel), List.mem_of_getElem? (i := 882) (by decide +kernel)⟩
theorem lw_p90 : lw_okq (⟨"PeirceDeskModel", "pileOf", "(II)I"⟩, 20) := ⟨⟨by decide +kernel, by decide +kernel⟩, List.mem_of_getElem? (i := 611) (by decide +kernel), List.mem_of_getElem? (i := 885) (by decide +kernel), List.mem_of_getElem? (i := 886) (by decide +kernel)⟩
theorem lw_p91 : lw_okq (⟨"PeirceDeskModel", "stands", "(II)Z"⟩, 20) := ⟨⟨by decide +kernel, by decide +kernel⟩, List.mem_of_getElem? (i := 611) (by decide +kernel), List.mem_of_getElem? (i := 889) (by decide +kernel), List.mem_of_getElem? (i := 890) (by decide +kernel)⟩
theorem lw_p92 : lw_okq (⟨"PeirceDeskModel", "factor", "(II)Z"⟩, 20) := ⟨⟨by decide +kernel, by decide +kernel⟩, List.mem_of_getElem? (i := 611) (by decide +kernel), List.mem_of_getElem? (i := 893) (by decide +kernel), List.mem_of_getElem? (i := 894) (by decide +kernel)⟩
theorem lw_p93 : lw_okq (⟨"PeirceDeskModel", "counts", "(I)V"⟩, 20) := ⟨⟨by decide +kernel, by decide +kernel⟩, List.mem_of_getElem? (i := 611) (by decide +kernel), List.mem_of_getElem? (i := 900) (by decide +kernel), List.mem_of_getElem? (i := 901) (by decide +kernel)⟩
theorem lw_p94 : lw_okq (⟨"PeirceDeskModel", "opens", "(II)V"⟩, 20) := ⟨⟨by decide +kernel, by decide +kernel⟩, List.mem_of_getElem? (i := 611) (by decide +kernel), List.mem_of_getElem? (i := 907) (by decide +kernel), List.mem_of_getElem? (i := 908) (by decide +kernel)⟩
theorem lw_p95 : lw_okq (⟨"PeirceDeskModel", "behind", "(II)Z"⟩, 20) := ⟨⟨by decide +kernel, by decide +kernel⟩, List.mem_of_getElem? (i := 611) (by decide +kernel), List.mem_of_getElem? (i := 911) (by decide +kernel), List.mem_of_getElem? (i := 912) (by decide +kernel)⟩
def lw_privs_6 : List (MethodName × Nat) := [(⟨"PeirceDeskModel", "trace", "(I)I"⟩, 20), (⟨"PeirceDeskModel", "rankOf", "(I)I"⟩, 20), (⟨"PeirceDeskModel", "isNew", "(I)Z"⟩, 20), (⟨"PeirceDeskModel", "leadOf", "(I)I"⟩, 20), (⟨"PeirceDeskModel", "orderOf", "(I)I"⟩, 20), (⟨"PeirceDeskModel", "degreeOf", "(I)I"⟩, 20), (⟨"PeirceDeskModel", "endOf", "(I)I"⟩, 20), (⟨"PeirceDeskModel", "registersThat", "(Z)I"⟩, 20), (⟨"PeirceDeskModel", "isOfKind", "(II)Z"⟩, 20), (⟨"PeirceDeskModel", "work", "()I"⟩, 20), (⟨"PeirceDeskModel", "pileOf", "(II)I"⟩, 20), (⟨"PeirceDeskModel", "stands", "(II)Z"⟩, 20), (⟨"PeirceDeskModel", "factor", "(II)Z"⟩, 20), (⟨"PeirceDeskModel", "counts", "(I)V"⟩, 20), (⟨"PeirceDeskModel", "opens", "(II)V"⟩, 20), (⟨"PeirceDeskModel", "behind", "(II)Z"⟩, 20)]
theorem lw_r6 : ∀ q ∈ lw_privs_6, lw_okq q := List.forall_mem_cons.mpr ⟨lw_p80, List.forall_mem_cons.mpr ⟨lw_p81, List.forall_mem_cons.mpr ⟨lw_p82, List.forall_mem_cons.mpr ⟨lw_p83, List.forall_mem_cons.mpr ⟨lw_p84, List.forall_mem_cons.mpr ⟨lw_p85, List.forall_mem_cons.mpr ⟨lw_p86, List.forall_mem_cons.mpr ⟨lw_p87, List.forall_mem_cons.mpr ⟨lw_p88, List.forall_mem_cons.mpr ⟨lw_p89, List.forall_mem_cons.mpr ⟨lw_p90, List.forall_mem_cons.mpr ⟨lw_p91, List.forall_mem_cons.mpr ⟨lw_p92, List.forall_mem_cons.mpr ⟨lw_p93, List.forall_mem_cons.mpr ⟨lw_p94, List.forall_mem_cons.mpr ⟨lw_p95, fun _ h => absurd h List.not_mem_nil⟩⟩⟩⟩⟩⟩⟩⟩⟩⟩⟩⟩⟩⟩⟩⟩
theorem lw_p96 : lw_okq (⟨"PeirceDeskModel", "sumsOf", "(I)I"⟩, 20) := ⟨⟨by decide +kernel, by decide +kernel⟩, List.mem_of_getElem? (i := 611) (by decide +kernel), List.mem_of_getElem? (i := 915) (by decide +kernel), List.mem_of_getElem? (i := 916) (by decide +kernel)⟩
theorem lw_p97 : lw_okq (⟨"PeirceDeskModel", "closes", "()V"⟩, 20) := ⟨⟨by decide +kernel, by decide +kernel⟩, List.mem_of_getElem? (i := 611) (by decide +kernel), List.mem_of_getElem? (i := 919) (by decide +kernel), List.mem_of_getElem? (i := 920) (by decide +kernel)⟩
theorem lw_p98 : lw_okq (⟨"PeirceDeskModel", "triple", "(IIII)V"⟩, 20) := ⟨⟨by decide +kernel, by decide +kernel⟩, List.mem_of_getElem? (i := 611) (by decide +kernel), List.mem_of_getElem? (i := 923) (by decide +kernel), List.mem_of_getElem? (i := 924) (by decide +kernel)⟩
theorem lw_p99 : lw_okq (⟨"PeirceDeskModel", "inverse", "(II)Z"⟩, 20) := ⟨⟨by decide +kernel, by decide +kernel⟩, List.mem_of_getElem? (i := 611) (by decide +kernel), List.mem_of_getElem? (i := 927) (by decide +kernel), List.mem_of_getElem? (i := 928) (by decide +kernel)⟩
def lw_privs_7 : List (MethodName × Nat) := [(⟨"PeirceDeskModel", "sumsOf", "(I)I"⟩, 20), (⟨"PeirceDeskModel", "closes", "()V"⟩, 20), (⟨"PeirceDeskModel", "triple", "(IIII)V"⟩, 20), (⟨"PeirceDeskModel", "inverse", "(II)Z"⟩, 20)]
theorem lw_r7 : ∀ q ∈ lw_privs_7, lw_okq q := List.forall_mem_cons.mpr ⟨lw_p96, List.forall_mem_cons.mpr ⟨lw_p97, List.forall_mem_cons.mpr ⟨lw_p98, List.forall_mem_cons.mpr ⟨lw_p99, fun _ h => absurd h List.not_mem_nil⟩⟩⟩⟩
def lw_privs : List (MethodName × Nat) := lw_privs_1 ++ (lw_privs_2 ++ (lw_privs_3 ++ (lw_privs_4 ++ (lw_privs_5 ++ (lw_privs_6 ++ (lw_privs_7))))))
def lw_tbl : List Cond := k2_sels lw_privs ++ tables_1
theorem lw_privs_ok : ∀ q ∈ lw_privs, lw_okq q := by
  show ∀ q ∈ lw_privs_1 ++ (lw_privs_2 ++ (lw_privs_3 ++ (lw_privs_4 ++ (lw_privs_5 ++ (lw_privs_6 ++ (lw_privs_7)))))), lw_okq q
  exact List.forall_mem_append.mpr ⟨lw_r1, List.forall_mem_append.mpr ⟨lw_r2, List.forall_mem_append.mpr ⟨lw_r3, List.forall_mem_append.mpr ⟨lw_r4, List.forall_mem_append.mpr ⟨lw_r5, List.forall_mem_append.mpr ⟨lw_r6, lw_r7⟩⟩⟩⟩⟩⟩
-- ===== end of PART A; then your names; then what follows =====
end
section
/-! ===== BEGIN words of one list among another's, by their places ===== -/
theorem goodIn_r {big : List Cond} (ws : List Cond) (ps : List Nat) (hp : ws = ps.filterMap (fun i => big[i]?)) (h : ws.all goodWord = true) : GoodIn big ws := by
  intro w hw
  have h1 := List.all_eq_true.mp h w hw
  rw [hp] at hw
  obtain ⟨i, -, hi⟩ := List.mem_filterMap.mp hw
  have hm : w ∈ big := by first | exact List.mem_of_getElem? hi | exact List.getElem?_mem hi
  exact ⟨hm, good_of_word h1⟩
theorem goodIn_app {big a b : List Cond} (ha : GoodIn big a) (hb : GoodIn big b) : GoodIn big (a ++ b) := fun w h => (List.mem_append.mp h).elim (ha w) (hb w)
theorem goodIn_ca {big a b : List Cond} {c : Cond} (ha : GoodIn big (c :: a)) (hb : GoodIn big b) : GoodIn big (c :: (a ++ b)) := fun w h => (List.mem_cons.mp h).elim (fun e => ha w (List.mem_cons.mpr (Or.inl e))) (fun h => (List.mem_append.mp h).elim (fun h => ha w (List.mem_cons.mpr (Or.inr h))) (hb w))
theorem goodIn_sub {big ws : List Cond} (hm : ∀ w ∈ ws, w ∈ big) (h : ws.all goodWord = true) : GoodIn big ws := fun w hw => ⟨hm w hw, good_of_word (List.all_eq_true.mp h w hw)⟩
/-! ===== END ===== -/


/-! ===== BEGIN printed: names, fields, word lists, decode rows ===== -/
def RX0 : String := "PeirceDesk$Algebra"
def TX0 : u_T := fun k => match k with
  | 0 => ("PeirceDesk$Algebra", "now", "LPeirceDesk$State;", true)
  | 1 => ("PeirceDesk$Algebra", "rows", "LPeirceDesk$Rows;", true)
  | 2 => ("PeirceDesk$Algebra", "parts", "[[I", true)
  | 3 => ("PeirceDesk$Algebra", "power", "[I", true)
  | 4 => ("PeirceDesk$Algebra", "oneSide", "[I", true)
  | 5 => ("PeirceDesk$Algebra", "left", "[I", true)
  | 6 => ("PeirceDesk$Algebra", "right", "[I", true)
  | 7 => ("PeirceDesk$Algebra", "square", "[I", true)
  | 8 => ("PeirceDesk$Algebra", "otherSide", "[I", true)
  | 9 => ("PeirceDesk$Algebra", "candidate", "[I", true)
  | _ => ("PeirceDesk$Algebra", "powers", "[[I", true)
def tyX0 : Nat → FieldType := fun k => match k with
  | 0 => .object "PeirceDesk$State"
  | 1 => .object "PeirceDesk$Rows"
  | 2 => .array (.array .int)
  | 3 => .array .int
  | 4 => .array .int
  | 5 => .array .int
  | 6 => .array .int
  | 7 => .array .int
  | 8 => .array .int
  | 9 => .array .int
  | _ => .array (.array .int)
abbrev wsX00 : List Cond := u_ws RX0 TX0 11
theorem nmX0 : ∀ a, a < 11 → ∀ b, b < 11 → a ≠ b → (TX0 a).2.1 ≠ (TX0 b).2.1 := by decide +kernel
theorem tyX0_ok : ∀ k, k < 11 → parseFieldDescriptor (TX0 k).2.2.1 = some (tyX0 k) := by decide +kernel
abbrev cX0_init : ByteArray := prog_2_method_1_code
def yX0_init : MethodName := ⟨RX0, "<init>", "()V"⟩
abbrev cX0_unit : ByteArray := prog_2_method_2_code
def yX0_unit : MethodName := ⟨RX0, "unit", "()[I"⟩
abbrev cX0_multiply : ByteArray := prog_2_method_3_code
def yX0_multiply : MethodName := ⟨RX0, "multiply", "([I[I[I)V"⟩
abbrev cX0_writeSymmetric : ByteArray := prog_2_method_4_code
def yX0_writeSymmetric : MethodName := ⟨RX0, "writeSymmetric", "([I[I)V"⟩
abbrev cX0_product : ByteArray := prog_2_method_5_code
def yX0_product : MethodName := ⟨RX0, "product", "([I[I[I)V"⟩
abbrev cX0_triple : ByteArray := prog_2_method_6_code
def yX0_triple : MethodName := ⟨RX0, "triple", "([I[I[I[I)V"⟩
abbrev cX0_operator : ByteArray := prog_2_method_7_code
def yX0_operator : MethodName := ⟨RX0, "operator", "([I[I[I)V"⟩
abbrev cX0_inverse : ByteArray := prog_2_method_8_code
def yX0_inverse : MethodName := ⟨RX0, "inverse", "([I[I)Z"⟩
abbrev cX0_readInverse : ByteArray := prog_2_method_9_code
def yX0_readInverse : MethodName := ⟨RX0, "readInverse", "([I)V"⟩
abbrev cX0_trace : ByteArray := prog_2_method_10_code
def yX0_trace : MethodName := ⟨RX0, "trace", "([I)I"⟩
abbrev cX0_rank : ByteArray := prog_2_method_11_code
def yX0_rank : MethodName := ⟨RX0, "rank", "([I)I"⟩
abbrev cX0_determinant : ByteArray := prog_2_method_12_code
def yX0_determinant : MethodName := ⟨RX0, "determinant", "([I)I"⟩
abbrev cX0_takeIdentityAsBase : ByteArray := prog_2_method_13_code
def yX0_takeIdentityAsBase : MethodName := ⟨RX0, "takeIdentityAsBase", "()V"⟩
abbrev cX0_takeAsBase : ByteArray := prog_2_method_14_code
def yX0_takeAsBase : MethodName := ⟨RX0, "takeAsBase", "([I)V"⟩
abbrev cX0_isOwnSquare : ByteArray := prog_2_method_15_code
def yX0_isOwnSquare : MethodName := ⟨RX0, "isOwnSquare", "([I)Z"⟩
abbrev cX0_findParts : ByteArray := prog_2_method_16_code
def yX0_findParts : MethodName := ⟨RX0, "findParts", "([I[I)V"⟩
abbrev cX0_raise : ByteArray := prog_2_method_17_code
def yX0_raise : MethodName := ⟨RX0, "raise", "([II)V"⟩
abbrev cX0_order : ByteArray := prog_2_method_18_code
def yX0_order : MethodName := ⟨RX0, "order", "([I)I"⟩
abbrev cX0_leastZeroPower : ByteArray := prog_2_method_19_code
def yX0_leastZeroPower : MethodName := ⟨RX0, "leastZeroPower", "([I)I"⟩
abbrev cX0_degree : ByteArray := prog_2_method_20_code
def yX0_degree : MethodName := ⟨RX0, "degree", "([I)I"⟩
abbrev cX0_tryRule : ByteArray := prog_2_method_21_code
def yX0_tryRule : MethodName := ⟨RX0, "tryRule", "([I[I[I)Z"⟩
abbrev cX0_countKind : ByteArray := prog_2_method_22_code
def yX0_countKind : MethodName := ⟨RX0, "countKind", "(I)I"⟩
abbrev cX0_isOfKind : ByteArray := prog_2_method_23_code
def yX0_isOfKind : MethodName := ⟨RX0, "isOfKind", "(I)Z"⟩
def RX1 : String := "PeirceDesk$Frame"
def TX1 : u_T := fun k => match k with
  | 0 => ("PeirceDesk$Frame", "sum", "[I", true)
  | 1 => ("PeirceDesk$Frame", "first", "[I", true)
  | 2 => ("PeirceDesk$Frame", "second", "[I", true)
  | 3 => ("PeirceDesk$Frame", "arguments", "I", false)
  | 4 => ("PeirceDesk$Frame", "kind", "C", false)
  | 5 => ("PeirceDesk$Frame", "place", "I", false)
  | 6 => ("PeirceDesk$Frame", "sign", "I", false)
  | _ => ("PeirceDesk$Frame", "times", "I", false)
def tyX1 : Nat → FieldType := fun k => match k with
  | 0 => .array .int
  | 1 => .array .int
  | 2 => .array .int
  | 3 => .int
  | 4 => .char
  | 5 => .int
  | 6 => .int
  | _ => .int
abbrev wsX10 : List Cond := u_ws RX1 TX1 8
theorem nmX1 : ∀ a, a < 8 → ∀ b, b < 8 → a ≠ b → (TX1 a).2.1 ≠ (TX1 b).2.1 := by decide +kernel
theorem tyX1_ok : ∀ k, k < 8 → parseFieldDescriptor (TX1 k).2.2.1 = some (tyX1 k) := by decide +kernel
abbrev cX1_init : ByteArray := prog_3_method_1_code
def yX1_init : MethodName := ⟨RX1, "<init>", "()V"⟩
abbrev cX1_open : ByteArray := prog_3_method_2_code
def yX1_open : MethodName := ⟨RX1, "open", "(CI)V"⟩
abbrev cX1_startSum : ByteArray := prog_3_method_3_code
def yX1_startSum : MethodName := ⟨RX1, "startSum", "()V"⟩
abbrev cX1_add : ByteArray := prog_3_method_4_code
def yX1_add : MethodName := ⟨RX1, "add", "([II)V"⟩
abbrev cX1_keepArgument : ByteArray := prog_3_method_5_code
def yX1_keepArgument : MethodName := ⟨RX1, "keepArgument", "()V"⟩
abbrev cX1_finish : ByteArray := prog_3_method_6_code
def yX1_finish : MethodName := ⟨RX1, "finish", "(LPeirceDesk$Algebra;)Z"⟩
def RX2 : String := "PeirceDesk$History"
def TX2 : u_T := fun k => match k with
  | 0 => ("PeirceDesk$History", "states", "[LPeirceDesk$State;", true)
  | 1 => ("PeirceDesk$History", "next", "I", false)
  | _ => ("PeirceDesk$History", "length", "I", false)
def tyX2 : Nat → FieldType := fun k => match k with
  | 0 => .array (.object "PeirceDesk$State")
  | 1 => .int
  | _ => .int
abbrev wsX20 : List Cond := u_ws RX2 TX2 3
theorem nmX2 : ∀ a, a < 3 → ∀ b, b < 3 → a ≠ b → (TX2 a).2.1 ≠ (TX2 b).2.1 := by decide +kernel
theorem tyX2_ok : ∀ k, k < 3 → parseFieldDescriptor (TX2 k).2.2.1 = some (tyX2 k) := by decide +kernel
abbrev cX2_init : ByteArray := prog_4_method_1_code
def yX2_init : MethodName := ⟨RX2, "<init>", "()V"⟩
abbrev cX2_remember : ByteArray := prog_4_method_2_code
def yX2_remember : MethodName := ⟨RX2, "remember", "(LPeirceDesk$State;)V"⟩
abbrev cX2_takeBack : ByteArray := prog_4_method_3_code
def yX2_takeBack : MethodName := ⟨RX2, "takeBack", "(LPeirceDesk$State;)V"⟩
def RX3 : String := "PeirceDesk$Pad"
def TX3 : u_T := fun k => match k with
  | 0 => ("PeirceDesk$Pad", "signs", "[C", true)
  | 1 => ("PeirceDesk$Pad", "length", "I", false)
  | 2 => ("PeirceDesk$Pad", "commas", "[I", true)
  | 3 => ("PeirceDesk$Pad", "open", "I", false)
  | 4 => ("PeirceDesk$Pad", "nextCommas", "I", false)
  | 5 => ("PeirceDesk$Pad", "awaited", "I", false)
  | _ => ("PeirceDesk$Pad", "divided", "Z", false)
def tyX3 : Nat → FieldType := fun k => match k with
  | 0 => .array .char
  | 1 => .int
  | 2 => .array .int
  | 3 => .int
  | 4 => .int
  | 5 => .int
  | _ => .boolean
abbrev wsX30 : List Cond := u_ws RX3 TX3 7
theorem nmX3 : ∀ a, a < 7 → ∀ b, b < 7 → a ≠ b → (TX3 a).2.1 ≠ (TX3 b).2.1 := by decide +kernel
theorem tyX3_ok : ∀ k, k < 7 → parseFieldDescriptor (TX3 k).2.2.1 = some (tyX3 k) := by decide +kernel
abbrev cX3_init : ByteArray := prog_5_method_1_code
def yX3_init : MethodName := ⟨RX3, "<init>", "()V"⟩
abbrev cX3_charactersIn : ByteArray := prog_5_method_2_code
def yX3_charactersIn : MethodName := ⟨RX3, "charactersIn", "(J)I"⟩
abbrev cX3_append : ByteArray := prog_5_method_3_code
def yX3_append : MethodName := ⟨RX3, "append", "(JI)V"⟩
abbrev cX3_target : ByteArray := prog_5_method_4_code
def yX3_target : MethodName := ⟨RX3, "target", "()I"⟩
abbrev cX3_findFault : ByteArray := prog_5_method_5_code
def yX3_findFault : MethodName := ⟨RX3, "findFault", "()I"⟩
abbrev cX3_takes : ByteArray := prog_5_method_6_code
def yX3_takes : MethodName := ⟨RX3, "takes", "(CI)Z"⟩
abbrev cX3_takesDigit : ByteArray := prog_5_method_7_code
def yX3_takesDigit : MethodName := ⟨RX3, "takesDigit", "(C)Z"⟩
abbrev cX3_takesFactor : ByteArray := prog_5_method_8_code
def yX3_takesFactor : MethodName := ⟨RX3, "takesFactor", "(C)Z"⟩
abbrev cX3_takesBracket : ByteArray := prog_5_method_9_code
def yX3_takesBracket : MethodName := ⟨RX3, "takesBracket", "()Z"⟩
abbrev cX3_takesInside : ByteArray := prog_5_method_10_code
def yX3_takesInside : MethodName := ⟨RX3, "takesInside", "(C)Z"⟩
abbrev cX3_takesOutside : ByteArray := prog_5_method_11_code
def yX3_takesOutside : MethodName := ⟨RX3, "takesOutside", "(CI)Z"⟩
abbrev cX3_takesSign : ByteArray := prog_5_method_12_code
def yX3_takesSign : MethodName := ⟨RX3, "takesSign", "(C)Z"⟩
def RX4 : String := "PeirceDesk$Reckoner"
def TX4 : u_T := fun k => match k with
  | 0 => ("PeirceDesk$Reckoner", "frames", "[LPeirceDesk$Frame;", true)
  | 1 => ("PeirceDesk$Reckoner", "open", "I", false)
  | _ => ("PeirceDesk$Reckoner", "leftSide", "[I", true)
def tyX4 : Nat → FieldType := fun k => match k with
  | 0 => .array (.object "PeirceDesk$Frame")
  | 1 => .int
  | _ => .array .int
abbrev wsX40 : List Cond := u_ws RX4 TX4 3
theorem nmX4 : ∀ a, a < 3 → ∀ b, b < 3 → a ≠ b → (TX4 a).2.1 ≠ (TX4 b).2.1 := by decide +kernel
theorem tyX4_ok : ∀ k, k < 3 → parseFieldDescriptor (TX4 k).2.2.1 = some (tyX4 k) := by decide +kernel
abbrev cX4_init : ByteArray := prog_6_method_1_code
def yX4_init : MethodName := ⟨RX4, "<init>", "()V"⟩
abbrev cX4_result : ByteArray := prog_6_method_2_code
def yX4_result : MethodName := ⟨RX4, "result", "()[I"⟩
abbrev cX4_carryOut : ByteArray := prog_6_method_3_code
def yX4_carryOut : MethodName := ⟨RX4, "carryOut", "(LPeirceDesk$Pad;LPeirceDesk$Algebra;)I"⟩
abbrev cX4_openBracket : ByteArray := prog_6_method_4_code
def yX4_openBracket : MethodName := ⟨RX4, "openBracket", "(CI)V"⟩
abbrev cX4_closeBracket : ByteArray := prog_6_method_5_code
def yX4_closeBracket : MethodName := ⟨RX4, "closeBracket", "(I)V"⟩
abbrev cX4_read : ByteArray := prog_6_method_6_code
def yX4_read : MethodName := ⟨RX4, "read", "(CLPeirceDesk$Frame;LPeirceDesk$State;)V"⟩
def RX5 : String := "PeirceDesk$Rows"
def TX5 : u_T := fun k => match k with
  | 0 => ("PeirceDesk$Rows", "cells", "[[I", true)
  | 1 => ("PeirceDesk$Rows", "modulus", "I", false)
  | _ => ("PeirceDesk$Rows", "pivots", "I", false)
def tyX5 : Nat → FieldType := fun k => match k with
  | 0 => .array (.array .int)
  | 1 => .int
  | _ => .int
abbrev wsX50 : List Cond := u_ws RX5 TX5 3
theorem nmX5 : ∀ a, a < 3 → ∀ b, b < 3 → a ≠ b → (TX5 a).2.1 ≠ (TX5 b).2.1 := by decide +kernel
theorem tyX5_ok : ∀ k, k < 3 → parseFieldDescriptor (TX5 k).2.2.1 = some (tyX5 k) := by decide +kernel
abbrev cX5_init : ByteArray := prog_7_method_1_code
def yX5_init : MethodName := ⟨RX5, "<init>", "()V"⟩
abbrev cX5_load : ByteArray := prog_7_method_2_code
def yX5_load : MethodName := ⟨RX5, "load", "([ILPeirceDesk$State;)V"⟩
abbrev cX5_loadAll : ByteArray := prog_7_method_3_code
def yX5_loadAll : MethodName := ⟨RX5, "loadAll", "([[III)V"⟩
abbrev cX5_clearRow : ByteArray := prog_7_method_4_code
def yX5_clearRow : MethodName := ⟨RX5, "clearRow", "(I)V"⟩
abbrev cX5_reduce : ByteArray := prog_7_method_5_code
def yX5_reduce : MethodName := ⟨RX5, "reduce", "(I)I"⟩
abbrev cX5_pivotRow : ByteArray := prog_7_method_6_code
def yX5_pivotRow : MethodName := ⟨RX5, "pivotRow", "(II)I"⟩
abbrev cX5_exchange : ByteArray := prog_7_method_7_code
def yX5_exchange : MethodName := ⟨RX5, "exchange", "(II)V"⟩
abbrev cX5_makePivotOne : ByteArray := prog_7_method_8_code
def yX5_makePivotOne : MethodName := ⟨RX5, "makePivotOne", "(II)V"⟩
abbrev cX5_clearColumn : ByteArray := prog_7_method_9_code
def yX5_clearColumn : MethodName := ⟨RX5, "clearColumn", "(II)V"⟩
def RX6 : String := "PeirceDesk$State"
def TX6 : u_T := fun k => match k with
  | 0 => ("PeirceDesk$State", "size", "I", false)
  | 1 => ("PeirceDesk$State", "modulus", "I", false)
  | _ => ("PeirceDesk$State", "elements", "[[I", true)
def tyX6 : Nat → FieldType := fun k => match k with
  | 0 => .int
  | 1 => .int
  | _ => .array (.array .int)
abbrev wsX60 : List Cond := u_ws RX6 TX6 3
theorem nmX6 : ∀ a, a < 3 → ∀ b, b < 3 → a ≠ b → (TX6 a).2.1 ≠ (TX6 b).2.1 := by decide +kernel
theorem tyX6_ok : ∀ k, k < 3 → parseFieldDescriptor (TX6 k).2.2.1 = some (tyX6 k) := by decide +kernel
abbrev cX6_init : ByteArray := prog_8_method_1_code
def yX6_init : MethodName := ⟨RX6, "<init>", "()V"⟩
abbrev cX6_clear : ByteArray := prog_8_method_2_code
def yX6_clear : MethodName := ⟨RX6, "clear", "(II)V"⟩
abbrev cX6_writeIdentity : ByteArray := prog_8_method_3_code
def yX6_writeIdentity : MethodName := ⟨RX6, "writeIdentity", "([I)V"⟩
abbrev cX6_copyFrom : ByteArray := prog_8_method_4_code
def yX6_copyFrom : MethodName := ⟨RX6, "copyFrom", "(LPeirceDesk$State;)V"⟩
def RX7 : String := "PeirceDesk"
def TX7 : u_T := fun k => match k with
  | 0 => ("PeirceDesk", "algebra", "LPeirceDesk$Algebra;", true)
  | 1 => ("PeirceDesk", "pad", "LPeirceDesk$Pad;", true)
  | 2 => ("PeirceDesk", "reckoner", "LPeirceDesk$Reckoner;", true)
  | 3 => ("PeirceDesk", "history", "LPeirceDesk$History;", true)
  | 4 => ("PeirceDesk", "slots", "[LPeirceDesk$State;", true)
  | _ => ("PeirceDesk", "saved", "[Z", true)
def tyX7 : Nat → FieldType := fun k => match k with
  | 0 => .object "PeirceDesk$Algebra"
  | 1 => .object "PeirceDesk$Pad"
  | 2 => .object "PeirceDesk$Reckoner"
  | 3 => .object "PeirceDesk$History"
  | 4 => .array (.object "PeirceDesk$State")
  | _ => .array .boolean
abbrev wsX70 : List Cond := u_ws RX7 TX7 6
theorem nmX7 : ∀ a, a < 6 → ∀ b, b < 6 → a ≠ b → (TX7 a).2.1 ≠ (TX7 b).2.1 := by decide +kernel
theorem tyX7_ok : ∀ k, k < 6 → parseFieldDescriptor (TX7 k).2.2.1 = some (tyX7 k) := by decide +kernel
abbrev cX7_init : ByteArray := prog_1_method_1_code
def yX7_init : MethodName := ⟨RX7, "<init>", "()V"⟩
abbrev cX7_begin : ByteArray := prog_1_method_2_code
def yX7_begin : MethodName := ⟨RX7, "begin", "(II)I"⟩
abbrev cX7_set : ByteArray := prog_1_method_3_code
def yX7_set : MethodName := ⟨RX7, "set", "(IIII)I"⟩
abbrev cX7_base : ByteArray := prog_1_method_4_code
def yX7_base : MethodName := ⟨RX7, "base", "(I)I"⟩
abbrev cX7_split : ByteArray := prog_1_method_5_code
def yX7_split : MethodName := ⟨RX7, "split", "(III)I"⟩
abbrev cX7_run : ByteArray := prog_1_method_6_code
def yX7_run : MethodName := ⟨RX7, "run", "()I"⟩
abbrev cX7_entry : ByteArray := prog_1_method_7_code
def yX7_entry : MethodName := ⟨RX7, "entry", "(III)I"⟩
abbrev cX7_of : ByteArray := prog_1_method_8_code
def yX7_of : MethodName := ⟨RX7, "of", "(II)I"⟩
abbrev cX7_count : ByteArray := prog_1_method_9_code
def yX7_count : MethodName := ⟨RX7, "count", "(I)I"⟩
abbrev cX7_areSame : ByteArray := prog_1_method_10_code
def yX7_areSame : MethodName := ⟨RX7, "areSame", "(II)I"⟩
abbrev cX7_power : ByteArray := prog_1_method_11_code
def yX7_power : MethodName := ⟨RX7, "power", "(IIII)I"⟩
abbrev cX7_rule : ByteArray := prog_1_method_12_code
def yX7_rule : MethodName := ⟨RX7, "rule", "(IIII)I"⟩
abbrev cX7_partSize : ByteArray := prog_1_method_13_code
def yX7_partSize : MethodName := ⟨RX7, "partSize", "(II)I"⟩
abbrev cX7_howMany : ByteArray := prog_1_method_14_code
def yX7_howMany : MethodName := ⟨RX7, "howMany", "(I)I"⟩
abbrev cX7_holds : ByteArray := prog_1_method_15_code
def yX7_holds : MethodName := ⟨RX7, "holds", "()I"⟩
abbrev cX7_stops : ByteArray := prog_1_method_16_code
def yX7_stops : MethodName := ⟨RX7, "stops", "()I"⟩
abbrev cX7_put : ByteArray := prog_1_method_17_code
def yX7_put : MethodName := ⟨RX7, "put", "(J)I"⟩
abbrev cX7_wipe : ByteArray := prog_1_method_18_code
def yX7_wipe : MethodName := ⟨RX7, "wipe", "()I"⟩
abbrev cX7_fault : ByteArray := prog_1_method_19_code
def yX7_fault : MethodName := ⟨RX7, "fault", "()I"⟩
abbrev cX7_undo : ByteArray := prog_1_method_20_code
def yX7_undo : MethodName := ⟨RX7, "undo", "()I"⟩
abbrev cX7_save : ByteArray := prog_1_method_21_code
def yX7_save : MethodName := ⟨RX7, "save", "(I)I"⟩
abbrev cX7_restore : ByteArray := prog_1_method_22_code
def yX7_restore : MethodName := ⟨RX7, "restore", "(I)I"⟩
abbrev cX7_isRegister : ByteArray := prog_1_method_23_code
def yX7_isRegister : MethodName := ⟨RX7, "isRegister", "(I)Z"⟩
abbrev cX7_isElement : ByteArray := prog_1_method_24_code
def yX7_isElement : MethodName := ⟨RX7, "isElement", "(I)Z"⟩
abbrev cX7_isPlace : ByteArray := prog_1_method_25_code
def yX7_isPlace : MethodName := ⟨RX7, "isPlace", "(II)Z"⟩
abbrev cX7_registersNotZero : ByteArray := prog_1_method_26_code
def yX7_registersNotZero : MethodName := ⟨RX7, "registersNotZero", "()I"⟩
abbrev cX7_registersOwnSquares : ByteArray := prog_1_method_27_code
def yX7_registersOwnSquares : MethodName := ⟨RX7, "registersOwnSquares", "()I"⟩
abbrev cX7_partExponent : ByteArray := prog_1_method_28_code
def yX7_partExponent : MethodName := ⟨RX7, "partExponent", "(III)I"⟩
abbrev cX7_reduced : ByteArray := prog_1_method_29_code
def yX7_reduced : MethodName := ⟨RX7, "reduced", "(II)I"⟩
abbrev cX7_copy : ByteArray := prog_1_method_30_code
def yX7_copy : MethodName := ⟨RX7, "copy", "([I[I)V"⟩
abbrev cX7_same : ByteArray := prog_1_method_31_code
def yX7_same : MethodName := ⟨RX7, "same", "([I[I)Z"⟩
abbrev cX7_isZero : ByteArray := prog_1_method_32_code
def yX7_isZero : MethodName := ⟨RX7, "isZero", "([I)Z"⟩
abbrev cX7_registerOf : ByteArray := prog_1_method_33_code
def yX7_registerOf : MethodName := ⟨RX7, "registerOf", "(C)I"⟩
def RX8 : String := "PeirceDeskModel"
def TX8 : u_T := fun k => match k with
  | 0 => ("PeirceDeskModel", "z", "[I", true)
  | 1 => ("PeirceDeskModel", "past", "[I", true)
  | 2 => ("PeirceDeskModel", "slots", "[I", true)
  | 3 => ("PeirceDeskModel", "isSaved", "[Z", true)
  | 4 => ("PeirceDeskModel", "pastMany", "I", false)
  | 5 => ("PeirceDeskModel", "pad", "[C", true)
  | 6 => ("PeirceDeskModel", "typed", "I", false)
  | 7 => ("PeirceDeskModel", "w", "[I", true)
  | 8 => ("PeirceDeskModel", "rows", "[I", true)
  | 9 => ("PeirceDeskModel", "rowMany", "I", false)
  | 10 => ("PeirceDeskModel", "letters", "[I", true)
  | 11 => ("PeirceDeskModel", "sums", "[I", true)
  | 12 => ("PeirceDeskModel", "often", "[I", true)
  | 13 => ("PeirceDeskModel", "places", "[I", true)
  | 14 => ("PeirceDeskModel", "depth", "I", false)
  | 15 => ("PeirceDeskModel", "wants", "I", false)
  | 16 => ("PeirceDeskModel", "isFormula", "Z", false)
  | 17 => ("PeirceDeskModel", "isEquation", "Z", false)
  | 18 => ("PeirceDeskModel", "stop", "I", false)
  | _ => ("PeirceDeskModel", "works", "Z", false)
def tyX8 : Nat → FieldType := fun k => match k with
  | 0 => .array .int
  | 1 => .array .int
  | 2 => .array .int
  | 3 => .array .boolean
  | 4 => .int
  | 5 => .array .char
  | 6 => .int
  | 7 => .array .int
  | 8 => .array .int
  | 9 => .int
  | 10 => .array .int
  | 11 => .array .int
  | 12 => .array .int
  | 13 => .array .int
  | 14 => .int
  | 15 => .int
  | 16 => .boolean
  | 17 => .boolean
  | 18 => .int
  | _ => .boolean
abbrev wsX80 : List Cond := u_ws RX8 TX8 20
theorem nmX8 : ∀ a, a < 20 → ∀ b, b < 20 → a ≠ b → (TX8 a).2.1 ≠ (TX8 b).2.1 := by decide +kernel
theorem tyX8_ok : ∀ k, k < 20 → parseFieldDescriptor (TX8 k).2.2.1 = some (tyX8 k) := by decide +kernel
abbrev cX8_init : ByteArray := prog_10_method_1_code
def yX8_init : MethodName := ⟨RX8, "<init>", "()V"⟩
abbrev cX8_in : ByteArray := prog_10_method_2_code
def yX8_in : MethodName := ⟨RX8, "in", "(III)Z"⟩
abbrev cX8_isRegister : ByteArray := prog_10_method_3_code
def yX8_isRegister : MethodName := ⟨RX8, "isRegister", "(I)Z"⟩
abbrev cX8_clear : ByteArray := prog_10_method_4_code
def yX8_clear : MethodName := ⟨RX8, "clear", "(II)V"⟩
abbrev cX8_record : ByteArray := prog_10_method_5_code
def yX8_record : MethodName := ⟨RX8, "record", "()V"⟩
abbrev cX8_undo : ByteArray := prog_10_method_6_code
def yX8_undo : MethodName := ⟨RX8, "undo", "()I"⟩
abbrev cX8_save : ByteArray := prog_10_method_7_code
def yX8_save : MethodName := ⟨RX8, "save", "(I)I"⟩
abbrev cX8_restore : ByteArray := prog_10_method_8_code
def yX8_restore : MethodName := ⟨RX8, "restore", "(I)I"⟩
abbrev cX8_half : ByteArray := prog_10_method_9_code
def yX8_half : MethodName := ⟨RX8, "half", "()I"⟩
abbrev cX8_within : ByteArray := prog_10_method_10_code
def yX8_within : MethodName := ⟨RX8, "within", "(I)I"⟩
abbrev cX8_over : ByteArray := prog_10_method_11_code
def yX8_over : MethodName := ⟨RX8, "over", "(I)I"⟩
abbrev cX8_times : ByteArray := prog_10_method_12_code
def yX8_times : MethodName := ⟨RX8, "times", "(III)V"⟩
abbrev cX8_copy : ByteArray := prog_10_method_13_code
def yX8_copy : MethodName := ⟨RX8, "copy", "(II)V"⟩
abbrev cX8_blank : ByteArray := prog_10_method_14_code
def yX8_blank : MethodName := ⟨RX8, "blank", "(I)V"⟩
abbrev cX8_add : ByteArray := prog_10_method_15_code
def yX8_add : MethodName := ⟨RX8, "add", "(IIIII)V"⟩
abbrev cX8_areAlike : ByteArray := prog_10_method_16_code
def yX8_areAlike : MethodName := ⟨RX8, "areAlike", "(II)Z"⟩
abbrev cX8_isNothing : ByteArray := prog_10_method_17_code
def yX8_isNothing : MethodName := ⟨RX8, "isNothing", "(I)Z"⟩
abbrev cX8_cellOf : ByteArray := prog_10_method_18_code
def yX8_cellOf : MethodName := ⟨RX8, "cellOf", "(III)I"⟩
abbrev cX8_determinant : ByteArray := prog_10_method_19_code
def yX8_determinant : MethodName := ⟨RX8, "determinant", "(I)I"⟩
abbrev cX8_invert : ByteArray := prog_10_method_20_code
def yX8_invert : MethodName := ⟨RX8, "invert", "(II)V"⟩
abbrev cX8_layBase : ByteArray := prog_10_method_21_code
def yX8_layBase : MethodName := ⟨RX8, "layBase", "()V"⟩
abbrev cX8_load : ByteArray := prog_10_method_22_code
def yX8_load : MethodName := ⟨RX8, "load", "(II)V"⟩
abbrev cX8_store : ByteArray := prog_10_method_23_code
def yX8_store : MethodName := ⟨RX8, "store", "(II)V"⟩
abbrev cX8_product : ByteArray := prog_10_method_24_code
def yX8_product : MethodName := ⟨RX8, "product", "(III)V"⟩
abbrev cX8_operator : ByteArray := prog_10_method_25_code
def yX8_operator : MethodName := ⟨RX8, "operator", "(III)V"⟩
abbrev cX8_triple : ByteArray := prog_10_method_26_code
def yX8_triple : MethodName := ⟨RX8, "triple", "(IIII)V"⟩
abbrev cX8_inverse : ByteArray := prog_10_method_27_code
def yX8_inverse : MethodName := ⟨RX8, "inverse", "(II)Z"⟩
abbrev cX8_isOwnSquare : ByteArray := prog_10_method_28_code
def yX8_isOwnSquare : MethodName := ⟨RX8, "isOwnSquare", "(I)Z"⟩
abbrev cX8_part : ByteArray := prog_10_method_29_code
def yX8_part : MethodName := ⟨RX8, "part", "(I)V"⟩
abbrev cX8_begin : ByteArray := prog_10_method_30_code
def yX8_begin : MethodName := ⟨RX8, "begin", "(II)I"⟩
abbrev cX8_isCell : ByteArray := prog_10_method_31_code
def yX8_isCell : MethodName := ⟨RX8, "isCell", "(II)Z"⟩
abbrev cX8_set : ByteArray := prog_10_method_32_code
def yX8_set : MethodName := ⟨RX8, "set", "(IIII)I"⟩
abbrev cX8_base : ByteArray := prog_10_method_33_code
def yX8_base : MethodName := ⟨RX8, "base", "(I)I"⟩
abbrev cX8_split : ByteArray := prog_10_method_34_code
def yX8_split : MethodName := ⟨RX8, "split", "(III)I"⟩
abbrev cX8_entry : ByteArray := prog_10_method_35_code
def yX8_entry : MethodName := ⟨RX8, "entry", "(III)I"⟩
abbrev cX8_isNew : ByteArray := prog_10_method_36_code
def yX8_isNew : MethodName := ⟨RX8, "isNew", "(I)Z"⟩
abbrev cX8_leadOf : ByteArray := prog_10_method_37_code
def yX8_leadOf : MethodName := ⟨RX8, "leadOf", "(I)I"⟩
abbrev cX8_rankOf : ByteArray := prog_10_method_38_code
def yX8_rankOf : MethodName := ⟨RX8, "rankOf", "(I)I"⟩
abbrev cX8_orderOf : ByteArray := prog_10_method_39_code
def yX8_orderOf : MethodName := ⟨RX8, "orderOf", "(I)I"⟩
abbrev cX8_degreeOf : ByteArray := prog_10_method_40_code
def yX8_degreeOf : MethodName := ⟨RX8, "degreeOf", "(I)I"⟩
abbrev cX8_endOf : ByteArray := prog_10_method_41_code
def yX8_endOf : MethodName := ⟨RX8, "endOf", "(I)I"⟩
abbrev cX8_trace : ByteArray := prog_10_method_42_code
def yX8_trace : MethodName := ⟨RX8, "trace", "(I)I"⟩
abbrev cX8_of : ByteArray := prog_10_method_43_code
def yX8_of : MethodName := ⟨RX8, "of", "(II)I"⟩
abbrev cX8_registersThat : ByteArray := prog_10_method_44_code
def yX8_registersThat : MethodName := ⟨RX8, "registersThat", "(Z)I"⟩
abbrev cX8_count : ByteArray := prog_10_method_45_code
def yX8_count : MethodName := ⟨RX8, "count", "(I)I"⟩
abbrev cX8_areSame : ByteArray := prog_10_method_46_code
def yX8_areSame : MethodName := ⟨RX8, "areSame", "(II)I"⟩
abbrev cX8_power : ByteArray := prog_10_method_47_code
def yX8_power : MethodName := ⟨RX8, "power", "(IIII)I"⟩
abbrev cX8_rule : ByteArray := prog_10_method_48_code
def yX8_rule : MethodName := ⟨RX8, "rule", "(IIII)I"⟩
abbrev cX8_partSize : ByteArray := prog_10_method_49_code
def yX8_partSize : MethodName := ⟨RX8, "partSize", "(II)I"⟩
abbrev cX8_isOfKind : ByteArray := prog_10_method_50_code
def yX8_isOfKind : MethodName := ⟨RX8, "isOfKind", "(II)Z"⟩
abbrev cX8_howMany : ByteArray := prog_10_method_51_code
def yX8_howMany : MethodName := ⟨RX8, "howMany", "(I)I"⟩
abbrev cX8_put : ByteArray := prog_10_method_52_code
def yX8_put : MethodName := ⟨RX8, "put", "(J)I"⟩
abbrev cX8_wipe : ByteArray := prog_10_method_53_code
def yX8_wipe : MethodName := ⟨RX8, "wipe", "()I"⟩
abbrev cX8_isOne : ByteArray := prog_10_method_54_code
def yX8_isOne : MethodName := ⟨RX8, "isOne", "(I)Z"⟩
abbrev cX8_isLetter : ByteArray := prog_10_method_55_code
def yX8_isLetter : MethodName := ⟨RX8, "isLetter", "(I)Z"⟩
abbrev cX8_sumsOf : ByteArray := prog_10_method_56_code
def yX8_sumsOf : MethodName := ⟨RX8, "sumsOf", "(I)I"⟩
abbrev cX8_pileOf : ByteArray := prog_10_method_57_code
def yX8_pileOf : MethodName := ⟨RX8, "pileOf", "(II)I"⟩
abbrev cX8_opens : ByteArray := prog_10_method_58_code
def yX8_opens : MethodName := ⟨RX8, "opens", "(II)V"⟩
abbrev cX8_counts : ByteArray := prog_10_method_59_code
def yX8_counts : MethodName := ⟨RX8, "counts", "(I)V"⟩
abbrev cX8_closes : ByteArray := prog_10_method_60_code
def yX8_closes : MethodName := ⟨RX8, "closes", "()V"⟩
abbrev cX8_factor : ByteArray := prog_10_method_61_code
def yX8_factor : MethodName := ⟨RX8, "factor", "(II)Z"⟩
abbrev cX8_behind : ByteArray := prog_10_method_62_code
def yX8_behind : MethodName := ⟨RX8, "behind", "(II)Z"⟩
abbrev cX8_stands : ByteArray := prog_10_method_63_code
def yX8_stands : MethodName := ⟨RX8, "stands", "(II)Z"⟩
abbrev cX8_work : ByteArray := prog_10_method_64_code
def yX8_work : MethodName := ⟨RX8, "work", "()I"⟩
abbrev cX8_fault : ByteArray := prog_10_method_65_code
def yX8_fault : MethodName := ⟨RX8, "fault", "()I"⟩
abbrev cX8_run : ByteArray := prog_10_method_66_code
def yX8_run : MethodName := ⟨RX8, "run", "()I"⟩
abbrev cX8_holds : ByteArray := prog_10_method_67_code
def yX8_holds : MethodName := ⟨RX8, "holds", "()I"⟩
abbrev cX8_stops : ByteArray := prog_10_method_68_code
def yX8_stops : MethodName := ⟨RX8, "stops", "()I"⟩
def RJ9 : String := "java/lang/Math"
def TJ9 : u_T := fun k => match k with
  | _ => ("", "", "", false)
def tyJ9 : Nat → FieldType := fun k => match k with
  | _ => .int
abbrev wsJ90 : List Cond := u_ws RJ9 TJ9 0
theorem nmJ9 : ∀ a, a < 0 → ∀ b, b < 0 → a ≠ b → (TJ9 a).2.1 ≠ (TJ9 b).2.1 := by decide +kernel
theorem tyJ9_ok : ∀ k, k < 0 → parseFieldDescriptor (TJ9 k).2.2.1 = some (tyJ9 k) := by decide +kernel
abbrev cJ9_min_7cf53 : ByteArray := prog_11_method_69_code
def yJ9_min_7cf53 : MethodName := ⟨RJ9, "min", "(II)I"⟩
def RJ10 : String := "java/lang/System"
def TJ10 : u_T := fun k => match k with
  | _ => ("", "", "", false)
def tyJ10 : Nat → FieldType := fun k => match k with
  | _ => .int
abbrev wsJ100 : List Cond := u_ws RJ10 TJ10 0
theorem nmJ10 : ∀ a, a < 0 → ∀ b, b < 0 → a ≠ b → (TJ10 a).2.1 ≠ (TJ10 b).2.1 := by decide +kernel
theorem tyJ10_ok : ∀ k, k < 0 → parseFieldDescriptor (TJ10 k).2.2.1 = some (tyJ10 k) := by decide +kernel
def RL : String := "PeirceDeskLaw"
abbrev cL_law : ByteArray := code
def yL_law : MethodName := ⟨RL, "law", "([I)Z"⟩
def wsX6_writeIdentity : List Cond := .code yX6_writeIdentity cX6_writeIdentity 4 none :: ([.fieldLink RX6 20 "PeirceDesk$State" "size" "I"] ++ wsX60)
def wsX6_clear : List Cond := .code yX6_clear cX6_clear 5 none :: ([.fieldLink RX6 20 "PeirceDesk$State" "size" "I", .fieldLink RX6 24 "PeirceDesk$State" "modulus" "I", .fieldLink RX6 11 "PeirceDesk$State" "elements" "[[I", .methodLink RX6 27 yX6_writeIdentity, .instanceMethod yX6_writeIdentity, .selects RX6 yX6_writeIdentity yX6_writeIdentity, .initialized RX6, .code yX6_writeIdentity cX6_writeIdentity 4 none] ++ wsX60)
def wsX6_init : List Cond := .code yX6_init cX6_init 1 none :: ([.methodLink RX6 3 objectInit, .instanceMethod objectInit, .code objectInit ⟨#[0xb1]⟩ 1 none, .classLink RX6 9 "[[I", .arrayClass .int, .fieldLink RX6 11 "PeirceDesk$State" "elements" "[[I", .methodLink RX6 16 yX6_clear, .instanceMethod yX6_clear, .selects RX6 yX6_clear yX6_clear, .initialized RX6, .code yX6_clear cX6_clear 5 none, .fieldLink RX6 20 "PeirceDesk$State" "size" "I", .fieldLink RX6 24 "PeirceDesk$State" "modulus" "I", .methodLink RX6 27 yX6_writeIdentity, .instanceMethod yX6_writeIdentity, .selects RX6 yX6_writeIdentity yX6_writeIdentity, .code yX6_writeIdentity cX6_writeIdentity 4 none] ++ wsX60)
def wsX5_init : List Cond := .code yX5_init cX5_init 1 none :: ([.methodLink RX5 3 objectInit, .instanceMethod objectInit, .code objectInit ⟨#[0xb1]⟩ 1 none, .classLink RX5 9 "[[I", .arrayClass .int, .fieldLink RX5 11 "PeirceDesk$Rows" "cells" "[[I"] ++ wsX50)
def wsX0_init_r1 : List Cond := [Cond.methodLink RX0 3 objectInit, Cond.instanceMethod objectInit, Cond.code objectInit ⟨#[0xb1]⟩ 1 none, Cond.classLink RX0 9 RX6, Cond.instantiable RX6 3, Cond.initialized RX6, Cond.fieldLink RX0 12 "PeirceDesk$Algebra" "now" "LPeirceDesk$State;", Cond.classLink RX0 18 RX5, Cond.instantiable RX5 3, Cond.initialized RX5, Cond.fieldLink RX0 21 "PeirceDesk$Algebra" "rows" "LPeirceDesk$Rows;", Cond.classLink RX0 25 "[[I", Cond.arrayClass .int, Cond.fieldLink RX0 27 "PeirceDesk$Algebra" "parts" "[[I", Cond.fieldLink RX0 30 "PeirceDesk$Algebra" "power" "[I", Cond.fieldLink RX0 34 "PeirceDesk$Algebra" "oneSide" "[I", Cond.fieldLink RX0 37 "PeirceDesk$Algebra" "left" "[I", Cond.fieldLink RX0 40 "PeirceDesk$Algebra" "right" "[I", Cond.fieldLink RX0 43 "PeirceDesk$Algebra" "square" "[I", Cond.fieldLink RX0 46 "PeirceDesk$Algebra" "otherSide" "[I", Cond.fieldLink RX0 49 "PeirceDesk$Algebra" "candidate" "[I", Cond.fieldLink RX0 52 "PeirceDesk$Algebra" "powers" "[[I", Cond.methodLink RX0 11 yX6_init, Cond.instanceMethod yX6_init]
def wsX0_init_r2 : List Cond := [Cond.code yX6_init cX6_init 1 none, Cond.methodLink RX6 3 objectInit, Cond.classLink RX6 9 "[[I", Cond.fieldLink RX6 11 "PeirceDesk$State" "elements" "[[I", Cond.methodLink RX6 16 yX6_clear, Cond.instanceMethod yX6_clear, Cond.selects RX6 yX6_clear yX6_clear, Cond.code yX6_clear cX6_clear 5 none, Cond.fieldLink RX6 20 "PeirceDesk$State" "size" "I", Cond.fieldLink RX6 24 "PeirceDesk$State" "modulus" "I", Cond.methodLink RX6 27 yX6_writeIdentity, Cond.instanceMethod yX6_writeIdentity, Cond.selects RX6 yX6_writeIdentity yX6_writeIdentity, Cond.code yX6_writeIdentity cX6_writeIdentity 4 none, Cond.methodLink RX0 20 yX5_init, Cond.instanceMethod yX5_init, Cond.code yX5_init cX5_init 1 none, Cond.methodLink RX5 3 objectInit, Cond.classLink RX5 9 "[[I", Cond.fieldLink RX5 11 "PeirceDesk$Rows" "cells" "[[I"]
def wsX0_init : List Cond := .code yX0_init cX0_init 1 none :: ((wsX0_init_r1 ++ wsX0_init_r2) ++ wsX60 ++ wsX00 ++ wsX50)
def wsX0_unit : List Cond := .code yX0_unit cX0_unit 1 (some (.array .int)) :: ([.fieldLink RX0 12 "PeirceDesk$Algebra" "now" "LPeirceDesk$State;"] ++ wsX00 ++ wsX60)
def wsX7_reduced : List Cond := .code yX7_reduced cX7_reduced 3 (some .int) :: ([])
def wsX0_multiply : List Cond := .code yX0_multiply cX0_multiply 8 none :: ([.fieldLink RX0 12 "PeirceDesk$Algebra" "now" "LPeirceDesk$State;", .static yX7_reduced, .initialized RX7, .code yX7_reduced cX7_reduced 3 (some .int)] ++ wsX00 ++ wsX60)
def wsX0_writeSymmetric : List Cond := .code yX0_writeSymmetric cX0_writeSymmetric 7 none :: ([.fieldLink RX0 12 "PeirceDesk$Algebra" "now" "LPeirceDesk$State;", .static yX7_reduced, .initialized RX7, .code yX7_reduced cX7_reduced 3 (some .int)] ++ wsX00 ++ wsX60)
def wsX0_product : List Cond := .code yX0_product cX0_product 4 none :: ([.fieldLink RX0 12 "PeirceDesk$Algebra" "now" "LPeirceDesk$State;", .fieldLink RX0 37 "PeirceDesk$Algebra" "left" "[I", .fieldLink RX0 40 "PeirceDesk$Algebra" "right" "[I", .methodLink RX0 66 yX0_multiply, .instanceMethod yX0_multiply, .selects RX0 yX0_multiply yX0_multiply, .initialized RX0, .code yX0_multiply cX0_multiply 8 none, .static yX7_reduced, .initialized RX7, .code yX7_reduced cX7_reduced 3 (some .int), .methodLink RX0 70 yX0_writeSymmetric, .instanceMethod yX0_writeSymmetric, .selects RX0 yX0_writeSymmetric yX0_writeSymmetric, .code yX0_writeSymmetric cX0_writeSymmetric 7 none] ++ wsX00 ++ wsX60)
def wsX0_triple : List Cond := .code yX0_triple cX0_triple 5 none :: ([.fieldLink RX0 12 "PeirceDesk$Algebra" "now" "LPeirceDesk$State;", .fieldLink RX0 37 "PeirceDesk$Algebra" "left" "[I", .fieldLink RX0 40 "PeirceDesk$Algebra" "right" "[I", .methodLink RX0 66 yX0_multiply, .instanceMethod yX0_multiply, .selects RX0 yX0_multiply yX0_multiply, .initialized RX0, .code yX0_multiply cX0_multiply 8 none, .static yX7_reduced, .initialized RX7, .code yX7_reduced cX7_reduced 3 (some .int), .methodLink RX0 70 yX0_writeSymmetric, .instanceMethod yX0_writeSymmetric, .selects RX0 yX0_writeSymmetric yX0_writeSymmetric, .code yX0_writeSymmetric cX0_writeSymmetric 7 none] ++ wsX00 ++ wsX60)
def wsX0_operator : List Cond := .code yX0_operator cX0_operator 4 none :: ([.methodLink RX0 74 yX0_triple, .instanceMethod yX0_triple, .selects RX0 yX0_triple yX0_triple, .initialized RX0, .code yX0_triple cX0_triple 5 none, .fieldLink RX0 12 "PeirceDesk$Algebra" "now" "LPeirceDesk$State;", .fieldLink RX0 37 "PeirceDesk$Algebra" "left" "[I", .fieldLink RX0 40 "PeirceDesk$Algebra" "right" "[I", .methodLink RX0 66 yX0_multiply, .instanceMethod yX0_multiply, .selects RX0 yX0_multiply yX0_multiply, .code yX0_multiply cX0_multiply 8 none, .static yX7_reduced, .initialized RX7, .code yX7_reduced cX7_reduced 3 (some .int), .methodLink RX0 70 yX0_writeSymmetric, .instanceMethod yX0_writeSymmetric, .selects RX0 yX0_writeSymmetric yX0_writeSymmetric, .code yX0_writeSymmetric cX0_writeSymmetric 7 none] ++ wsX00 ++ wsX60)
def wsX5_clearRow : List Cond := .code yX5_clearRow cX5_clearRow 3 none :: ([.fieldLink RX5 11 "PeirceDesk$Rows" "cells" "[[I"] ++ wsX50)
def wsX5_load : List Cond := .code yX5_load cX5_load 5 none :: ([.fieldLink RX5 22 "PeirceDesk$Rows" "modulus" "I", .fieldLink RX5 11 "PeirceDesk$Rows" "cells" "[[I", .methodLink RX5 26 yX5_clearRow, .instanceMethod yX5_clearRow, .selects RX5 yX5_clearRow yX5_clearRow, .initialized RX5, .code yX5_clearRow cX5_clearRow 3 none] ++ wsX60 ++ wsX50)
def wsX5_pivotRow : List Cond := .code yX5_pivotRow cX5_pivotRow 4 (some .int) :: ([.fieldLink RX5 11 "PeirceDesk$Rows" "cells" "[[I"] ++ wsX50)
def wsX5_exchange : List Cond := .code yX5_exchange cX5_exchange 5 none :: ([.fieldLink RX5 11 "PeirceDesk$Rows" "cells" "[[I", .fieldLink RX5 34 "PeirceDesk$Rows" "pivots" "I"] ++ wsX50)
def wsX5_makePivotOne : List Cond := .code yX5_makePivotOne cX5_makePivotOne 6 none :: ([.fieldLink RX5 11 "PeirceDesk$Rows" "cells" "[[I", .fieldLink RX5 34 "PeirceDesk$Rows" "pivots" "I", .fieldLink RX5 22 "PeirceDesk$Rows" "modulus" "I", .static yX7_reduced, .initialized RX7, .code yX7_reduced cX7_reduced 3 (some .int)] ++ wsX50)
def wsX5_clearColumn : List Cond := .code yX5_clearColumn cX5_clearColumn 6 none :: ([.fieldLink RX5 11 "PeirceDesk$Rows" "cells" "[[I", .fieldLink RX5 22 "PeirceDesk$Rows" "modulus" "I", .static yX7_reduced, .initialized RX7, .code yX7_reduced cX7_reduced 3 (some .int)] ++ wsX50)
def wsX5_reduce : List Cond := .code yX5_reduce cX5_reduce 5 (some .int) :: ([.fieldLink RX5 34 "PeirceDesk$Rows" "pivots" "I", .fieldLink RX5 11 "PeirceDesk$Rows" "cells" "[[I", .methodLink RX5 37 yX5_pivotRow, .instanceMethod yX5_pivotRow, .selects RX5 yX5_pivotRow yX5_pivotRow, .initialized RX5, .code yX5_pivotRow cX5_pivotRow 4 (some .int), .methodLink RX5 41 yX5_exchange, .instanceMethod yX5_exchange, .selects RX5 yX5_exchange yX5_exchange, .code yX5_exchange cX5_exchange 5 none, .methodLink RX5 45 yX5_makePivotOne, .instanceMethod yX5_makePivotOne, .selects RX5 yX5_makePivotOne yX5_makePivotOne, .code yX5_makePivotOne cX5_makePivotOne 6 none, .fieldLink RX5 22 "PeirceDesk$Rows" "modulus" "I", .static yX7_reduced, .initialized RX7, .code yX7_reduced cX7_reduced 3 (some .int), .methodLink RX5 48 yX5_clearColumn, .instanceMethod yX5_clearColumn, .selects RX5 yX5_clearColumn yX5_clearColumn, .code yX5_clearColumn cX5_clearColumn 6 none] ++ wsX50)
def wsX0_readInverse : List Cond := .code yX0_readInverse cX0_readInverse 4 none :: ([.fieldLink RX0 21 "PeirceDesk$Algebra" "rows" "LPeirceDesk$Rows;"] ++ wsX00 ++ wsX50)
def wsX0_inverse_r1 : List Cond := [Cond.fieldLink RX0 21 "PeirceDesk$Algebra" "rows" "LPeirceDesk$Rows;", Cond.fieldLink RX0 12 "PeirceDesk$Algebra" "now" "LPeirceDesk$State;", Cond.fieldLink RX0 37 "PeirceDesk$Algebra" "left" "[I", Cond.instanceMethod yX5_load, Cond.initialized RX5, Cond.selects RX5 yX5_load yX5_load, Cond.code yX5_load cX5_load 5 none, Cond.fieldLink RX5 22 "PeirceDesk$Rows" "modulus" "I", Cond.fieldLink RX5 11 "PeirceDesk$Rows" "cells" "[[I", Cond.methodLink RX5 26 yX5_clearRow, Cond.instanceMethod yX5_clearRow, Cond.selects RX5 yX5_clearRow yX5_clearRow, Cond.code yX5_clearRow cX5_clearRow 3 none, Cond.instanceMethod yX5_reduce, Cond.selects RX5 yX5_reduce yX5_reduce, Cond.code yX5_reduce cX5_reduce 5 (some .int), Cond.fieldLink RX5 34 "PeirceDesk$Rows" "pivots" "I", Cond.methodLink RX5 37 yX5_pivotRow, Cond.instanceMethod yX5_pivotRow, Cond.selects RX5 yX5_pivotRow yX5_pivotRow, Cond.code yX5_pivotRow cX5_pivotRow 4 (some .int), Cond.methodLink RX5 41 yX5_exchange, Cond.instanceMethod yX5_exchange, Cond.selects RX5 yX5_exchange yX5_exchange]
def wsX0_inverse_r2 : List Cond := [Cond.code yX5_exchange cX5_exchange 5 none, Cond.methodLink RX5 45 yX5_makePivotOne, Cond.instanceMethod yX5_makePivotOne, Cond.selects RX5 yX5_makePivotOne yX5_makePivotOne, Cond.code yX5_makePivotOne cX5_makePivotOne 6 none, Cond.static yX7_reduced, Cond.initialized RX7, Cond.code yX7_reduced cX7_reduced 3 (some .int), Cond.methodLink RX5 48 yX5_clearColumn, Cond.instanceMethod yX5_clearColumn, Cond.selects RX5 yX5_clearColumn yX5_clearColumn, Cond.code yX5_clearColumn cX5_clearColumn 6 none, Cond.methodLink RX0 89 yX0_readInverse, Cond.instanceMethod yX0_readInverse, Cond.selects RX0 yX0_readInverse yX0_readInverse, Cond.initialized RX0, Cond.code yX0_readInverse cX0_readInverse 4 none, Cond.methodLink RX0 93 yX0_unit, Cond.instanceMethod yX0_unit, Cond.selects RX0 yX0_unit yX0_unit, Cond.code yX0_unit cX0_unit 1 (some (.array .int)), Cond.methodLink RX0 66 yX0_multiply, Cond.instanceMethod yX0_multiply, Cond.selects RX0 yX0_multiply yX0_multiply]
def wsX0_inverse_r3 : List Cond := [Cond.code yX0_multiply cX0_multiply 8 none]
def wsX0_inverse : List Cond := .code yX0_inverse cX0_inverse 3 (some .boolean) :: ((wsX0_inverse_r1 ++ (wsX0_inverse_r2 ++ wsX0_inverse_r3)) ++ wsX00 ++ wsX60 ++ wsX50)
def wsX0_trace : List Cond := .code yX0_trace cX0_trace 4 (some .int) :: ([.fieldLink RX0 12 "PeirceDesk$Algebra" "now" "LPeirceDesk$State;", .static yX7_reduced, .initialized RX7, .code yX7_reduced cX7_reduced 3 (some .int)] ++ wsX00 ++ wsX60)
def wsX0_rank_r1 : List Cond := [Cond.fieldLink RX0 21 "PeirceDesk$Algebra" "rows" "LPeirceDesk$Rows;", Cond.fieldLink RX0 12 "PeirceDesk$Algebra" "now" "LPeirceDesk$State;", Cond.instanceMethod yX5_load, Cond.initialized RX5, Cond.selects RX5 yX5_load yX5_load, Cond.code yX5_load cX5_load 5 none, Cond.fieldLink RX5 22 "PeirceDesk$Rows" "modulus" "I", Cond.fieldLink RX5 11 "PeirceDesk$Rows" "cells" "[[I", Cond.methodLink RX5 26 yX5_clearRow, Cond.instanceMethod yX5_clearRow, Cond.selects RX5 yX5_clearRow yX5_clearRow, Cond.code yX5_clearRow cX5_clearRow 3 none, Cond.instanceMethod yX5_reduce, Cond.selects RX5 yX5_reduce yX5_reduce, Cond.code yX5_reduce cX5_reduce 5 (some .int), Cond.fieldLink RX5 34 "PeirceDesk$Rows" "pivots" "I", Cond.methodLink RX5 37 yX5_pivotRow, Cond.instanceMethod yX5_pivotRow, Cond.selects RX5 yX5_pivotRow yX5_pivotRow, Cond.code yX5_pivotRow cX5_pivotRow 4 (some .int), Cond.methodLink RX5 41 yX5_exchange, Cond.instanceMethod yX5_exchange, Cond.selects RX5 yX5_exchange yX5_exchange, Cond.code yX5_exchange cX5_exchange 5 none]
def wsX0_rank_r2 : List Cond := [Cond.methodLink RX5 45 yX5_makePivotOne, Cond.instanceMethod yX5_makePivotOne, Cond.selects RX5 yX5_makePivotOne yX5_makePivotOne, Cond.code yX5_makePivotOne cX5_makePivotOne 6 none, Cond.static yX7_reduced, Cond.initialized RX7, Cond.code yX7_reduced cX7_reduced 3 (some .int), Cond.methodLink RX5 48 yX5_clearColumn, Cond.instanceMethod yX5_clearColumn, Cond.selects RX5 yX5_clearColumn yX5_clearColumn, Cond.code yX5_clearColumn cX5_clearColumn 6 none]
def wsX0_rank : List Cond := .code yX0_rank cX0_rank 2 (some .int) :: ((wsX0_rank_r1 ++ wsX0_rank_r2) ++ wsX00 ++ wsX60 ++ wsX50)
def wsX0_determinant_r1 : List Cond := [Cond.fieldLink RX0 21 "PeirceDesk$Algebra" "rows" "LPeirceDesk$Rows;", Cond.fieldLink RX0 12 "PeirceDesk$Algebra" "now" "LPeirceDesk$State;", Cond.instanceMethod yX5_load, Cond.initialized RX5, Cond.selects RX5 yX5_load yX5_load, Cond.code yX5_load cX5_load 5 none, Cond.fieldLink RX5 22 "PeirceDesk$Rows" "modulus" "I", Cond.fieldLink RX5 11 "PeirceDesk$Rows" "cells" "[[I", Cond.methodLink RX5 26 yX5_clearRow, Cond.instanceMethod yX5_clearRow, Cond.selects RX5 yX5_clearRow yX5_clearRow, Cond.code yX5_clearRow cX5_clearRow 3 none, Cond.instanceMethod yX5_reduce, Cond.selects RX5 yX5_reduce yX5_reduce, Cond.code yX5_reduce cX5_reduce 5 (some .int), Cond.fieldLink RX5 34 "PeirceDesk$Rows" "pivots" "I", Cond.methodLink RX5 37 yX5_pivotRow, Cond.instanceMethod yX5_pivotRow, Cond.selects RX5 yX5_pivotRow yX5_pivotRow, Cond.code yX5_pivotRow cX5_pivotRow 4 (some .int), Cond.methodLink RX5 41 yX5_exchange, Cond.instanceMethod yX5_exchange, Cond.selects RX5 yX5_exchange yX5_exchange, Cond.code yX5_exchange cX5_exchange 5 none]
def wsX0_determinant_r2 : List Cond := [Cond.methodLink RX5 45 yX5_makePivotOne, Cond.instanceMethod yX5_makePivotOne, Cond.selects RX5 yX5_makePivotOne yX5_makePivotOne, Cond.code yX5_makePivotOne cX5_makePivotOne 6 none, Cond.static yX7_reduced, Cond.initialized RX7, Cond.code yX7_reduced cX7_reduced 3 (some .int), Cond.methodLink RX5 48 yX5_clearColumn, Cond.instanceMethod yX5_clearColumn, Cond.selects RX5 yX5_clearColumn yX5_clearColumn, Cond.code yX5_clearColumn cX5_clearColumn 6 none]
def wsX0_determinant : List Cond := .code yX0_determinant cX0_determinant 2 (some .int) :: ((wsX0_determinant_r1 ++ wsX0_determinant_r2) ++ wsX00 ++ wsX60 ++ wsX50)
def wsX0_takeIdentityAsBase : List Cond := .code yX0_takeIdentityAsBase cX0_takeIdentityAsBase 1 none :: ([.fieldLink RX0 12 "PeirceDesk$Algebra" "now" "LPeirceDesk$State;", .instanceMethod yX6_writeIdentity, .initialized RX6, .selects RX6 yX6_writeIdentity yX6_writeIdentity, .code yX6_writeIdentity cX6_writeIdentity 4 none, .fieldLink RX6 20 "PeirceDesk$State" "size" "I", .methodLink RX0 93 yX0_unit, .instanceMethod yX0_unit, .selects RX0 yX0_unit yX0_unit, .initialized RX0, .code yX0_unit cX0_unit 1 (some (.array .int))] ++ wsX00 ++ wsX60)
def wsX7_copy : List Cond := .code yX7_copy cX7_copy 2 none :: ([.methodLink RX7 194 arraycopyName, .native arraycopyName, .static arraycopyName, .initialized "java/lang/System"])
def wsX0_takeAsBase_r1 : List Cond := [Cond.fieldLink RX0 12 "PeirceDesk$Algebra" "now" "LPeirceDesk$State;", Cond.methodLink RX0 106 yX0_determinant, Cond.instanceMethod yX0_determinant, Cond.selects RX0 yX0_determinant yX0_determinant, Cond.initialized RX0, Cond.code yX0_determinant cX0_determinant 2 (some .int), Cond.fieldLink RX0 21 "PeirceDesk$Algebra" "rows" "LPeirceDesk$Rows;", Cond.instanceMethod yX5_load, Cond.initialized RX5, Cond.selects RX5 yX5_load yX5_load, Cond.code yX5_load cX5_load 5 none, Cond.fieldLink RX5 22 "PeirceDesk$Rows" "modulus" "I", Cond.fieldLink RX5 11 "PeirceDesk$Rows" "cells" "[[I", Cond.methodLink RX5 26 yX5_clearRow, Cond.instanceMethod yX5_clearRow, Cond.selects RX5 yX5_clearRow yX5_clearRow, Cond.code yX5_clearRow cX5_clearRow 3 none, Cond.instanceMethod yX5_reduce, Cond.selects RX5 yX5_reduce yX5_reduce, Cond.code yX5_reduce cX5_reduce 5 (some .int), Cond.fieldLink RX5 34 "PeirceDesk$Rows" "pivots" "I", Cond.methodLink RX5 37 yX5_pivotRow, Cond.instanceMethod yX5_pivotRow, Cond.selects RX5 yX5_pivotRow yX5_pivotRow]
def wsX0_takeAsBase_r2 : List Cond := [Cond.code yX5_pivotRow cX5_pivotRow 4 (some .int), Cond.methodLink RX5 41 yX5_exchange, Cond.instanceMethod yX5_exchange, Cond.selects RX5 yX5_exchange yX5_exchange, Cond.code yX5_exchange cX5_exchange 5 none, Cond.methodLink RX5 45 yX5_makePivotOne, Cond.instanceMethod yX5_makePivotOne, Cond.selects RX5 yX5_makePivotOne yX5_makePivotOne, Cond.code yX5_makePivotOne cX5_makePivotOne 6 none, Cond.static yX7_reduced, Cond.initialized RX7, Cond.code yX7_reduced cX7_reduced 3 (some .int), Cond.methodLink RX5 48 yX5_clearColumn, Cond.instanceMethod yX5_clearColumn, Cond.selects RX5 yX5_clearColumn yX5_clearColumn, Cond.code yX5_clearColumn cX5_clearColumn 6 none, Cond.methodLink RX0 93 yX0_unit, Cond.instanceMethod yX0_unit, Cond.selects RX0 yX0_unit yX0_unit, Cond.code yX0_unit cX0_unit 1 (some (.array .int)), Cond.methodLink RX0 89 yX0_readInverse, Cond.instanceMethod yX0_readInverse, Cond.selects RX0 yX0_readInverse yX0_readInverse, Cond.code yX0_readInverse cX0_readInverse 4 none]
def wsX0_takeAsBase_r3 : List Cond := [Cond.static yX7_copy, Cond.code yX7_copy cX7_copy 2 none, Cond.methodLink RX7 194 arraycopyName, Cond.native arraycopyName, Cond.static arraycopyName, Cond.initialized "java/lang/System"]
def wsX0_takeAsBase : List Cond := .code yX0_takeAsBase cX0_takeAsBase 2 none :: ((wsX0_takeAsBase_r1 ++ (wsX0_takeAsBase_r2 ++ wsX0_takeAsBase_r3)) ++ wsX00 ++ wsX60 ++ wsX50)
def wsX7_same : List Cond := .code yX7_same cX7_same 3 (some .boolean) :: ([])
def wsX0_isOwnSquare : List Cond := .code yX0_isOwnSquare cX0_isOwnSquare 2 (some .boolean) :: ([.fieldLink RX0 43 "PeirceDesk$Algebra" "square" "[I", .methodLink RX0 113 yX0_product, .instanceMethod yX0_product, .selects RX0 yX0_product yX0_product, .initialized RX0, .code yX0_product cX0_product 4 none, .fieldLink RX0 12 "PeirceDesk$Algebra" "now" "LPeirceDesk$State;", .fieldLink RX0 37 "PeirceDesk$Algebra" "left" "[I", .fieldLink RX0 40 "PeirceDesk$Algebra" "right" "[I", .methodLink RX0 66 yX0_multiply, .instanceMethod yX0_multiply, .selects RX0 yX0_multiply yX0_multiply, .code yX0_multiply cX0_multiply 8 none, .static yX7_reduced, .initialized RX7, .code yX7_reduced cX7_reduced 3 (some .int), .methodLink RX0 70 yX0_writeSymmetric, .instanceMethod yX0_writeSymmetric, .selects RX0 yX0_writeSymmetric yX0_writeSymmetric, .code yX0_writeSymmetric cX0_writeSymmetric 7 none, .static yX7_same, .code yX7_same cX7_same 3 (some .boolean)] ++ wsX00 ++ wsX60)
def wsX0_findParts_r1 : List Cond := [Cond.fieldLink RX0 27 "PeirceDesk$Algebra" "parts" "[[I", Cond.fieldLink RX0 12 "PeirceDesk$Algebra" "now" "LPeirceDesk$State;", Cond.methodLink RX0 120 yX0_operator, Cond.instanceMethod yX0_operator, Cond.selects RX0 yX0_operator yX0_operator, Cond.initialized RX0, Cond.code yX0_operator cX0_operator 4 none, Cond.methodLink RX0 74 yX0_triple, Cond.instanceMethod yX0_triple, Cond.selects RX0 yX0_triple yX0_triple, Cond.code yX0_triple cX0_triple 5 none, Cond.fieldLink RX0 37 "PeirceDesk$Algebra" "left" "[I", Cond.fieldLink RX0 40 "PeirceDesk$Algebra" "right" "[I", Cond.methodLink RX0 66 yX0_multiply, Cond.instanceMethod yX0_multiply, Cond.selects RX0 yX0_multiply yX0_multiply, Cond.code yX0_multiply cX0_multiply 8 none, Cond.static yX7_reduced, Cond.initialized RX7, Cond.code yX7_reduced cX7_reduced 3 (some .int), Cond.methodLink RX0 70 yX0_writeSymmetric, Cond.instanceMethod yX0_writeSymmetric, Cond.selects RX0 yX0_writeSymmetric yX0_writeSymmetric, Cond.code yX0_writeSymmetric cX0_writeSymmetric 7 none]
def wsX0_findParts_r2 : List Cond := [Cond.methodLink RX0 93 yX0_unit, Cond.instanceMethod yX0_unit, Cond.selects RX0 yX0_unit yX0_unit, Cond.code yX0_unit cX0_unit 1 (some (.array .int))]
def wsX0_findParts : List Cond := .code yX0_findParts cX0_findParts 4 none :: ((wsX0_findParts_r1 ++ wsX0_findParts_r2) ++ wsX00 ++ wsX60)
def wsX0_raise_r1 : List Cond := [Cond.fieldLink RX0 30 "PeirceDesk$Algebra" "power" "[I", Cond.fieldLink RX0 43 "PeirceDesk$Algebra" "square" "[I", Cond.methodLink RX0 93 yX0_unit, Cond.instanceMethod yX0_unit, Cond.selects RX0 yX0_unit yX0_unit, Cond.initialized RX0, Cond.code yX0_unit cX0_unit 1 (some (.array .int)), Cond.fieldLink RX0 12 "PeirceDesk$Algebra" "now" "LPeirceDesk$State;", Cond.static yX7_copy, Cond.initialized RX7, Cond.code yX7_copy cX7_copy 2 none, Cond.methodLink RX7 194 arraycopyName, Cond.native arraycopyName, Cond.static arraycopyName, Cond.initialized "java/lang/System", Cond.methodLink RX0 113 yX0_product, Cond.instanceMethod yX0_product, Cond.selects RX0 yX0_product yX0_product, Cond.code yX0_product cX0_product 4 none, Cond.fieldLink RX0 37 "PeirceDesk$Algebra" "left" "[I", Cond.fieldLink RX0 40 "PeirceDesk$Algebra" "right" "[I", Cond.methodLink RX0 66 yX0_multiply, Cond.instanceMethod yX0_multiply, Cond.selects RX0 yX0_multiply yX0_multiply]
def wsX0_raise_r2 : List Cond := [Cond.code yX0_multiply cX0_multiply 8 none, Cond.static yX7_reduced, Cond.code yX7_reduced cX7_reduced 3 (some .int), Cond.methodLink RX0 70 yX0_writeSymmetric, Cond.instanceMethod yX0_writeSymmetric, Cond.selects RX0 yX0_writeSymmetric yX0_writeSymmetric, Cond.code yX0_writeSymmetric cX0_writeSymmetric 7 none]
def wsX0_raise : List Cond := .code yX0_raise cX0_raise 4 none :: ((wsX0_raise_r1 ++ wsX0_raise_r2) ++ wsX00 ++ wsX60)
def wsX0_order_r1 : List Cond := [Cond.fieldLink RX0 30 "PeirceDesk$Algebra" "power" "[I", Cond.methodLink RX0 106 yX0_determinant, Cond.instanceMethod yX0_determinant, Cond.selects RX0 yX0_determinant yX0_determinant, Cond.initialized RX0, Cond.code yX0_determinant cX0_determinant 2 (some .int), Cond.fieldLink RX0 21 "PeirceDesk$Algebra" "rows" "LPeirceDesk$Rows;", Cond.fieldLink RX0 12 "PeirceDesk$Algebra" "now" "LPeirceDesk$State;", Cond.instanceMethod yX5_load, Cond.initialized RX5, Cond.selects RX5 yX5_load yX5_load, Cond.code yX5_load cX5_load 5 none, Cond.fieldLink RX5 22 "PeirceDesk$Rows" "modulus" "I", Cond.fieldLink RX5 11 "PeirceDesk$Rows" "cells" "[[I", Cond.methodLink RX5 26 yX5_clearRow, Cond.instanceMethod yX5_clearRow, Cond.selects RX5 yX5_clearRow yX5_clearRow, Cond.code yX5_clearRow cX5_clearRow 3 none, Cond.instanceMethod yX5_reduce, Cond.selects RX5 yX5_reduce yX5_reduce, Cond.code yX5_reduce cX5_reduce 5 (some .int), Cond.fieldLink RX5 34 "PeirceDesk$Rows" "pivots" "I", Cond.methodLink RX5 37 yX5_pivotRow, Cond.instanceMethod yX5_pivotRow]
def wsX0_order_r2 : List Cond := [Cond.selects RX5 yX5_pivotRow yX5_pivotRow, Cond.code yX5_pivotRow cX5_pivotRow 4 (some .int), Cond.methodLink RX5 41 yX5_exchange, Cond.instanceMethod yX5_exchange, Cond.selects RX5 yX5_exchange yX5_exchange, Cond.code yX5_exchange cX5_exchange 5 none, Cond.methodLink RX5 45 yX5_makePivotOne, Cond.instanceMethod yX5_makePivotOne, Cond.selects RX5 yX5_makePivotOne yX5_makePivotOne, Cond.code yX5_makePivotOne cX5_makePivotOne 6 none, Cond.static yX7_reduced, Cond.initialized RX7, Cond.code yX7_reduced cX7_reduced 3 (some .int), Cond.methodLink RX5 48 yX5_clearColumn, Cond.instanceMethod yX5_clearColumn, Cond.selects RX5 yX5_clearColumn yX5_clearColumn, Cond.code yX5_clearColumn cX5_clearColumn 6 none, Cond.static yX7_copy, Cond.code yX7_copy cX7_copy 2 none, Cond.methodLink RX7 194 arraycopyName, Cond.native arraycopyName, Cond.static arraycopyName, Cond.initialized "java/lang/System", Cond.methodLink RX0 93 yX0_unit]
def wsX0_order_r3 : List Cond := [Cond.instanceMethod yX0_unit, Cond.selects RX0 yX0_unit yX0_unit, Cond.code yX0_unit cX0_unit 1 (some (.array .int)), Cond.static yX7_same, Cond.code yX7_same cX7_same 3 (some .boolean), Cond.methodLink RX0 113 yX0_product, Cond.instanceMethod yX0_product, Cond.selects RX0 yX0_product yX0_product, Cond.code yX0_product cX0_product 4 none, Cond.fieldLink RX0 37 "PeirceDesk$Algebra" "left" "[I", Cond.fieldLink RX0 40 "PeirceDesk$Algebra" "right" "[I", Cond.methodLink RX0 66 yX0_multiply, Cond.instanceMethod yX0_multiply, Cond.selects RX0 yX0_multiply yX0_multiply, Cond.code yX0_multiply cX0_multiply 8 none, Cond.methodLink RX0 70 yX0_writeSymmetric, Cond.instanceMethod yX0_writeSymmetric, Cond.selects RX0 yX0_writeSymmetric yX0_writeSymmetric, Cond.code yX0_writeSymmetric cX0_writeSymmetric 7 none]
def wsX0_order : List Cond := .code yX0_order cX0_order 3 (some .int) :: ((wsX0_order_r1 ++ (wsX0_order_r2 ++ wsX0_order_r3)) ++ wsX00 ++ wsX60 ++ wsX50)
def wsX7_isZero : List Cond := .code yX7_isZero cX7_isZero 2 (some .boolean) :: ([])
def wsX0_leastZeroPower_r1 : List Cond := [Cond.fieldLink RX0 30 "PeirceDesk$Algebra" "power" "[I", Cond.static yX7_copy, Cond.initialized RX7, Cond.code yX7_copy cX7_copy 2 none, Cond.methodLink RX7 194 arraycopyName, Cond.native arraycopyName, Cond.static arraycopyName, Cond.initialized "java/lang/System", Cond.static yX7_isZero, Cond.code yX7_isZero cX7_isZero 2 (some .boolean), Cond.methodLink RX0 113 yX0_product, Cond.instanceMethod yX0_product, Cond.selects RX0 yX0_product yX0_product, Cond.initialized RX0, Cond.code yX0_product cX0_product 4 none, Cond.fieldLink RX0 12 "PeirceDesk$Algebra" "now" "LPeirceDesk$State;", Cond.fieldLink RX0 37 "PeirceDesk$Algebra" "left" "[I", Cond.fieldLink RX0 40 "PeirceDesk$Algebra" "right" "[I", Cond.methodLink RX0 66 yX0_multiply, Cond.instanceMethod yX0_multiply, Cond.selects RX0 yX0_multiply yX0_multiply, Cond.code yX0_multiply cX0_multiply 8 none, Cond.static yX7_reduced, Cond.code yX7_reduced cX7_reduced 3 (some .int)]
def wsX0_leastZeroPower_r2 : List Cond := [Cond.methodLink RX0 70 yX0_writeSymmetric, Cond.instanceMethod yX0_writeSymmetric, Cond.selects RX0 yX0_writeSymmetric yX0_writeSymmetric, Cond.code yX0_writeSymmetric cX0_writeSymmetric 7 none]
def wsX0_leastZeroPower : List Cond := .code yX0_leastZeroPower cX0_leastZeroPower 3 (some .int) :: ((wsX0_leastZeroPower_r1 ++ wsX0_leastZeroPower_r2) ++ wsX00 ++ wsX60)
def wsX5_loadAll : List Cond := .code yX5_loadAll cX5_loadAll 5 none :: ([.fieldLink RX5 22 "PeirceDesk$Rows" "modulus" "I", .fieldLink RX5 11 "PeirceDesk$Rows" "cells" "[[I", .methodLink RX5 26 yX5_clearRow, .instanceMethod yX5_clearRow, .selects RX5 yX5_clearRow yX5_clearRow, .initialized RX5, .code yX5_clearRow cX5_clearRow 3 none, .static yX7_copy, .initialized RX7, .code yX7_copy cX7_copy 2 none, .methodLink RX7 194 arraycopyName, .native arraycopyName, .static arraycopyName, .initialized "java/lang/System"] ++ wsX50)
def wsX0_degree_r1 : List Cond := [Cond.fieldLink RX0 52 "PeirceDesk$Algebra" "powers" "[[I", Cond.fieldLink RX0 21 "PeirceDesk$Algebra" "rows" "LPeirceDesk$Rows;", Cond.fieldLink RX0 12 "PeirceDesk$Algebra" "now" "LPeirceDesk$State;", Cond.methodLink RX0 93 yX0_unit, Cond.instanceMethod yX0_unit, Cond.selects RX0 yX0_unit yX0_unit, Cond.initialized RX0, Cond.code yX0_unit cX0_unit 1 (some (.array .int)), Cond.static yX7_copy, Cond.initialized RX7, Cond.code yX7_copy cX7_copy 2 none, Cond.methodLink RX7 194 arraycopyName, Cond.native arraycopyName, Cond.static arraycopyName, Cond.initialized "java/lang/System", Cond.methodLink RX0 113 yX0_product, Cond.instanceMethod yX0_product, Cond.selects RX0 yX0_product yX0_product, Cond.code yX0_product cX0_product 4 none, Cond.fieldLink RX0 37 "PeirceDesk$Algebra" "left" "[I", Cond.fieldLink RX0 40 "PeirceDesk$Algebra" "right" "[I", Cond.methodLink RX0 66 yX0_multiply, Cond.instanceMethod yX0_multiply, Cond.selects RX0 yX0_multiply yX0_multiply]
def wsX0_degree_r2 : List Cond := [Cond.code yX0_multiply cX0_multiply 8 none, Cond.static yX7_reduced, Cond.code yX7_reduced cX7_reduced 3 (some .int), Cond.methodLink RX0 70 yX0_writeSymmetric, Cond.instanceMethod yX0_writeSymmetric, Cond.selects RX0 yX0_writeSymmetric yX0_writeSymmetric, Cond.code yX0_writeSymmetric cX0_writeSymmetric 7 none, Cond.instanceMethod yX5_loadAll, Cond.initialized RX5, Cond.selects RX5 yX5_loadAll yX5_loadAll, Cond.code yX5_loadAll cX5_loadAll 5 none, Cond.fieldLink RX5 22 "PeirceDesk$Rows" "modulus" "I", Cond.fieldLink RX5 11 "PeirceDesk$Rows" "cells" "[[I", Cond.methodLink RX5 26 yX5_clearRow, Cond.instanceMethod yX5_clearRow, Cond.selects RX5 yX5_clearRow yX5_clearRow, Cond.code yX5_clearRow cX5_clearRow 3 none, Cond.instanceMethod yX5_reduce, Cond.selects RX5 yX5_reduce yX5_reduce, Cond.code yX5_reduce cX5_reduce 5 (some .int), Cond.fieldLink RX5 34 "PeirceDesk$Rows" "pivots" "I", Cond.methodLink RX5 37 yX5_pivotRow, Cond.instanceMethod yX5_pivotRow, Cond.selects RX5 yX5_pivotRow yX5_pivotRow]
def wsX0_degree_r3 : List Cond := [Cond.code yX5_pivotRow cX5_pivotRow 4 (some .int), Cond.methodLink RX5 41 yX5_exchange, Cond.instanceMethod yX5_exchange, Cond.selects RX5 yX5_exchange yX5_exchange, Cond.code yX5_exchange cX5_exchange 5 none, Cond.methodLink RX5 45 yX5_makePivotOne, Cond.instanceMethod yX5_makePivotOne, Cond.selects RX5 yX5_makePivotOne yX5_makePivotOne, Cond.code yX5_makePivotOne cX5_makePivotOne 6 none, Cond.methodLink RX5 48 yX5_clearColumn, Cond.instanceMethod yX5_clearColumn, Cond.selects RX5 yX5_clearColumn yX5_clearColumn, Cond.code yX5_clearColumn cX5_clearColumn 6 none]
def wsX0_degree : List Cond := .code yX0_degree cX0_degree 3 (some .int) :: ((wsX0_degree_r1 ++ (wsX0_degree_r2 ++ wsX0_degree_r3)) ++ wsX00 ++ wsX60 ++ wsX50)
def wsX0_tryRule_r1 : List Cond := [Cond.fieldLink RX0 46 "PeirceDesk$Algebra" "otherSide" "[I", Cond.fieldLink RX0 34 "PeirceDesk$Algebra" "oneSide" "[I", Cond.methodLink RX0 120 yX0_operator, Cond.instanceMethod yX0_operator, Cond.selects RX0 yX0_operator yX0_operator, Cond.initialized RX0, Cond.code yX0_operator cX0_operator 4 none, Cond.methodLink RX0 74 yX0_triple, Cond.instanceMethod yX0_triple, Cond.selects RX0 yX0_triple yX0_triple, Cond.code yX0_triple cX0_triple 5 none, Cond.fieldLink RX0 12 "PeirceDesk$Algebra" "now" "LPeirceDesk$State;", Cond.fieldLink RX0 37 "PeirceDesk$Algebra" "left" "[I", Cond.fieldLink RX0 40 "PeirceDesk$Algebra" "right" "[I", Cond.methodLink RX0 66 yX0_multiply, Cond.instanceMethod yX0_multiply, Cond.selects RX0 yX0_multiply yX0_multiply, Cond.code yX0_multiply cX0_multiply 8 none, Cond.static yX7_reduced, Cond.initialized RX7, Cond.code yX7_reduced cX7_reduced 3 (some .int), Cond.methodLink RX0 70 yX0_writeSymmetric, Cond.instanceMethod yX0_writeSymmetric, Cond.selects RX0 yX0_writeSymmetric yX0_writeSymmetric]
def wsX0_tryRule_r2 : List Cond := [Cond.code yX0_writeSymmetric cX0_writeSymmetric 7 none, Cond.static yX7_same, Cond.code yX7_same cX7_same 3 (some .boolean)]
def wsX0_tryRule : List Cond := .code yX0_tryRule cX0_tryRule 4 (some .boolean) :: ((wsX0_tryRule_r1 ++ wsX0_tryRule_r2) ++ wsX00 ++ wsX60)
def wsX0_isOfKind_r1 : List Cond := [Cond.fieldLink RX0 49 "PeirceDesk$Algebra" "candidate" "[I", Cond.fieldLink RX0 43 "PeirceDesk$Algebra" "square" "[I", Cond.methodLink RX0 106 yX0_determinant, Cond.instanceMethod yX0_determinant, Cond.selects RX0 yX0_determinant yX0_determinant, Cond.initialized RX0, Cond.code yX0_determinant cX0_determinant 2 (some .int), Cond.fieldLink RX0 21 "PeirceDesk$Algebra" "rows" "LPeirceDesk$Rows;", Cond.fieldLink RX0 12 "PeirceDesk$Algebra" "now" "LPeirceDesk$State;", Cond.instanceMethod yX5_load, Cond.initialized RX5, Cond.selects RX5 yX5_load yX5_load, Cond.code yX5_load cX5_load 5 none, Cond.fieldLink RX5 22 "PeirceDesk$Rows" "modulus" "I", Cond.fieldLink RX5 11 "PeirceDesk$Rows" "cells" "[[I", Cond.methodLink RX5 26 yX5_clearRow, Cond.instanceMethod yX5_clearRow, Cond.selects RX5 yX5_clearRow yX5_clearRow, Cond.code yX5_clearRow cX5_clearRow 3 none, Cond.instanceMethod yX5_reduce, Cond.selects RX5 yX5_reduce yX5_reduce, Cond.code yX5_reduce cX5_reduce 5 (some .int), Cond.fieldLink RX5 34 "PeirceDesk$Rows" "pivots" "I", Cond.methodLink RX5 37 yX5_pivotRow]
def wsX0_isOfKind_r2 : List Cond := [Cond.instanceMethod yX5_pivotRow, Cond.selects RX5 yX5_pivotRow yX5_pivotRow, Cond.code yX5_pivotRow cX5_pivotRow 4 (some .int), Cond.methodLink RX5 41 yX5_exchange, Cond.instanceMethod yX5_exchange, Cond.selects RX5 yX5_exchange yX5_exchange, Cond.code yX5_exchange cX5_exchange 5 none, Cond.methodLink RX5 45 yX5_makePivotOne, Cond.instanceMethod yX5_makePivotOne, Cond.selects RX5 yX5_makePivotOne yX5_makePivotOne, Cond.code yX5_makePivotOne cX5_makePivotOne 6 none, Cond.static yX7_reduced, Cond.initialized RX7, Cond.code yX7_reduced cX7_reduced 3 (some .int), Cond.methodLink RX5 48 yX5_clearColumn, Cond.instanceMethod yX5_clearColumn, Cond.selects RX5 yX5_clearColumn yX5_clearColumn, Cond.code yX5_clearColumn cX5_clearColumn 6 none, Cond.methodLink RX0 113 yX0_product, Cond.instanceMethod yX0_product, Cond.selects RX0 yX0_product yX0_product, Cond.code yX0_product cX0_product 4 none, Cond.fieldLink RX0 37 "PeirceDesk$Algebra" "left" "[I", Cond.fieldLink RX0 40 "PeirceDesk$Algebra" "right" "[I"]
def wsX0_isOfKind_r3 : List Cond := [Cond.methodLink RX0 66 yX0_multiply, Cond.instanceMethod yX0_multiply, Cond.selects RX0 yX0_multiply yX0_multiply, Cond.code yX0_multiply cX0_multiply 8 none, Cond.methodLink RX0 70 yX0_writeSymmetric, Cond.instanceMethod yX0_writeSymmetric, Cond.selects RX0 yX0_writeSymmetric yX0_writeSymmetric, Cond.code yX0_writeSymmetric cX0_writeSymmetric 7 none, Cond.static yX7_isZero, Cond.code yX7_isZero cX7_isZero 2 (some .boolean), Cond.methodLink RX0 93 yX0_unit, Cond.instanceMethod yX0_unit, Cond.selects RX0 yX0_unit yX0_unit, Cond.code yX0_unit cX0_unit 1 (some (.array .int)), Cond.static yX7_same, Cond.code yX7_same cX7_same 3 (some .boolean)]
def wsX0_isOfKind : List Cond := .code yX0_isOfKind cX0_isOfKind 2 (some .boolean) :: ((wsX0_isOfKind_r1 ++ (wsX0_isOfKind_r2 ++ wsX0_isOfKind_r3)) ++ wsX00 ++ wsX60 ++ wsX50)
def wsX0_countKind_r1 : List Cond := [Cond.fieldLink RX0 12 "PeirceDesk$Algebra" "now" "LPeirceDesk$State;", Cond.fieldLink RX0 49 "PeirceDesk$Algebra" "candidate" "[I", Cond.methodLink RX0 131 yX0_isOfKind, Cond.instanceMethod yX0_isOfKind, Cond.selects RX0 yX0_isOfKind yX0_isOfKind, Cond.initialized RX0, Cond.code yX0_isOfKind cX0_isOfKind 2 (some .boolean), Cond.fieldLink RX0 43 "PeirceDesk$Algebra" "square" "[I", Cond.methodLink RX0 106 yX0_determinant, Cond.instanceMethod yX0_determinant, Cond.selects RX0 yX0_determinant yX0_determinant, Cond.code yX0_determinant cX0_determinant 2 (some .int), Cond.fieldLink RX0 21 "PeirceDesk$Algebra" "rows" "LPeirceDesk$Rows;", Cond.instanceMethod yX5_load, Cond.initialized RX5, Cond.selects RX5 yX5_load yX5_load, Cond.code yX5_load cX5_load 5 none, Cond.fieldLink RX5 22 "PeirceDesk$Rows" "modulus" "I", Cond.fieldLink RX5 11 "PeirceDesk$Rows" "cells" "[[I", Cond.methodLink RX5 26 yX5_clearRow, Cond.instanceMethod yX5_clearRow, Cond.selects RX5 yX5_clearRow yX5_clearRow, Cond.code yX5_clearRow cX5_clearRow 3 none, Cond.instanceMethod yX5_reduce]
def wsX0_countKind_r2 : List Cond := [Cond.selects RX5 yX5_reduce yX5_reduce, Cond.code yX5_reduce cX5_reduce 5 (some .int), Cond.fieldLink RX5 34 "PeirceDesk$Rows" "pivots" "I", Cond.methodLink RX5 37 yX5_pivotRow, Cond.instanceMethod yX5_pivotRow, Cond.selects RX5 yX5_pivotRow yX5_pivotRow, Cond.code yX5_pivotRow cX5_pivotRow 4 (some .int), Cond.methodLink RX5 41 yX5_exchange, Cond.instanceMethod yX5_exchange, Cond.selects RX5 yX5_exchange yX5_exchange, Cond.code yX5_exchange cX5_exchange 5 none, Cond.methodLink RX5 45 yX5_makePivotOne, Cond.instanceMethod yX5_makePivotOne, Cond.selects RX5 yX5_makePivotOne yX5_makePivotOne, Cond.code yX5_makePivotOne cX5_makePivotOne 6 none, Cond.static yX7_reduced, Cond.initialized RX7, Cond.code yX7_reduced cX7_reduced 3 (some .int), Cond.methodLink RX5 48 yX5_clearColumn, Cond.instanceMethod yX5_clearColumn, Cond.selects RX5 yX5_clearColumn yX5_clearColumn, Cond.code yX5_clearColumn cX5_clearColumn 6 none, Cond.methodLink RX0 113 yX0_product, Cond.instanceMethod yX0_product]
def wsX0_countKind_r3 : List Cond := [Cond.selects RX0 yX0_product yX0_product, Cond.code yX0_product cX0_product 4 none, Cond.fieldLink RX0 37 "PeirceDesk$Algebra" "left" "[I", Cond.fieldLink RX0 40 "PeirceDesk$Algebra" "right" "[I", Cond.methodLink RX0 66 yX0_multiply, Cond.instanceMethod yX0_multiply, Cond.selects RX0 yX0_multiply yX0_multiply, Cond.code yX0_multiply cX0_multiply 8 none, Cond.methodLink RX0 70 yX0_writeSymmetric, Cond.instanceMethod yX0_writeSymmetric, Cond.selects RX0 yX0_writeSymmetric yX0_writeSymmetric, Cond.code yX0_writeSymmetric cX0_writeSymmetric 7 none, Cond.static yX7_isZero, Cond.code yX7_isZero cX7_isZero 2 (some .boolean), Cond.methodLink RX0 93 yX0_unit, Cond.instanceMethod yX0_unit, Cond.selects RX0 yX0_unit yX0_unit, Cond.code yX0_unit cX0_unit 1 (some (.array .int)), Cond.static yX7_same, Cond.code yX7_same cX7_same 3 (some .boolean)]
def wsX0_countKind : List Cond := .code yX0_countKind cX0_countKind 7 (some .int) :: ((wsX0_countKind_r1 ++ (wsX0_countKind_r2 ++ wsX0_countKind_r3)) ++ wsX00 ++ wsX60 ++ wsX50)
def wsX1_init : List Cond := .code yX1_init cX1_init 1 none :: ([.methodLink RX1 3 objectInit, .instanceMethod objectInit, .code objectInit ⟨#[0xb1]⟩ 1 none, .arrayClass .int, .fieldLink RX1 9 "PeirceDesk$Frame" "sum" "[I", .fieldLink RX1 15 "PeirceDesk$Frame" "first" "[I", .fieldLink RX1 18 "PeirceDesk$Frame" "second" "[I"] ++ wsX10)
def wsX1_startSum : List Cond := .code yX1_startSum cX1_startSum 2 none :: ([.fieldLink RX1 9 "PeirceDesk$Frame" "sum" "[I", .fieldLink RX1 35 "PeirceDesk$Frame" "sign" "I", .fieldLink RX1 38 "PeirceDesk$Frame" "times" "I"] ++ wsX10)
def wsX1_open : List Cond := .code yX1_open cX1_open 3 none :: ([.fieldLink RX1 21 "PeirceDesk$Frame" "kind" "C", .fieldLink RX1 25 "PeirceDesk$Frame" "place" "I", .fieldLink RX1 29 "PeirceDesk$Frame" "arguments" "I", .methodLink RX1 32 yX1_startSum, .instanceMethod yX1_startSum, .selects RX1 yX1_startSum yX1_startSum, .initialized RX1, .code yX1_startSum cX1_startSum 2 none, .fieldLink RX1 9 "PeirceDesk$Frame" "sum" "[I", .fieldLink RX1 35 "PeirceDesk$Frame" "sign" "I", .fieldLink RX1 38 "PeirceDesk$Frame" "times" "I"] ++ wsX10)
def wsX1_add : List Cond := .code yX1_add cX1_add 4 none :: ([.fieldLink RX1 9 "PeirceDesk$Frame" "sum" "[I", .fieldLink RX1 35 "PeirceDesk$Frame" "sign" "I", .fieldLink RX1 38 "PeirceDesk$Frame" "times" "I", .static yX7_reduced, .initialized RX7, .code yX7_reduced cX7_reduced 3 (some .int)] ++ wsX10)
def wsX1_keepArgument : List Cond := .code yX1_keepArgument cX1_keepArgument 1 none :: ([.fieldLink RX1 9 "PeirceDesk$Frame" "sum" "[I", .fieldLink RX1 29 "PeirceDesk$Frame" "arguments" "I", .fieldLink RX1 15 "PeirceDesk$Frame" "first" "[I", .fieldLink RX1 18 "PeirceDesk$Frame" "second" "[I", .static yX7_copy, .initialized RX7, .code yX7_copy cX7_copy 2 none, .methodLink RX7 194 arraycopyName, .native arraycopyName, .static arraycopyName, .initialized "java/lang/System", .methodLink RX1 32 yX1_startSum, .instanceMethod yX1_startSum, .selects RX1 yX1_startSum yX1_startSum, .initialized RX1, .code yX1_startSum cX1_startSum 2 none, .fieldLink RX1 35 "PeirceDesk$Frame" "sign" "I", .fieldLink RX1 38 "PeirceDesk$Frame" "times" "I"] ++ wsX10)
def wsX1_finish_r1 : List Cond := [Cond.fieldLink RX1 21 "PeirceDesk$Frame" "kind" "C", Cond.fieldLink RX1 15 "PeirceDesk$Frame" "first" "[I", Cond.fieldLink RX1 9 "PeirceDesk$Frame" "sum" "[I", Cond.fieldLink RX1 18 "PeirceDesk$Frame" "second" "[I", Cond.instanceMethod yX0_product, Cond.initialized RX0, Cond.selects RX0 yX0_product yX0_product, Cond.code yX0_product cX0_product 4 none, Cond.fieldLink RX0 12 "PeirceDesk$Algebra" "now" "LPeirceDesk$State;", Cond.fieldLink RX0 37 "PeirceDesk$Algebra" "left" "[I", Cond.fieldLink RX0 40 "PeirceDesk$Algebra" "right" "[I", Cond.methodLink RX0 66 yX0_multiply, Cond.instanceMethod yX0_multiply, Cond.selects RX0 yX0_multiply yX0_multiply, Cond.code yX0_multiply cX0_multiply 8 none, Cond.static yX7_reduced, Cond.initialized RX7, Cond.code yX7_reduced cX7_reduced 3 (some .int), Cond.methodLink RX0 70 yX0_writeSymmetric, Cond.instanceMethod yX0_writeSymmetric, Cond.selects RX0 yX0_writeSymmetric yX0_writeSymmetric, Cond.code yX0_writeSymmetric cX0_writeSymmetric 7 none, Cond.instanceMethod yX0_operator, Cond.selects RX0 yX0_operator yX0_operator]
def wsX1_finish_r2 : List Cond := [Cond.code yX0_operator cX0_operator 4 none, Cond.methodLink RX0 74 yX0_triple, Cond.instanceMethod yX0_triple, Cond.selects RX0 yX0_triple yX0_triple, Cond.code yX0_triple cX0_triple 5 none, Cond.instanceMethod yX0_inverse, Cond.selects RX0 yX0_inverse yX0_inverse, Cond.code yX0_inverse cX0_inverse 3 (some .boolean), Cond.fieldLink RX0 21 "PeirceDesk$Algebra" "rows" "LPeirceDesk$Rows;", Cond.instanceMethod yX5_load, Cond.initialized RX5, Cond.selects RX5 yX5_load yX5_load, Cond.code yX5_load cX5_load 5 none, Cond.fieldLink RX5 22 "PeirceDesk$Rows" "modulus" "I", Cond.fieldLink RX5 11 "PeirceDesk$Rows" "cells" "[[I", Cond.methodLink RX5 26 yX5_clearRow, Cond.instanceMethod yX5_clearRow, Cond.selects RX5 yX5_clearRow yX5_clearRow, Cond.code yX5_clearRow cX5_clearRow 3 none, Cond.instanceMethod yX5_reduce, Cond.selects RX5 yX5_reduce yX5_reduce, Cond.code yX5_reduce cX5_reduce 5 (some .int), Cond.fieldLink RX5 34 "PeirceDesk$Rows" "pivots" "I", Cond.methodLink RX5 37 yX5_pivotRow]
def wsX1_finish_r3 : List Cond := [Cond.instanceMethod yX5_pivotRow, Cond.selects RX5 yX5_pivotRow yX5_pivotRow, Cond.code yX5_pivotRow cX5_pivotRow 4 (some .int), Cond.methodLink RX5 41 yX5_exchange, Cond.instanceMethod yX5_exchange, Cond.selects RX5 yX5_exchange yX5_exchange, Cond.code yX5_exchange cX5_exchange 5 none, Cond.methodLink RX5 45 yX5_makePivotOne, Cond.instanceMethod yX5_makePivotOne, Cond.selects RX5 yX5_makePivotOne yX5_makePivotOne, Cond.code yX5_makePivotOne cX5_makePivotOne 6 none, Cond.methodLink RX5 48 yX5_clearColumn, Cond.instanceMethod yX5_clearColumn, Cond.selects RX5 yX5_clearColumn yX5_clearColumn, Cond.code yX5_clearColumn cX5_clearColumn 6 none, Cond.methodLink RX0 89 yX0_readInverse, Cond.instanceMethod yX0_readInverse, Cond.selects RX0 yX0_readInverse yX0_readInverse, Cond.code yX0_readInverse cX0_readInverse 4 none, Cond.methodLink RX0 93 yX0_unit, Cond.instanceMethod yX0_unit, Cond.selects RX0 yX0_unit yX0_unit, Cond.code yX0_unit cX0_unit 1 (some (.array .int))]
def wsX1_finish : List Cond := .code yX1_finish cX1_finish 2 (some .boolean) :: ((wsX1_finish_r1 ++ (wsX1_finish_r2 ++ wsX1_finish_r3)) ++ wsX10 ++ wsX00 ++ wsX60 ++ wsX50)
def wsX2_init : List Cond := .code yX2_init cX2_init 2 none :: ([.methodLink RX2 3 objectInit, .instanceMethod objectInit, .code objectInit ⟨#[0xb1]⟩ 1 none, .classLink RX2 9 RX6, .fieldLink RX2 11 "PeirceDesk$History" "states" "[LPeirceDesk$State;", .instantiable RX6 3, .initialized RX6, .methodLink RX2 17 yX6_init, .instanceMethod yX6_init, .code yX6_init cX6_init 1 none, .methodLink RX6 3 objectInit, .classLink RX6 9 "[[I", .arrayClass .int, .fieldLink RX6 11 "PeirceDesk$State" "elements" "[[I", .methodLink RX6 16 yX6_clear, .instanceMethod yX6_clear, .selects RX6 yX6_clear yX6_clear, .code yX6_clear cX6_clear 5 none, .fieldLink RX6 20 "PeirceDesk$State" "size" "I", .fieldLink RX6 24 "PeirceDesk$State" "modulus" "I", .methodLink RX6 27 yX6_writeIdentity, .instanceMethod yX6_writeIdentity, .selects RX6 yX6_writeIdentity yX6_writeIdentity, .code yX6_writeIdentity cX6_writeIdentity 4 none] ++ wsX20 ++ wsX60)
def wsX6_copyFrom : List Cond := .code yX6_copyFrom cX6_copyFrom 3 none :: ([.fieldLink RX6 20 "PeirceDesk$State" "size" "I", .fieldLink RX6 24 "PeirceDesk$State" "modulus" "I", .fieldLink RX6 11 "PeirceDesk$State" "elements" "[[I", .static yX7_copy, .initialized RX7, .code yX7_copy cX7_copy 2 none, .methodLink RX7 194 arraycopyName, .native arraycopyName, .static arraycopyName, .initialized "java/lang/System"] ++ wsX60)
def wsX2_remember : List Cond := .code yX2_remember cX2_remember 2 none :: ([.fieldLink RX2 11 "PeirceDesk$History" "states" "[LPeirceDesk$State;", .fieldLink RX2 18 "PeirceDesk$History" "next" "I", .fieldLink RX2 26 "PeirceDesk$History" "length" "I", .methodLink RX2 29 Lib.Math.min.name, .static Lib.Math.min.name, .initialized "java/lang/Math", .code Lib.Math.min.name Lib.Math.min.code 2 (some .int), .instanceMethod yX6_copyFrom, .initialized RX6, .selects RX6 yX6_copyFrom yX6_copyFrom, .code yX6_copyFrom cX6_copyFrom 3 none, .fieldLink RX6 20 "PeirceDesk$State" "size" "I", .fieldLink RX6 24 "PeirceDesk$State" "modulus" "I", .fieldLink RX6 11 "PeirceDesk$State" "elements" "[[I", .static yX7_copy, .initialized RX7, .code yX7_copy cX7_copy 2 none, .methodLink RX7 194 arraycopyName, .native arraycopyName, .static arraycopyName, .initialized "java/lang/System"] ++ wsX20 ++ wsX60)
def wsX2_takeBack : List Cond := .code yX2_takeBack cX2_takeBack 2 none :: ([.fieldLink RX2 26 "PeirceDesk$History" "length" "I", .fieldLink RX2 18 "PeirceDesk$History" "next" "I", .fieldLink RX2 11 "PeirceDesk$History" "states" "[LPeirceDesk$State;", .instanceMethod yX6_copyFrom, .initialized RX6, .selects RX6 yX6_copyFrom yX6_copyFrom, .code yX6_copyFrom cX6_copyFrom 3 none, .fieldLink RX6 20 "PeirceDesk$State" "size" "I", .fieldLink RX6 24 "PeirceDesk$State" "modulus" "I", .fieldLink RX6 11 "PeirceDesk$State" "elements" "[[I", .static yX7_copy, .initialized RX7, .code yX7_copy cX7_copy 2 none, .methodLink RX7 194 arraycopyName, .native arraycopyName, .static arraycopyName, .initialized "java/lang/System"] ++ wsX20 ++ wsX60)
def wsX3_init : List Cond := .code yX3_init cX3_init 1 none :: ([.methodLink RX3 3 objectInit, .instanceMethod objectInit, .code objectInit ⟨#[0xb1]⟩ 1 none, .arrayClass .char, .fieldLink RX3 9 "PeirceDesk$Pad" "signs" "[C", .arrayClass .int, .fieldLink RX3 15 "PeirceDesk$Pad" "commas" "[I"] ++ wsX30)
def wsX3_charactersIn : List Cond := .code yX3_charactersIn cX3_charactersIn 6 (some .int) :: ([.constantLong RX3 19 (255)])
def wsX3_append : List Cond := .code yX3_append cX3_append 5 none :: ([.fieldLink RX3 21 "PeirceDesk$Pad" "length" "I", .fieldLink RX3 9 "PeirceDesk$Pad" "signs" "[C", .constantLong RX3 19 (255)] ++ wsX30)
def wsX7_registerOf : List Cond := .code yX7_registerOf cX7_registerOf 1 (some .int) :: ([])
def wsX3_target : List Cond := .code yX3_target cX3_target 1 (some .int) :: ([.fieldLink RX3 21 "PeirceDesk$Pad" "length" "I", .fieldLink RX3 9 "PeirceDesk$Pad" "signs" "[C", .static yX7_registerOf, .initialized RX7, .code yX7_registerOf cX7_registerOf 1 (some .int)] ++ wsX30)
def wsX3_takesDigit : List Cond := .code yX3_takesDigit cX3_takesDigit 2 (some .boolean) :: ([.fieldLink RX3 35 "PeirceDesk$Pad" "awaited" "I"] ++ wsX30)
def wsX3_takesBracket : List Cond := .code yX3_takesBracket cX3_takesBracket 1 (some .boolean) :: ([.fieldLink RX3 29 "PeirceDesk$Pad" "open" "I", .fieldLink RX3 15 "PeirceDesk$Pad" "commas" "[I", .fieldLink RX3 32 "PeirceDesk$Pad" "nextCommas" "I", .fieldLink RX3 35 "PeirceDesk$Pad" "awaited" "I"] ++ wsX30)
def wsX3_takesFactor : List Cond := .code yX3_takesFactor cX3_takesFactor 2 (some .boolean) :: ([.fieldLink RX3 35 "PeirceDesk$Pad" "awaited" "I", .fieldLink RX3 32 "PeirceDesk$Pad" "nextCommas" "I", .static yX7_registerOf, .initialized RX7, .code yX7_registerOf cX7_registerOf 1 (some .int), .methodLink RX3 53 yX3_takesBracket, .instanceMethod yX3_takesBracket, .selects RX3 yX3_takesBracket yX3_takesBracket, .initialized RX3, .code yX3_takesBracket cX3_takesBracket 1 (some .boolean), .fieldLink RX3 29 "PeirceDesk$Pad" "open" "I", .fieldLink RX3 15 "PeirceDesk$Pad" "commas" "[I"] ++ wsX30)
def wsX3_takesSign : List Cond := .code yX3_takesSign cX3_takesSign 2 (some .boolean) :: ([.fieldLink RX3 35 "PeirceDesk$Pad" "awaited" "I"] ++ wsX30)
def wsX3_takesInside : List Cond := .code yX3_takesInside cX3_takesInside 3 (some .boolean) :: ([.fieldLink RX3 15 "PeirceDesk$Pad" "commas" "[I", .fieldLink RX3 29 "PeirceDesk$Pad" "open" "I", .fieldLink RX3 35 "PeirceDesk$Pad" "awaited" "I", .methodLink RX3 63 yX3_takesSign, .instanceMethod yX3_takesSign, .selects RX3 yX3_takesSign yX3_takesSign, .initialized RX3, .code yX3_takesSign cX3_takesSign 2 (some .boolean)] ++ wsX30)
def wsX3_takesOutside : List Cond := .code yX3_takesOutside cX3_takesOutside 4 (some .boolean) :: ([.fieldLink RX3 9 "PeirceDesk$Pad" "signs" "[C", .fieldLink RX3 38 "PeirceDesk$Pad" "divided" "Z", .fieldLink RX3 35 "PeirceDesk$Pad" "awaited" "I", .static yX7_registerOf, .initialized RX7, .code yX7_registerOf cX7_registerOf 1 (some .int), .methodLink RX3 63 yX3_takesSign, .instanceMethod yX3_takesSign, .selects RX3 yX3_takesSign yX3_takesSign, .initialized RX3, .code yX3_takesSign cX3_takesSign 2 (some .boolean)] ++ wsX30)
def wsX3_takes_r1 : List Cond := [Cond.fieldLink RX3 35 "PeirceDesk$Pad" "awaited" "I", Cond.fieldLink RX3 29 "PeirceDesk$Pad" "open" "I", Cond.methodLink RX3 46 yX3_takesDigit, Cond.instanceMethod yX3_takesDigit, Cond.selects RX3 yX3_takesDigit yX3_takesDigit, Cond.initialized RX3, Cond.code yX3_takesDigit cX3_takesDigit 2 (some .boolean), Cond.methodLink RX3 50 yX3_takesFactor, Cond.instanceMethod yX3_takesFactor, Cond.selects RX3 yX3_takesFactor yX3_takesFactor, Cond.code yX3_takesFactor cX3_takesFactor 2 (some .boolean), Cond.fieldLink RX3 32 "PeirceDesk$Pad" "nextCommas" "I", Cond.static yX7_registerOf, Cond.initialized RX7, Cond.code yX7_registerOf cX7_registerOf 1 (some .int), Cond.methodLink RX3 53 yX3_takesBracket, Cond.instanceMethod yX3_takesBracket, Cond.selects RX3 yX3_takesBracket yX3_takesBracket, Cond.code yX3_takesBracket cX3_takesBracket 1 (some .boolean), Cond.fieldLink RX3 15 "PeirceDesk$Pad" "commas" "[I", Cond.methodLink RX3 57 yX3_takesInside, Cond.instanceMethod yX3_takesInside, Cond.selects RX3 yX3_takesInside yX3_takesInside, Cond.code yX3_takesInside cX3_takesInside 3 (some .boolean)]
def wsX3_takes_r2 : List Cond := [Cond.methodLink RX3 63 yX3_takesSign, Cond.instanceMethod yX3_takesSign, Cond.selects RX3 yX3_takesSign yX3_takesSign, Cond.code yX3_takesSign cX3_takesSign 2 (some .boolean), Cond.methodLink RX3 60 yX3_takesOutside, Cond.instanceMethod yX3_takesOutside, Cond.selects RX3 yX3_takesOutside yX3_takesOutside, Cond.code yX3_takesOutside cX3_takesOutside 4 (some .boolean), Cond.fieldLink RX3 9 "PeirceDesk$Pad" "signs" "[C", Cond.fieldLink RX3 38 "PeirceDesk$Pad" "divided" "Z"]
def wsX3_takes : List Cond := .code yX3_takes cX3_takes 3 (some .boolean) :: ((wsX3_takes_r1 ++ wsX3_takes_r2) ++ wsX30)
def wsX3_findFault_r1 : List Cond := [Cond.fieldLink RX3 29 "PeirceDesk$Pad" "open" "I", Cond.fieldLink RX3 32 "PeirceDesk$Pad" "nextCommas" "I", Cond.fieldLink RX3 35 "PeirceDesk$Pad" "awaited" "I", Cond.fieldLink RX3 38 "PeirceDesk$Pad" "divided" "Z", Cond.fieldLink RX3 21 "PeirceDesk$Pad" "length" "I", Cond.fieldLink RX3 9 "PeirceDesk$Pad" "signs" "[C", Cond.methodLink RX3 42 yX3_takes, Cond.instanceMethod yX3_takes, Cond.selects RX3 yX3_takes yX3_takes, Cond.initialized RX3, Cond.code yX3_takes cX3_takes 3 (some .boolean), Cond.methodLink RX3 46 yX3_takesDigit, Cond.instanceMethod yX3_takesDigit, Cond.selects RX3 yX3_takesDigit yX3_takesDigit, Cond.code yX3_takesDigit cX3_takesDigit 2 (some .boolean), Cond.methodLink RX3 50 yX3_takesFactor, Cond.instanceMethod yX3_takesFactor, Cond.selects RX3 yX3_takesFactor yX3_takesFactor, Cond.code yX3_takesFactor cX3_takesFactor 2 (some .boolean), Cond.static yX7_registerOf, Cond.initialized RX7, Cond.code yX7_registerOf cX7_registerOf 1 (some .int), Cond.methodLink RX3 53 yX3_takesBracket, Cond.instanceMethod yX3_takesBracket]
def wsX3_findFault_r2 : List Cond := [Cond.selects RX3 yX3_takesBracket yX3_takesBracket, Cond.code yX3_takesBracket cX3_takesBracket 1 (some .boolean), Cond.fieldLink RX3 15 "PeirceDesk$Pad" "commas" "[I", Cond.methodLink RX3 57 yX3_takesInside, Cond.instanceMethod yX3_takesInside, Cond.selects RX3 yX3_takesInside yX3_takesInside, Cond.code yX3_takesInside cX3_takesInside 3 (some .boolean), Cond.methodLink RX3 63 yX3_takesSign, Cond.instanceMethod yX3_takesSign, Cond.selects RX3 yX3_takesSign yX3_takesSign, Cond.code yX3_takesSign cX3_takesSign 2 (some .boolean), Cond.methodLink RX3 60 yX3_takesOutside, Cond.instanceMethod yX3_takesOutside, Cond.selects RX3 yX3_takesOutside yX3_takesOutside, Cond.code yX3_takesOutside cX3_takesOutside 4 (some .boolean)]
def wsX3_findFault : List Cond := .code yX3_findFault cX3_findFault 2 (some .int) :: ((wsX3_findFault_r1 ++ wsX3_findFault_r2) ++ wsX30)
def wsX4_init : List Cond := .code yX4_init cX4_init 2 none :: ([.methodLink RX4 3 objectInit, .instanceMethod objectInit, .code objectInit ⟨#[0xb1]⟩ 1 none, .classLink RX4 9 RX1, .fieldLink RX4 11 "PeirceDesk$Reckoner" "frames" "[LPeirceDesk$Frame;", .instantiable RX1 8, .initialized RX1, .arrayClass .int, .fieldLink RX4 18 "PeirceDesk$Reckoner" "leftSide" "[I", .methodLink RX4 17 yX1_init, .instanceMethod yX1_init, .code yX1_init cX1_init 1 none, .methodLink RX1 3 objectInit, .fieldLink RX1 9 "PeirceDesk$Frame" "sum" "[I", .fieldLink RX1 15 "PeirceDesk$Frame" "first" "[I", .fieldLink RX1 18 "PeirceDesk$Frame" "second" "[I"] ++ wsX40 ++ wsX10)
def wsX4_result : List Cond := .code yX4_result cX4_result 1 (some (.array .int)) :: ([.fieldLink RX4 11 "PeirceDesk$Reckoner" "frames" "[LPeirceDesk$Frame;"] ++ wsX40 ++ wsX10)
def wsX4_openBracket : List Cond := .code yX4_openBracket cX4_openBracket 3 none :: ([.fieldLink RX4 25 "PeirceDesk$Reckoner" "open" "I", .fieldLink RX4 11 "PeirceDesk$Reckoner" "frames" "[LPeirceDesk$Frame;", .instanceMethod yX1_open, .initialized RX1, .selects RX1 yX1_open yX1_open, .code yX1_open cX1_open 3 none, .fieldLink RX1 21 "PeirceDesk$Frame" "kind" "C", .fieldLink RX1 25 "PeirceDesk$Frame" "place" "I", .fieldLink RX1 29 "PeirceDesk$Frame" "arguments" "I", .methodLink RX1 32 yX1_startSum, .instanceMethod yX1_startSum, .selects RX1 yX1_startSum yX1_startSum, .code yX1_startSum cX1_startSum 2 none, .fieldLink RX1 9 "PeirceDesk$Frame" "sum" "[I", .fieldLink RX1 35 "PeirceDesk$Frame" "sign" "I", .fieldLink RX1 38 "PeirceDesk$Frame" "times" "I"] ++ wsX40 ++ wsX10)
def wsX4_closeBracket : List Cond := .code yX4_closeBracket cX4_closeBracket 2 none :: ([.fieldLink RX4 25 "PeirceDesk$Reckoner" "open" "I", .fieldLink RX4 11 "PeirceDesk$Reckoner" "frames" "[LPeirceDesk$Frame;", .instanceMethod yX1_add, .initialized RX1, .selects RX1 yX1_add yX1_add, .code yX1_add cX1_add 4 none, .fieldLink RX1 9 "PeirceDesk$Frame" "sum" "[I", .fieldLink RX1 35 "PeirceDesk$Frame" "sign" "I", .fieldLink RX1 38 "PeirceDesk$Frame" "times" "I", .static yX7_reduced, .initialized RX7, .code yX7_reduced cX7_reduced 3 (some .int)] ++ wsX40 ++ wsX10)
def wsX4_read_r1 : List Cond := [Cond.fieldLink RX4 18 "PeirceDesk$Reckoner" "leftSide" "[I", Cond.static yX7_registerOf, Cond.initialized RX7, Cond.code yX7_registerOf cX7_registerOf 1 (some .int), Cond.instanceMethod yX1_add, Cond.initialized RX1, Cond.selects RX1 yX1_add yX1_add, Cond.code yX1_add cX1_add 4 none, Cond.fieldLink RX1 9 "PeirceDesk$Frame" "sum" "[I", Cond.fieldLink RX1 35 "PeirceDesk$Frame" "sign" "I", Cond.fieldLink RX1 38 "PeirceDesk$Frame" "times" "I", Cond.static yX7_reduced, Cond.code yX7_reduced cX7_reduced 3 (some .int), Cond.instanceMethod yX1_keepArgument, Cond.selects RX1 yX1_keepArgument yX1_keepArgument, Cond.code yX1_keepArgument cX1_keepArgument 1 none, Cond.fieldLink RX1 29 "PeirceDesk$Frame" "arguments" "I", Cond.fieldLink RX1 15 "PeirceDesk$Frame" "first" "[I", Cond.fieldLink RX1 18 "PeirceDesk$Frame" "second" "[I", Cond.static yX7_copy, Cond.code yX7_copy cX7_copy 2 none, Cond.methodLink RX7 194 arraycopyName, Cond.native arraycopyName, Cond.static arraycopyName]
def wsX4_read_r2 : List Cond := [Cond.initialized "java/lang/System", Cond.methodLink RX1 32 yX1_startSum, Cond.instanceMethod yX1_startSum, Cond.selects RX1 yX1_startSum yX1_startSum, Cond.code yX1_startSum cX1_startSum 2 none]
def wsX4_read : List Cond := .code yX4_read cX4_read 5 none :: ((wsX4_read_r1 ++ wsX4_read_r2) ++ wsX60 ++ wsX10 ++ wsX40)
def wsX4_carryOut_r1 : List Cond := [Cond.fieldLink RX4 25 "PeirceDesk$Reckoner" "open" "I", Cond.fieldLink RX4 11 "PeirceDesk$Reckoner" "frames" "[LPeirceDesk$Frame;", Cond.instanceMethod yX1_open, Cond.initialized RX1, Cond.selects RX1 yX1_open yX1_open, Cond.code yX1_open cX1_open 3 none, Cond.fieldLink RX1 21 "PeirceDesk$Frame" "kind" "C", Cond.fieldLink RX1 25 "PeirceDesk$Frame" "place" "I", Cond.fieldLink RX1 29 "PeirceDesk$Frame" "arguments" "I", Cond.methodLink RX1 32 yX1_startSum, Cond.instanceMethod yX1_startSum, Cond.selects RX1 yX1_startSum yX1_startSum, Cond.code yX1_startSum cX1_startSum 2 none, Cond.fieldLink RX1 9 "PeirceDesk$Frame" "sum" "[I", Cond.fieldLink RX1 35 "PeirceDesk$Frame" "sign" "I", Cond.fieldLink RX1 38 "PeirceDesk$Frame" "times" "I", Cond.instanceMethod yX3_target, Cond.initialized RX3, Cond.selects RX3 yX3_target yX3_target, Cond.code yX3_target cX3_target 1 (some .int), Cond.fieldLink RX3 21 "PeirceDesk$Pad" "length" "I", Cond.fieldLink RX3 9 "PeirceDesk$Pad" "signs" "[C", Cond.static yX7_registerOf, Cond.initialized RX7]
def wsX4_carryOut_r2 : List Cond := [Cond.code yX7_registerOf cX7_registerOf 1 (some .int), Cond.methodLink RX4 45 yX4_openBracket, Cond.instanceMethod yX4_openBracket, Cond.selects RX4 yX4_openBracket yX4_openBracket, Cond.initialized RX4, Cond.code yX4_openBracket cX4_openBracket 3 none, Cond.instanceMethod yX1_finish, Cond.selects RX1 yX1_finish yX1_finish, Cond.code yX1_finish cX1_finish 2 (some .boolean), Cond.fieldLink RX1 15 "PeirceDesk$Frame" "first" "[I", Cond.fieldLink RX1 18 "PeirceDesk$Frame" "second" "[I", Cond.instanceMethod yX0_product, Cond.initialized RX0, Cond.selects RX0 yX0_product yX0_product, Cond.code yX0_product cX0_product 4 none, Cond.fieldLink RX0 12 "PeirceDesk$Algebra" "now" "LPeirceDesk$State;", Cond.fieldLink RX0 37 "PeirceDesk$Algebra" "left" "[I", Cond.fieldLink RX0 40 "PeirceDesk$Algebra" "right" "[I", Cond.methodLink RX0 66 yX0_multiply, Cond.instanceMethod yX0_multiply, Cond.selects RX0 yX0_multiply yX0_multiply, Cond.code yX0_multiply cX0_multiply 8 none, Cond.static yX7_reduced, Cond.code yX7_reduced cX7_reduced 3 (some .int)]
def wsX4_carryOut_r3 : List Cond := [Cond.methodLink RX0 70 yX0_writeSymmetric, Cond.instanceMethod yX0_writeSymmetric, Cond.selects RX0 yX0_writeSymmetric yX0_writeSymmetric, Cond.code yX0_writeSymmetric cX0_writeSymmetric 7 none, Cond.instanceMethod yX0_operator, Cond.selects RX0 yX0_operator yX0_operator, Cond.code yX0_operator cX0_operator 4 none, Cond.methodLink RX0 74 yX0_triple, Cond.instanceMethod yX0_triple, Cond.selects RX0 yX0_triple yX0_triple, Cond.code yX0_triple cX0_triple 5 none, Cond.instanceMethod yX0_inverse, Cond.selects RX0 yX0_inverse yX0_inverse, Cond.code yX0_inverse cX0_inverse 3 (some .boolean), Cond.fieldLink RX0 21 "PeirceDesk$Algebra" "rows" "LPeirceDesk$Rows;", Cond.instanceMethod yX5_load, Cond.initialized RX5, Cond.selects RX5 yX5_load yX5_load, Cond.code yX5_load cX5_load 5 none, Cond.fieldLink RX5 22 "PeirceDesk$Rows" "modulus" "I", Cond.fieldLink RX5 11 "PeirceDesk$Rows" "cells" "[[I", Cond.methodLink RX5 26 yX5_clearRow, Cond.instanceMethod yX5_clearRow, Cond.selects RX5 yX5_clearRow yX5_clearRow]
def wsX4_carryOut_r4 : List Cond := [Cond.code yX5_clearRow cX5_clearRow 3 none, Cond.instanceMethod yX5_reduce, Cond.selects RX5 yX5_reduce yX5_reduce, Cond.code yX5_reduce cX5_reduce 5 (some .int), Cond.fieldLink RX5 34 "PeirceDesk$Rows" "pivots" "I", Cond.methodLink RX5 37 yX5_pivotRow, Cond.instanceMethod yX5_pivotRow, Cond.selects RX5 yX5_pivotRow yX5_pivotRow, Cond.code yX5_pivotRow cX5_pivotRow 4 (some .int), Cond.methodLink RX5 41 yX5_exchange, Cond.instanceMethod yX5_exchange, Cond.selects RX5 yX5_exchange yX5_exchange, Cond.code yX5_exchange cX5_exchange 5 none, Cond.methodLink RX5 45 yX5_makePivotOne, Cond.instanceMethod yX5_makePivotOne, Cond.selects RX5 yX5_makePivotOne yX5_makePivotOne, Cond.code yX5_makePivotOne cX5_makePivotOne 6 none, Cond.methodLink RX5 48 yX5_clearColumn, Cond.instanceMethod yX5_clearColumn, Cond.selects RX5 yX5_clearColumn yX5_clearColumn, Cond.code yX5_clearColumn cX5_clearColumn 6 none, Cond.methodLink RX0 89 yX0_readInverse, Cond.instanceMethod yX0_readInverse, Cond.selects RX0 yX0_readInverse yX0_readInverse]
def wsX4_carryOut_r5 : List Cond := [Cond.code yX0_readInverse cX0_readInverse 4 none, Cond.methodLink RX0 93 yX0_unit, Cond.instanceMethod yX0_unit, Cond.selects RX0 yX0_unit yX0_unit, Cond.code yX0_unit cX0_unit 1 (some (.array .int)), Cond.methodLink RX4 66 yX4_closeBracket, Cond.instanceMethod yX4_closeBracket, Cond.selects RX4 yX4_closeBracket yX4_closeBracket, Cond.code yX4_closeBracket cX4_closeBracket 2 none, Cond.instanceMethod yX1_add, Cond.selects RX1 yX1_add yX1_add, Cond.code yX1_add cX1_add 4 none, Cond.methodLink RX4 70 yX4_read, Cond.instanceMethod yX4_read, Cond.selects RX4 yX4_read yX4_read, Cond.code yX4_read cX4_read 5 none, Cond.fieldLink RX4 18 "PeirceDesk$Reckoner" "leftSide" "[I", Cond.instanceMethod yX1_keepArgument, Cond.selects RX1 yX1_keepArgument yX1_keepArgument, Cond.code yX1_keepArgument cX1_keepArgument 1 none, Cond.static yX7_copy, Cond.code yX7_copy cX7_copy 2 none, Cond.methodLink RX7 194 arraycopyName, Cond.native arraycopyName]
def wsX4_carryOut_r6 : List Cond := [Cond.static arraycopyName, Cond.initialized "java/lang/System"]
def wsX4_carryOut : List Cond := .code yX4_carryOut cX4_carryOut 6 (some .int) :: ((wsX4_carryOut_r1 ++ (wsX4_carryOut_r2 ++ (wsX4_carryOut_r3 ++ (wsX4_carryOut_r4 ++ (wsX4_carryOut_r5 ++ wsX4_carryOut_r6))))) ++ wsX40 ++ wsX30 ++ wsX10 ++ wsX00 ++ wsX60 ++ wsX50)
def wsX7_init_r1 : List Cond := [Cond.methodLink RX7 3 objectInit, Cond.instanceMethod objectInit, Cond.code objectInit ⟨#[0xb1]⟩ 1 none, Cond.classLink RX7 9 RX0, Cond.instantiable RX0 11, Cond.initialized RX0, Cond.fieldLink RX7 12 "PeirceDesk" "algebra" "LPeirceDesk$Algebra;", Cond.classLink RX7 16 RX3, Cond.instantiable RX3 7, Cond.initialized RX3, Cond.fieldLink RX7 19 "PeirceDesk" "pad" "LPeirceDesk$Pad;", Cond.classLink RX7 23 RX4, Cond.instantiable RX4 3, Cond.initialized RX4, Cond.fieldLink RX7 26 "PeirceDesk" "reckoner" "LPeirceDesk$Reckoner;", Cond.classLink RX7 30 RX2, Cond.instantiable RX2 3, Cond.initialized RX2, Cond.fieldLink RX7 33 "PeirceDesk" "history" "LPeirceDesk$History;", Cond.classLink RX7 37 RX6, Cond.fieldLink RX7 39 "PeirceDesk" "slots" "[LPeirceDesk$State;", Cond.instantiable RX6 3, Cond.initialized RX6, Cond.arrayClass .boolean]
def wsX7_init_r2 : List Cond := [Cond.fieldLink RX7 44 "PeirceDesk" "saved" "[Z", Cond.methodLink RX7 11 yX0_init, Cond.instanceMethod yX0_init, Cond.code yX0_init cX0_init 1 none, Cond.methodLink RX0 3 objectInit, Cond.classLink RX0 9 RX6, Cond.fieldLink RX0 12 "PeirceDesk$Algebra" "now" "LPeirceDesk$State;", Cond.classLink RX0 18 RX5, Cond.instantiable RX5 3, Cond.initialized RX5, Cond.fieldLink RX0 21 "PeirceDesk$Algebra" "rows" "LPeirceDesk$Rows;", Cond.classLink RX0 25 "[[I", Cond.arrayClass .int, Cond.fieldLink RX0 27 "PeirceDesk$Algebra" "parts" "[[I", Cond.fieldLink RX0 30 "PeirceDesk$Algebra" "power" "[I", Cond.fieldLink RX0 34 "PeirceDesk$Algebra" "oneSide" "[I", Cond.fieldLink RX0 37 "PeirceDesk$Algebra" "left" "[I", Cond.fieldLink RX0 40 "PeirceDesk$Algebra" "right" "[I", Cond.fieldLink RX0 43 "PeirceDesk$Algebra" "square" "[I", Cond.fieldLink RX0 46 "PeirceDesk$Algebra" "otherSide" "[I", Cond.fieldLink RX0 49 "PeirceDesk$Algebra" "candidate" "[I", Cond.fieldLink RX0 52 "PeirceDesk$Algebra" "powers" "[[I", Cond.methodLink RX0 11 yX6_init, Cond.instanceMethod yX6_init]
def wsX7_init_r3 : List Cond := [Cond.code yX6_init cX6_init 1 none, Cond.methodLink RX6 3 objectInit, Cond.classLink RX6 9 "[[I", Cond.fieldLink RX6 11 "PeirceDesk$State" "elements" "[[I", Cond.methodLink RX6 16 yX6_clear, Cond.instanceMethod yX6_clear, Cond.selects RX6 yX6_clear yX6_clear, Cond.code yX6_clear cX6_clear 5 none, Cond.fieldLink RX6 20 "PeirceDesk$State" "size" "I", Cond.fieldLink RX6 24 "PeirceDesk$State" "modulus" "I", Cond.methodLink RX6 27 yX6_writeIdentity, Cond.instanceMethod yX6_writeIdentity, Cond.selects RX6 yX6_writeIdentity yX6_writeIdentity, Cond.code yX6_writeIdentity cX6_writeIdentity 4 none, Cond.methodLink RX0 20 yX5_init, Cond.instanceMethod yX5_init, Cond.code yX5_init cX5_init 1 none, Cond.methodLink RX5 3 objectInit, Cond.classLink RX5 9 "[[I", Cond.fieldLink RX5 11 "PeirceDesk$Rows" "cells" "[[I", Cond.methodLink RX7 18 yX3_init, Cond.instanceMethod yX3_init, Cond.code yX3_init cX3_init 1 none, Cond.methodLink RX3 3 objectInit]
def wsX7_init_r4 : List Cond := [Cond.arrayClass .char, Cond.fieldLink RX3 9 "PeirceDesk$Pad" "signs" "[C", Cond.fieldLink RX3 15 "PeirceDesk$Pad" "commas" "[I", Cond.methodLink RX7 25 yX4_init, Cond.instanceMethod yX4_init, Cond.code yX4_init cX4_init 2 none, Cond.methodLink RX4 3 objectInit, Cond.classLink RX4 9 RX1, Cond.fieldLink RX4 11 "PeirceDesk$Reckoner" "frames" "[LPeirceDesk$Frame;", Cond.instantiable RX1 8, Cond.initialized RX1, Cond.fieldLink RX4 18 "PeirceDesk$Reckoner" "leftSide" "[I", Cond.methodLink RX4 17 yX1_init, Cond.instanceMethod yX1_init, Cond.code yX1_init cX1_init 1 none, Cond.methodLink RX1 3 objectInit, Cond.fieldLink RX1 9 "PeirceDesk$Frame" "sum" "[I", Cond.fieldLink RX1 15 "PeirceDesk$Frame" "first" "[I", Cond.fieldLink RX1 18 "PeirceDesk$Frame" "second" "[I", Cond.methodLink RX7 32 yX2_init, Cond.instanceMethod yX2_init, Cond.code yX2_init cX2_init 2 none, Cond.methodLink RX2 3 objectInit, Cond.classLink RX2 9 RX6]
def wsX7_init_r5 : List Cond := [Cond.fieldLink RX2 11 "PeirceDesk$History" "states" "[LPeirceDesk$State;", Cond.methodLink RX2 17 yX6_init, Cond.methodLink RX7 43 yX6_init]
def wsX7_init : List Cond := .code yX7_init cX7_init 2 none :: ((wsX7_init_r1 ++ (wsX7_init_r2 ++ (wsX7_init_r3 ++ (wsX7_init_r4 ++ wsX7_init_r5)))) ++ wsX00 ++ wsX70 ++ wsX30 ++ wsX40 ++ wsX20 ++ wsX60 ++ wsX50 ++ wsX10)
def wsX7_begin_r1 : List Cond := [Cond.fieldLink RX7 12 "PeirceDesk" "algebra" "LPeirceDesk$Algebra;", Cond.fieldLink RX7 33 "PeirceDesk" "history" "LPeirceDesk$History;", Cond.instanceMethod yX2_remember, Cond.initialized RX2, Cond.selects RX2 yX2_remember yX2_remember, Cond.code yX2_remember cX2_remember 2 none, Cond.fieldLink RX2 11 "PeirceDesk$History" "states" "[LPeirceDesk$State;", Cond.fieldLink RX2 18 "PeirceDesk$History" "next" "I", Cond.fieldLink RX2 26 "PeirceDesk$History" "length" "I", Cond.methodLink RX2 29 Lib.Math.min.name, Cond.static Lib.Math.min.name, Cond.initialized "java/lang/Math", Cond.code Lib.Math.min.name Lib.Math.min.code 2 (some .int), Cond.instanceMethod yX6_copyFrom, Cond.initialized RX6, Cond.selects RX6 yX6_copyFrom yX6_copyFrom, Cond.code yX6_copyFrom cX6_copyFrom 3 none, Cond.fieldLink RX6 20 "PeirceDesk$State" "size" "I", Cond.fieldLink RX6 24 "PeirceDesk$State" "modulus" "I", Cond.fieldLink RX6 11 "PeirceDesk$State" "elements" "[[I", Cond.static yX7_copy, Cond.initialized RX7, Cond.code yX7_copy cX7_copy 2 none, Cond.methodLink RX7 194 arraycopyName]
def wsX7_begin_r2 : List Cond := [Cond.native arraycopyName, Cond.static arraycopyName, Cond.initialized "java/lang/System", Cond.instanceMethod yX6_clear, Cond.selects RX6 yX6_clear yX6_clear, Cond.code yX6_clear cX6_clear 5 none, Cond.methodLink RX6 27 yX6_writeIdentity, Cond.instanceMethod yX6_writeIdentity, Cond.selects RX6 yX6_writeIdentity yX6_writeIdentity, Cond.code yX6_writeIdentity cX6_writeIdentity 4 none]
def wsX7_begin : List Cond := .code yX7_begin cX7_begin 4 (some .int) :: ((wsX7_begin_r1 ++ wsX7_begin_r2) ++ wsX70 ++ wsX00 ++ wsX60 ++ wsX20)
def wsX7_isRegister : List Cond := .code yX7_isRegister cX7_isRegister 1 (some .boolean) :: ([])
def wsX7_isPlace : List Cond := .code yX7_isPlace cX7_isPlace 4 (some .boolean) :: ([.fieldLink RX7 12 "PeirceDesk" "algebra" "LPeirceDesk$Algebra;"] ++ wsX70 ++ wsX00 ++ wsX60)
def wsX7_set_r1 : List Cond := [Cond.fieldLink RX7 12 "PeirceDesk" "algebra" "LPeirceDesk$Algebra;", Cond.fieldLink RX7 33 "PeirceDesk" "history" "LPeirceDesk$History;", Cond.methodLink RX7 64 yX7_isRegister, Cond.static yX7_isRegister, Cond.initialized RX7, Cond.code yX7_isRegister cX7_isRegister 1 (some .boolean), Cond.methodLink RX7 68 yX7_isPlace, Cond.instanceMethod yX7_isPlace, Cond.selects RX7 yX7_isPlace yX7_isPlace, Cond.code yX7_isPlace cX7_isPlace 4 (some .boolean), Cond.instanceMethod yX2_remember, Cond.initialized RX2, Cond.selects RX2 yX2_remember yX2_remember, Cond.code yX2_remember cX2_remember 2 none, Cond.fieldLink RX2 11 "PeirceDesk$History" "states" "[LPeirceDesk$State;", Cond.fieldLink RX2 18 "PeirceDesk$History" "next" "I", Cond.fieldLink RX2 26 "PeirceDesk$History" "length" "I", Cond.methodLink RX2 29 Lib.Math.min.name, Cond.static Lib.Math.min.name, Cond.initialized "java/lang/Math", Cond.code Lib.Math.min.name Lib.Math.min.code 2 (some .int), Cond.instanceMethod yX6_copyFrom, Cond.initialized RX6, Cond.selects RX6 yX6_copyFrom yX6_copyFrom]
def wsX7_set_r2 : List Cond := [Cond.code yX6_copyFrom cX6_copyFrom 3 none, Cond.fieldLink RX6 20 "PeirceDesk$State" "size" "I", Cond.fieldLink RX6 24 "PeirceDesk$State" "modulus" "I", Cond.fieldLink RX6 11 "PeirceDesk$State" "elements" "[[I", Cond.static yX7_copy, Cond.code yX7_copy cX7_copy 2 none, Cond.methodLink RX7 194 arraycopyName, Cond.native arraycopyName, Cond.static arraycopyName, Cond.initialized "java/lang/System"]
def wsX7_set : List Cond := .code yX7_set cX7_set 7 (some .int) :: ((wsX7_set_r1 ++ wsX7_set_r2) ++ wsX70 ++ wsX00 ++ wsX60 ++ wsX20)
def wsX7_base_r1 : List Cond := [Cond.fieldLink RX7 12 "PeirceDesk" "algebra" "LPeirceDesk$Algebra;", Cond.fieldLink RX7 33 "PeirceDesk" "history" "LPeirceDesk$History;", Cond.methodLink RX7 64 yX7_isRegister, Cond.static yX7_isRegister, Cond.initialized RX7, Cond.code yX7_isRegister cX7_isRegister 1 (some .boolean), Cond.instanceMethod yX0_determinant, Cond.initialized RX0, Cond.selects RX0 yX0_determinant yX0_determinant, Cond.code yX0_determinant cX0_determinant 2 (some .int), Cond.fieldLink RX0 21 "PeirceDesk$Algebra" "rows" "LPeirceDesk$Rows;", Cond.fieldLink RX0 12 "PeirceDesk$Algebra" "now" "LPeirceDesk$State;", Cond.instanceMethod yX5_load, Cond.initialized RX5, Cond.selects RX5 yX5_load yX5_load, Cond.code yX5_load cX5_load 5 none, Cond.fieldLink RX5 22 "PeirceDesk$Rows" "modulus" "I", Cond.fieldLink RX5 11 "PeirceDesk$Rows" "cells" "[[I", Cond.methodLink RX5 26 yX5_clearRow, Cond.instanceMethod yX5_clearRow, Cond.selects RX5 yX5_clearRow yX5_clearRow, Cond.code yX5_clearRow cX5_clearRow 3 none, Cond.instanceMethod yX5_reduce, Cond.selects RX5 yX5_reduce yX5_reduce]
def wsX7_base_r2 : List Cond := [Cond.code yX5_reduce cX5_reduce 5 (some .int), Cond.fieldLink RX5 34 "PeirceDesk$Rows" "pivots" "I", Cond.methodLink RX5 37 yX5_pivotRow, Cond.instanceMethod yX5_pivotRow, Cond.selects RX5 yX5_pivotRow yX5_pivotRow, Cond.code yX5_pivotRow cX5_pivotRow 4 (some .int), Cond.methodLink RX5 41 yX5_exchange, Cond.instanceMethod yX5_exchange, Cond.selects RX5 yX5_exchange yX5_exchange, Cond.code yX5_exchange cX5_exchange 5 none, Cond.methodLink RX5 45 yX5_makePivotOne, Cond.instanceMethod yX5_makePivotOne, Cond.selects RX5 yX5_makePivotOne yX5_makePivotOne, Cond.code yX5_makePivotOne cX5_makePivotOne 6 none, Cond.static yX7_reduced, Cond.code yX7_reduced cX7_reduced 3 (some .int), Cond.methodLink RX5 48 yX5_clearColumn, Cond.instanceMethod yX5_clearColumn, Cond.selects RX5 yX5_clearColumn yX5_clearColumn, Cond.code yX5_clearColumn cX5_clearColumn 6 none, Cond.instanceMethod yX2_remember, Cond.initialized RX2, Cond.selects RX2 yX2_remember yX2_remember, Cond.code yX2_remember cX2_remember 2 none]
def wsX7_base_r3 : List Cond := [Cond.fieldLink RX2 11 "PeirceDesk$History" "states" "[LPeirceDesk$State;", Cond.fieldLink RX2 18 "PeirceDesk$History" "next" "I", Cond.fieldLink RX2 26 "PeirceDesk$History" "length" "I", Cond.methodLink RX2 29 Lib.Math.min.name, Cond.static Lib.Math.min.name, Cond.initialized "java/lang/Math", Cond.code Lib.Math.min.name Lib.Math.min.code 2 (some .int), Cond.instanceMethod yX6_copyFrom, Cond.initialized RX6, Cond.selects RX6 yX6_copyFrom yX6_copyFrom, Cond.code yX6_copyFrom cX6_copyFrom 3 none, Cond.fieldLink RX6 20 "PeirceDesk$State" "size" "I", Cond.fieldLink RX6 24 "PeirceDesk$State" "modulus" "I", Cond.fieldLink RX6 11 "PeirceDesk$State" "elements" "[[I", Cond.static yX7_copy, Cond.code yX7_copy cX7_copy 2 none, Cond.methodLink RX7 194 arraycopyName, Cond.native arraycopyName, Cond.static arraycopyName, Cond.initialized "java/lang/System", Cond.instanceMethod yX0_takeIdentityAsBase, Cond.selects RX0 yX0_takeIdentityAsBase yX0_takeIdentityAsBase, Cond.code yX0_takeIdentityAsBase cX0_takeIdentityAsBase 1 none, Cond.instanceMethod yX6_writeIdentity]
def wsX7_base_r4 : List Cond := [Cond.selects RX6 yX6_writeIdentity yX6_writeIdentity, Cond.code yX6_writeIdentity cX6_writeIdentity 4 none, Cond.methodLink RX0 93 yX0_unit, Cond.instanceMethod yX0_unit, Cond.selects RX0 yX0_unit yX0_unit, Cond.code yX0_unit cX0_unit 1 (some (.array .int)), Cond.instanceMethod yX0_takeAsBase, Cond.selects RX0 yX0_takeAsBase yX0_takeAsBase, Cond.code yX0_takeAsBase cX0_takeAsBase 2 none, Cond.methodLink RX0 106 yX0_determinant, Cond.methodLink RX0 89 yX0_readInverse, Cond.instanceMethod yX0_readInverse, Cond.selects RX0 yX0_readInverse yX0_readInverse, Cond.code yX0_readInverse cX0_readInverse 4 none]
def wsX7_base : List Cond := .code yX7_base cX7_base 3 (some .int) :: ((wsX7_base_r1 ++ (wsX7_base_r2 ++ (wsX7_base_r3 ++ wsX7_base_r4))) ++ wsX70 ++ wsX00 ++ wsX60 ++ wsX50 ++ wsX20)
def wsX7_split_r1 : List Cond := [Cond.fieldLink RX7 12 "PeirceDesk" "algebra" "LPeirceDesk$Algebra;", Cond.fieldLink RX7 33 "PeirceDesk" "history" "LPeirceDesk$History;", Cond.methodLink RX7 64 yX7_isRegister, Cond.static yX7_isRegister, Cond.initialized RX7, Cond.code yX7_isRegister cX7_isRegister 1 (some .boolean), Cond.instanceMethod yX0_isOwnSquare, Cond.initialized RX0, Cond.selects RX0 yX0_isOwnSquare yX0_isOwnSquare, Cond.code yX0_isOwnSquare cX0_isOwnSquare 2 (some .boolean), Cond.fieldLink RX0 43 "PeirceDesk$Algebra" "square" "[I", Cond.methodLink RX0 113 yX0_product, Cond.instanceMethod yX0_product, Cond.selects RX0 yX0_product yX0_product, Cond.code yX0_product cX0_product 4 none, Cond.fieldLink RX0 12 "PeirceDesk$Algebra" "now" "LPeirceDesk$State;", Cond.fieldLink RX0 37 "PeirceDesk$Algebra" "left" "[I", Cond.fieldLink RX0 40 "PeirceDesk$Algebra" "right" "[I", Cond.methodLink RX0 66 yX0_multiply, Cond.instanceMethod yX0_multiply, Cond.selects RX0 yX0_multiply yX0_multiply, Cond.code yX0_multiply cX0_multiply 8 none, Cond.static yX7_reduced, Cond.code yX7_reduced cX7_reduced 3 (some .int)]
def wsX7_split_r2 : List Cond := [Cond.methodLink RX0 70 yX0_writeSymmetric, Cond.instanceMethod yX0_writeSymmetric, Cond.selects RX0 yX0_writeSymmetric yX0_writeSymmetric, Cond.code yX0_writeSymmetric cX0_writeSymmetric 7 none, Cond.static yX7_same, Cond.code yX7_same cX7_same 3 (some .boolean), Cond.instanceMethod yX2_remember, Cond.initialized RX2, Cond.selects RX2 yX2_remember yX2_remember, Cond.code yX2_remember cX2_remember 2 none, Cond.fieldLink RX2 11 "PeirceDesk$History" "states" "[LPeirceDesk$State;", Cond.fieldLink RX2 18 "PeirceDesk$History" "next" "I", Cond.fieldLink RX2 26 "PeirceDesk$History" "length" "I", Cond.methodLink RX2 29 Lib.Math.min.name, Cond.static Lib.Math.min.name, Cond.initialized "java/lang/Math", Cond.code Lib.Math.min.name Lib.Math.min.code 2 (some .int), Cond.instanceMethod yX6_copyFrom, Cond.initialized RX6, Cond.selects RX6 yX6_copyFrom yX6_copyFrom, Cond.code yX6_copyFrom cX6_copyFrom 3 none, Cond.fieldLink RX6 20 "PeirceDesk$State" "size" "I", Cond.fieldLink RX6 24 "PeirceDesk$State" "modulus" "I", Cond.fieldLink RX6 11 "PeirceDesk$State" "elements" "[[I"]
def wsX7_split_r3 : List Cond := [Cond.static yX7_copy, Cond.code yX7_copy cX7_copy 2 none, Cond.methodLink RX7 194 arraycopyName, Cond.native arraycopyName, Cond.static arraycopyName, Cond.initialized "java/lang/System", Cond.instanceMethod yX0_findParts, Cond.selects RX0 yX0_findParts yX0_findParts, Cond.code yX0_findParts cX0_findParts 4 none, Cond.fieldLink RX0 27 "PeirceDesk$Algebra" "parts" "[[I", Cond.methodLink RX0 120 yX0_operator, Cond.instanceMethod yX0_operator, Cond.selects RX0 yX0_operator yX0_operator, Cond.code yX0_operator cX0_operator 4 none, Cond.methodLink RX0 74 yX0_triple, Cond.instanceMethod yX0_triple, Cond.selects RX0 yX0_triple yX0_triple, Cond.code yX0_triple cX0_triple 5 none, Cond.methodLink RX0 93 yX0_unit, Cond.instanceMethod yX0_unit, Cond.selects RX0 yX0_unit yX0_unit, Cond.code yX0_unit cX0_unit 1 (some (.array .int)), Cond.methodLink RX7 101 yX7_copy, Cond.methodLink RX7 104 yX7_isZero]
def wsX7_split_r4 : List Cond := [Cond.static yX7_isZero, Cond.code yX7_isZero cX7_isZero 2 (some .boolean)]
def wsX7_split : List Cond := .code yX7_split cX7_split 7 (some .int) :: ((wsX7_split_r1 ++ (wsX7_split_r2 ++ (wsX7_split_r3 ++ wsX7_split_r4))) ++ wsX70 ++ wsX00 ++ wsX60 ++ wsX20)
def wsX7_run_r1 : List Cond := [Cond.fieldLink RX7 19 "PeirceDesk" "pad" "LPeirceDesk$Pad;", Cond.fieldLink RX7 26 "PeirceDesk" "reckoner" "LPeirceDesk$Reckoner;", Cond.fieldLink RX7 12 "PeirceDesk" "algebra" "LPeirceDesk$Algebra;", Cond.fieldLink RX7 33 "PeirceDesk" "history" "LPeirceDesk$History;", Cond.instanceMethod yX3_findFault, Cond.initialized RX3, Cond.selects RX3 yX3_findFault yX3_findFault, Cond.code yX3_findFault cX3_findFault 2 (some .int), Cond.fieldLink RX3 29 "PeirceDesk$Pad" "open" "I", Cond.fieldLink RX3 32 "PeirceDesk$Pad" "nextCommas" "I", Cond.fieldLink RX3 35 "PeirceDesk$Pad" "awaited" "I", Cond.fieldLink RX3 38 "PeirceDesk$Pad" "divided" "Z", Cond.fieldLink RX3 21 "PeirceDesk$Pad" "length" "I", Cond.fieldLink RX3 9 "PeirceDesk$Pad" "signs" "[C", Cond.methodLink RX3 42 yX3_takes, Cond.instanceMethod yX3_takes, Cond.selects RX3 yX3_takes yX3_takes, Cond.code yX3_takes cX3_takes 3 (some .boolean), Cond.methodLink RX3 46 yX3_takesDigit, Cond.instanceMethod yX3_takesDigit, Cond.selects RX3 yX3_takesDigit yX3_takesDigit, Cond.code yX3_takesDigit cX3_takesDigit 2 (some .boolean), Cond.methodLink RX3 50 yX3_takesFactor, Cond.instanceMethod yX3_takesFactor]
def wsX7_run_r2 : List Cond := [Cond.selects RX3 yX3_takesFactor yX3_takesFactor, Cond.code yX3_takesFactor cX3_takesFactor 2 (some .boolean), Cond.static yX7_registerOf, Cond.initialized RX7, Cond.code yX7_registerOf cX7_registerOf 1 (some .int), Cond.methodLink RX3 53 yX3_takesBracket, Cond.instanceMethod yX3_takesBracket, Cond.selects RX3 yX3_takesBracket yX3_takesBracket, Cond.code yX3_takesBracket cX3_takesBracket 1 (some .boolean), Cond.fieldLink RX3 15 "PeirceDesk$Pad" "commas" "[I", Cond.methodLink RX3 57 yX3_takesInside, Cond.instanceMethod yX3_takesInside, Cond.selects RX3 yX3_takesInside yX3_takesInside, Cond.code yX3_takesInside cX3_takesInside 3 (some .boolean), Cond.methodLink RX3 63 yX3_takesSign, Cond.instanceMethod yX3_takesSign, Cond.selects RX3 yX3_takesSign yX3_takesSign, Cond.code yX3_takesSign cX3_takesSign 2 (some .boolean), Cond.methodLink RX3 60 yX3_takesOutside, Cond.instanceMethod yX3_takesOutside, Cond.selects RX3 yX3_takesOutside yX3_takesOutside, Cond.code yX3_takesOutside cX3_takesOutside 4 (some .boolean), Cond.instanceMethod yX3_target, Cond.selects RX3 yX3_target yX3_target]
def wsX7_run_r3 : List Cond := [Cond.code yX3_target cX3_target 1 (some .int), Cond.methodLink RX7 64 yX7_isRegister, Cond.static yX7_isRegister, Cond.code yX7_isRegister cX7_isRegister 1 (some .boolean), Cond.instanceMethod yX4_carryOut, Cond.initialized RX4, Cond.selects RX4 yX4_carryOut yX4_carryOut, Cond.code yX4_carryOut cX4_carryOut 6 (some .int), Cond.fieldLink RX4 25 "PeirceDesk$Reckoner" "open" "I", Cond.fieldLink RX4 11 "PeirceDesk$Reckoner" "frames" "[LPeirceDesk$Frame;", Cond.instanceMethod yX1_open, Cond.initialized RX1, Cond.selects RX1 yX1_open yX1_open, Cond.code yX1_open cX1_open 3 none, Cond.fieldLink RX1 21 "PeirceDesk$Frame" "kind" "C", Cond.fieldLink RX1 25 "PeirceDesk$Frame" "place" "I", Cond.fieldLink RX1 29 "PeirceDesk$Frame" "arguments" "I", Cond.methodLink RX1 32 yX1_startSum, Cond.instanceMethod yX1_startSum, Cond.selects RX1 yX1_startSum yX1_startSum, Cond.code yX1_startSum cX1_startSum 2 none, Cond.fieldLink RX1 9 "PeirceDesk$Frame" "sum" "[I", Cond.fieldLink RX1 35 "PeirceDesk$Frame" "sign" "I", Cond.fieldLink RX1 38 "PeirceDesk$Frame" "times" "I"]
def wsX7_run_r4 : List Cond := [Cond.methodLink RX4 45 yX4_openBracket, Cond.instanceMethod yX4_openBracket, Cond.selects RX4 yX4_openBracket yX4_openBracket, Cond.code yX4_openBracket cX4_openBracket 3 none, Cond.instanceMethod yX1_finish, Cond.selects RX1 yX1_finish yX1_finish, Cond.code yX1_finish cX1_finish 2 (some .boolean), Cond.fieldLink RX1 15 "PeirceDesk$Frame" "first" "[I", Cond.fieldLink RX1 18 "PeirceDesk$Frame" "second" "[I", Cond.instanceMethod yX0_product, Cond.initialized RX0, Cond.selects RX0 yX0_product yX0_product, Cond.code yX0_product cX0_product 4 none, Cond.fieldLink RX0 12 "PeirceDesk$Algebra" "now" "LPeirceDesk$State;", Cond.fieldLink RX0 37 "PeirceDesk$Algebra" "left" "[I", Cond.fieldLink RX0 40 "PeirceDesk$Algebra" "right" "[I", Cond.methodLink RX0 66 yX0_multiply, Cond.instanceMethod yX0_multiply, Cond.selects RX0 yX0_multiply yX0_multiply, Cond.code yX0_multiply cX0_multiply 8 none, Cond.static yX7_reduced, Cond.code yX7_reduced cX7_reduced 3 (some .int), Cond.methodLink RX0 70 yX0_writeSymmetric, Cond.instanceMethod yX0_writeSymmetric]
def wsX7_run_r5 : List Cond := [Cond.selects RX0 yX0_writeSymmetric yX0_writeSymmetric, Cond.code yX0_writeSymmetric cX0_writeSymmetric 7 none, Cond.instanceMethod yX0_operator, Cond.selects RX0 yX0_operator yX0_operator, Cond.code yX0_operator cX0_operator 4 none, Cond.methodLink RX0 74 yX0_triple, Cond.instanceMethod yX0_triple, Cond.selects RX0 yX0_triple yX0_triple, Cond.code yX0_triple cX0_triple 5 none, Cond.instanceMethod yX0_inverse, Cond.selects RX0 yX0_inverse yX0_inverse, Cond.code yX0_inverse cX0_inverse 3 (some .boolean), Cond.fieldLink RX0 21 "PeirceDesk$Algebra" "rows" "LPeirceDesk$Rows;", Cond.instanceMethod yX5_load, Cond.initialized RX5, Cond.selects RX5 yX5_load yX5_load, Cond.code yX5_load cX5_load 5 none, Cond.fieldLink RX5 22 "PeirceDesk$Rows" "modulus" "I", Cond.fieldLink RX5 11 "PeirceDesk$Rows" "cells" "[[I", Cond.methodLink RX5 26 yX5_clearRow, Cond.instanceMethod yX5_clearRow, Cond.selects RX5 yX5_clearRow yX5_clearRow, Cond.code yX5_clearRow cX5_clearRow 3 none, Cond.instanceMethod yX5_reduce]
def wsX7_run_r6 : List Cond := [Cond.selects RX5 yX5_reduce yX5_reduce, Cond.code yX5_reduce cX5_reduce 5 (some .int), Cond.fieldLink RX5 34 "PeirceDesk$Rows" "pivots" "I", Cond.methodLink RX5 37 yX5_pivotRow, Cond.instanceMethod yX5_pivotRow, Cond.selects RX5 yX5_pivotRow yX5_pivotRow, Cond.code yX5_pivotRow cX5_pivotRow 4 (some .int), Cond.methodLink RX5 41 yX5_exchange, Cond.instanceMethod yX5_exchange, Cond.selects RX5 yX5_exchange yX5_exchange, Cond.code yX5_exchange cX5_exchange 5 none, Cond.methodLink RX5 45 yX5_makePivotOne, Cond.instanceMethod yX5_makePivotOne, Cond.selects RX5 yX5_makePivotOne yX5_makePivotOne, Cond.code yX5_makePivotOne cX5_makePivotOne 6 none, Cond.methodLink RX5 48 yX5_clearColumn, Cond.instanceMethod yX5_clearColumn, Cond.selects RX5 yX5_clearColumn yX5_clearColumn, Cond.code yX5_clearColumn cX5_clearColumn 6 none, Cond.methodLink RX0 89 yX0_readInverse, Cond.instanceMethod yX0_readInverse, Cond.selects RX0 yX0_readInverse yX0_readInverse, Cond.code yX0_readInverse cX0_readInverse 4 none, Cond.methodLink RX0 93 yX0_unit]
def wsX7_run_r7 : List Cond := [Cond.instanceMethod yX0_unit, Cond.selects RX0 yX0_unit yX0_unit, Cond.code yX0_unit cX0_unit 1 (some (.array .int)), Cond.methodLink RX4 66 yX4_closeBracket, Cond.instanceMethod yX4_closeBracket, Cond.selects RX4 yX4_closeBracket yX4_closeBracket, Cond.code yX4_closeBracket cX4_closeBracket 2 none, Cond.instanceMethod yX1_add, Cond.selects RX1 yX1_add yX1_add, Cond.code yX1_add cX1_add 4 none, Cond.methodLink RX4 70 yX4_read, Cond.instanceMethod yX4_read, Cond.selects RX4 yX4_read yX4_read, Cond.code yX4_read cX4_read 5 none, Cond.fieldLink RX4 18 "PeirceDesk$Reckoner" "leftSide" "[I", Cond.instanceMethod yX1_keepArgument, Cond.selects RX1 yX1_keepArgument yX1_keepArgument, Cond.code yX1_keepArgument cX1_keepArgument 1 none, Cond.static yX7_copy, Cond.code yX7_copy cX7_copy 2 none, Cond.methodLink RX7 194 arraycopyName, Cond.native arraycopyName, Cond.static arraycopyName, Cond.initialized "java/lang/System"]
def wsX7_run_r8 : List Cond := [Cond.instanceMethod yX2_remember, Cond.initialized RX2, Cond.selects RX2 yX2_remember yX2_remember, Cond.code yX2_remember cX2_remember 2 none, Cond.fieldLink RX2 11 "PeirceDesk$History" "states" "[LPeirceDesk$State;", Cond.fieldLink RX2 18 "PeirceDesk$History" "next" "I", Cond.fieldLink RX2 26 "PeirceDesk$History" "length" "I", Cond.methodLink RX2 29 Lib.Math.min.name, Cond.static Lib.Math.min.name, Cond.initialized "java/lang/Math", Cond.code Lib.Math.min.name Lib.Math.min.code 2 (some .int), Cond.instanceMethod yX6_copyFrom, Cond.initialized RX6, Cond.selects RX6 yX6_copyFrom yX6_copyFrom, Cond.code yX6_copyFrom cX6_copyFrom 3 none, Cond.fieldLink RX6 20 "PeirceDesk$State" "size" "I", Cond.fieldLink RX6 24 "PeirceDesk$State" "modulus" "I", Cond.fieldLink RX6 11 "PeirceDesk$State" "elements" "[[I", Cond.instanceMethod yX4_result, Cond.selects RX4 yX4_result yX4_result, Cond.code yX4_result cX4_result 1 (some (.array .int)), Cond.methodLink RX7 101 yX7_copy]
def wsX7_run : List Cond := .code yX7_run cX7_run 2 (some .int) :: ((wsX7_run_r1 ++ (wsX7_run_r2 ++ (wsX7_run_r3 ++ (wsX7_run_r4 ++ (wsX7_run_r5 ++ (wsX7_run_r6 ++ (wsX7_run_r7 ++ wsX7_run_r8))))))) ++ wsX70 ++ wsX00 ++ wsX60 ++ wsX30 ++ wsX40 ++ wsX10 ++ wsX50 ++ wsX20)
def wsX7_isElement : List Cond := .code yX7_isElement cX7_isElement 1 (some .boolean) :: ([])
def wsX7_entry : List Cond := .code yX7_entry cX7_entry 4 (some .int) :: ([.fieldLink RX7 12 "PeirceDesk" "algebra" "LPeirceDesk$Algebra;", .methodLink RX7 125 yX7_isElement, .static yX7_isElement, .initialized RX7, .code yX7_isElement cX7_isElement 1 (some .boolean), .methodLink RX7 68 yX7_isPlace, .instanceMethod yX7_isPlace, .selects RX7 yX7_isPlace yX7_isPlace, .code yX7_isPlace cX7_isPlace 4 (some .boolean)] ++ wsX70 ++ wsX00 ++ wsX60)
def wsX7_of_r1 : List Cond := [Cond.fieldLink RX7 12 "PeirceDesk" "algebra" "LPeirceDesk$Algebra;", Cond.methodLink RX7 125 yX7_isElement, Cond.static yX7_isElement, Cond.initialized RX7, Cond.code yX7_isElement cX7_isElement 1 (some .boolean), Cond.instanceMethod yX0_trace, Cond.initialized RX0, Cond.selects RX0 yX0_trace yX0_trace, Cond.code yX0_trace cX0_trace 4 (some .int), Cond.fieldLink RX0 12 "PeirceDesk$Algebra" "now" "LPeirceDesk$State;", Cond.static yX7_reduced, Cond.code yX7_reduced cX7_reduced 3 (some .int), Cond.instanceMethod yX0_determinant, Cond.selects RX0 yX0_determinant yX0_determinant, Cond.code yX0_determinant cX0_determinant 2 (some .int), Cond.fieldLink RX0 21 "PeirceDesk$Algebra" "rows" "LPeirceDesk$Rows;", Cond.instanceMethod yX5_load, Cond.initialized RX5, Cond.selects RX5 yX5_load yX5_load, Cond.code yX5_load cX5_load 5 none, Cond.fieldLink RX5 22 "PeirceDesk$Rows" "modulus" "I", Cond.fieldLink RX5 11 "PeirceDesk$Rows" "cells" "[[I", Cond.methodLink RX5 26 yX5_clearRow, Cond.instanceMethod yX5_clearRow]
def wsX7_of_r2 : List Cond := [Cond.selects RX5 yX5_clearRow yX5_clearRow, Cond.code yX5_clearRow cX5_clearRow 3 none, Cond.instanceMethod yX5_reduce, Cond.selects RX5 yX5_reduce yX5_reduce, Cond.code yX5_reduce cX5_reduce 5 (some .int), Cond.fieldLink RX5 34 "PeirceDesk$Rows" "pivots" "I", Cond.methodLink RX5 37 yX5_pivotRow, Cond.instanceMethod yX5_pivotRow, Cond.selects RX5 yX5_pivotRow yX5_pivotRow, Cond.code yX5_pivotRow cX5_pivotRow 4 (some .int), Cond.methodLink RX5 41 yX5_exchange, Cond.instanceMethod yX5_exchange, Cond.selects RX5 yX5_exchange yX5_exchange, Cond.code yX5_exchange cX5_exchange 5 none, Cond.methodLink RX5 45 yX5_makePivotOne, Cond.instanceMethod yX5_makePivotOne, Cond.selects RX5 yX5_makePivotOne yX5_makePivotOne, Cond.code yX5_makePivotOne cX5_makePivotOne 6 none, Cond.methodLink RX5 48 yX5_clearColumn, Cond.instanceMethod yX5_clearColumn, Cond.selects RX5 yX5_clearColumn yX5_clearColumn, Cond.code yX5_clearColumn cX5_clearColumn 6 none, Cond.instanceMethod yX0_rank, Cond.selects RX0 yX0_rank yX0_rank]
def wsX7_of_r3 : List Cond := [Cond.code yX0_rank cX0_rank 2 (some .int), Cond.instanceMethod yX0_isOwnSquare, Cond.selects RX0 yX0_isOwnSquare yX0_isOwnSquare, Cond.code yX0_isOwnSquare cX0_isOwnSquare 2 (some .boolean), Cond.fieldLink RX0 43 "PeirceDesk$Algebra" "square" "[I", Cond.methodLink RX0 113 yX0_product, Cond.instanceMethod yX0_product, Cond.selects RX0 yX0_product yX0_product, Cond.code yX0_product cX0_product 4 none, Cond.fieldLink RX0 37 "PeirceDesk$Algebra" "left" "[I", Cond.fieldLink RX0 40 "PeirceDesk$Algebra" "right" "[I", Cond.methodLink RX0 66 yX0_multiply, Cond.instanceMethod yX0_multiply, Cond.selects RX0 yX0_multiply yX0_multiply, Cond.code yX0_multiply cX0_multiply 8 none, Cond.methodLink RX0 70 yX0_writeSymmetric, Cond.instanceMethod yX0_writeSymmetric, Cond.selects RX0 yX0_writeSymmetric yX0_writeSymmetric, Cond.code yX0_writeSymmetric cX0_writeSymmetric 7 none, Cond.static yX7_same, Cond.code yX7_same cX7_same 3 (some .boolean), Cond.instanceMethod yX0_order, Cond.selects RX0 yX0_order yX0_order, Cond.code yX0_order cX0_order 3 (some .int)]
def wsX7_of_r4 : List Cond := [Cond.fieldLink RX0 30 "PeirceDesk$Algebra" "power" "[I", Cond.methodLink RX0 106 yX0_determinant, Cond.static yX7_copy, Cond.code yX7_copy cX7_copy 2 none, Cond.methodLink RX7 194 arraycopyName, Cond.native arraycopyName, Cond.static arraycopyName, Cond.initialized "java/lang/System", Cond.methodLink RX0 93 yX0_unit, Cond.instanceMethod yX0_unit, Cond.selects RX0 yX0_unit yX0_unit, Cond.code yX0_unit cX0_unit 1 (some (.array .int)), Cond.instanceMethod yX0_degree, Cond.selects RX0 yX0_degree yX0_degree, Cond.code yX0_degree cX0_degree 3 (some .int), Cond.fieldLink RX0 52 "PeirceDesk$Algebra" "powers" "[[I", Cond.instanceMethod yX5_loadAll, Cond.selects RX5 yX5_loadAll yX5_loadAll, Cond.code yX5_loadAll cX5_loadAll 5 none, Cond.instanceMethod yX0_leastZeroPower, Cond.selects RX0 yX0_leastZeroPower yX0_leastZeroPower, Cond.code yX0_leastZeroPower cX0_leastZeroPower 3 (some .int), Cond.static yX7_isZero, Cond.code yX7_isZero cX7_isZero 2 (some .boolean)]
def wsX7_of : List Cond := .code yX7_of cX7_of 4 (some .int) :: ((wsX7_of_r1 ++ (wsX7_of_r2 ++ (wsX7_of_r3 ++ wsX7_of_r4))) ++ wsX70 ++ wsX00 ++ wsX60 ++ wsX50)
def wsX7_registersNotZero : List Cond := .code yX7_registersNotZero cX7_registersNotZero 3 (some .int) :: ([.fieldLink RX7 12 "PeirceDesk" "algebra" "LPeirceDesk$Algebra;", .methodLink RX7 104 yX7_isZero, .static yX7_isZero, .initialized RX7, .code yX7_isZero cX7_isZero 2 (some .boolean)] ++ wsX70 ++ wsX00 ++ wsX60)
def wsX7_registersOwnSquares_r1 : List Cond := [Cond.fieldLink RX7 12 "PeirceDesk" "algebra" "LPeirceDesk$Algebra;", Cond.instanceMethod yX0_isOwnSquare, Cond.initialized RX0, Cond.selects RX0 yX0_isOwnSquare yX0_isOwnSquare, Cond.code yX0_isOwnSquare cX0_isOwnSquare 2 (some .boolean), Cond.fieldLink RX0 43 "PeirceDesk$Algebra" "square" "[I", Cond.methodLink RX0 113 yX0_product, Cond.instanceMethod yX0_product, Cond.selects RX0 yX0_product yX0_product, Cond.code yX0_product cX0_product 4 none, Cond.fieldLink RX0 12 "PeirceDesk$Algebra" "now" "LPeirceDesk$State;", Cond.fieldLink RX0 37 "PeirceDesk$Algebra" "left" "[I", Cond.fieldLink RX0 40 "PeirceDesk$Algebra" "right" "[I", Cond.methodLink RX0 66 yX0_multiply, Cond.instanceMethod yX0_multiply, Cond.selects RX0 yX0_multiply yX0_multiply, Cond.code yX0_multiply cX0_multiply 8 none, Cond.static yX7_reduced, Cond.initialized RX7, Cond.code yX7_reduced cX7_reduced 3 (some .int), Cond.methodLink RX0 70 yX0_writeSymmetric, Cond.instanceMethod yX0_writeSymmetric, Cond.selects RX0 yX0_writeSymmetric yX0_writeSymmetric, Cond.code yX0_writeSymmetric cX0_writeSymmetric 7 none]
def wsX7_registersOwnSquares_r2 : List Cond := [Cond.static yX7_same, Cond.code yX7_same cX7_same 3 (some .boolean)]
def wsX7_registersOwnSquares : List Cond := .code yX7_registersOwnSquares cX7_registersOwnSquares 3 (some .int) :: ((wsX7_registersOwnSquares_r1 ++ wsX7_registersOwnSquares_r2) ++ wsX70 ++ wsX00 ++ wsX60)
def wsX7_count_r1 : List Cond := [Cond.fieldLink RX7 12 "PeirceDesk" "algebra" "LPeirceDesk$Algebra;", Cond.fieldLink RX7 19 "PeirceDesk" "pad" "LPeirceDesk$Pad;", Cond.fieldLink RX7 33 "PeirceDesk" "history" "LPeirceDesk$History;", Cond.methodLink RX7 143 yX7_registersNotZero, Cond.instanceMethod yX7_registersNotZero, Cond.selects RX7 yX7_registersNotZero yX7_registersNotZero, Cond.initialized RX7, Cond.code yX7_registersNotZero cX7_registersNotZero 3 (some .int), Cond.methodLink RX7 104 yX7_isZero, Cond.static yX7_isZero, Cond.code yX7_isZero cX7_isZero 2 (some .boolean), Cond.methodLink RX7 146 yX7_registersOwnSquares, Cond.instanceMethod yX7_registersOwnSquares, Cond.selects RX7 yX7_registersOwnSquares yX7_registersOwnSquares, Cond.code yX7_registersOwnSquares cX7_registersOwnSquares 3 (some .int), Cond.instanceMethod yX0_isOwnSquare, Cond.initialized RX0, Cond.selects RX0 yX0_isOwnSquare yX0_isOwnSquare, Cond.code yX0_isOwnSquare cX0_isOwnSquare 2 (some .boolean), Cond.fieldLink RX0 43 "PeirceDesk$Algebra" "square" "[I", Cond.methodLink RX0 113 yX0_product, Cond.instanceMethod yX0_product, Cond.selects RX0 yX0_product yX0_product, Cond.code yX0_product cX0_product 4 none]
def wsX7_count_r2 : List Cond := [Cond.fieldLink RX0 12 "PeirceDesk$Algebra" "now" "LPeirceDesk$State;", Cond.fieldLink RX0 37 "PeirceDesk$Algebra" "left" "[I", Cond.fieldLink RX0 40 "PeirceDesk$Algebra" "right" "[I", Cond.methodLink RX0 66 yX0_multiply, Cond.instanceMethod yX0_multiply, Cond.selects RX0 yX0_multiply yX0_multiply, Cond.code yX0_multiply cX0_multiply 8 none, Cond.static yX7_reduced, Cond.code yX7_reduced cX7_reduced 3 (some .int), Cond.methodLink RX0 70 yX0_writeSymmetric, Cond.instanceMethod yX0_writeSymmetric, Cond.selects RX0 yX0_writeSymmetric yX0_writeSymmetric, Cond.code yX0_writeSymmetric cX0_writeSymmetric 7 none, Cond.static yX7_same, Cond.code yX7_same cX7_same 3 (some .boolean)]
def wsX7_count : List Cond := .code yX7_count cX7_count 2 (some .int) :: ((wsX7_count_r1 ++ wsX7_count_r2) ++ wsX70 ++ wsX00 ++ wsX60 ++ wsX30 ++ wsX20)
def wsX7_areSame : List Cond := .code yX7_areSame cX7_areSame 3 (some .int) :: ([.fieldLink RX7 12 "PeirceDesk" "algebra" "LPeirceDesk$Algebra;", .methodLink RX7 64 yX7_isRegister, .static yX7_isRegister, .initialized RX7, .code yX7_isRegister cX7_isRegister 1 (some .boolean), .methodLink RX7 150 yX7_same, .static yX7_same, .code yX7_same cX7_same 3 (some .boolean)] ++ wsX70 ++ wsX00 ++ wsX60)
def wsX7_power_r1 : List Cond := [Cond.fieldLink RX7 12 "PeirceDesk" "algebra" "LPeirceDesk$Algebra;", Cond.methodLink RX7 64 yX7_isRegister, Cond.static yX7_isRegister, Cond.initialized RX7, Cond.code yX7_isRegister cX7_isRegister 1 (some .boolean), Cond.methodLink RX7 68 yX7_isPlace, Cond.instanceMethod yX7_isPlace, Cond.selects RX7 yX7_isPlace yX7_isPlace, Cond.code yX7_isPlace cX7_isPlace 4 (some .boolean), Cond.instanceMethod yX0_raise, Cond.initialized RX0, Cond.selects RX0 yX0_raise yX0_raise, Cond.code yX0_raise cX0_raise 4 none, Cond.fieldLink RX0 30 "PeirceDesk$Algebra" "power" "[I", Cond.fieldLink RX0 43 "PeirceDesk$Algebra" "square" "[I", Cond.methodLink RX0 93 yX0_unit, Cond.instanceMethod yX0_unit, Cond.selects RX0 yX0_unit yX0_unit, Cond.code yX0_unit cX0_unit 1 (some (.array .int)), Cond.fieldLink RX0 12 "PeirceDesk$Algebra" "now" "LPeirceDesk$State;", Cond.static yX7_copy, Cond.code yX7_copy cX7_copy 2 none, Cond.methodLink RX7 194 arraycopyName, Cond.native arraycopyName]
def wsX7_power_r2 : List Cond := [Cond.static arraycopyName, Cond.initialized "java/lang/System", Cond.methodLink RX0 113 yX0_product, Cond.instanceMethod yX0_product, Cond.selects RX0 yX0_product yX0_product, Cond.code yX0_product cX0_product 4 none, Cond.fieldLink RX0 37 "PeirceDesk$Algebra" "left" "[I", Cond.fieldLink RX0 40 "PeirceDesk$Algebra" "right" "[I", Cond.methodLink RX0 66 yX0_multiply, Cond.instanceMethod yX0_multiply, Cond.selects RX0 yX0_multiply yX0_multiply, Cond.code yX0_multiply cX0_multiply 8 none, Cond.static yX7_reduced, Cond.code yX7_reduced cX7_reduced 3 (some .int), Cond.methodLink RX0 70 yX0_writeSymmetric, Cond.instanceMethod yX0_writeSymmetric, Cond.selects RX0 yX0_writeSymmetric yX0_writeSymmetric, Cond.code yX0_writeSymmetric cX0_writeSymmetric 7 none]
def wsX7_power : List Cond := .code yX7_power cX7_power 5 (some .int) :: ((wsX7_power_r1 ++ wsX7_power_r2) ++ wsX70 ++ wsX00 ++ wsX60)
def wsX7_rule_r1 : List Cond := [Cond.fieldLink RX7 12 "PeirceDesk" "algebra" "LPeirceDesk$Algebra;", Cond.methodLink RX7 64 yX7_isRegister, Cond.static yX7_isRegister, Cond.initialized RX7, Cond.code yX7_isRegister cX7_isRegister 1 (some .boolean), Cond.instanceMethod yX0_tryRule, Cond.initialized RX0, Cond.selects RX0 yX0_tryRule yX0_tryRule, Cond.code yX0_tryRule cX0_tryRule 4 (some .boolean), Cond.fieldLink RX0 46 "PeirceDesk$Algebra" "otherSide" "[I", Cond.fieldLink RX0 34 "PeirceDesk$Algebra" "oneSide" "[I", Cond.methodLink RX0 120 yX0_operator, Cond.instanceMethod yX0_operator, Cond.selects RX0 yX0_operator yX0_operator, Cond.code yX0_operator cX0_operator 4 none, Cond.methodLink RX0 74 yX0_triple, Cond.instanceMethod yX0_triple, Cond.selects RX0 yX0_triple yX0_triple, Cond.code yX0_triple cX0_triple 5 none, Cond.fieldLink RX0 12 "PeirceDesk$Algebra" "now" "LPeirceDesk$State;", Cond.fieldLink RX0 37 "PeirceDesk$Algebra" "left" "[I", Cond.fieldLink RX0 40 "PeirceDesk$Algebra" "right" "[I", Cond.methodLink RX0 66 yX0_multiply, Cond.instanceMethod yX0_multiply]
def wsX7_rule_r2 : List Cond := [Cond.selects RX0 yX0_multiply yX0_multiply, Cond.code yX0_multiply cX0_multiply 8 none, Cond.static yX7_reduced, Cond.code yX7_reduced cX7_reduced 3 (some .int), Cond.methodLink RX0 70 yX0_writeSymmetric, Cond.instanceMethod yX0_writeSymmetric, Cond.selects RX0 yX0_writeSymmetric yX0_writeSymmetric, Cond.code yX0_writeSymmetric cX0_writeSymmetric 7 none, Cond.static yX7_same, Cond.code yX7_same cX7_same 3 (some .boolean), Cond.instanceMethod yX0_trace, Cond.selects RX0 yX0_trace yX0_trace, Cond.code yX0_trace cX0_trace 4 (some .int)]
def wsX7_rule : List Cond := .code yX7_rule cX7_rule 7 (some .int) :: ((wsX7_rule_r1 ++ wsX7_rule_r2) ++ wsX70 ++ wsX00 ++ wsX60)
def wsX7_partExponent : List Cond := .code yX7_partExponent cX7_partExponent 4 (some .int) :: ([])
def wsX7_partSize_r1 : List Cond := [Cond.fieldLink RX7 12 "PeirceDesk" "algebra" "LPeirceDesk$Algebra;", Cond.methodLink RX7 64 yX7_isRegister, Cond.static yX7_isRegister, Cond.initialized RX7, Cond.code yX7_isRegister cX7_isRegister 1 (some .boolean), Cond.instanceMethod yX0_isOwnSquare, Cond.initialized RX0, Cond.selects RX0 yX0_isOwnSquare yX0_isOwnSquare, Cond.code yX0_isOwnSquare cX0_isOwnSquare 2 (some .boolean), Cond.fieldLink RX0 43 "PeirceDesk$Algebra" "square" "[I", Cond.methodLink RX0 113 yX0_product, Cond.instanceMethod yX0_product, Cond.selects RX0 yX0_product yX0_product, Cond.code yX0_product cX0_product 4 none, Cond.fieldLink RX0 12 "PeirceDesk$Algebra" "now" "LPeirceDesk$State;", Cond.fieldLink RX0 37 "PeirceDesk$Algebra" "left" "[I", Cond.fieldLink RX0 40 "PeirceDesk$Algebra" "right" "[I", Cond.methodLink RX0 66 yX0_multiply, Cond.instanceMethod yX0_multiply, Cond.selects RX0 yX0_multiply yX0_multiply, Cond.code yX0_multiply cX0_multiply 8 none, Cond.static yX7_reduced, Cond.code yX7_reduced cX7_reduced 3 (some .int), Cond.methodLink RX0 70 yX0_writeSymmetric]
def wsX7_partSize_r2 : List Cond := [Cond.instanceMethod yX0_writeSymmetric, Cond.selects RX0 yX0_writeSymmetric yX0_writeSymmetric, Cond.code yX0_writeSymmetric cX0_writeSymmetric 7 none, Cond.static yX7_same, Cond.code yX7_same cX7_same 3 (some .boolean), Cond.instanceMethod yX0_rank, Cond.selects RX0 yX0_rank yX0_rank, Cond.code yX0_rank cX0_rank 2 (some .int), Cond.fieldLink RX0 21 "PeirceDesk$Algebra" "rows" "LPeirceDesk$Rows;", Cond.instanceMethod yX5_load, Cond.initialized RX5, Cond.selects RX5 yX5_load yX5_load, Cond.code yX5_load cX5_load 5 none, Cond.fieldLink RX5 22 "PeirceDesk$Rows" "modulus" "I", Cond.fieldLink RX5 11 "PeirceDesk$Rows" "cells" "[[I", Cond.methodLink RX5 26 yX5_clearRow, Cond.instanceMethod yX5_clearRow, Cond.selects RX5 yX5_clearRow yX5_clearRow, Cond.code yX5_clearRow cX5_clearRow 3 none, Cond.instanceMethod yX5_reduce, Cond.selects RX5 yX5_reduce yX5_reduce, Cond.code yX5_reduce cX5_reduce 5 (some .int), Cond.fieldLink RX5 34 "PeirceDesk$Rows" "pivots" "I", Cond.methodLink RX5 37 yX5_pivotRow]
def wsX7_partSize_r3 : List Cond := [Cond.instanceMethod yX5_pivotRow, Cond.selects RX5 yX5_pivotRow yX5_pivotRow, Cond.code yX5_pivotRow cX5_pivotRow 4 (some .int), Cond.methodLink RX5 41 yX5_exchange, Cond.instanceMethod yX5_exchange, Cond.selects RX5 yX5_exchange yX5_exchange, Cond.code yX5_exchange cX5_exchange 5 none, Cond.methodLink RX5 45 yX5_makePivotOne, Cond.instanceMethod yX5_makePivotOne, Cond.selects RX5 yX5_makePivotOne yX5_makePivotOne, Cond.code yX5_makePivotOne cX5_makePivotOne 6 none, Cond.methodLink RX5 48 yX5_clearColumn, Cond.instanceMethod yX5_clearColumn, Cond.selects RX5 yX5_clearColumn yX5_clearColumn, Cond.code yX5_clearColumn cX5_clearColumn 6 none, Cond.methodLink RX7 169 yX7_partExponent, Cond.static yX7_partExponent, Cond.code yX7_partExponent cX7_partExponent 4 (some .int)]
def wsX7_partSize : List Cond := .code yX7_partSize cX7_partSize 5 (some .int) :: ((wsX7_partSize_r1 ++ (wsX7_partSize_r2 ++ wsX7_partSize_r3)) ++ wsX70 ++ wsX00 ++ wsX60 ++ wsX50)
def wsX7_howMany_r1 : List Cond := [Cond.fieldLink RX7 12 "PeirceDesk" "algebra" "LPeirceDesk$Algebra;", Cond.instanceMethod yX0_countKind, Cond.initialized RX0, Cond.selects RX0 yX0_countKind yX0_countKind, Cond.code yX0_countKind cX0_countKind 7 (some .int), Cond.fieldLink RX0 12 "PeirceDesk$Algebra" "now" "LPeirceDesk$State;", Cond.fieldLink RX0 49 "PeirceDesk$Algebra" "candidate" "[I", Cond.methodLink RX0 131 yX0_isOfKind, Cond.instanceMethod yX0_isOfKind, Cond.selects RX0 yX0_isOfKind yX0_isOfKind, Cond.code yX0_isOfKind cX0_isOfKind 2 (some .boolean), Cond.fieldLink RX0 43 "PeirceDesk$Algebra" "square" "[I", Cond.methodLink RX0 106 yX0_determinant, Cond.instanceMethod yX0_determinant, Cond.selects RX0 yX0_determinant yX0_determinant, Cond.code yX0_determinant cX0_determinant 2 (some .int), Cond.fieldLink RX0 21 "PeirceDesk$Algebra" "rows" "LPeirceDesk$Rows;", Cond.instanceMethod yX5_load, Cond.initialized RX5, Cond.selects RX5 yX5_load yX5_load, Cond.code yX5_load cX5_load 5 none, Cond.fieldLink RX5 22 "PeirceDesk$Rows" "modulus" "I", Cond.fieldLink RX5 11 "PeirceDesk$Rows" "cells" "[[I", Cond.methodLink RX5 26 yX5_clearRow]
def wsX7_howMany_r2 : List Cond := [Cond.instanceMethod yX5_clearRow, Cond.selects RX5 yX5_clearRow yX5_clearRow, Cond.code yX5_clearRow cX5_clearRow 3 none, Cond.instanceMethod yX5_reduce, Cond.selects RX5 yX5_reduce yX5_reduce, Cond.code yX5_reduce cX5_reduce 5 (some .int), Cond.fieldLink RX5 34 "PeirceDesk$Rows" "pivots" "I", Cond.methodLink RX5 37 yX5_pivotRow, Cond.instanceMethod yX5_pivotRow, Cond.selects RX5 yX5_pivotRow yX5_pivotRow, Cond.code yX5_pivotRow cX5_pivotRow 4 (some .int), Cond.methodLink RX5 41 yX5_exchange, Cond.instanceMethod yX5_exchange, Cond.selects RX5 yX5_exchange yX5_exchange, Cond.code yX5_exchange cX5_exchange 5 none, Cond.methodLink RX5 45 yX5_makePivotOne, Cond.instanceMethod yX5_makePivotOne, Cond.selects RX5 yX5_makePivotOne yX5_makePivotOne, Cond.code yX5_makePivotOne cX5_makePivotOne 6 none, Cond.static yX7_reduced, Cond.initialized RX7, Cond.code yX7_reduced cX7_reduced 3 (some .int), Cond.methodLink RX5 48 yX5_clearColumn, Cond.instanceMethod yX5_clearColumn]
def wsX7_howMany_r3 : List Cond := [Cond.selects RX5 yX5_clearColumn yX5_clearColumn, Cond.code yX5_clearColumn cX5_clearColumn 6 none, Cond.methodLink RX0 113 yX0_product, Cond.instanceMethod yX0_product, Cond.selects RX0 yX0_product yX0_product, Cond.code yX0_product cX0_product 4 none, Cond.fieldLink RX0 37 "PeirceDesk$Algebra" "left" "[I", Cond.fieldLink RX0 40 "PeirceDesk$Algebra" "right" "[I", Cond.methodLink RX0 66 yX0_multiply, Cond.instanceMethod yX0_multiply, Cond.selects RX0 yX0_multiply yX0_multiply, Cond.code yX0_multiply cX0_multiply 8 none, Cond.methodLink RX0 70 yX0_writeSymmetric, Cond.instanceMethod yX0_writeSymmetric, Cond.selects RX0 yX0_writeSymmetric yX0_writeSymmetric, Cond.code yX0_writeSymmetric cX0_writeSymmetric 7 none, Cond.static yX7_isZero, Cond.code yX7_isZero cX7_isZero 2 (some .boolean), Cond.methodLink RX0 93 yX0_unit, Cond.instanceMethod yX0_unit, Cond.selects RX0 yX0_unit yX0_unit, Cond.code yX0_unit cX0_unit 1 (some (.array .int)), Cond.static yX7_same, Cond.code yX7_same cX7_same 3 (some .boolean)]
def wsX7_howMany : List Cond := .code yX7_howMany cX7_howMany 2 (some .int) :: ((wsX7_howMany_r1 ++ (wsX7_howMany_r2 ++ wsX7_howMany_r3)) ++ wsX70 ++ wsX00 ++ wsX60 ++ wsX50)
def wsX7_holds_r1 : List Cond := [Cond.fieldLink RX7 19 "PeirceDesk" "pad" "LPeirceDesk$Pad;", Cond.fieldLink RX7 26 "PeirceDesk" "reckoner" "LPeirceDesk$Reckoner;", Cond.fieldLink RX7 12 "PeirceDesk" "algebra" "LPeirceDesk$Algebra;", Cond.instanceMethod yX3_findFault, Cond.initialized RX3, Cond.selects RX3 yX3_findFault yX3_findFault, Cond.code yX3_findFault cX3_findFault 2 (some .int), Cond.fieldLink RX3 29 "PeirceDesk$Pad" "open" "I", Cond.fieldLink RX3 32 "PeirceDesk$Pad" "nextCommas" "I", Cond.fieldLink RX3 35 "PeirceDesk$Pad" "awaited" "I", Cond.fieldLink RX3 38 "PeirceDesk$Pad" "divided" "Z", Cond.fieldLink RX3 21 "PeirceDesk$Pad" "length" "I", Cond.fieldLink RX3 9 "PeirceDesk$Pad" "signs" "[C", Cond.methodLink RX3 42 yX3_takes, Cond.instanceMethod yX3_takes, Cond.selects RX3 yX3_takes yX3_takes, Cond.code yX3_takes cX3_takes 3 (some .boolean), Cond.methodLink RX3 46 yX3_takesDigit, Cond.instanceMethod yX3_takesDigit, Cond.selects RX3 yX3_takesDigit yX3_takesDigit, Cond.code yX3_takesDigit cX3_takesDigit 2 (some .boolean), Cond.methodLink RX3 50 yX3_takesFactor, Cond.instanceMethod yX3_takesFactor, Cond.selects RX3 yX3_takesFactor yX3_takesFactor]
def wsX7_holds_r2 : List Cond := [Cond.code yX3_takesFactor cX3_takesFactor 2 (some .boolean), Cond.static yX7_registerOf, Cond.initialized RX7, Cond.code yX7_registerOf cX7_registerOf 1 (some .int), Cond.methodLink RX3 53 yX3_takesBracket, Cond.instanceMethod yX3_takesBracket, Cond.selects RX3 yX3_takesBracket yX3_takesBracket, Cond.code yX3_takesBracket cX3_takesBracket 1 (some .boolean), Cond.fieldLink RX3 15 "PeirceDesk$Pad" "commas" "[I", Cond.methodLink RX3 57 yX3_takesInside, Cond.instanceMethod yX3_takesInside, Cond.selects RX3 yX3_takesInside yX3_takesInside, Cond.code yX3_takesInside cX3_takesInside 3 (some .boolean), Cond.methodLink RX3 63 yX3_takesSign, Cond.instanceMethod yX3_takesSign, Cond.selects RX3 yX3_takesSign yX3_takesSign, Cond.code yX3_takesSign cX3_takesSign 2 (some .boolean), Cond.methodLink RX3 60 yX3_takesOutside, Cond.instanceMethod yX3_takesOutside, Cond.selects RX3 yX3_takesOutside yX3_takesOutside, Cond.code yX3_takesOutside cX3_takesOutside 4 (some .boolean), Cond.instanceMethod yX3_target, Cond.selects RX3 yX3_target yX3_target, Cond.code yX3_target cX3_target 1 (some .int)]
def wsX7_holds_r3 : List Cond := [Cond.instanceMethod yX4_carryOut, Cond.initialized RX4, Cond.selects RX4 yX4_carryOut yX4_carryOut, Cond.code yX4_carryOut cX4_carryOut 6 (some .int), Cond.fieldLink RX4 25 "PeirceDesk$Reckoner" "open" "I", Cond.fieldLink RX4 11 "PeirceDesk$Reckoner" "frames" "[LPeirceDesk$Frame;", Cond.instanceMethod yX1_open, Cond.initialized RX1, Cond.selects RX1 yX1_open yX1_open, Cond.code yX1_open cX1_open 3 none, Cond.fieldLink RX1 21 "PeirceDesk$Frame" "kind" "C", Cond.fieldLink RX1 25 "PeirceDesk$Frame" "place" "I", Cond.fieldLink RX1 29 "PeirceDesk$Frame" "arguments" "I", Cond.methodLink RX1 32 yX1_startSum, Cond.instanceMethod yX1_startSum, Cond.selects RX1 yX1_startSum yX1_startSum, Cond.code yX1_startSum cX1_startSum 2 none, Cond.fieldLink RX1 9 "PeirceDesk$Frame" "sum" "[I", Cond.fieldLink RX1 35 "PeirceDesk$Frame" "sign" "I", Cond.fieldLink RX1 38 "PeirceDesk$Frame" "times" "I", Cond.methodLink RX4 45 yX4_openBracket, Cond.instanceMethod yX4_openBracket, Cond.selects RX4 yX4_openBracket yX4_openBracket, Cond.code yX4_openBracket cX4_openBracket 3 none]
def wsX7_holds_r4 : List Cond := [Cond.instanceMethod yX1_finish, Cond.selects RX1 yX1_finish yX1_finish, Cond.code yX1_finish cX1_finish 2 (some .boolean), Cond.fieldLink RX1 15 "PeirceDesk$Frame" "first" "[I", Cond.fieldLink RX1 18 "PeirceDesk$Frame" "second" "[I", Cond.instanceMethod yX0_product, Cond.initialized RX0, Cond.selects RX0 yX0_product yX0_product, Cond.code yX0_product cX0_product 4 none, Cond.fieldLink RX0 12 "PeirceDesk$Algebra" "now" "LPeirceDesk$State;", Cond.fieldLink RX0 37 "PeirceDesk$Algebra" "left" "[I", Cond.fieldLink RX0 40 "PeirceDesk$Algebra" "right" "[I", Cond.methodLink RX0 66 yX0_multiply, Cond.instanceMethod yX0_multiply, Cond.selects RX0 yX0_multiply yX0_multiply, Cond.code yX0_multiply cX0_multiply 8 none, Cond.static yX7_reduced, Cond.code yX7_reduced cX7_reduced 3 (some .int), Cond.methodLink RX0 70 yX0_writeSymmetric, Cond.instanceMethod yX0_writeSymmetric, Cond.selects RX0 yX0_writeSymmetric yX0_writeSymmetric, Cond.code yX0_writeSymmetric cX0_writeSymmetric 7 none, Cond.instanceMethod yX0_operator, Cond.selects RX0 yX0_operator yX0_operator]
def wsX7_holds_r5 : List Cond := [Cond.code yX0_operator cX0_operator 4 none, Cond.methodLink RX0 74 yX0_triple, Cond.instanceMethod yX0_triple, Cond.selects RX0 yX0_triple yX0_triple, Cond.code yX0_triple cX0_triple 5 none, Cond.instanceMethod yX0_inverse, Cond.selects RX0 yX0_inverse yX0_inverse, Cond.code yX0_inverse cX0_inverse 3 (some .boolean), Cond.fieldLink RX0 21 "PeirceDesk$Algebra" "rows" "LPeirceDesk$Rows;", Cond.instanceMethod yX5_load, Cond.initialized RX5, Cond.selects RX5 yX5_load yX5_load, Cond.code yX5_load cX5_load 5 none, Cond.fieldLink RX5 22 "PeirceDesk$Rows" "modulus" "I", Cond.fieldLink RX5 11 "PeirceDesk$Rows" "cells" "[[I", Cond.methodLink RX5 26 yX5_clearRow, Cond.instanceMethod yX5_clearRow, Cond.selects RX5 yX5_clearRow yX5_clearRow, Cond.code yX5_clearRow cX5_clearRow 3 none, Cond.instanceMethod yX5_reduce, Cond.selects RX5 yX5_reduce yX5_reduce, Cond.code yX5_reduce cX5_reduce 5 (some .int), Cond.fieldLink RX5 34 "PeirceDesk$Rows" "pivots" "I", Cond.methodLink RX5 37 yX5_pivotRow]
def wsX7_holds_r6 : List Cond := [Cond.instanceMethod yX5_pivotRow, Cond.selects RX5 yX5_pivotRow yX5_pivotRow, Cond.code yX5_pivotRow cX5_pivotRow 4 (some .int), Cond.methodLink RX5 41 yX5_exchange, Cond.instanceMethod yX5_exchange, Cond.selects RX5 yX5_exchange yX5_exchange, Cond.code yX5_exchange cX5_exchange 5 none, Cond.methodLink RX5 45 yX5_makePivotOne, Cond.instanceMethod yX5_makePivotOne, Cond.selects RX5 yX5_makePivotOne yX5_makePivotOne, Cond.code yX5_makePivotOne cX5_makePivotOne 6 none, Cond.methodLink RX5 48 yX5_clearColumn, Cond.instanceMethod yX5_clearColumn, Cond.selects RX5 yX5_clearColumn yX5_clearColumn, Cond.code yX5_clearColumn cX5_clearColumn 6 none, Cond.methodLink RX0 89 yX0_readInverse, Cond.instanceMethod yX0_readInverse, Cond.selects RX0 yX0_readInverse yX0_readInverse, Cond.code yX0_readInverse cX0_readInverse 4 none, Cond.methodLink RX0 93 yX0_unit, Cond.instanceMethod yX0_unit, Cond.selects RX0 yX0_unit yX0_unit, Cond.code yX0_unit cX0_unit 1 (some (.array .int)), Cond.methodLink RX4 66 yX4_closeBracket]
def wsX7_holds_r7 : List Cond := [Cond.instanceMethod yX4_closeBracket, Cond.selects RX4 yX4_closeBracket yX4_closeBracket, Cond.code yX4_closeBracket cX4_closeBracket 2 none, Cond.instanceMethod yX1_add, Cond.selects RX1 yX1_add yX1_add, Cond.code yX1_add cX1_add 4 none, Cond.methodLink RX4 70 yX4_read, Cond.instanceMethod yX4_read, Cond.selects RX4 yX4_read yX4_read, Cond.code yX4_read cX4_read 5 none, Cond.fieldLink RX4 18 "PeirceDesk$Reckoner" "leftSide" "[I", Cond.instanceMethod yX1_keepArgument, Cond.selects RX1 yX1_keepArgument yX1_keepArgument, Cond.code yX1_keepArgument cX1_keepArgument 1 none, Cond.static yX7_copy, Cond.code yX7_copy cX7_copy 2 none, Cond.methodLink RX7 194 arraycopyName, Cond.native arraycopyName, Cond.static arraycopyName, Cond.initialized "java/lang/System", Cond.instanceMethod yX4_result, Cond.selects RX4 yX4_result yX4_result, Cond.code yX4_result cX4_result 1 (some (.array .int)), Cond.methodLink RX7 150 yX7_same]
def wsX7_holds_r8 : List Cond := [Cond.static yX7_same, Cond.code yX7_same cX7_same 3 (some .boolean)]
def wsX7_holds : List Cond := .code yX7_holds cX7_holds 1 (some .int) :: ((wsX7_holds_r1 ++ (wsX7_holds_r2 ++ (wsX7_holds_r3 ++ (wsX7_holds_r4 ++ (wsX7_holds_r5 ++ (wsX7_holds_r6 ++ (wsX7_holds_r7 ++ wsX7_holds_r8))))))) ++ wsX70 ++ wsX40 ++ wsX30 ++ wsX10 ++ wsX00 ++ wsX60 ++ wsX50)
def wsX7_stops_r1 : List Cond := [Cond.fieldLink RX7 19 "PeirceDesk" "pad" "LPeirceDesk$Pad;", Cond.fieldLink RX7 26 "PeirceDesk" "reckoner" "LPeirceDesk$Reckoner;", Cond.fieldLink RX7 12 "PeirceDesk" "algebra" "LPeirceDesk$Algebra;", Cond.instanceMethod yX3_findFault, Cond.initialized RX3, Cond.selects RX3 yX3_findFault yX3_findFault, Cond.code yX3_findFault cX3_findFault 2 (some .int), Cond.fieldLink RX3 29 "PeirceDesk$Pad" "open" "I", Cond.fieldLink RX3 32 "PeirceDesk$Pad" "nextCommas" "I", Cond.fieldLink RX3 35 "PeirceDesk$Pad" "awaited" "I", Cond.fieldLink RX3 38 "PeirceDesk$Pad" "divided" "Z", Cond.fieldLink RX3 21 "PeirceDesk$Pad" "length" "I", Cond.fieldLink RX3 9 "PeirceDesk$Pad" "signs" "[C", Cond.methodLink RX3 42 yX3_takes, Cond.instanceMethod yX3_takes, Cond.selects RX3 yX3_takes yX3_takes, Cond.code yX3_takes cX3_takes 3 (some .boolean), Cond.methodLink RX3 46 yX3_takesDigit, Cond.instanceMethod yX3_takesDigit, Cond.selects RX3 yX3_takesDigit yX3_takesDigit, Cond.code yX3_takesDigit cX3_takesDigit 2 (some .boolean), Cond.methodLink RX3 50 yX3_takesFactor, Cond.instanceMethod yX3_takesFactor, Cond.selects RX3 yX3_takesFactor yX3_takesFactor]
def wsX7_stops_r2 : List Cond := [Cond.code yX3_takesFactor cX3_takesFactor 2 (some .boolean), Cond.static yX7_registerOf, Cond.initialized RX7, Cond.code yX7_registerOf cX7_registerOf 1 (some .int), Cond.methodLink RX3 53 yX3_takesBracket, Cond.instanceMethod yX3_takesBracket, Cond.selects RX3 yX3_takesBracket yX3_takesBracket, Cond.code yX3_takesBracket cX3_takesBracket 1 (some .boolean), Cond.fieldLink RX3 15 "PeirceDesk$Pad" "commas" "[I", Cond.methodLink RX3 57 yX3_takesInside, Cond.instanceMethod yX3_takesInside, Cond.selects RX3 yX3_takesInside yX3_takesInside, Cond.code yX3_takesInside cX3_takesInside 3 (some .boolean), Cond.methodLink RX3 63 yX3_takesSign, Cond.instanceMethod yX3_takesSign, Cond.selects RX3 yX3_takesSign yX3_takesSign, Cond.code yX3_takesSign cX3_takesSign 2 (some .boolean), Cond.methodLink RX3 60 yX3_takesOutside, Cond.instanceMethod yX3_takesOutside, Cond.selects RX3 yX3_takesOutside yX3_takesOutside, Cond.code yX3_takesOutside cX3_takesOutside 4 (some .boolean), Cond.instanceMethod yX4_carryOut, Cond.initialized RX4, Cond.selects RX4 yX4_carryOut yX4_carryOut]
def wsX7_stops_r3 : List Cond := [Cond.code yX4_carryOut cX4_carryOut 6 (some .int), Cond.fieldLink RX4 25 "PeirceDesk$Reckoner" "open" "I", Cond.fieldLink RX4 11 "PeirceDesk$Reckoner" "frames" "[LPeirceDesk$Frame;", Cond.instanceMethod yX1_open, Cond.initialized RX1, Cond.selects RX1 yX1_open yX1_open, Cond.code yX1_open cX1_open 3 none, Cond.fieldLink RX1 21 "PeirceDesk$Frame" "kind" "C", Cond.fieldLink RX1 25 "PeirceDesk$Frame" "place" "I", Cond.fieldLink RX1 29 "PeirceDesk$Frame" "arguments" "I", Cond.methodLink RX1 32 yX1_startSum, Cond.instanceMethod yX1_startSum, Cond.selects RX1 yX1_startSum yX1_startSum, Cond.code yX1_startSum cX1_startSum 2 none, Cond.fieldLink RX1 9 "PeirceDesk$Frame" "sum" "[I", Cond.fieldLink RX1 35 "PeirceDesk$Frame" "sign" "I", Cond.fieldLink RX1 38 "PeirceDesk$Frame" "times" "I", Cond.instanceMethod yX3_target, Cond.selects RX3 yX3_target yX3_target, Cond.code yX3_target cX3_target 1 (some .int), Cond.methodLink RX4 45 yX4_openBracket, Cond.instanceMethod yX4_openBracket, Cond.selects RX4 yX4_openBracket yX4_openBracket, Cond.code yX4_openBracket cX4_openBracket 3 none]
def wsX7_stops_r4 : List Cond := [Cond.instanceMethod yX1_finish, Cond.selects RX1 yX1_finish yX1_finish, Cond.code yX1_finish cX1_finish 2 (some .boolean), Cond.fieldLink RX1 15 "PeirceDesk$Frame" "first" "[I", Cond.fieldLink RX1 18 "PeirceDesk$Frame" "second" "[I", Cond.instanceMethod yX0_product, Cond.initialized RX0, Cond.selects RX0 yX0_product yX0_product, Cond.code yX0_product cX0_product 4 none, Cond.fieldLink RX0 12 "PeirceDesk$Algebra" "now" "LPeirceDesk$State;", Cond.fieldLink RX0 37 "PeirceDesk$Algebra" "left" "[I", Cond.fieldLink RX0 40 "PeirceDesk$Algebra" "right" "[I", Cond.methodLink RX0 66 yX0_multiply, Cond.instanceMethod yX0_multiply, Cond.selects RX0 yX0_multiply yX0_multiply, Cond.code yX0_multiply cX0_multiply 8 none, Cond.static yX7_reduced, Cond.code yX7_reduced cX7_reduced 3 (some .int), Cond.methodLink RX0 70 yX0_writeSymmetric, Cond.instanceMethod yX0_writeSymmetric, Cond.selects RX0 yX0_writeSymmetric yX0_writeSymmetric, Cond.code yX0_writeSymmetric cX0_writeSymmetric 7 none, Cond.instanceMethod yX0_operator, Cond.selects RX0 yX0_operator yX0_operator]
def wsX7_stops_r5 : List Cond := [Cond.code yX0_operator cX0_operator 4 none, Cond.methodLink RX0 74 yX0_triple, Cond.instanceMethod yX0_triple, Cond.selects RX0 yX0_triple yX0_triple, Cond.code yX0_triple cX0_triple 5 none, Cond.instanceMethod yX0_inverse, Cond.selects RX0 yX0_inverse yX0_inverse, Cond.code yX0_inverse cX0_inverse 3 (some .boolean), Cond.fieldLink RX0 21 "PeirceDesk$Algebra" "rows" "LPeirceDesk$Rows;", Cond.instanceMethod yX5_load, Cond.initialized RX5, Cond.selects RX5 yX5_load yX5_load, Cond.code yX5_load cX5_load 5 none, Cond.fieldLink RX5 22 "PeirceDesk$Rows" "modulus" "I", Cond.fieldLink RX5 11 "PeirceDesk$Rows" "cells" "[[I", Cond.methodLink RX5 26 yX5_clearRow, Cond.instanceMethod yX5_clearRow, Cond.selects RX5 yX5_clearRow yX5_clearRow, Cond.code yX5_clearRow cX5_clearRow 3 none, Cond.instanceMethod yX5_reduce, Cond.selects RX5 yX5_reduce yX5_reduce, Cond.code yX5_reduce cX5_reduce 5 (some .int), Cond.fieldLink RX5 34 "PeirceDesk$Rows" "pivots" "I", Cond.methodLink RX5 37 yX5_pivotRow]
def wsX7_stops_r6 : List Cond := [Cond.instanceMethod yX5_pivotRow, Cond.selects RX5 yX5_pivotRow yX5_pivotRow, Cond.code yX5_pivotRow cX5_pivotRow 4 (some .int), Cond.methodLink RX5 41 yX5_exchange, Cond.instanceMethod yX5_exchange, Cond.selects RX5 yX5_exchange yX5_exchange, Cond.code yX5_exchange cX5_exchange 5 none, Cond.methodLink RX5 45 yX5_makePivotOne, Cond.instanceMethod yX5_makePivotOne, Cond.selects RX5 yX5_makePivotOne yX5_makePivotOne, Cond.code yX5_makePivotOne cX5_makePivotOne 6 none, Cond.methodLink RX5 48 yX5_clearColumn, Cond.instanceMethod yX5_clearColumn, Cond.selects RX5 yX5_clearColumn yX5_clearColumn, Cond.code yX5_clearColumn cX5_clearColumn 6 none, Cond.methodLink RX0 89 yX0_readInverse, Cond.instanceMethod yX0_readInverse, Cond.selects RX0 yX0_readInverse yX0_readInverse, Cond.code yX0_readInverse cX0_readInverse 4 none, Cond.methodLink RX0 93 yX0_unit, Cond.instanceMethod yX0_unit, Cond.selects RX0 yX0_unit yX0_unit, Cond.code yX0_unit cX0_unit 1 (some (.array .int)), Cond.methodLink RX4 66 yX4_closeBracket]
def wsX7_stops_r7 : List Cond := [Cond.instanceMethod yX4_closeBracket, Cond.selects RX4 yX4_closeBracket yX4_closeBracket, Cond.code yX4_closeBracket cX4_closeBracket 2 none, Cond.instanceMethod yX1_add, Cond.selects RX1 yX1_add yX1_add, Cond.code yX1_add cX1_add 4 none, Cond.methodLink RX4 70 yX4_read, Cond.instanceMethod yX4_read, Cond.selects RX4 yX4_read yX4_read, Cond.code yX4_read cX4_read 5 none, Cond.fieldLink RX4 18 "PeirceDesk$Reckoner" "leftSide" "[I", Cond.instanceMethod yX1_keepArgument, Cond.selects RX1 yX1_keepArgument yX1_keepArgument, Cond.code yX1_keepArgument cX1_keepArgument 1 none, Cond.static yX7_copy, Cond.code yX7_copy cX7_copy 2 none, Cond.methodLink RX7 194 arraycopyName, Cond.native arraycopyName, Cond.static arraycopyName, Cond.initialized "java/lang/System"]
def wsX7_stops : List Cond := .code yX7_stops cX7_stops 1 (some .int) :: ((wsX7_stops_r1 ++ (wsX7_stops_r2 ++ (wsX7_stops_r3 ++ (wsX7_stops_r4 ++ (wsX7_stops_r5 ++ (wsX7_stops_r6 ++ wsX7_stops_r7)))))) ++ wsX70 ++ wsX30 ++ wsX40 ++ wsX10 ++ wsX00 ++ wsX60 ++ wsX50)
def wsX7_put : List Cond := .code yX7_put cX7_put 4 (some .int) :: ([.fieldLink RX7 19 "PeirceDesk" "pad" "LPeirceDesk$Pad;", .static yX3_charactersIn, .initialized RX3, .code yX3_charactersIn cX3_charactersIn 6 (some .int), .constantLong RX3 19 (255), .instanceMethod yX3_append, .selects RX3 yX3_append yX3_append, .code yX3_append cX3_append 5 none, .fieldLink RX3 21 "PeirceDesk$Pad" "length" "I", .fieldLink RX3 9 "PeirceDesk$Pad" "signs" "[C"] ++ wsX70 ++ wsX30)
def wsX7_wipe : List Cond := .code yX7_wipe cX7_wipe 2 (some .int) :: ([.fieldLink RX7 19 "PeirceDesk" "pad" "LPeirceDesk$Pad;"] ++ wsX70 ++ wsX30)
def wsX7_fault_r1 : List Cond := [Cond.fieldLink RX7 19 "PeirceDesk" "pad" "LPeirceDesk$Pad;", Cond.instanceMethod yX3_findFault, Cond.initialized RX3, Cond.selects RX3 yX3_findFault yX3_findFault, Cond.code yX3_findFault cX3_findFault 2 (some .int), Cond.fieldLink RX3 29 "PeirceDesk$Pad" "open" "I", Cond.fieldLink RX3 32 "PeirceDesk$Pad" "nextCommas" "I", Cond.fieldLink RX3 35 "PeirceDesk$Pad" "awaited" "I", Cond.fieldLink RX3 38 "PeirceDesk$Pad" "divided" "Z", Cond.fieldLink RX3 21 "PeirceDesk$Pad" "length" "I", Cond.fieldLink RX3 9 "PeirceDesk$Pad" "signs" "[C", Cond.methodLink RX3 42 yX3_takes, Cond.instanceMethod yX3_takes, Cond.selects RX3 yX3_takes yX3_takes, Cond.code yX3_takes cX3_takes 3 (some .boolean), Cond.methodLink RX3 46 yX3_takesDigit, Cond.instanceMethod yX3_takesDigit, Cond.selects RX3 yX3_takesDigit yX3_takesDigit, Cond.code yX3_takesDigit cX3_takesDigit 2 (some .boolean), Cond.methodLink RX3 50 yX3_takesFactor, Cond.instanceMethod yX3_takesFactor, Cond.selects RX3 yX3_takesFactor yX3_takesFactor, Cond.code yX3_takesFactor cX3_takesFactor 2 (some .boolean), Cond.static yX7_registerOf]
def wsX7_fault_r2 : List Cond := [Cond.initialized RX7, Cond.code yX7_registerOf cX7_registerOf 1 (some .int), Cond.methodLink RX3 53 yX3_takesBracket, Cond.instanceMethod yX3_takesBracket, Cond.selects RX3 yX3_takesBracket yX3_takesBracket, Cond.code yX3_takesBracket cX3_takesBracket 1 (some .boolean), Cond.fieldLink RX3 15 "PeirceDesk$Pad" "commas" "[I", Cond.methodLink RX3 57 yX3_takesInside, Cond.instanceMethod yX3_takesInside, Cond.selects RX3 yX3_takesInside yX3_takesInside, Cond.code yX3_takesInside cX3_takesInside 3 (some .boolean), Cond.methodLink RX3 63 yX3_takesSign, Cond.instanceMethod yX3_takesSign, Cond.selects RX3 yX3_takesSign yX3_takesSign, Cond.code yX3_takesSign cX3_takesSign 2 (some .boolean), Cond.methodLink RX3 60 yX3_takesOutside, Cond.instanceMethod yX3_takesOutside, Cond.selects RX3 yX3_takesOutside yX3_takesOutside, Cond.code yX3_takesOutside cX3_takesOutside 4 (some .boolean)]
def wsX7_fault : List Cond := .code yX7_fault cX7_fault 1 (some .int) :: ((wsX7_fault_r1 ++ wsX7_fault_r2) ++ wsX70 ++ wsX30)
def wsX7_undo : List Cond := .code yX7_undo cX7_undo 1 (some .int) :: ([.fieldLink RX7 33 "PeirceDesk" "history" "LPeirceDesk$History;", .fieldLink RX7 12 "PeirceDesk" "algebra" "LPeirceDesk$Algebra;", .instanceMethod yX2_takeBack, .initialized RX2, .selects RX2 yX2_takeBack yX2_takeBack, .code yX2_takeBack cX2_takeBack 2 none, .fieldLink RX2 26 "PeirceDesk$History" "length" "I", .fieldLink RX2 18 "PeirceDesk$History" "next" "I", .fieldLink RX2 11 "PeirceDesk$History" "states" "[LPeirceDesk$State;", .instanceMethod yX6_copyFrom, .initialized RX6, .selects RX6 yX6_copyFrom yX6_copyFrom, .code yX6_copyFrom cX6_copyFrom 3 none, .fieldLink RX6 20 "PeirceDesk$State" "size" "I", .fieldLink RX6 24 "PeirceDesk$State" "modulus" "I", .fieldLink RX6 11 "PeirceDesk$State" "elements" "[[I", .static yX7_copy, .initialized RX7, .code yX7_copy cX7_copy 2 none, .methodLink RX7 194 arraycopyName, .native arraycopyName, .static arraycopyName, .initialized "java/lang/System"] ++ wsX70 ++ wsX20 ++ wsX00 ++ wsX60)
def wsX7_save : List Cond := .code yX7_save cX7_save 2 (some .int) :: ([.fieldLink RX7 39 "PeirceDesk" "slots" "[LPeirceDesk$State;", .fieldLink RX7 12 "PeirceDesk" "algebra" "LPeirceDesk$Algebra;", .fieldLink RX7 44 "PeirceDesk" "saved" "[Z", .instanceMethod yX6_copyFrom, .initialized RX6, .selects RX6 yX6_copyFrom yX6_copyFrom, .code yX6_copyFrom cX6_copyFrom 3 none, .fieldLink RX6 20 "PeirceDesk$State" "size" "I", .fieldLink RX6 24 "PeirceDesk$State" "modulus" "I", .fieldLink RX6 11 "PeirceDesk$State" "elements" "[[I", .static yX7_copy, .initialized RX7, .code yX7_copy cX7_copy 2 none, .methodLink RX7 194 arraycopyName, .native arraycopyName, .static arraycopyName, .initialized "java/lang/System"] ++ wsX70 ++ wsX00 ++ wsX60)
def wsX7_restore_r1 : List Cond := [Cond.fieldLink RX7 44 "PeirceDesk" "saved" "[Z", Cond.fieldLink RX7 33 "PeirceDesk" "history" "LPeirceDesk$History;", Cond.fieldLink RX7 12 "PeirceDesk" "algebra" "LPeirceDesk$Algebra;", Cond.fieldLink RX7 39 "PeirceDesk" "slots" "[LPeirceDesk$State;", Cond.instanceMethod yX2_remember, Cond.initialized RX2, Cond.selects RX2 yX2_remember yX2_remember, Cond.code yX2_remember cX2_remember 2 none, Cond.fieldLink RX2 11 "PeirceDesk$History" "states" "[LPeirceDesk$State;", Cond.fieldLink RX2 18 "PeirceDesk$History" "next" "I", Cond.fieldLink RX2 26 "PeirceDesk$History" "length" "I", Cond.methodLink RX2 29 Lib.Math.min.name, Cond.static Lib.Math.min.name, Cond.initialized "java/lang/Math", Cond.code Lib.Math.min.name Lib.Math.min.code 2 (some .int), Cond.instanceMethod yX6_copyFrom, Cond.initialized RX6, Cond.selects RX6 yX6_copyFrom yX6_copyFrom, Cond.code yX6_copyFrom cX6_copyFrom 3 none, Cond.fieldLink RX6 20 "PeirceDesk$State" "size" "I", Cond.fieldLink RX6 24 "PeirceDesk$State" "modulus" "I", Cond.fieldLink RX6 11 "PeirceDesk$State" "elements" "[[I", Cond.static yX7_copy, Cond.initialized RX7]
def wsX7_restore_r2 : List Cond := [Cond.code yX7_copy cX7_copy 2 none, Cond.methodLink RX7 194 arraycopyName, Cond.native arraycopyName, Cond.static arraycopyName, Cond.initialized "java/lang/System"]
def wsX7_restore : List Cond := .code yX7_restore cX7_restore 2 (some .int) :: ((wsX7_restore_r1 ++ wsX7_restore_r2) ++ wsX70 ++ wsX00 ++ wsX60 ++ wsX20)
def wsX8_clear : List Cond := .code yX8_clear cX8_clear 4 none :: ([.fieldLink RX8 7 "PeirceDeskModel" "z" "[I"] ++ wsX80)
def wsX8_init : List Cond := .code yX8_init cX8_init 1 none :: ([.methodLink RX8 1 objectInit, .instanceMethod objectInit, .code objectInit ⟨#[0xb1]⟩ 1 none, .arrayClass .int, .fieldLink RX8 7 "PeirceDeskModel" "z" "[I", .fieldLink RX8 13 "PeirceDeskModel" "past" "[I", .fieldLink RX8 16 "PeirceDeskModel" "slots" "[I", .arrayClass .boolean, .fieldLink RX8 19 "PeirceDeskModel" "isSaved" "[Z", .arrayClass .char, .fieldLink RX8 23 "PeirceDeskModel" "pad" "[C", .fieldLink RX8 27 "PeirceDeskModel" "w" "[I", .fieldLink RX8 30 "PeirceDeskModel" "rows" "[I", .fieldLink RX8 33 "PeirceDeskModel" "letters" "[I", .fieldLink RX8 36 "PeirceDeskModel" "sums" "[I", .fieldLink RX8 39 "PeirceDeskModel" "often" "[I", .fieldLink RX8 42 "PeirceDeskModel" "places" "[I", .methodLink RX8 45 yX8_clear, .instanceMethod yX8_clear, .selects RX8 yX8_clear yX8_clear, .initialized RX8, .code yX8_clear cX8_clear 4 none] ++ wsX80)
def wsX8_in : List Cond := .code yX8_in cX8_in 3 (some .boolean) :: ([])
def wsX8_isRegister : List Cond := .code yX8_isRegister cX8_isRegister 1 (some .boolean) :: ([.methodLink RX8 49 yX8_in, .static yX8_in, .initialized RX8, .code yX8_in cX8_in 3 (some .boolean)])
def wsX8_record : List Cond := .code yX8_record cX8_record 2 none :: ([.fieldLink RX8 53 "PeirceDeskModel" "pastMany" "I", .fieldLink RX8 13 "PeirceDeskModel" "past" "[I", .fieldLink RX8 7 "PeirceDeskModel" "z" "[I"] ++ wsX80)
def wsX8_undo : List Cond := .code yX8_undo cX8_undo 2 (some .int) :: ([.fieldLink RX8 53 "PeirceDeskModel" "pastMany" "I", .fieldLink RX8 7 "PeirceDeskModel" "z" "[I", .fieldLink RX8 13 "PeirceDeskModel" "past" "[I"] ++ wsX80)
def wsX8_save : List Cond := .code yX8_save cX8_save 3 (some .int) :: ([.fieldLink RX8 19 "PeirceDeskModel" "isSaved" "[Z", .fieldLink RX8 16 "PeirceDeskModel" "slots" "[I", .fieldLink RX8 7 "PeirceDeskModel" "z" "[I", .methodLink RX8 49 yX8_in, .static yX8_in, .initialized RX8, .code yX8_in cX8_in 3 (some .boolean)] ++ wsX80)
def wsX8_restore : List Cond := .code yX8_restore cX8_restore 3 (some .int) :: ([.fieldLink RX8 19 "PeirceDeskModel" "isSaved" "[Z", .fieldLink RX8 7 "PeirceDeskModel" "z" "[I", .fieldLink RX8 16 "PeirceDeskModel" "slots" "[I", .methodLink RX8 49 yX8_in, .static yX8_in, .initialized RX8, .code yX8_in cX8_in 3 (some .boolean), .methodLink RX8 57 yX8_record, .instanceMethod yX8_record, .selects RX8 yX8_record yX8_record, .code yX8_record cX8_record 2 none, .fieldLink RX8 53 "PeirceDeskModel" "pastMany" "I", .fieldLink RX8 13 "PeirceDeskModel" "past" "[I"] ++ wsX80)
def wsX8_half : List Cond := .code yX8_half cX8_half 1 (some .int) :: ([.fieldLink RX8 7 "PeirceDeskModel" "z" "[I"] ++ wsX80)
def wsX8_within : List Cond := .code yX8_within cX8_within 3 (some .int) :: ([.fieldLink RX8 7 "PeirceDeskModel" "z" "[I"] ++ wsX80)
def wsX8_over : List Cond := .code yX8_over cX8_over 4 (some .int) :: ([.fieldLink RX8 7 "PeirceDeskModel" "z" "[I"] ++ wsX80)
def wsX8_blank : List Cond := .code yX8_blank cX8_blank 3 none :: ([.fieldLink RX8 27 "PeirceDeskModel" "w" "[I"] ++ wsX80)
def wsX8_times : List Cond := .code yX8_times cX8_times 8 none :: ([.fieldLink RX8 7 "PeirceDeskModel" "z" "[I", .fieldLink RX8 27 "PeirceDeskModel" "w" "[I", .methodLink RX8 60 yX8_blank, .instanceMethod yX8_blank, .selects RX8 yX8_blank yX8_blank, .initialized RX8, .code yX8_blank cX8_blank 3 none] ++ wsX80)
def wsX8_copy : List Cond := .code yX8_copy cX8_copy 4 none :: ([.fieldLink RX8 27 "PeirceDeskModel" "w" "[I"] ++ wsX80)
def wsX8_add : List Cond := .code yX8_add cX8_add 7 none :: ([.fieldLink RX8 27 "PeirceDeskModel" "w" "[I", .methodLink RX8 64 yX8_within, .instanceMethod yX8_within, .selects RX8 yX8_within yX8_within, .initialized RX8, .code yX8_within cX8_within 3 (some .int), .fieldLink RX8 7 "PeirceDeskModel" "z" "[I"] ++ wsX80)
def wsX8_areAlike : List Cond := .code yX8_areAlike cX8_areAlike 5 (some .boolean) :: ([.fieldLink RX8 27 "PeirceDeskModel" "w" "[I"] ++ wsX80)
def wsX8_isNothing : List Cond := .code yX8_isNothing cX8_isNothing 4 (some .boolean) :: ([.fieldLink RX8 27 "PeirceDeskModel" "w" "[I"] ++ wsX80)
def wsX8_cellOf : List Cond := .code yX8_cellOf cX8_cellOf 4 (some .int) :: ([.fieldLink RX8 27 "PeirceDeskModel" "w" "[I"] ++ wsX80)
def wsX8_determinant : List Cond := .code yX8_determinant cX8_determinant 4 (some .int) :: ([.fieldLink RX8 7 "PeirceDeskModel" "z" "[I", .fieldLink RX8 27 "PeirceDeskModel" "w" "[I", .methodLink RX8 64 yX8_within, .instanceMethod yX8_within, .selects RX8 yX8_within yX8_within, .initialized RX8, .code yX8_within cX8_within 3 (some .int), .methodLink RX8 68 yX8_cellOf, .instanceMethod yX8_cellOf, .selects RX8 yX8_cellOf yX8_cellOf, .code yX8_cellOf cX8_cellOf 4 (some .int)] ++ wsX80)
def wsX8_invert : List Cond := .code yX8_invert cX8_invert 7 none :: ([.fieldLink RX8 7 "PeirceDeskModel" "z" "[I", .fieldLink RX8 27 "PeirceDeskModel" "w" "[I", .methodLink RX8 72 yX8_determinant, .instanceMethod yX8_determinant, .selects RX8 yX8_determinant yX8_determinant, .initialized RX8, .code yX8_determinant cX8_determinant 4 (some .int), .methodLink RX8 64 yX8_within, .instanceMethod yX8_within, .selects RX8 yX8_within yX8_within, .code yX8_within cX8_within 3 (some .int), .methodLink RX8 68 yX8_cellOf, .instanceMethod yX8_cellOf, .selects RX8 yX8_cellOf yX8_cellOf, .code yX8_cellOf cX8_cellOf 4 (some .int), .methodLink RX8 75 yX8_over, .instanceMethod yX8_over, .selects RX8 yX8_over yX8_over, .code yX8_over cX8_over 4 (some .int), .methodLink RX8 60 yX8_blank, .instanceMethod yX8_blank, .selects RX8 yX8_blank yX8_blank, .code yX8_blank cX8_blank 3 none] ++ wsX80)
def wsX8_layBase_r1 : List Cond := [Cond.fieldLink RX8 27 "PeirceDeskModel" "w" "[I", Cond.fieldLink RX8 7 "PeirceDeskModel" "z" "[I", Cond.methodLink RX8 78 yX8_invert, Cond.instanceMethod yX8_invert, Cond.selects RX8 yX8_invert yX8_invert, Cond.initialized RX8, Cond.code yX8_invert cX8_invert 7 none, Cond.methodLink RX8 72 yX8_determinant, Cond.instanceMethod yX8_determinant, Cond.selects RX8 yX8_determinant yX8_determinant, Cond.code yX8_determinant cX8_determinant 4 (some .int), Cond.methodLink RX8 64 yX8_within, Cond.instanceMethod yX8_within, Cond.selects RX8 yX8_within yX8_within, Cond.code yX8_within cX8_within 3 (some .int), Cond.methodLink RX8 68 yX8_cellOf, Cond.instanceMethod yX8_cellOf, Cond.selects RX8 yX8_cellOf yX8_cellOf, Cond.code yX8_cellOf cX8_cellOf 4 (some .int), Cond.methodLink RX8 75 yX8_over, Cond.instanceMethod yX8_over, Cond.selects RX8 yX8_over yX8_over, Cond.code yX8_over cX8_over 4 (some .int), Cond.methodLink RX8 60 yX8_blank]
def wsX8_layBase_r2 : List Cond := [Cond.instanceMethod yX8_blank, Cond.selects RX8 yX8_blank yX8_blank, Cond.code yX8_blank cX8_blank 3 none]
def wsX8_layBase : List Cond := .code yX8_layBase cX8_layBase 2 none :: ((wsX8_layBase_r1 ++ wsX8_layBase_r2) ++ wsX80)
def wsX8_load_r1 : List Cond := [Cond.fieldLink RX8 27 "PeirceDeskModel" "w" "[I", Cond.fieldLink RX8 7 "PeirceDeskModel" "z" "[I", Cond.methodLink RX8 81 yX8_layBase, Cond.instanceMethod yX8_layBase, Cond.selects RX8 yX8_layBase yX8_layBase, Cond.initialized RX8, Cond.code yX8_layBase cX8_layBase 2 none, Cond.methodLink RX8 78 yX8_invert, Cond.instanceMethod yX8_invert, Cond.selects RX8 yX8_invert yX8_invert, Cond.code yX8_invert cX8_invert 7 none, Cond.methodLink RX8 72 yX8_determinant, Cond.instanceMethod yX8_determinant, Cond.selects RX8 yX8_determinant yX8_determinant, Cond.code yX8_determinant cX8_determinant 4 (some .int), Cond.methodLink RX8 64 yX8_within, Cond.instanceMethod yX8_within, Cond.selects RX8 yX8_within yX8_within, Cond.code yX8_within cX8_within 3 (some .int), Cond.methodLink RX8 68 yX8_cellOf, Cond.instanceMethod yX8_cellOf, Cond.selects RX8 yX8_cellOf yX8_cellOf, Cond.code yX8_cellOf cX8_cellOf 4 (some .int), Cond.methodLink RX8 75 yX8_over]
def wsX8_load_r2 : List Cond := [Cond.instanceMethod yX8_over, Cond.selects RX8 yX8_over yX8_over, Cond.code yX8_over cX8_over 4 (some .int), Cond.methodLink RX8 60 yX8_blank, Cond.instanceMethod yX8_blank, Cond.selects RX8 yX8_blank yX8_blank, Cond.code yX8_blank cX8_blank 3 none]
def wsX8_load : List Cond := .code yX8_load cX8_load 4 none :: ((wsX8_load_r1 ++ wsX8_load_r2) ++ wsX80)
def wsX8_store : List Cond := .code yX8_store cX8_store 4 none :: ([.fieldLink RX8 7 "PeirceDeskModel" "z" "[I", .fieldLink RX8 27 "PeirceDeskModel" "w" "[I"] ++ wsX80)
def wsX8_product : List Cond := .code yX8_product cX8_product 4 none :: ([.methodLink RX8 84 yX8_times, .instanceMethod yX8_times, .selects RX8 yX8_times yX8_times, .initialized RX8, .code yX8_times cX8_times 8 none, .fieldLink RX8 7 "PeirceDeskModel" "z" "[I", .fieldLink RX8 27 "PeirceDeskModel" "w" "[I", .methodLink RX8 60 yX8_blank, .instanceMethod yX8_blank, .selects RX8 yX8_blank yX8_blank, .code yX8_blank cX8_blank 3 none, .methodLink RX8 88 yX8_half, .instanceMethod yX8_half, .selects RX8 yX8_half yX8_half, .code yX8_half cX8_half 1 (some .int), .methodLink RX8 92 yX8_add, .instanceMethod yX8_add, .selects RX8 yX8_add yX8_add, .code yX8_add cX8_add 7 none, .methodLink RX8 64 yX8_within, .instanceMethod yX8_within, .selects RX8 yX8_within yX8_within, .code yX8_within cX8_within 3 (some .int)] ++ wsX80)
def wsX8_operator : List Cond := .code yX8_operator cX8_operator 4 none :: ([.methodLink RX8 84 yX8_times, .instanceMethod yX8_times, .selects RX8 yX8_times yX8_times, .initialized RX8, .code yX8_times cX8_times 8 none, .fieldLink RX8 7 "PeirceDeskModel" "z" "[I", .fieldLink RX8 27 "PeirceDeskModel" "w" "[I", .methodLink RX8 60 yX8_blank, .instanceMethod yX8_blank, .selects RX8 yX8_blank yX8_blank, .code yX8_blank cX8_blank 3 none, .methodLink RX8 96 yX8_copy, .instanceMethod yX8_copy, .selects RX8 yX8_copy yX8_copy, .code yX8_copy cX8_copy 4 none] ++ wsX80)
def wsX8_triple : List Cond := .code yX8_triple cX8_triple 5 none :: ([.methodLink RX8 84 yX8_times, .instanceMethod yX8_times, .selects RX8 yX8_times yX8_times, .initialized RX8, .code yX8_times cX8_times 8 none, .fieldLink RX8 7 "PeirceDeskModel" "z" "[I", .fieldLink RX8 27 "PeirceDeskModel" "w" "[I", .methodLink RX8 60 yX8_blank, .instanceMethod yX8_blank, .selects RX8 yX8_blank yX8_blank, .code yX8_blank cX8_blank 3 none, .methodLink RX8 88 yX8_half, .instanceMethod yX8_half, .selects RX8 yX8_half yX8_half, .code yX8_half cX8_half 1 (some .int), .methodLink RX8 92 yX8_add, .instanceMethod yX8_add, .selects RX8 yX8_add yX8_add, .code yX8_add cX8_add 7 none, .methodLink RX8 64 yX8_within, .instanceMethod yX8_within, .selects RX8 yX8_within yX8_within, .code yX8_within cX8_within 3 (some .int)] ++ wsX80)
def wsX8_inverse_r1 : List Cond := [Cond.methodLink RX8 72 yX8_determinant, Cond.instanceMethod yX8_determinant, Cond.selects RX8 yX8_determinant yX8_determinant, Cond.initialized RX8, Cond.code yX8_determinant cX8_determinant 4 (some .int), Cond.fieldLink RX8 7 "PeirceDeskModel" "z" "[I", Cond.fieldLink RX8 27 "PeirceDeskModel" "w" "[I", Cond.methodLink RX8 64 yX8_within, Cond.instanceMethod yX8_within, Cond.selects RX8 yX8_within yX8_within, Cond.code yX8_within cX8_within 3 (some .int), Cond.methodLink RX8 68 yX8_cellOf, Cond.instanceMethod yX8_cellOf, Cond.selects RX8 yX8_cellOf yX8_cellOf, Cond.code yX8_cellOf cX8_cellOf 4 (some .int), Cond.methodLink RX8 78 yX8_invert, Cond.instanceMethod yX8_invert, Cond.selects RX8 yX8_invert yX8_invert, Cond.code yX8_invert cX8_invert 7 none, Cond.methodLink RX8 75 yX8_over, Cond.instanceMethod yX8_over, Cond.selects RX8 yX8_over yX8_over, Cond.code yX8_over cX8_over 4 (some .int), Cond.methodLink RX8 60 yX8_blank]
def wsX8_inverse_r2 : List Cond := [Cond.instanceMethod yX8_blank, Cond.selects RX8 yX8_blank yX8_blank, Cond.code yX8_blank cX8_blank 3 none, Cond.methodLink RX8 84 yX8_times, Cond.instanceMethod yX8_times, Cond.selects RX8 yX8_times yX8_times, Cond.code yX8_times cX8_times 8 none, Cond.methodLink RX8 96 yX8_copy, Cond.instanceMethod yX8_copy, Cond.selects RX8 yX8_copy yX8_copy, Cond.code yX8_copy cX8_copy 4 none]
def wsX8_inverse : List Cond := .code yX8_inverse cX8_inverse 3 (some .boolean) :: ((wsX8_inverse_r1 ++ wsX8_inverse_r2) ++ wsX80)
def wsX8_isOwnSquare_r1 : List Cond := [Cond.methodLink RX8 99 yX8_product, Cond.instanceMethod yX8_product, Cond.selects RX8 yX8_product yX8_product, Cond.initialized RX8, Cond.code yX8_product cX8_product 4 none, Cond.methodLink RX8 84 yX8_times, Cond.instanceMethod yX8_times, Cond.selects RX8 yX8_times yX8_times, Cond.code yX8_times cX8_times 8 none, Cond.fieldLink RX8 7 "PeirceDeskModel" "z" "[I", Cond.fieldLink RX8 27 "PeirceDeskModel" "w" "[I", Cond.methodLink RX8 60 yX8_blank, Cond.instanceMethod yX8_blank, Cond.selects RX8 yX8_blank yX8_blank, Cond.code yX8_blank cX8_blank 3 none, Cond.methodLink RX8 88 yX8_half, Cond.instanceMethod yX8_half, Cond.selects RX8 yX8_half yX8_half, Cond.code yX8_half cX8_half 1 (some .int), Cond.methodLink RX8 92 yX8_add, Cond.instanceMethod yX8_add, Cond.selects RX8 yX8_add yX8_add, Cond.code yX8_add cX8_add 7 none, Cond.methodLink RX8 64 yX8_within]
def wsX8_isOwnSquare_r2 : List Cond := [Cond.instanceMethod yX8_within, Cond.selects RX8 yX8_within yX8_within, Cond.code yX8_within cX8_within 3 (some .int), Cond.methodLink RX8 102 yX8_areAlike, Cond.instanceMethod yX8_areAlike, Cond.selects RX8 yX8_areAlike yX8_areAlike, Cond.code yX8_areAlike cX8_areAlike 5 (some .boolean)]
def wsX8_isOwnSquare : List Cond := .code yX8_isOwnSquare cX8_isOwnSquare 2 (some .boolean) :: ((wsX8_isOwnSquare_r1 ++ wsX8_isOwnSquare_r2) ++ wsX80)
def wsX8_part_r1 : List Cond := [Cond.methodLink RX8 92 yX8_add, Cond.instanceMethod yX8_add, Cond.selects RX8 yX8_add yX8_add, Cond.initialized RX8, Cond.code yX8_add cX8_add 7 none, Cond.fieldLink RX8 27 "PeirceDeskModel" "w" "[I", Cond.methodLink RX8 64 yX8_within, Cond.instanceMethod yX8_within, Cond.selects RX8 yX8_within yX8_within, Cond.code yX8_within cX8_within 3 (some .int), Cond.fieldLink RX8 7 "PeirceDeskModel" "z" "[I", Cond.methodLink RX8 106 yX8_operator, Cond.instanceMethod yX8_operator, Cond.selects RX8 yX8_operator yX8_operator, Cond.code yX8_operator cX8_operator 4 none, Cond.methodLink RX8 84 yX8_times, Cond.instanceMethod yX8_times, Cond.selects RX8 yX8_times yX8_times, Cond.code yX8_times cX8_times 8 none, Cond.methodLink RX8 60 yX8_blank, Cond.instanceMethod yX8_blank, Cond.selects RX8 yX8_blank yX8_blank, Cond.code yX8_blank cX8_blank 3 none, Cond.methodLink RX8 96 yX8_copy]
def wsX8_part_r2 : List Cond := [Cond.instanceMethod yX8_copy, Cond.selects RX8 yX8_copy yX8_copy, Cond.code yX8_copy cX8_copy 4 none]
def wsX8_part : List Cond := .code yX8_part cX8_part 2 none :: ((wsX8_part_r1 ++ wsX8_part_r2) ++ wsX80)
def wsX8_begin : List Cond := .code yX8_begin cX8_begin 5 (some .int) :: ([.fieldLink RX8 7 "PeirceDeskModel" "z" "[I", .methodLink RX8 49 yX8_in, .static yX8_in, .initialized RX8, .code yX8_in cX8_in 3 (some .boolean), .methodLink RX8 57 yX8_record, .instanceMethod yX8_record, .selects RX8 yX8_record yX8_record, .code yX8_record cX8_record 2 none, .fieldLink RX8 53 "PeirceDeskModel" "pastMany" "I", .fieldLink RX8 13 "PeirceDeskModel" "past" "[I", .methodLink RX8 45 yX8_clear, .instanceMethod yX8_clear, .selects RX8 yX8_clear yX8_clear, .code yX8_clear cX8_clear 4 none] ++ wsX80)
def wsX8_isCell : List Cond := .code yX8_isCell cX8_isCell 3 (some .boolean) :: ([.fieldLink RX8 7 "PeirceDeskModel" "z" "[I", .methodLink RX8 49 yX8_in, .static yX8_in, .initialized RX8, .code yX8_in cX8_in 3 (some .boolean)] ++ wsX80)
def wsX8_set : List Cond := .code yX8_set cX8_set 6 (some .int) :: ([.fieldLink RX8 7 "PeirceDeskModel" "z" "[I", .methodLink RX8 109 yX8_isRegister, .static yX8_isRegister, .initialized RX8, .code yX8_isRegister cX8_isRegister 1 (some .boolean), .methodLink RX8 49 yX8_in, .static yX8_in, .code yX8_in cX8_in 3 (some .boolean), .methodLink RX8 113 yX8_isCell, .instanceMethod yX8_isCell, .selects RX8 yX8_isCell yX8_isCell, .code yX8_isCell cX8_isCell 3 (some .boolean), .methodLink RX8 57 yX8_record, .instanceMethod yX8_record, .selects RX8 yX8_record yX8_record, .code yX8_record cX8_record 2 none, .fieldLink RX8 53 "PeirceDeskModel" "pastMany" "I", .fieldLink RX8 13 "PeirceDeskModel" "past" "[I"] ++ wsX80)
def wsX8_base_r1 : List Cond := [Cond.fieldLink RX8 7 "PeirceDeskModel" "z" "[I", Cond.fieldLink RX8 27 "PeirceDeskModel" "w" "[I", Cond.methodLink RX8 109 yX8_isRegister, Cond.static yX8_isRegister, Cond.initialized RX8, Cond.code yX8_isRegister cX8_isRegister 1 (some .boolean), Cond.methodLink RX8 49 yX8_in, Cond.static yX8_in, Cond.code yX8_in cX8_in 3 (some .boolean), Cond.methodLink RX8 60 yX8_blank, Cond.instanceMethod yX8_blank, Cond.selects RX8 yX8_blank yX8_blank, Cond.code yX8_blank cX8_blank 3 none, Cond.methodLink RX8 72 yX8_determinant, Cond.instanceMethod yX8_determinant, Cond.selects RX8 yX8_determinant yX8_determinant, Cond.code yX8_determinant cX8_determinant 4 (some .int), Cond.methodLink RX8 64 yX8_within, Cond.instanceMethod yX8_within, Cond.selects RX8 yX8_within yX8_within, Cond.code yX8_within cX8_within 3 (some .int), Cond.methodLink RX8 68 yX8_cellOf, Cond.instanceMethod yX8_cellOf, Cond.selects RX8 yX8_cellOf yX8_cellOf]
def wsX8_base_r2 : List Cond := [Cond.code yX8_cellOf cX8_cellOf 4 (some .int), Cond.methodLink RX8 57 yX8_record, Cond.instanceMethod yX8_record, Cond.selects RX8 yX8_record yX8_record, Cond.code yX8_record cX8_record 2 none, Cond.fieldLink RX8 53 "PeirceDeskModel" "pastMany" "I", Cond.fieldLink RX8 13 "PeirceDeskModel" "past" "[I"]
def wsX8_base : List Cond := .code yX8_base cX8_base 4 (some .int) :: ((wsX8_base_r1 ++ wsX8_base_r2) ++ wsX80)
def wsX8_split_r1 : List Cond := [Cond.methodLink RX8 109 yX8_isRegister, Cond.static yX8_isRegister, Cond.initialized RX8, Cond.code yX8_isRegister cX8_isRegister 1 (some .boolean), Cond.methodLink RX8 49 yX8_in, Cond.static yX8_in, Cond.code yX8_in cX8_in 3 (some .boolean), Cond.methodLink RX8 116 yX8_load, Cond.instanceMethod yX8_load, Cond.selects RX8 yX8_load yX8_load, Cond.code yX8_load cX8_load 4 none, Cond.fieldLink RX8 27 "PeirceDeskModel" "w" "[I", Cond.fieldLink RX8 7 "PeirceDeskModel" "z" "[I", Cond.methodLink RX8 81 yX8_layBase, Cond.instanceMethod yX8_layBase, Cond.selects RX8 yX8_layBase yX8_layBase, Cond.code yX8_layBase cX8_layBase 2 none, Cond.methodLink RX8 78 yX8_invert, Cond.instanceMethod yX8_invert, Cond.selects RX8 yX8_invert yX8_invert, Cond.code yX8_invert cX8_invert 7 none, Cond.methodLink RX8 72 yX8_determinant, Cond.instanceMethod yX8_determinant, Cond.selects RX8 yX8_determinant yX8_determinant]
def wsX8_split_r2 : List Cond := [Cond.code yX8_determinant cX8_determinant 4 (some .int), Cond.methodLink RX8 64 yX8_within, Cond.instanceMethod yX8_within, Cond.selects RX8 yX8_within yX8_within, Cond.code yX8_within cX8_within 3 (some .int), Cond.methodLink RX8 68 yX8_cellOf, Cond.instanceMethod yX8_cellOf, Cond.selects RX8 yX8_cellOf yX8_cellOf, Cond.code yX8_cellOf cX8_cellOf 4 (some .int), Cond.methodLink RX8 75 yX8_over, Cond.instanceMethod yX8_over, Cond.selects RX8 yX8_over yX8_over, Cond.code yX8_over cX8_over 4 (some .int), Cond.methodLink RX8 60 yX8_blank, Cond.instanceMethod yX8_blank, Cond.selects RX8 yX8_blank yX8_blank, Cond.code yX8_blank cX8_blank 3 none, Cond.methodLink RX8 119 yX8_isOwnSquare, Cond.instanceMethod yX8_isOwnSquare, Cond.selects RX8 yX8_isOwnSquare yX8_isOwnSquare, Cond.code yX8_isOwnSquare cX8_isOwnSquare 2 (some .boolean), Cond.methodLink RX8 99 yX8_product, Cond.instanceMethod yX8_product, Cond.selects RX8 yX8_product yX8_product]
def wsX8_split_r3 : List Cond := [Cond.code yX8_product cX8_product 4 none, Cond.methodLink RX8 84 yX8_times, Cond.instanceMethod yX8_times, Cond.selects RX8 yX8_times yX8_times, Cond.code yX8_times cX8_times 8 none, Cond.methodLink RX8 88 yX8_half, Cond.instanceMethod yX8_half, Cond.selects RX8 yX8_half yX8_half, Cond.code yX8_half cX8_half 1 (some .int), Cond.methodLink RX8 92 yX8_add, Cond.instanceMethod yX8_add, Cond.selects RX8 yX8_add yX8_add, Cond.code yX8_add cX8_add 7 none, Cond.methodLink RX8 102 yX8_areAlike, Cond.instanceMethod yX8_areAlike, Cond.selects RX8 yX8_areAlike yX8_areAlike, Cond.code yX8_areAlike cX8_areAlike 5 (some .boolean), Cond.methodLink RX8 57 yX8_record, Cond.instanceMethod yX8_record, Cond.selects RX8 yX8_record yX8_record, Cond.code yX8_record cX8_record 2 none, Cond.fieldLink RX8 53 "PeirceDeskModel" "pastMany" "I", Cond.fieldLink RX8 13 "PeirceDeskModel" "past" "[I", Cond.methodLink RX8 122 yX8_part]
def wsX8_split_r4 : List Cond := [Cond.instanceMethod yX8_part, Cond.selects RX8 yX8_part yX8_part, Cond.code yX8_part cX8_part 2 none, Cond.methodLink RX8 106 yX8_operator, Cond.instanceMethod yX8_operator, Cond.selects RX8 yX8_operator yX8_operator, Cond.code yX8_operator cX8_operator 4 none, Cond.methodLink RX8 96 yX8_copy, Cond.instanceMethod yX8_copy, Cond.selects RX8 yX8_copy yX8_copy, Cond.code yX8_copy cX8_copy 4 none, Cond.methodLink RX8 125 yX8_store, Cond.instanceMethod yX8_store, Cond.selects RX8 yX8_store yX8_store, Cond.code yX8_store cX8_store 4 none, Cond.methodLink RX8 128 yX8_isNothing, Cond.instanceMethod yX8_isNothing, Cond.selects RX8 yX8_isNothing yX8_isNothing, Cond.code yX8_isNothing cX8_isNothing 4 (some .boolean)]
def wsX8_split : List Cond := .code yX8_split cX8_split 6 (some .int) :: ((wsX8_split_r1 ++ (wsX8_split_r2 ++ (wsX8_split_r3 ++ wsX8_split_r4))) ++ wsX80)
def wsX8_entry_r1 : List Cond := [Cond.fieldLink RX8 27 "PeirceDeskModel" "w" "[I", Cond.methodLink RX8 49 yX8_in, Cond.static yX8_in, Cond.initialized RX8, Cond.code yX8_in cX8_in 3 (some .boolean), Cond.methodLink RX8 113 yX8_isCell, Cond.instanceMethod yX8_isCell, Cond.selects RX8 yX8_isCell yX8_isCell, Cond.code yX8_isCell cX8_isCell 3 (some .boolean), Cond.fieldLink RX8 7 "PeirceDeskModel" "z" "[I", Cond.methodLink RX8 116 yX8_load, Cond.instanceMethod yX8_load, Cond.selects RX8 yX8_load yX8_load, Cond.code yX8_load cX8_load 4 none, Cond.methodLink RX8 81 yX8_layBase, Cond.instanceMethod yX8_layBase, Cond.selects RX8 yX8_layBase yX8_layBase, Cond.code yX8_layBase cX8_layBase 2 none, Cond.methodLink RX8 78 yX8_invert, Cond.instanceMethod yX8_invert, Cond.selects RX8 yX8_invert yX8_invert, Cond.code yX8_invert cX8_invert 7 none, Cond.methodLink RX8 72 yX8_determinant, Cond.instanceMethod yX8_determinant]
def wsX8_entry_r2 : List Cond := [Cond.selects RX8 yX8_determinant yX8_determinant, Cond.code yX8_determinant cX8_determinant 4 (some .int), Cond.methodLink RX8 64 yX8_within, Cond.instanceMethod yX8_within, Cond.selects RX8 yX8_within yX8_within, Cond.code yX8_within cX8_within 3 (some .int), Cond.methodLink RX8 68 yX8_cellOf, Cond.instanceMethod yX8_cellOf, Cond.selects RX8 yX8_cellOf yX8_cellOf, Cond.code yX8_cellOf cX8_cellOf 4 (some .int), Cond.methodLink RX8 75 yX8_over, Cond.instanceMethod yX8_over, Cond.selects RX8 yX8_over yX8_over, Cond.code yX8_over cX8_over 4 (some .int), Cond.methodLink RX8 60 yX8_blank, Cond.instanceMethod yX8_blank, Cond.selects RX8 yX8_blank yX8_blank, Cond.code yX8_blank cX8_blank 3 none]
def wsX8_entry : List Cond := .code yX8_entry cX8_entry 4 (some .int) :: ((wsX8_entry_r1 ++ wsX8_entry_r2) ++ wsX80)
def wsX8_leadOf : List Cond := .code yX8_leadOf cX8_leadOf 3 (some .int) :: ([.fieldLink RX8 30 "PeirceDeskModel" "rows" "[I"] ++ wsX80)
def wsX8_isNew : List Cond := .code yX8_isNew cX8_isNew 7 (some .boolean) :: ([.fieldLink RX8 131 "PeirceDeskModel" "rowMany" "I", .fieldLink RX8 30 "PeirceDeskModel" "rows" "[I", .fieldLink RX8 27 "PeirceDeskModel" "w" "[I", .fieldLink RX8 7 "PeirceDeskModel" "z" "[I", .methodLink RX8 134 yX8_leadOf, .instanceMethod yX8_leadOf, .selects RX8 yX8_leadOf yX8_leadOf, .initialized RX8, .code yX8_leadOf cX8_leadOf 3 (some .int), .methodLink RX8 75 yX8_over, .instanceMethod yX8_over, .selects RX8 yX8_over yX8_over, .code yX8_over cX8_over 4 (some .int), .methodLink RX8 64 yX8_within, .instanceMethod yX8_within, .selects RX8 yX8_within yX8_within, .code yX8_within cX8_within 3 (some .int)] ++ wsX80)
def wsX8_rankOf_r1 : List Cond := [Cond.fieldLink RX8 131 "PeirceDeskModel" "rowMany" "I", Cond.fieldLink RX8 7 "PeirceDeskModel" "z" "[I", Cond.fieldLink RX8 27 "PeirceDeskModel" "w" "[I", Cond.methodLink RX8 60 yX8_blank, Cond.instanceMethod yX8_blank, Cond.selects RX8 yX8_blank yX8_blank, Cond.initialized RX8, Cond.code yX8_blank cX8_blank 3 none, Cond.methodLink RX8 137 yX8_isNew, Cond.instanceMethod yX8_isNew, Cond.selects RX8 yX8_isNew yX8_isNew, Cond.code yX8_isNew cX8_isNew 7 (some .boolean), Cond.fieldLink RX8 30 "PeirceDeskModel" "rows" "[I", Cond.methodLink RX8 134 yX8_leadOf, Cond.instanceMethod yX8_leadOf, Cond.selects RX8 yX8_leadOf yX8_leadOf, Cond.code yX8_leadOf cX8_leadOf 3 (some .int), Cond.methodLink RX8 75 yX8_over, Cond.instanceMethod yX8_over, Cond.selects RX8 yX8_over yX8_over, Cond.code yX8_over cX8_over 4 (some .int), Cond.methodLink RX8 64 yX8_within, Cond.instanceMethod yX8_within, Cond.selects RX8 yX8_within yX8_within]
def wsX8_rankOf_r2 : List Cond := [Cond.code yX8_within cX8_within 3 (some .int)]
def wsX8_rankOf : List Cond := .code yX8_rankOf cX8_rankOf 5 (some .int) :: ((wsX8_rankOf_r1 ++ wsX8_rankOf_r2) ++ wsX80)
def wsX8_orderOf_r1 : List Cond := [Cond.methodLink RX8 96 yX8_copy, Cond.instanceMethod yX8_copy, Cond.selects RX8 yX8_copy yX8_copy, Cond.initialized RX8, Cond.code yX8_copy cX8_copy 4 none, Cond.fieldLink RX8 27 "PeirceDeskModel" "w" "[I", Cond.methodLink RX8 102 yX8_areAlike, Cond.instanceMethod yX8_areAlike, Cond.selects RX8 yX8_areAlike yX8_areAlike, Cond.code yX8_areAlike cX8_areAlike 5 (some .boolean), Cond.methodLink RX8 99 yX8_product, Cond.instanceMethod yX8_product, Cond.selects RX8 yX8_product yX8_product, Cond.code yX8_product cX8_product 4 none, Cond.methodLink RX8 84 yX8_times, Cond.instanceMethod yX8_times, Cond.selects RX8 yX8_times yX8_times, Cond.code yX8_times cX8_times 8 none, Cond.fieldLink RX8 7 "PeirceDeskModel" "z" "[I", Cond.methodLink RX8 60 yX8_blank, Cond.instanceMethod yX8_blank, Cond.selects RX8 yX8_blank yX8_blank, Cond.code yX8_blank cX8_blank 3 none, Cond.methodLink RX8 88 yX8_half]
def wsX8_orderOf_r2 : List Cond := [Cond.instanceMethod yX8_half, Cond.selects RX8 yX8_half yX8_half, Cond.code yX8_half cX8_half 1 (some .int), Cond.methodLink RX8 92 yX8_add, Cond.instanceMethod yX8_add, Cond.selects RX8 yX8_add yX8_add, Cond.code yX8_add cX8_add 7 none, Cond.methodLink RX8 64 yX8_within, Cond.instanceMethod yX8_within, Cond.selects RX8 yX8_within yX8_within, Cond.code yX8_within cX8_within 3 (some .int)]
def wsX8_orderOf : List Cond := .code yX8_orderOf cX8_orderOf 3 (some .int) :: ((wsX8_orderOf_r1 ++ wsX8_orderOf_r2) ++ wsX80)
def wsX8_degreeOf_r1 : List Cond := [Cond.fieldLink RX8 131 "PeirceDeskModel" "rowMany" "I", Cond.methodLink RX8 96 yX8_copy, Cond.instanceMethod yX8_copy, Cond.selects RX8 yX8_copy yX8_copy, Cond.initialized RX8, Cond.code yX8_copy cX8_copy 4 none, Cond.fieldLink RX8 27 "PeirceDeskModel" "w" "[I", Cond.methodLink RX8 137 yX8_isNew, Cond.instanceMethod yX8_isNew, Cond.selects RX8 yX8_isNew yX8_isNew, Cond.code yX8_isNew cX8_isNew 7 (some .boolean), Cond.fieldLink RX8 30 "PeirceDeskModel" "rows" "[I", Cond.fieldLink RX8 7 "PeirceDeskModel" "z" "[I", Cond.methodLink RX8 134 yX8_leadOf, Cond.instanceMethod yX8_leadOf, Cond.selects RX8 yX8_leadOf yX8_leadOf, Cond.code yX8_leadOf cX8_leadOf 3 (some .int), Cond.methodLink RX8 75 yX8_over, Cond.instanceMethod yX8_over, Cond.selects RX8 yX8_over yX8_over, Cond.code yX8_over cX8_over 4 (some .int), Cond.methodLink RX8 64 yX8_within, Cond.instanceMethod yX8_within, Cond.selects RX8 yX8_within yX8_within]
def wsX8_degreeOf_r2 : List Cond := [Cond.code yX8_within cX8_within 3 (some .int), Cond.methodLink RX8 99 yX8_product, Cond.instanceMethod yX8_product, Cond.selects RX8 yX8_product yX8_product, Cond.code yX8_product cX8_product 4 none, Cond.methodLink RX8 84 yX8_times, Cond.instanceMethod yX8_times, Cond.selects RX8 yX8_times yX8_times, Cond.code yX8_times cX8_times 8 none, Cond.methodLink RX8 60 yX8_blank, Cond.instanceMethod yX8_blank, Cond.selects RX8 yX8_blank yX8_blank, Cond.code yX8_blank cX8_blank 3 none, Cond.methodLink RX8 88 yX8_half, Cond.instanceMethod yX8_half, Cond.selects RX8 yX8_half yX8_half, Cond.code yX8_half cX8_half 1 (some .int), Cond.methodLink RX8 92 yX8_add, Cond.instanceMethod yX8_add, Cond.selects RX8 yX8_add yX8_add, Cond.code yX8_add cX8_add 7 none]
def wsX8_degreeOf : List Cond := .code yX8_degreeOf cX8_degreeOf 3 (some .int) :: ((wsX8_degreeOf_r1 ++ wsX8_degreeOf_r2) ++ wsX80)
def wsX8_endOf_r1 : List Cond := [Cond.methodLink RX8 96 yX8_copy, Cond.instanceMethod yX8_copy, Cond.selects RX8 yX8_copy yX8_copy, Cond.initialized RX8, Cond.code yX8_copy cX8_copy 4 none, Cond.fieldLink RX8 27 "PeirceDeskModel" "w" "[I", Cond.methodLink RX8 128 yX8_isNothing, Cond.instanceMethod yX8_isNothing, Cond.selects RX8 yX8_isNothing yX8_isNothing, Cond.code yX8_isNothing cX8_isNothing 4 (some .boolean), Cond.methodLink RX8 99 yX8_product, Cond.instanceMethod yX8_product, Cond.selects RX8 yX8_product yX8_product, Cond.code yX8_product cX8_product 4 none, Cond.methodLink RX8 84 yX8_times, Cond.instanceMethod yX8_times, Cond.selects RX8 yX8_times yX8_times, Cond.code yX8_times cX8_times 8 none, Cond.fieldLink RX8 7 "PeirceDeskModel" "z" "[I", Cond.methodLink RX8 60 yX8_blank, Cond.instanceMethod yX8_blank, Cond.selects RX8 yX8_blank yX8_blank, Cond.code yX8_blank cX8_blank 3 none, Cond.methodLink RX8 88 yX8_half]
def wsX8_endOf_r2 : List Cond := [Cond.instanceMethod yX8_half, Cond.selects RX8 yX8_half yX8_half, Cond.code yX8_half cX8_half 1 (some .int), Cond.methodLink RX8 92 yX8_add, Cond.instanceMethod yX8_add, Cond.selects RX8 yX8_add yX8_add, Cond.code yX8_add cX8_add 7 none, Cond.methodLink RX8 64 yX8_within, Cond.instanceMethod yX8_within, Cond.selects RX8 yX8_within yX8_within, Cond.code yX8_within cX8_within 3 (some .int)]
def wsX8_endOf : List Cond := .code yX8_endOf cX8_endOf 3 (some .int) :: ((wsX8_endOf_r1 ++ wsX8_endOf_r2) ++ wsX80)
def wsX8_trace : List Cond := .code yX8_trace cX8_trace 2 (some .int) :: ([.fieldLink RX8 27 "PeirceDeskModel" "w" "[I", .fieldLink RX8 7 "PeirceDeskModel" "z" "[I"] ++ wsX80)
def wsX8_of_r1 : List Cond := [Cond.methodLink RX8 49 yX8_in, Cond.static yX8_in, Cond.initialized RX8, Cond.code yX8_in cX8_in 3 (some .boolean), Cond.methodLink RX8 116 yX8_load, Cond.instanceMethod yX8_load, Cond.selects RX8 yX8_load yX8_load, Cond.code yX8_load cX8_load 4 none, Cond.fieldLink RX8 27 "PeirceDeskModel" "w" "[I", Cond.fieldLink RX8 7 "PeirceDeskModel" "z" "[I", Cond.methodLink RX8 81 yX8_layBase, Cond.instanceMethod yX8_layBase, Cond.selects RX8 yX8_layBase yX8_layBase, Cond.code yX8_layBase cX8_layBase 2 none, Cond.methodLink RX8 78 yX8_invert, Cond.instanceMethod yX8_invert, Cond.selects RX8 yX8_invert yX8_invert, Cond.code yX8_invert cX8_invert 7 none, Cond.methodLink RX8 72 yX8_determinant, Cond.instanceMethod yX8_determinant, Cond.selects RX8 yX8_determinant yX8_determinant, Cond.code yX8_determinant cX8_determinant 4 (some .int), Cond.methodLink RX8 64 yX8_within, Cond.instanceMethod yX8_within]
def wsX8_of_r2 : List Cond := [Cond.selects RX8 yX8_within yX8_within, Cond.code yX8_within cX8_within 3 (some .int), Cond.methodLink RX8 68 yX8_cellOf, Cond.instanceMethod yX8_cellOf, Cond.selects RX8 yX8_cellOf yX8_cellOf, Cond.code yX8_cellOf cX8_cellOf 4 (some .int), Cond.methodLink RX8 75 yX8_over, Cond.instanceMethod yX8_over, Cond.selects RX8 yX8_over yX8_over, Cond.code yX8_over cX8_over 4 (some .int), Cond.methodLink RX8 60 yX8_blank, Cond.instanceMethod yX8_blank, Cond.selects RX8 yX8_blank yX8_blank, Cond.code yX8_blank cX8_blank 3 none, Cond.methodLink RX8 140 yX8_trace, Cond.instanceMethod yX8_trace, Cond.selects RX8 yX8_trace yX8_trace, Cond.code yX8_trace cX8_trace 2 (some .int), Cond.methodLink RX8 143 yX8_rankOf, Cond.instanceMethod yX8_rankOf, Cond.selects RX8 yX8_rankOf yX8_rankOf, Cond.code yX8_rankOf cX8_rankOf 5 (some .int), Cond.fieldLink RX8 131 "PeirceDeskModel" "rowMany" "I", Cond.methodLink RX8 137 yX8_isNew]
def wsX8_of_r3 : List Cond := [Cond.instanceMethod yX8_isNew, Cond.selects RX8 yX8_isNew yX8_isNew, Cond.code yX8_isNew cX8_isNew 7 (some .boolean), Cond.fieldLink RX8 30 "PeirceDeskModel" "rows" "[I", Cond.methodLink RX8 134 yX8_leadOf, Cond.instanceMethod yX8_leadOf, Cond.selects RX8 yX8_leadOf yX8_leadOf, Cond.code yX8_leadOf cX8_leadOf 3 (some .int), Cond.methodLink RX8 119 yX8_isOwnSquare, Cond.instanceMethod yX8_isOwnSquare, Cond.selects RX8 yX8_isOwnSquare yX8_isOwnSquare, Cond.code yX8_isOwnSquare cX8_isOwnSquare 2 (some .boolean), Cond.methodLink RX8 99 yX8_product, Cond.instanceMethod yX8_product, Cond.selects RX8 yX8_product yX8_product, Cond.code yX8_product cX8_product 4 none, Cond.methodLink RX8 84 yX8_times, Cond.instanceMethod yX8_times, Cond.selects RX8 yX8_times yX8_times, Cond.code yX8_times cX8_times 8 none, Cond.methodLink RX8 88 yX8_half, Cond.instanceMethod yX8_half, Cond.selects RX8 yX8_half yX8_half, Cond.code yX8_half cX8_half 1 (some .int)]
def wsX8_of_r4 : List Cond := [Cond.methodLink RX8 92 yX8_add, Cond.instanceMethod yX8_add, Cond.selects RX8 yX8_add yX8_add, Cond.code yX8_add cX8_add 7 none, Cond.methodLink RX8 102 yX8_areAlike, Cond.instanceMethod yX8_areAlike, Cond.selects RX8 yX8_areAlike yX8_areAlike, Cond.code yX8_areAlike cX8_areAlike 5 (some .boolean), Cond.methodLink RX8 146 yX8_orderOf, Cond.instanceMethod yX8_orderOf, Cond.selects RX8 yX8_orderOf yX8_orderOf, Cond.code yX8_orderOf cX8_orderOf 3 (some .int), Cond.methodLink RX8 96 yX8_copy, Cond.instanceMethod yX8_copy, Cond.selects RX8 yX8_copy yX8_copy, Cond.code yX8_copy cX8_copy 4 none, Cond.methodLink RX8 149 yX8_degreeOf, Cond.instanceMethod yX8_degreeOf, Cond.selects RX8 yX8_degreeOf yX8_degreeOf, Cond.code yX8_degreeOf cX8_degreeOf 3 (some .int), Cond.methodLink RX8 152 yX8_endOf, Cond.instanceMethod yX8_endOf, Cond.selects RX8 yX8_endOf yX8_endOf, Cond.code yX8_endOf cX8_endOf 3 (some .int)]
def wsX8_of_r5 : List Cond := [Cond.methodLink RX8 128 yX8_isNothing, Cond.instanceMethod yX8_isNothing, Cond.selects RX8 yX8_isNothing yX8_isNothing, Cond.code yX8_isNothing cX8_isNothing 4 (some .boolean)]
def wsX8_of : List Cond := .code yX8_of cX8_of 3 (some .int) :: ((wsX8_of_r1 ++ (wsX8_of_r2 ++ (wsX8_of_r3 ++ (wsX8_of_r4 ++ wsX8_of_r5)))) ++ wsX80)
def wsX8_registersThat_r1 : List Cond := [Cond.methodLink RX8 116 yX8_load, Cond.instanceMethod yX8_load, Cond.selects RX8 yX8_load yX8_load, Cond.initialized RX8, Cond.code yX8_load cX8_load 4 none, Cond.fieldLink RX8 27 "PeirceDeskModel" "w" "[I", Cond.fieldLink RX8 7 "PeirceDeskModel" "z" "[I", Cond.methodLink RX8 81 yX8_layBase, Cond.instanceMethod yX8_layBase, Cond.selects RX8 yX8_layBase yX8_layBase, Cond.code yX8_layBase cX8_layBase 2 none, Cond.methodLink RX8 78 yX8_invert, Cond.instanceMethod yX8_invert, Cond.selects RX8 yX8_invert yX8_invert, Cond.code yX8_invert cX8_invert 7 none, Cond.methodLink RX8 72 yX8_determinant, Cond.instanceMethod yX8_determinant, Cond.selects RX8 yX8_determinant yX8_determinant, Cond.code yX8_determinant cX8_determinant 4 (some .int), Cond.methodLink RX8 64 yX8_within, Cond.instanceMethod yX8_within, Cond.selects RX8 yX8_within yX8_within, Cond.code yX8_within cX8_within 3 (some .int), Cond.methodLink RX8 68 yX8_cellOf]
def wsX8_registersThat_r2 : List Cond := [Cond.instanceMethod yX8_cellOf, Cond.selects RX8 yX8_cellOf yX8_cellOf, Cond.code yX8_cellOf cX8_cellOf 4 (some .int), Cond.methodLink RX8 75 yX8_over, Cond.instanceMethod yX8_over, Cond.selects RX8 yX8_over yX8_over, Cond.code yX8_over cX8_over 4 (some .int), Cond.methodLink RX8 60 yX8_blank, Cond.instanceMethod yX8_blank, Cond.selects RX8 yX8_blank yX8_blank, Cond.code yX8_blank cX8_blank 3 none, Cond.methodLink RX8 119 yX8_isOwnSquare, Cond.instanceMethod yX8_isOwnSquare, Cond.selects RX8 yX8_isOwnSquare yX8_isOwnSquare, Cond.code yX8_isOwnSquare cX8_isOwnSquare 2 (some .boolean), Cond.methodLink RX8 99 yX8_product, Cond.instanceMethod yX8_product, Cond.selects RX8 yX8_product yX8_product, Cond.code yX8_product cX8_product 4 none, Cond.methodLink RX8 84 yX8_times, Cond.instanceMethod yX8_times, Cond.selects RX8 yX8_times yX8_times, Cond.code yX8_times cX8_times 8 none, Cond.methodLink RX8 88 yX8_half]
def wsX8_registersThat_r3 : List Cond := [Cond.instanceMethod yX8_half, Cond.selects RX8 yX8_half yX8_half, Cond.code yX8_half cX8_half 1 (some .int), Cond.methodLink RX8 92 yX8_add, Cond.instanceMethod yX8_add, Cond.selects RX8 yX8_add yX8_add, Cond.code yX8_add cX8_add 7 none, Cond.methodLink RX8 102 yX8_areAlike, Cond.instanceMethod yX8_areAlike, Cond.selects RX8 yX8_areAlike yX8_areAlike, Cond.code yX8_areAlike cX8_areAlike 5 (some .boolean), Cond.methodLink RX8 128 yX8_isNothing, Cond.instanceMethod yX8_isNothing, Cond.selects RX8 yX8_isNothing yX8_isNothing, Cond.code yX8_isNothing cX8_isNothing 4 (some .boolean)]
def wsX8_registersThat : List Cond := .code yX8_registersThat cX8_registersThat 5 (some .int) :: ((wsX8_registersThat_r1 ++ (wsX8_registersThat_r2 ++ wsX8_registersThat_r3)) ++ wsX80)
def wsX8_count_r1 : List Cond := [Cond.fieldLink RX8 7 "PeirceDeskModel" "z" "[I", Cond.fieldLink RX8 159 "PeirceDeskModel" "typed" "I", Cond.fieldLink RX8 53 "PeirceDeskModel" "pastMany" "I", Cond.methodLink RX8 155 yX8_registersThat, Cond.instanceMethod yX8_registersThat, Cond.selects RX8 yX8_registersThat yX8_registersThat, Cond.initialized RX8, Cond.code yX8_registersThat cX8_registersThat 5 (some .int), Cond.methodLink RX8 116 yX8_load, Cond.instanceMethod yX8_load, Cond.selects RX8 yX8_load yX8_load, Cond.code yX8_load cX8_load 4 none, Cond.fieldLink RX8 27 "PeirceDeskModel" "w" "[I", Cond.methodLink RX8 81 yX8_layBase, Cond.instanceMethod yX8_layBase, Cond.selects RX8 yX8_layBase yX8_layBase, Cond.code yX8_layBase cX8_layBase 2 none, Cond.methodLink RX8 78 yX8_invert, Cond.instanceMethod yX8_invert, Cond.selects RX8 yX8_invert yX8_invert, Cond.code yX8_invert cX8_invert 7 none, Cond.methodLink RX8 72 yX8_determinant, Cond.instanceMethod yX8_determinant, Cond.selects RX8 yX8_determinant yX8_determinant]
def wsX8_count_r2 : List Cond := [Cond.code yX8_determinant cX8_determinant 4 (some .int), Cond.methodLink RX8 64 yX8_within, Cond.instanceMethod yX8_within, Cond.selects RX8 yX8_within yX8_within, Cond.code yX8_within cX8_within 3 (some .int), Cond.methodLink RX8 68 yX8_cellOf, Cond.instanceMethod yX8_cellOf, Cond.selects RX8 yX8_cellOf yX8_cellOf, Cond.code yX8_cellOf cX8_cellOf 4 (some .int), Cond.methodLink RX8 75 yX8_over, Cond.instanceMethod yX8_over, Cond.selects RX8 yX8_over yX8_over, Cond.code yX8_over cX8_over 4 (some .int), Cond.methodLink RX8 60 yX8_blank, Cond.instanceMethod yX8_blank, Cond.selects RX8 yX8_blank yX8_blank, Cond.code yX8_blank cX8_blank 3 none, Cond.methodLink RX8 119 yX8_isOwnSquare, Cond.instanceMethod yX8_isOwnSquare, Cond.selects RX8 yX8_isOwnSquare yX8_isOwnSquare, Cond.code yX8_isOwnSquare cX8_isOwnSquare 2 (some .boolean), Cond.methodLink RX8 99 yX8_product, Cond.instanceMethod yX8_product, Cond.selects RX8 yX8_product yX8_product]
def wsX8_count_r3 : List Cond := [Cond.code yX8_product cX8_product 4 none, Cond.methodLink RX8 84 yX8_times, Cond.instanceMethod yX8_times, Cond.selects RX8 yX8_times yX8_times, Cond.code yX8_times cX8_times 8 none, Cond.methodLink RX8 88 yX8_half, Cond.instanceMethod yX8_half, Cond.selects RX8 yX8_half yX8_half, Cond.code yX8_half cX8_half 1 (some .int), Cond.methodLink RX8 92 yX8_add, Cond.instanceMethod yX8_add, Cond.selects RX8 yX8_add yX8_add, Cond.code yX8_add cX8_add 7 none, Cond.methodLink RX8 102 yX8_areAlike, Cond.instanceMethod yX8_areAlike, Cond.selects RX8 yX8_areAlike yX8_areAlike, Cond.code yX8_areAlike cX8_areAlike 5 (some .boolean), Cond.methodLink RX8 128 yX8_isNothing, Cond.instanceMethod yX8_isNothing, Cond.selects RX8 yX8_isNothing yX8_isNothing, Cond.code yX8_isNothing cX8_isNothing 4 (some .boolean)]
def wsX8_count : List Cond := .code yX8_count cX8_count 2 (some .int) :: ((wsX8_count_r1 ++ (wsX8_count_r2 ++ wsX8_count_r3)) ++ wsX80)
def wsX8_areSame_r1 : List Cond := [Cond.methodLink RX8 109 yX8_isRegister, Cond.static yX8_isRegister, Cond.initialized RX8, Cond.code yX8_isRegister cX8_isRegister 1 (some .boolean), Cond.methodLink RX8 49 yX8_in, Cond.static yX8_in, Cond.code yX8_in cX8_in 3 (some .boolean), Cond.methodLink RX8 116 yX8_load, Cond.instanceMethod yX8_load, Cond.selects RX8 yX8_load yX8_load, Cond.code yX8_load cX8_load 4 none, Cond.fieldLink RX8 27 "PeirceDeskModel" "w" "[I", Cond.fieldLink RX8 7 "PeirceDeskModel" "z" "[I", Cond.methodLink RX8 81 yX8_layBase, Cond.instanceMethod yX8_layBase, Cond.selects RX8 yX8_layBase yX8_layBase, Cond.code yX8_layBase cX8_layBase 2 none, Cond.methodLink RX8 78 yX8_invert, Cond.instanceMethod yX8_invert, Cond.selects RX8 yX8_invert yX8_invert, Cond.code yX8_invert cX8_invert 7 none, Cond.methodLink RX8 72 yX8_determinant, Cond.instanceMethod yX8_determinant, Cond.selects RX8 yX8_determinant yX8_determinant]
def wsX8_areSame_r2 : List Cond := [Cond.code yX8_determinant cX8_determinant 4 (some .int), Cond.methodLink RX8 64 yX8_within, Cond.instanceMethod yX8_within, Cond.selects RX8 yX8_within yX8_within, Cond.code yX8_within cX8_within 3 (some .int), Cond.methodLink RX8 68 yX8_cellOf, Cond.instanceMethod yX8_cellOf, Cond.selects RX8 yX8_cellOf yX8_cellOf, Cond.code yX8_cellOf cX8_cellOf 4 (some .int), Cond.methodLink RX8 75 yX8_over, Cond.instanceMethod yX8_over, Cond.selects RX8 yX8_over yX8_over, Cond.code yX8_over cX8_over 4 (some .int), Cond.methodLink RX8 60 yX8_blank, Cond.instanceMethod yX8_blank, Cond.selects RX8 yX8_blank yX8_blank, Cond.code yX8_blank cX8_blank 3 none, Cond.methodLink RX8 102 yX8_areAlike, Cond.instanceMethod yX8_areAlike, Cond.selects RX8 yX8_areAlike yX8_areAlike, Cond.code yX8_areAlike cX8_areAlike 5 (some .boolean)]
def wsX8_areSame : List Cond := .code yX8_areSame cX8_areSame 3 (some .int) :: ((wsX8_areSame_r1 ++ wsX8_areSame_r2) ++ wsX80)
def wsX8_power_r1 : List Cond := [Cond.fieldLink RX8 27 "PeirceDeskModel" "w" "[I", Cond.methodLink RX8 109 yX8_isRegister, Cond.static yX8_isRegister, Cond.initialized RX8, Cond.code yX8_isRegister cX8_isRegister 1 (some .boolean), Cond.methodLink RX8 49 yX8_in, Cond.static yX8_in, Cond.code yX8_in cX8_in 3 (some .boolean), Cond.methodLink RX8 113 yX8_isCell, Cond.instanceMethod yX8_isCell, Cond.selects RX8 yX8_isCell yX8_isCell, Cond.code yX8_isCell cX8_isCell 3 (some .boolean), Cond.fieldLink RX8 7 "PeirceDeskModel" "z" "[I", Cond.methodLink RX8 116 yX8_load, Cond.instanceMethod yX8_load, Cond.selects RX8 yX8_load yX8_load, Cond.code yX8_load cX8_load 4 none, Cond.methodLink RX8 81 yX8_layBase, Cond.instanceMethod yX8_layBase, Cond.selects RX8 yX8_layBase yX8_layBase, Cond.code yX8_layBase cX8_layBase 2 none, Cond.methodLink RX8 78 yX8_invert, Cond.instanceMethod yX8_invert, Cond.selects RX8 yX8_invert yX8_invert]
def wsX8_power_r2 : List Cond := [Cond.code yX8_invert cX8_invert 7 none, Cond.methodLink RX8 72 yX8_determinant, Cond.instanceMethod yX8_determinant, Cond.selects RX8 yX8_determinant yX8_determinant, Cond.code yX8_determinant cX8_determinant 4 (some .int), Cond.methodLink RX8 64 yX8_within, Cond.instanceMethod yX8_within, Cond.selects RX8 yX8_within yX8_within, Cond.code yX8_within cX8_within 3 (some .int), Cond.methodLink RX8 68 yX8_cellOf, Cond.instanceMethod yX8_cellOf, Cond.selects RX8 yX8_cellOf yX8_cellOf, Cond.code yX8_cellOf cX8_cellOf 4 (some .int), Cond.methodLink RX8 75 yX8_over, Cond.instanceMethod yX8_over, Cond.selects RX8 yX8_over yX8_over, Cond.code yX8_over cX8_over 4 (some .int), Cond.methodLink RX8 60 yX8_blank, Cond.instanceMethod yX8_blank, Cond.selects RX8 yX8_blank yX8_blank, Cond.code yX8_blank cX8_blank 3 none, Cond.methodLink RX8 96 yX8_copy, Cond.instanceMethod yX8_copy, Cond.selects RX8 yX8_copy yX8_copy]
def wsX8_power_r3 : List Cond := [Cond.code yX8_copy cX8_copy 4 none, Cond.methodLink RX8 99 yX8_product, Cond.instanceMethod yX8_product, Cond.selects RX8 yX8_product yX8_product, Cond.code yX8_product cX8_product 4 none, Cond.methodLink RX8 84 yX8_times, Cond.instanceMethod yX8_times, Cond.selects RX8 yX8_times yX8_times, Cond.code yX8_times cX8_times 8 none, Cond.methodLink RX8 88 yX8_half, Cond.instanceMethod yX8_half, Cond.selects RX8 yX8_half yX8_half, Cond.code yX8_half cX8_half 1 (some .int), Cond.methodLink RX8 92 yX8_add, Cond.instanceMethod yX8_add, Cond.selects RX8 yX8_add yX8_add, Cond.code yX8_add cX8_add 7 none]
def wsX8_power : List Cond := .code yX8_power cX8_power 6 (some .int) :: ((wsX8_power_r1 ++ (wsX8_power_r2 ++ wsX8_power_r3)) ++ wsX80)
def wsX8_rule_r1 : List Cond := [Cond.methodLink RX8 109 yX8_isRegister, Cond.static yX8_isRegister, Cond.initialized RX8, Cond.code yX8_isRegister cX8_isRegister 1 (some .boolean), Cond.methodLink RX8 49 yX8_in, Cond.static yX8_in, Cond.code yX8_in cX8_in 3 (some .boolean), Cond.methodLink RX8 116 yX8_load, Cond.instanceMethod yX8_load, Cond.selects RX8 yX8_load yX8_load, Cond.code yX8_load cX8_load 4 none, Cond.fieldLink RX8 27 "PeirceDeskModel" "w" "[I", Cond.fieldLink RX8 7 "PeirceDeskModel" "z" "[I", Cond.methodLink RX8 81 yX8_layBase, Cond.instanceMethod yX8_layBase, Cond.selects RX8 yX8_layBase yX8_layBase, Cond.code yX8_layBase cX8_layBase 2 none, Cond.methodLink RX8 78 yX8_invert, Cond.instanceMethod yX8_invert, Cond.selects RX8 yX8_invert yX8_invert, Cond.code yX8_invert cX8_invert 7 none, Cond.methodLink RX8 72 yX8_determinant, Cond.instanceMethod yX8_determinant, Cond.selects RX8 yX8_determinant yX8_determinant]
def wsX8_rule_r2 : List Cond := [Cond.code yX8_determinant cX8_determinant 4 (some .int), Cond.methodLink RX8 64 yX8_within, Cond.instanceMethod yX8_within, Cond.selects RX8 yX8_within yX8_within, Cond.code yX8_within cX8_within 3 (some .int), Cond.methodLink RX8 68 yX8_cellOf, Cond.instanceMethod yX8_cellOf, Cond.selects RX8 yX8_cellOf yX8_cellOf, Cond.code yX8_cellOf cX8_cellOf 4 (some .int), Cond.methodLink RX8 75 yX8_over, Cond.instanceMethod yX8_over, Cond.selects RX8 yX8_over yX8_over, Cond.code yX8_over cX8_over 4 (some .int), Cond.methodLink RX8 60 yX8_blank, Cond.instanceMethod yX8_blank, Cond.selects RX8 yX8_blank yX8_blank, Cond.code yX8_blank cX8_blank 3 none, Cond.methodLink RX8 106 yX8_operator, Cond.instanceMethod yX8_operator, Cond.selects RX8 yX8_operator yX8_operator, Cond.code yX8_operator cX8_operator 4 none, Cond.methodLink RX8 84 yX8_times, Cond.instanceMethod yX8_times, Cond.selects RX8 yX8_times yX8_times]
def wsX8_rule_r3 : List Cond := [Cond.code yX8_times cX8_times 8 none, Cond.methodLink RX8 96 yX8_copy, Cond.instanceMethod yX8_copy, Cond.selects RX8 yX8_copy yX8_copy, Cond.code yX8_copy cX8_copy 4 none, Cond.methodLink RX8 140 yX8_trace, Cond.instanceMethod yX8_trace, Cond.selects RX8 yX8_trace yX8_trace, Cond.code yX8_trace cX8_trace 2 (some .int), Cond.methodLink RX8 102 yX8_areAlike, Cond.instanceMethod yX8_areAlike, Cond.selects RX8 yX8_areAlike yX8_areAlike, Cond.code yX8_areAlike cX8_areAlike 5 (some .boolean)]
def wsX8_rule : List Cond := .code yX8_rule cX8_rule 5 (some .int) :: ((wsX8_rule_r1 ++ (wsX8_rule_r2 ++ wsX8_rule_r3)) ++ wsX80)
def wsX8_partSize_r1 : List Cond := [Cond.fieldLink RX8 131 "PeirceDeskModel" "rowMany" "I", Cond.fieldLink RX8 7 "PeirceDeskModel" "z" "[I", Cond.fieldLink RX8 27 "PeirceDeskModel" "w" "[I", Cond.methodLink RX8 109 yX8_isRegister, Cond.static yX8_isRegister, Cond.initialized RX8, Cond.code yX8_isRegister cX8_isRegister 1 (some .boolean), Cond.methodLink RX8 49 yX8_in, Cond.static yX8_in, Cond.code yX8_in cX8_in 3 (some .boolean), Cond.methodLink RX8 116 yX8_load, Cond.instanceMethod yX8_load, Cond.selects RX8 yX8_load yX8_load, Cond.code yX8_load cX8_load 4 none, Cond.methodLink RX8 81 yX8_layBase, Cond.instanceMethod yX8_layBase, Cond.selects RX8 yX8_layBase yX8_layBase, Cond.code yX8_layBase cX8_layBase 2 none, Cond.methodLink RX8 78 yX8_invert, Cond.instanceMethod yX8_invert, Cond.selects RX8 yX8_invert yX8_invert, Cond.code yX8_invert cX8_invert 7 none, Cond.methodLink RX8 72 yX8_determinant, Cond.instanceMethod yX8_determinant]
def wsX8_partSize_r2 : List Cond := [Cond.selects RX8 yX8_determinant yX8_determinant, Cond.code yX8_determinant cX8_determinant 4 (some .int), Cond.methodLink RX8 64 yX8_within, Cond.instanceMethod yX8_within, Cond.selects RX8 yX8_within yX8_within, Cond.code yX8_within cX8_within 3 (some .int), Cond.methodLink RX8 68 yX8_cellOf, Cond.instanceMethod yX8_cellOf, Cond.selects RX8 yX8_cellOf yX8_cellOf, Cond.code yX8_cellOf cX8_cellOf 4 (some .int), Cond.methodLink RX8 75 yX8_over, Cond.instanceMethod yX8_over, Cond.selects RX8 yX8_over yX8_over, Cond.code yX8_over cX8_over 4 (some .int), Cond.methodLink RX8 60 yX8_blank, Cond.instanceMethod yX8_blank, Cond.selects RX8 yX8_blank yX8_blank, Cond.code yX8_blank cX8_blank 3 none, Cond.methodLink RX8 119 yX8_isOwnSquare, Cond.instanceMethod yX8_isOwnSquare, Cond.selects RX8 yX8_isOwnSquare yX8_isOwnSquare, Cond.code yX8_isOwnSquare cX8_isOwnSquare 2 (some .boolean), Cond.methodLink RX8 99 yX8_product, Cond.instanceMethod yX8_product]
def wsX8_partSize_r3 : List Cond := [Cond.selects RX8 yX8_product yX8_product, Cond.code yX8_product cX8_product 4 none, Cond.methodLink RX8 84 yX8_times, Cond.instanceMethod yX8_times, Cond.selects RX8 yX8_times yX8_times, Cond.code yX8_times cX8_times 8 none, Cond.methodLink RX8 88 yX8_half, Cond.instanceMethod yX8_half, Cond.selects RX8 yX8_half yX8_half, Cond.code yX8_half cX8_half 1 (some .int), Cond.methodLink RX8 92 yX8_add, Cond.instanceMethod yX8_add, Cond.selects RX8 yX8_add yX8_add, Cond.code yX8_add cX8_add 7 none, Cond.methodLink RX8 102 yX8_areAlike, Cond.instanceMethod yX8_areAlike, Cond.selects RX8 yX8_areAlike yX8_areAlike, Cond.code yX8_areAlike cX8_areAlike 5 (some .boolean), Cond.methodLink RX8 122 yX8_part, Cond.instanceMethod yX8_part, Cond.selects RX8 yX8_part yX8_part, Cond.code yX8_part cX8_part 2 none, Cond.methodLink RX8 106 yX8_operator, Cond.instanceMethod yX8_operator]
def wsX8_partSize_r4 : List Cond := [Cond.selects RX8 yX8_operator yX8_operator, Cond.code yX8_operator cX8_operator 4 none, Cond.methodLink RX8 96 yX8_copy, Cond.instanceMethod yX8_copy, Cond.selects RX8 yX8_copy yX8_copy, Cond.code yX8_copy cX8_copy 4 none, Cond.methodLink RX8 137 yX8_isNew, Cond.instanceMethod yX8_isNew, Cond.selects RX8 yX8_isNew yX8_isNew, Cond.code yX8_isNew cX8_isNew 7 (some .boolean), Cond.fieldLink RX8 30 "PeirceDeskModel" "rows" "[I", Cond.methodLink RX8 134 yX8_leadOf, Cond.instanceMethod yX8_leadOf, Cond.selects RX8 yX8_leadOf yX8_leadOf, Cond.code yX8_leadOf cX8_leadOf 3 (some .int)]
def wsX8_partSize : List Cond := .code yX8_partSize cX8_partSize 6 (some .int) :: ((wsX8_partSize_r1 ++ (wsX8_partSize_r2 ++ (wsX8_partSize_r3 ++ wsX8_partSize_r4))) ++ wsX80)
def wsX8_isOfKind_r1 : List Cond := [Cond.methodLink RX8 119 yX8_isOwnSquare, Cond.instanceMethod yX8_isOwnSquare, Cond.selects RX8 yX8_isOwnSquare yX8_isOwnSquare, Cond.initialized RX8, Cond.code yX8_isOwnSquare cX8_isOwnSquare 2 (some .boolean), Cond.methodLink RX8 99 yX8_product, Cond.instanceMethod yX8_product, Cond.selects RX8 yX8_product yX8_product, Cond.code yX8_product cX8_product 4 none, Cond.methodLink RX8 84 yX8_times, Cond.instanceMethod yX8_times, Cond.selects RX8 yX8_times yX8_times, Cond.code yX8_times cX8_times 8 none, Cond.fieldLink RX8 7 "PeirceDeskModel" "z" "[I", Cond.fieldLink RX8 27 "PeirceDeskModel" "w" "[I", Cond.methodLink RX8 60 yX8_blank, Cond.instanceMethod yX8_blank, Cond.selects RX8 yX8_blank yX8_blank, Cond.code yX8_blank cX8_blank 3 none, Cond.methodLink RX8 88 yX8_half, Cond.instanceMethod yX8_half, Cond.selects RX8 yX8_half yX8_half, Cond.code yX8_half cX8_half 1 (some .int), Cond.methodLink RX8 92 yX8_add]
def wsX8_isOfKind_r2 : List Cond := [Cond.instanceMethod yX8_add, Cond.selects RX8 yX8_add yX8_add, Cond.code yX8_add cX8_add 7 none, Cond.methodLink RX8 64 yX8_within, Cond.instanceMethod yX8_within, Cond.selects RX8 yX8_within yX8_within, Cond.code yX8_within cX8_within 3 (some .int), Cond.methodLink RX8 102 yX8_areAlike, Cond.instanceMethod yX8_areAlike, Cond.selects RX8 yX8_areAlike yX8_areAlike, Cond.code yX8_areAlike cX8_areAlike 5 (some .boolean), Cond.methodLink RX8 72 yX8_determinant, Cond.instanceMethod yX8_determinant, Cond.selects RX8 yX8_determinant yX8_determinant, Cond.code yX8_determinant cX8_determinant 4 (some .int), Cond.methodLink RX8 68 yX8_cellOf, Cond.instanceMethod yX8_cellOf, Cond.selects RX8 yX8_cellOf yX8_cellOf, Cond.code yX8_cellOf cX8_cellOf 4 (some .int), Cond.methodLink RX8 152 yX8_endOf, Cond.instanceMethod yX8_endOf, Cond.selects RX8 yX8_endOf yX8_endOf, Cond.code yX8_endOf cX8_endOf 3 (some .int), Cond.methodLink RX8 96 yX8_copy]
def wsX8_isOfKind_r3 : List Cond := [Cond.instanceMethod yX8_copy, Cond.selects RX8 yX8_copy yX8_copy, Cond.code yX8_copy cX8_copy 4 none, Cond.methodLink RX8 128 yX8_isNothing, Cond.instanceMethod yX8_isNothing, Cond.selects RX8 yX8_isNothing yX8_isNothing, Cond.code yX8_isNothing cX8_isNothing 4 (some .boolean)]
def wsX8_isOfKind : List Cond := .code yX8_isOfKind cX8_isOfKind 3 (some .boolean) :: ((wsX8_isOfKind_r1 ++ (wsX8_isOfKind_r2 ++ wsX8_isOfKind_r3)) ++ wsX80)
def wsX8_howMany_r1 : List Cond := [Cond.fieldLink RX8 7 "PeirceDeskModel" "z" "[I", Cond.fieldLink RX8 27 "PeirceDeskModel" "w" "[I", Cond.methodLink RX8 49 yX8_in, Cond.static yX8_in, Cond.initialized RX8, Cond.code yX8_in cX8_in 3 (some .boolean), Cond.methodLink RX8 81 yX8_layBase, Cond.instanceMethod yX8_layBase, Cond.selects RX8 yX8_layBase yX8_layBase, Cond.code yX8_layBase cX8_layBase 2 none, Cond.methodLink RX8 78 yX8_invert, Cond.instanceMethod yX8_invert, Cond.selects RX8 yX8_invert yX8_invert, Cond.code yX8_invert cX8_invert 7 none, Cond.methodLink RX8 72 yX8_determinant, Cond.instanceMethod yX8_determinant, Cond.selects RX8 yX8_determinant yX8_determinant, Cond.code yX8_determinant cX8_determinant 4 (some .int), Cond.methodLink RX8 64 yX8_within, Cond.instanceMethod yX8_within, Cond.selects RX8 yX8_within yX8_within, Cond.code yX8_within cX8_within 3 (some .int), Cond.methodLink RX8 68 yX8_cellOf, Cond.instanceMethod yX8_cellOf]
def wsX8_howMany_r2 : List Cond := [Cond.selects RX8 yX8_cellOf yX8_cellOf, Cond.code yX8_cellOf cX8_cellOf 4 (some .int), Cond.methodLink RX8 75 yX8_over, Cond.instanceMethod yX8_over, Cond.selects RX8 yX8_over yX8_over, Cond.code yX8_over cX8_over 4 (some .int), Cond.methodLink RX8 60 yX8_blank, Cond.instanceMethod yX8_blank, Cond.selects RX8 yX8_blank yX8_blank, Cond.code yX8_blank cX8_blank 3 none, Cond.methodLink RX8 162 yX8_isOfKind, Cond.instanceMethod yX8_isOfKind, Cond.selects RX8 yX8_isOfKind yX8_isOfKind, Cond.code yX8_isOfKind cX8_isOfKind 3 (some .boolean), Cond.methodLink RX8 119 yX8_isOwnSquare, Cond.instanceMethod yX8_isOwnSquare, Cond.selects RX8 yX8_isOwnSquare yX8_isOwnSquare, Cond.code yX8_isOwnSquare cX8_isOwnSquare 2 (some .boolean), Cond.methodLink RX8 99 yX8_product, Cond.instanceMethod yX8_product, Cond.selects RX8 yX8_product yX8_product, Cond.code yX8_product cX8_product 4 none, Cond.methodLink RX8 84 yX8_times, Cond.instanceMethod yX8_times]
def wsX8_howMany_r3 : List Cond := [Cond.selects RX8 yX8_times yX8_times, Cond.code yX8_times cX8_times 8 none, Cond.methodLink RX8 88 yX8_half, Cond.instanceMethod yX8_half, Cond.selects RX8 yX8_half yX8_half, Cond.code yX8_half cX8_half 1 (some .int), Cond.methodLink RX8 92 yX8_add, Cond.instanceMethod yX8_add, Cond.selects RX8 yX8_add yX8_add, Cond.code yX8_add cX8_add 7 none, Cond.methodLink RX8 102 yX8_areAlike, Cond.instanceMethod yX8_areAlike, Cond.selects RX8 yX8_areAlike yX8_areAlike, Cond.code yX8_areAlike cX8_areAlike 5 (some .boolean), Cond.methodLink RX8 152 yX8_endOf, Cond.instanceMethod yX8_endOf, Cond.selects RX8 yX8_endOf yX8_endOf, Cond.code yX8_endOf cX8_endOf 3 (some .int), Cond.methodLink RX8 96 yX8_copy, Cond.instanceMethod yX8_copy, Cond.selects RX8 yX8_copy yX8_copy, Cond.code yX8_copy cX8_copy 4 none, Cond.methodLink RX8 128 yX8_isNothing, Cond.instanceMethod yX8_isNothing]
def wsX8_howMany_r4 : List Cond := [Cond.selects RX8 yX8_isNothing yX8_isNothing, Cond.code yX8_isNothing cX8_isNothing 4 (some .boolean)]
def wsX8_howMany : List Cond := .code yX8_howMany cX8_howMany 5 (some .int) :: ((wsX8_howMany_r1 ++ (wsX8_howMany_r2 ++ (wsX8_howMany_r3 ++ wsX8_howMany_r4))) ++ wsX80)
def wsX8_put : List Cond := .code yX8_put cX8_put 8 (some .int) :: ([.constantLong RX8 165 (255), .fieldLink RX8 159 "PeirceDeskModel" "typed" "I", .fieldLink RX8 23 "PeirceDeskModel" "pad" "[C", .methodLink RX8 49 yX8_in, .static yX8_in, .initialized RX8, .code yX8_in cX8_in 3 (some .boolean)] ++ wsX80)
def wsX8_wipe : List Cond := .code yX8_wipe cX8_wipe 2 (some .int) :: ([.fieldLink RX8 159 "PeirceDeskModel" "typed" "I"] ++ wsX80)
def wsX8_isOne : List Cond := .code yX8_isOne cX8_isOne 1 (some .boolean) :: ([])
def wsX8_isLetter : List Cond := .code yX8_isLetter cX8_isLetter 1 (some .boolean) :: ([])
def wsX8_sumsOf : List Cond := .code yX8_sumsOf cX8_sumsOf 2 (some .int) :: ([])
def wsX8_pileOf : List Cond := .code yX8_pileOf cX8_pileOf 3 (some .int) :: ([])
def wsX8_opens : List Cond := .code yX8_opens cX8_opens 3 none :: ([.fieldLink RX8 167 "PeirceDeskModel" "depth" "I", .fieldLink RX8 33 "PeirceDeskModel" "letters" "[I", .fieldLink RX8 42 "PeirceDeskModel" "places" "[I", .fieldLink RX8 36 "PeirceDeskModel" "sums" "[I", .fieldLink RX8 39 "PeirceDeskModel" "often" "[I", .methodLink RX8 170 yX8_pileOf, .instanceMethod yX8_pileOf, .selects RX8 yX8_pileOf yX8_pileOf, .initialized RX8, .code yX8_pileOf cX8_pileOf 3 (some .int), .methodLink RX8 60 yX8_blank, .instanceMethod yX8_blank, .selects RX8 yX8_blank yX8_blank, .code yX8_blank cX8_blank 3 none, .fieldLink RX8 27 "PeirceDeskModel" "w" "[I"] ++ wsX80)
def wsX8_counts : List Cond := .code yX8_counts cX8_counts 3 none :: ([.fieldLink RX8 167 "PeirceDeskModel" "depth" "I", .fieldLink RX8 36 "PeirceDeskModel" "sums" "[I", .fieldLink RX8 174 "PeirceDeskModel" "works" "Z", .fieldLink RX8 39 "PeirceDeskModel" "often" "[I", .fieldLink RX8 178 "PeirceDeskModel" "wants" "I", .methodLink RX8 170 yX8_pileOf, .instanceMethod yX8_pileOf, .selects RX8 yX8_pileOf yX8_pileOf, .initialized RX8, .code yX8_pileOf cX8_pileOf 3 (some .int), .methodLink RX8 92 yX8_add, .instanceMethod yX8_add, .selects RX8 yX8_add yX8_add, .code yX8_add cX8_add 7 none, .fieldLink RX8 27 "PeirceDeskModel" "w" "[I", .methodLink RX8 64 yX8_within, .instanceMethod yX8_within, .selects RX8 yX8_within yX8_within, .code yX8_within cX8_within 3 (some .int), .fieldLink RX8 7 "PeirceDeskModel" "z" "[I"] ++ wsX80)
def wsX8_closes_r1 : List Cond := [Cond.fieldLink RX8 167 "PeirceDeskModel" "depth" "I", Cond.fieldLink RX8 36 "PeirceDeskModel" "sums" "[I", Cond.fieldLink RX8 174 "PeirceDeskModel" "works" "Z", Cond.fieldLink RX8 33 "PeirceDeskModel" "letters" "[I", Cond.fieldLink RX8 42 "PeirceDeskModel" "places" "[I", Cond.fieldLink RX8 188 "PeirceDeskModel" "stop" "I", Cond.methodLink RX8 170 yX8_pileOf, Cond.instanceMethod yX8_pileOf, Cond.selects RX8 yX8_pileOf yX8_pileOf, Cond.initialized RX8, Cond.code yX8_pileOf cX8_pileOf 3 (some .int), Cond.methodLink RX8 99 yX8_product, Cond.instanceMethod yX8_product, Cond.selects RX8 yX8_product yX8_product, Cond.code yX8_product cX8_product 4 none, Cond.methodLink RX8 84 yX8_times, Cond.instanceMethod yX8_times, Cond.selects RX8 yX8_times yX8_times, Cond.code yX8_times cX8_times 8 none, Cond.fieldLink RX8 7 "PeirceDeskModel" "z" "[I", Cond.fieldLink RX8 27 "PeirceDeskModel" "w" "[I", Cond.methodLink RX8 60 yX8_blank, Cond.instanceMethod yX8_blank, Cond.selects RX8 yX8_blank yX8_blank]
def wsX8_closes_r2 : List Cond := [Cond.code yX8_blank cX8_blank 3 none, Cond.methodLink RX8 88 yX8_half, Cond.instanceMethod yX8_half, Cond.selects RX8 yX8_half yX8_half, Cond.code yX8_half cX8_half 1 (some .int), Cond.methodLink RX8 92 yX8_add, Cond.instanceMethod yX8_add, Cond.selects RX8 yX8_add yX8_add, Cond.code yX8_add cX8_add 7 none, Cond.methodLink RX8 64 yX8_within, Cond.instanceMethod yX8_within, Cond.selects RX8 yX8_within yX8_within, Cond.code yX8_within cX8_within 3 (some .int), Cond.methodLink RX8 106 yX8_operator, Cond.instanceMethod yX8_operator, Cond.selects RX8 yX8_operator yX8_operator, Cond.code yX8_operator cX8_operator 4 none, Cond.methodLink RX8 96 yX8_copy, Cond.instanceMethod yX8_copy, Cond.selects RX8 yX8_copy yX8_copy, Cond.code yX8_copy cX8_copy 4 none, Cond.methodLink RX8 181 yX8_triple, Cond.instanceMethod yX8_triple, Cond.selects RX8 yX8_triple yX8_triple]
def wsX8_closes_r3 : List Cond := [Cond.code yX8_triple cX8_triple 5 none, Cond.methodLink RX8 185 yX8_inverse, Cond.instanceMethod yX8_inverse, Cond.selects RX8 yX8_inverse yX8_inverse, Cond.code yX8_inverse cX8_inverse 3 (some .boolean), Cond.methodLink RX8 72 yX8_determinant, Cond.instanceMethod yX8_determinant, Cond.selects RX8 yX8_determinant yX8_determinant, Cond.code yX8_determinant cX8_determinant 4 (some .int), Cond.methodLink RX8 68 yX8_cellOf, Cond.instanceMethod yX8_cellOf, Cond.selects RX8 yX8_cellOf yX8_cellOf, Cond.code yX8_cellOf cX8_cellOf 4 (some .int), Cond.methodLink RX8 78 yX8_invert, Cond.instanceMethod yX8_invert, Cond.selects RX8 yX8_invert yX8_invert, Cond.code yX8_invert cX8_invert 7 none, Cond.methodLink RX8 75 yX8_over, Cond.instanceMethod yX8_over, Cond.selects RX8 yX8_over yX8_over, Cond.code yX8_over cX8_over 4 (some .int), Cond.methodLink RX8 191 yX8_counts, Cond.instanceMethod yX8_counts, Cond.selects RX8 yX8_counts yX8_counts]
def wsX8_closes_r4 : List Cond := [Cond.code yX8_counts cX8_counts 3 none, Cond.fieldLink RX8 39 "PeirceDeskModel" "often" "[I", Cond.fieldLink RX8 178 "PeirceDeskModel" "wants" "I"]
def wsX8_closes : List Cond := .code yX8_closes cX8_closes 3 none :: ((wsX8_closes_r1 ++ (wsX8_closes_r2 ++ (wsX8_closes_r3 ++ wsX8_closes_r4))) ++ wsX80)
def wsX8_factor_r1 : List Cond := [Cond.fieldLink RX8 178 "PeirceDeskModel" "wants" "I", Cond.methodLink RX8 194 yX8_isOne, Cond.static yX8_isOne, Cond.initialized RX8, Cond.code yX8_isOne cX8_isOne 1 (some .boolean), Cond.methodLink RX8 116 yX8_load, Cond.instanceMethod yX8_load, Cond.selects RX8 yX8_load yX8_load, Cond.code yX8_load cX8_load 4 none, Cond.fieldLink RX8 27 "PeirceDeskModel" "w" "[I", Cond.fieldLink RX8 7 "PeirceDeskModel" "z" "[I", Cond.methodLink RX8 81 yX8_layBase, Cond.instanceMethod yX8_layBase, Cond.selects RX8 yX8_layBase yX8_layBase, Cond.code yX8_layBase cX8_layBase 2 none, Cond.methodLink RX8 78 yX8_invert, Cond.instanceMethod yX8_invert, Cond.selects RX8 yX8_invert yX8_invert, Cond.code yX8_invert cX8_invert 7 none, Cond.methodLink RX8 72 yX8_determinant, Cond.instanceMethod yX8_determinant, Cond.selects RX8 yX8_determinant yX8_determinant, Cond.code yX8_determinant cX8_determinant 4 (some .int), Cond.methodLink RX8 64 yX8_within]
def wsX8_factor_r2 : List Cond := [Cond.instanceMethod yX8_within, Cond.selects RX8 yX8_within yX8_within, Cond.code yX8_within cX8_within 3 (some .int), Cond.methodLink RX8 68 yX8_cellOf, Cond.instanceMethod yX8_cellOf, Cond.selects RX8 yX8_cellOf yX8_cellOf, Cond.code yX8_cellOf cX8_cellOf 4 (some .int), Cond.methodLink RX8 75 yX8_over, Cond.instanceMethod yX8_over, Cond.selects RX8 yX8_over yX8_over, Cond.code yX8_over cX8_over 4 (some .int), Cond.methodLink RX8 60 yX8_blank, Cond.instanceMethod yX8_blank, Cond.selects RX8 yX8_blank yX8_blank, Cond.code yX8_blank cX8_blank 3 none, Cond.methodLink RX8 191 yX8_counts, Cond.instanceMethod yX8_counts, Cond.selects RX8 yX8_counts yX8_counts, Cond.code yX8_counts cX8_counts 3 none, Cond.fieldLink RX8 167 "PeirceDeskModel" "depth" "I", Cond.fieldLink RX8 36 "PeirceDeskModel" "sums" "[I", Cond.fieldLink RX8 174 "PeirceDeskModel" "works" "Z", Cond.fieldLink RX8 39 "PeirceDeskModel" "often" "[I", Cond.methodLink RX8 170 yX8_pileOf]
def wsX8_factor_r3 : List Cond := [Cond.instanceMethod yX8_pileOf, Cond.selects RX8 yX8_pileOf yX8_pileOf, Cond.code yX8_pileOf cX8_pileOf 3 (some .int), Cond.methodLink RX8 92 yX8_add, Cond.instanceMethod yX8_add, Cond.selects RX8 yX8_add yX8_add, Cond.code yX8_add cX8_add 7 none, Cond.methodLink RX8 197 yX8_isLetter, Cond.static yX8_isLetter, Cond.code yX8_isLetter cX8_isLetter 1 (some .boolean), Cond.methodLink RX8 200 yX8_opens, Cond.instanceMethod yX8_opens, Cond.selects RX8 yX8_opens yX8_opens, Cond.code yX8_opens cX8_opens 3 none, Cond.fieldLink RX8 33 "PeirceDeskModel" "letters" "[I", Cond.fieldLink RX8 42 "PeirceDeskModel" "places" "[I"]
def wsX8_factor : List Cond := .code yX8_factor cX8_factor 3 (some .boolean) :: ((wsX8_factor_r1 ++ (wsX8_factor_r2 ++ wsX8_factor_r3)) ++ wsX80)
def wsX8_behind_r1 : List Cond := [Cond.fieldLink RX8 167 "PeirceDeskModel" "depth" "I", Cond.fieldLink RX8 36 "PeirceDeskModel" "sums" "[I", Cond.fieldLink RX8 33 "PeirceDeskModel" "letters" "[I", Cond.fieldLink RX8 39 "PeirceDeskModel" "often" "[I", Cond.fieldLink RX8 178 "PeirceDeskModel" "wants" "I", Cond.fieldLink RX8 23 "PeirceDeskModel" "pad" "[C", Cond.fieldLink RX8 209 "PeirceDeskModel" "isFormula" "Z", Cond.fieldLink RX8 212 "PeirceDeskModel" "isEquation" "Z", Cond.methodLink RX8 203 yX8_sumsOf, Cond.instanceMethod yX8_sumsOf, Cond.selects RX8 yX8_sumsOf yX8_sumsOf, Cond.initialized RX8, Cond.code yX8_sumsOf cX8_sumsOf 2 (some .int), Cond.methodLink RX8 170 yX8_pileOf, Cond.instanceMethod yX8_pileOf, Cond.selects RX8 yX8_pileOf yX8_pileOf, Cond.code yX8_pileOf cX8_pileOf 3 (some .int), Cond.methodLink RX8 60 yX8_blank, Cond.instanceMethod yX8_blank, Cond.selects RX8 yX8_blank yX8_blank, Cond.code yX8_blank cX8_blank 3 none, Cond.fieldLink RX8 27 "PeirceDeskModel" "w" "[I", Cond.methodLink RX8 206 yX8_closes, Cond.instanceMethod yX8_closes]
def wsX8_behind_r2 : List Cond := [Cond.selects RX8 yX8_closes yX8_closes, Cond.code yX8_closes cX8_closes 3 none, Cond.fieldLink RX8 174 "PeirceDeskModel" "works" "Z", Cond.fieldLink RX8 42 "PeirceDeskModel" "places" "[I", Cond.fieldLink RX8 188 "PeirceDeskModel" "stop" "I", Cond.methodLink RX8 99 yX8_product, Cond.instanceMethod yX8_product, Cond.selects RX8 yX8_product yX8_product, Cond.code yX8_product cX8_product 4 none, Cond.methodLink RX8 84 yX8_times, Cond.instanceMethod yX8_times, Cond.selects RX8 yX8_times yX8_times, Cond.code yX8_times cX8_times 8 none, Cond.fieldLink RX8 7 "PeirceDeskModel" "z" "[I", Cond.methodLink RX8 88 yX8_half, Cond.instanceMethod yX8_half, Cond.selects RX8 yX8_half yX8_half, Cond.code yX8_half cX8_half 1 (some .int), Cond.methodLink RX8 92 yX8_add, Cond.instanceMethod yX8_add, Cond.selects RX8 yX8_add yX8_add, Cond.code yX8_add cX8_add 7 none, Cond.methodLink RX8 64 yX8_within, Cond.instanceMethod yX8_within]
def wsX8_behind_r3 : List Cond := [Cond.selects RX8 yX8_within yX8_within, Cond.code yX8_within cX8_within 3 (some .int), Cond.methodLink RX8 106 yX8_operator, Cond.instanceMethod yX8_operator, Cond.selects RX8 yX8_operator yX8_operator, Cond.code yX8_operator cX8_operator 4 none, Cond.methodLink RX8 96 yX8_copy, Cond.instanceMethod yX8_copy, Cond.selects RX8 yX8_copy yX8_copy, Cond.code yX8_copy cX8_copy 4 none, Cond.methodLink RX8 181 yX8_triple, Cond.instanceMethod yX8_triple, Cond.selects RX8 yX8_triple yX8_triple, Cond.code yX8_triple cX8_triple 5 none, Cond.methodLink RX8 185 yX8_inverse, Cond.instanceMethod yX8_inverse, Cond.selects RX8 yX8_inverse yX8_inverse, Cond.code yX8_inverse cX8_inverse 3 (some .boolean), Cond.methodLink RX8 72 yX8_determinant, Cond.instanceMethod yX8_determinant, Cond.selects RX8 yX8_determinant yX8_determinant, Cond.code yX8_determinant cX8_determinant 4 (some .int), Cond.methodLink RX8 68 yX8_cellOf, Cond.instanceMethod yX8_cellOf]
def wsX8_behind_r4 : List Cond := [Cond.selects RX8 yX8_cellOf yX8_cellOf, Cond.code yX8_cellOf cX8_cellOf 4 (some .int), Cond.methodLink RX8 78 yX8_invert, Cond.instanceMethod yX8_invert, Cond.selects RX8 yX8_invert yX8_invert, Cond.code yX8_invert cX8_invert 7 none, Cond.methodLink RX8 75 yX8_over, Cond.instanceMethod yX8_over, Cond.selects RX8 yX8_over yX8_over, Cond.code yX8_over cX8_over 4 (some .int), Cond.methodLink RX8 191 yX8_counts, Cond.instanceMethod yX8_counts, Cond.selects RX8 yX8_counts yX8_counts, Cond.code yX8_counts cX8_counts 3 none, Cond.methodLink RX8 194 yX8_isOne, Cond.static yX8_isOne, Cond.code yX8_isOne cX8_isOne 1 (some .boolean)]
def wsX8_behind : List Cond := .code yX8_behind cX8_behind 7 (some .boolean) :: ((wsX8_behind_r1 ++ (wsX8_behind_r2 ++ (wsX8_behind_r3 ++ wsX8_behind_r4))) ++ wsX80)
def wsX8_stands_r1 : List Cond := [Cond.fieldLink RX8 178 "PeirceDeskModel" "wants" "I", Cond.fieldLink RX8 39 "PeirceDeskModel" "often" "[I", Cond.fieldLink RX8 167 "PeirceDeskModel" "depth" "I", Cond.methodLink RX8 215 yX8_factor, Cond.instanceMethod yX8_factor, Cond.selects RX8 yX8_factor yX8_factor, Cond.initialized RX8, Cond.code yX8_factor cX8_factor 3 (some .boolean), Cond.methodLink RX8 194 yX8_isOne, Cond.static yX8_isOne, Cond.code yX8_isOne cX8_isOne 1 (some .boolean), Cond.methodLink RX8 116 yX8_load, Cond.instanceMethod yX8_load, Cond.selects RX8 yX8_load yX8_load, Cond.code yX8_load cX8_load 4 none, Cond.fieldLink RX8 27 "PeirceDeskModel" "w" "[I", Cond.fieldLink RX8 7 "PeirceDeskModel" "z" "[I", Cond.methodLink RX8 81 yX8_layBase, Cond.instanceMethod yX8_layBase, Cond.selects RX8 yX8_layBase yX8_layBase, Cond.code yX8_layBase cX8_layBase 2 none, Cond.methodLink RX8 78 yX8_invert, Cond.instanceMethod yX8_invert, Cond.selects RX8 yX8_invert yX8_invert]
def wsX8_stands_r2 : List Cond := [Cond.code yX8_invert cX8_invert 7 none, Cond.methodLink RX8 72 yX8_determinant, Cond.instanceMethod yX8_determinant, Cond.selects RX8 yX8_determinant yX8_determinant, Cond.code yX8_determinant cX8_determinant 4 (some .int), Cond.methodLink RX8 64 yX8_within, Cond.instanceMethod yX8_within, Cond.selects RX8 yX8_within yX8_within, Cond.code yX8_within cX8_within 3 (some .int), Cond.methodLink RX8 68 yX8_cellOf, Cond.instanceMethod yX8_cellOf, Cond.selects RX8 yX8_cellOf yX8_cellOf, Cond.code yX8_cellOf cX8_cellOf 4 (some .int), Cond.methodLink RX8 75 yX8_over, Cond.instanceMethod yX8_over, Cond.selects RX8 yX8_over yX8_over, Cond.code yX8_over cX8_over 4 (some .int), Cond.methodLink RX8 60 yX8_blank, Cond.instanceMethod yX8_blank, Cond.selects RX8 yX8_blank yX8_blank, Cond.code yX8_blank cX8_blank 3 none, Cond.methodLink RX8 191 yX8_counts, Cond.instanceMethod yX8_counts, Cond.selects RX8 yX8_counts yX8_counts]
def wsX8_stands_r3 : List Cond := [Cond.code yX8_counts cX8_counts 3 none, Cond.fieldLink RX8 36 "PeirceDeskModel" "sums" "[I", Cond.fieldLink RX8 174 "PeirceDeskModel" "works" "Z", Cond.methodLink RX8 170 yX8_pileOf, Cond.instanceMethod yX8_pileOf, Cond.selects RX8 yX8_pileOf yX8_pileOf, Cond.code yX8_pileOf cX8_pileOf 3 (some .int), Cond.methodLink RX8 92 yX8_add, Cond.instanceMethod yX8_add, Cond.selects RX8 yX8_add yX8_add, Cond.code yX8_add cX8_add 7 none, Cond.methodLink RX8 197 yX8_isLetter, Cond.static yX8_isLetter, Cond.code yX8_isLetter cX8_isLetter 1 (some .boolean), Cond.methodLink RX8 200 yX8_opens, Cond.instanceMethod yX8_opens, Cond.selects RX8 yX8_opens yX8_opens, Cond.code yX8_opens cX8_opens 3 none, Cond.fieldLink RX8 33 "PeirceDeskModel" "letters" "[I", Cond.fieldLink RX8 42 "PeirceDeskModel" "places" "[I", Cond.methodLink RX8 218 yX8_behind, Cond.instanceMethod yX8_behind, Cond.selects RX8 yX8_behind yX8_behind, Cond.code yX8_behind cX8_behind 7 (some .boolean)]
def wsX8_stands_r4 : List Cond := [Cond.fieldLink RX8 23 "PeirceDeskModel" "pad" "[C", Cond.fieldLink RX8 209 "PeirceDeskModel" "isFormula" "Z", Cond.fieldLink RX8 212 "PeirceDeskModel" "isEquation" "Z", Cond.methodLink RX8 203 yX8_sumsOf, Cond.instanceMethod yX8_sumsOf, Cond.selects RX8 yX8_sumsOf yX8_sumsOf, Cond.code yX8_sumsOf cX8_sumsOf 2 (some .int), Cond.methodLink RX8 206 yX8_closes, Cond.instanceMethod yX8_closes, Cond.selects RX8 yX8_closes yX8_closes, Cond.code yX8_closes cX8_closes 3 none, Cond.fieldLink RX8 188 "PeirceDeskModel" "stop" "I", Cond.methodLink RX8 99 yX8_product, Cond.instanceMethod yX8_product, Cond.selects RX8 yX8_product yX8_product, Cond.code yX8_product cX8_product 4 none, Cond.methodLink RX8 84 yX8_times, Cond.instanceMethod yX8_times, Cond.selects RX8 yX8_times yX8_times, Cond.code yX8_times cX8_times 8 none, Cond.methodLink RX8 88 yX8_half, Cond.instanceMethod yX8_half, Cond.selects RX8 yX8_half yX8_half, Cond.code yX8_half cX8_half 1 (some .int)]
def wsX8_stands_r5 : List Cond := [Cond.methodLink RX8 106 yX8_operator, Cond.instanceMethod yX8_operator, Cond.selects RX8 yX8_operator yX8_operator, Cond.code yX8_operator cX8_operator 4 none, Cond.methodLink RX8 96 yX8_copy, Cond.instanceMethod yX8_copy, Cond.selects RX8 yX8_copy yX8_copy, Cond.code yX8_copy cX8_copy 4 none, Cond.methodLink RX8 181 yX8_triple, Cond.instanceMethod yX8_triple, Cond.selects RX8 yX8_triple yX8_triple, Cond.code yX8_triple cX8_triple 5 none, Cond.methodLink RX8 185 yX8_inverse, Cond.instanceMethod yX8_inverse, Cond.selects RX8 yX8_inverse yX8_inverse, Cond.code yX8_inverse cX8_inverse 3 (some .boolean)]
def wsX8_stands : List Cond := .code yX8_stands cX8_stands 3 (some .boolean) :: ((wsX8_stands_r1 ++ (wsX8_stands_r2 ++ (wsX8_stands_r3 ++ (wsX8_stands_r4 ++ wsX8_stands_r5)))) ++ wsX80)
def wsX8_work_r1 : List Cond := [Cond.fieldLink RX8 167 "PeirceDeskModel" "depth" "I", Cond.fieldLink RX8 178 "PeirceDeskModel" "wants" "I", Cond.fieldLink RX8 209 "PeirceDeskModel" "isFormula" "Z", Cond.fieldLink RX8 212 "PeirceDeskModel" "isEquation" "Z", Cond.fieldLink RX8 188 "PeirceDeskModel" "stop" "I", Cond.fieldLink RX8 174 "PeirceDeskModel" "works" "Z", Cond.fieldLink RX8 36 "PeirceDeskModel" "sums" "[I", Cond.fieldLink RX8 39 "PeirceDeskModel" "often" "[I", Cond.fieldLink RX8 159 "PeirceDeskModel" "typed" "I", Cond.fieldLink RX8 23 "PeirceDeskModel" "pad" "[C", Cond.methodLink RX8 170 yX8_pileOf, Cond.instanceMethod yX8_pileOf, Cond.selects RX8 yX8_pileOf yX8_pileOf, Cond.initialized RX8, Cond.code yX8_pileOf cX8_pileOf 3 (some .int), Cond.methodLink RX8 60 yX8_blank, Cond.instanceMethod yX8_blank, Cond.selects RX8 yX8_blank yX8_blank, Cond.code yX8_blank cX8_blank 3 none, Cond.fieldLink RX8 27 "PeirceDeskModel" "w" "[I", Cond.methodLink RX8 221 yX8_stands, Cond.instanceMethod yX8_stands, Cond.selects RX8 yX8_stands yX8_stands, Cond.code yX8_stands cX8_stands 3 (some .boolean)]
def wsX8_work_r2 : List Cond := [Cond.methodLink RX8 215 yX8_factor, Cond.instanceMethod yX8_factor, Cond.selects RX8 yX8_factor yX8_factor, Cond.code yX8_factor cX8_factor 3 (some .boolean), Cond.methodLink RX8 194 yX8_isOne, Cond.static yX8_isOne, Cond.code yX8_isOne cX8_isOne 1 (some .boolean), Cond.methodLink RX8 116 yX8_load, Cond.instanceMethod yX8_load, Cond.selects RX8 yX8_load yX8_load, Cond.code yX8_load cX8_load 4 none, Cond.fieldLink RX8 7 "PeirceDeskModel" "z" "[I", Cond.methodLink RX8 81 yX8_layBase, Cond.instanceMethod yX8_layBase, Cond.selects RX8 yX8_layBase yX8_layBase, Cond.code yX8_layBase cX8_layBase 2 none, Cond.methodLink RX8 78 yX8_invert, Cond.instanceMethod yX8_invert, Cond.selects RX8 yX8_invert yX8_invert, Cond.code yX8_invert cX8_invert 7 none, Cond.methodLink RX8 72 yX8_determinant, Cond.instanceMethod yX8_determinant, Cond.selects RX8 yX8_determinant yX8_determinant, Cond.code yX8_determinant cX8_determinant 4 (some .int)]
def wsX8_work_r3 : List Cond := [Cond.methodLink RX8 64 yX8_within, Cond.instanceMethod yX8_within, Cond.selects RX8 yX8_within yX8_within, Cond.code yX8_within cX8_within 3 (some .int), Cond.methodLink RX8 68 yX8_cellOf, Cond.instanceMethod yX8_cellOf, Cond.selects RX8 yX8_cellOf yX8_cellOf, Cond.code yX8_cellOf cX8_cellOf 4 (some .int), Cond.methodLink RX8 75 yX8_over, Cond.instanceMethod yX8_over, Cond.selects RX8 yX8_over yX8_over, Cond.code yX8_over cX8_over 4 (some .int), Cond.methodLink RX8 191 yX8_counts, Cond.instanceMethod yX8_counts, Cond.selects RX8 yX8_counts yX8_counts, Cond.code yX8_counts cX8_counts 3 none, Cond.methodLink RX8 92 yX8_add, Cond.instanceMethod yX8_add, Cond.selects RX8 yX8_add yX8_add, Cond.code yX8_add cX8_add 7 none, Cond.methodLink RX8 197 yX8_isLetter, Cond.static yX8_isLetter, Cond.code yX8_isLetter cX8_isLetter 1 (some .boolean), Cond.methodLink RX8 200 yX8_opens]
def wsX8_work_r4 : List Cond := [Cond.instanceMethod yX8_opens, Cond.selects RX8 yX8_opens yX8_opens, Cond.code yX8_opens cX8_opens 3 none, Cond.fieldLink RX8 33 "PeirceDeskModel" "letters" "[I", Cond.fieldLink RX8 42 "PeirceDeskModel" "places" "[I", Cond.methodLink RX8 218 yX8_behind, Cond.instanceMethod yX8_behind, Cond.selects RX8 yX8_behind yX8_behind, Cond.code yX8_behind cX8_behind 7 (some .boolean), Cond.methodLink RX8 203 yX8_sumsOf, Cond.instanceMethod yX8_sumsOf, Cond.selects RX8 yX8_sumsOf yX8_sumsOf, Cond.code yX8_sumsOf cX8_sumsOf 2 (some .int), Cond.methodLink RX8 206 yX8_closes, Cond.instanceMethod yX8_closes, Cond.selects RX8 yX8_closes yX8_closes, Cond.code yX8_closes cX8_closes 3 none, Cond.methodLink RX8 99 yX8_product, Cond.instanceMethod yX8_product, Cond.selects RX8 yX8_product yX8_product, Cond.code yX8_product cX8_product 4 none, Cond.methodLink RX8 84 yX8_times, Cond.instanceMethod yX8_times, Cond.selects RX8 yX8_times yX8_times]
def wsX8_work_r5 : List Cond := [Cond.code yX8_times cX8_times 8 none, Cond.methodLink RX8 88 yX8_half, Cond.instanceMethod yX8_half, Cond.selects RX8 yX8_half yX8_half, Cond.code yX8_half cX8_half 1 (some .int), Cond.methodLink RX8 106 yX8_operator, Cond.instanceMethod yX8_operator, Cond.selects RX8 yX8_operator yX8_operator, Cond.code yX8_operator cX8_operator 4 none, Cond.methodLink RX8 96 yX8_copy, Cond.instanceMethod yX8_copy, Cond.selects RX8 yX8_copy yX8_copy, Cond.code yX8_copy cX8_copy 4 none, Cond.methodLink RX8 181 yX8_triple, Cond.instanceMethod yX8_triple, Cond.selects RX8 yX8_triple yX8_triple, Cond.code yX8_triple cX8_triple 5 none, Cond.methodLink RX8 185 yX8_inverse, Cond.instanceMethod yX8_inverse, Cond.selects RX8 yX8_inverse yX8_inverse, Cond.code yX8_inverse cX8_inverse 3 (some .boolean)]
def wsX8_work : List Cond := .code yX8_work cX8_work 2 (some .int) :: ((wsX8_work_r1 ++ (wsX8_work_r2 ++ (wsX8_work_r3 ++ (wsX8_work_r4 ++ wsX8_work_r5)))) ++ wsX80)
def wsX8_fault_r1 : List Cond := [Cond.methodLink RX8 224 yX8_work, Cond.instanceMethod yX8_work, Cond.selects RX8 yX8_work yX8_work, Cond.initialized RX8, Cond.code yX8_work cX8_work 2 (some .int), Cond.fieldLink RX8 167 "PeirceDeskModel" "depth" "I", Cond.fieldLink RX8 178 "PeirceDeskModel" "wants" "I", Cond.fieldLink RX8 209 "PeirceDeskModel" "isFormula" "Z", Cond.fieldLink RX8 212 "PeirceDeskModel" "isEquation" "Z", Cond.fieldLink RX8 188 "PeirceDeskModel" "stop" "I", Cond.fieldLink RX8 174 "PeirceDeskModel" "works" "Z", Cond.fieldLink RX8 36 "PeirceDeskModel" "sums" "[I", Cond.fieldLink RX8 39 "PeirceDeskModel" "often" "[I", Cond.fieldLink RX8 159 "PeirceDeskModel" "typed" "I", Cond.fieldLink RX8 23 "PeirceDeskModel" "pad" "[C", Cond.methodLink RX8 170 yX8_pileOf, Cond.instanceMethod yX8_pileOf, Cond.selects RX8 yX8_pileOf yX8_pileOf, Cond.code yX8_pileOf cX8_pileOf 3 (some .int), Cond.methodLink RX8 60 yX8_blank, Cond.instanceMethod yX8_blank, Cond.selects RX8 yX8_blank yX8_blank, Cond.code yX8_blank cX8_blank 3 none, Cond.fieldLink RX8 27 "PeirceDeskModel" "w" "[I"]
def wsX8_fault_r2 : List Cond := [Cond.methodLink RX8 221 yX8_stands, Cond.instanceMethod yX8_stands, Cond.selects RX8 yX8_stands yX8_stands, Cond.code yX8_stands cX8_stands 3 (some .boolean), Cond.methodLink RX8 215 yX8_factor, Cond.instanceMethod yX8_factor, Cond.selects RX8 yX8_factor yX8_factor, Cond.code yX8_factor cX8_factor 3 (some .boolean), Cond.methodLink RX8 194 yX8_isOne, Cond.static yX8_isOne, Cond.code yX8_isOne cX8_isOne 1 (some .boolean), Cond.methodLink RX8 116 yX8_load, Cond.instanceMethod yX8_load, Cond.selects RX8 yX8_load yX8_load, Cond.code yX8_load cX8_load 4 none, Cond.fieldLink RX8 7 "PeirceDeskModel" "z" "[I", Cond.methodLink RX8 81 yX8_layBase, Cond.instanceMethod yX8_layBase, Cond.selects RX8 yX8_layBase yX8_layBase, Cond.code yX8_layBase cX8_layBase 2 none, Cond.methodLink RX8 78 yX8_invert, Cond.instanceMethod yX8_invert, Cond.selects RX8 yX8_invert yX8_invert, Cond.code yX8_invert cX8_invert 7 none]
def wsX8_fault_r3 : List Cond := [Cond.methodLink RX8 72 yX8_determinant, Cond.instanceMethod yX8_determinant, Cond.selects RX8 yX8_determinant yX8_determinant, Cond.code yX8_determinant cX8_determinant 4 (some .int), Cond.methodLink RX8 64 yX8_within, Cond.instanceMethod yX8_within, Cond.selects RX8 yX8_within yX8_within, Cond.code yX8_within cX8_within 3 (some .int), Cond.methodLink RX8 68 yX8_cellOf, Cond.instanceMethod yX8_cellOf, Cond.selects RX8 yX8_cellOf yX8_cellOf, Cond.code yX8_cellOf cX8_cellOf 4 (some .int), Cond.methodLink RX8 75 yX8_over, Cond.instanceMethod yX8_over, Cond.selects RX8 yX8_over yX8_over, Cond.code yX8_over cX8_over 4 (some .int), Cond.methodLink RX8 191 yX8_counts, Cond.instanceMethod yX8_counts, Cond.selects RX8 yX8_counts yX8_counts, Cond.code yX8_counts cX8_counts 3 none, Cond.methodLink RX8 92 yX8_add, Cond.instanceMethod yX8_add, Cond.selects RX8 yX8_add yX8_add, Cond.code yX8_add cX8_add 7 none]
def wsX8_fault_r4 : List Cond := [Cond.methodLink RX8 197 yX8_isLetter, Cond.static yX8_isLetter, Cond.code yX8_isLetter cX8_isLetter 1 (some .boolean), Cond.methodLink RX8 200 yX8_opens, Cond.instanceMethod yX8_opens, Cond.selects RX8 yX8_opens yX8_opens, Cond.code yX8_opens cX8_opens 3 none, Cond.fieldLink RX8 33 "PeirceDeskModel" "letters" "[I", Cond.fieldLink RX8 42 "PeirceDeskModel" "places" "[I", Cond.methodLink RX8 218 yX8_behind, Cond.instanceMethod yX8_behind, Cond.selects RX8 yX8_behind yX8_behind, Cond.code yX8_behind cX8_behind 7 (some .boolean), Cond.methodLink RX8 203 yX8_sumsOf, Cond.instanceMethod yX8_sumsOf, Cond.selects RX8 yX8_sumsOf yX8_sumsOf, Cond.code yX8_sumsOf cX8_sumsOf 2 (some .int), Cond.methodLink RX8 206 yX8_closes, Cond.instanceMethod yX8_closes, Cond.selects RX8 yX8_closes yX8_closes, Cond.code yX8_closes cX8_closes 3 none, Cond.methodLink RX8 99 yX8_product, Cond.instanceMethod yX8_product, Cond.selects RX8 yX8_product yX8_product]
def wsX8_fault_r5 : List Cond := [Cond.code yX8_product cX8_product 4 none, Cond.methodLink RX8 84 yX8_times, Cond.instanceMethod yX8_times, Cond.selects RX8 yX8_times yX8_times, Cond.code yX8_times cX8_times 8 none, Cond.methodLink RX8 88 yX8_half, Cond.instanceMethod yX8_half, Cond.selects RX8 yX8_half yX8_half, Cond.code yX8_half cX8_half 1 (some .int), Cond.methodLink RX8 106 yX8_operator, Cond.instanceMethod yX8_operator, Cond.selects RX8 yX8_operator yX8_operator, Cond.code yX8_operator cX8_operator 4 none, Cond.methodLink RX8 96 yX8_copy, Cond.instanceMethod yX8_copy, Cond.selects RX8 yX8_copy yX8_copy, Cond.code yX8_copy cX8_copy 4 none, Cond.methodLink RX8 181 yX8_triple, Cond.instanceMethod yX8_triple, Cond.selects RX8 yX8_triple yX8_triple, Cond.code yX8_triple cX8_triple 5 none, Cond.methodLink RX8 185 yX8_inverse, Cond.instanceMethod yX8_inverse, Cond.selects RX8 yX8_inverse yX8_inverse]
def wsX8_fault_r6 : List Cond := [Cond.code yX8_inverse cX8_inverse 3 (some .boolean)]
def wsX8_fault : List Cond := .code yX8_fault cX8_fault 1 (some .int) :: ((wsX8_fault_r1 ++ (wsX8_fault_r2 ++ (wsX8_fault_r3 ++ (wsX8_fault_r4 ++ (wsX8_fault_r5 ++ wsX8_fault_r6))))) ++ wsX80)
def wsX8_run_r1 : List Cond := [Cond.fieldLink RX8 209 "PeirceDeskModel" "isFormula" "Z", Cond.fieldLink RX8 188 "PeirceDeskModel" "stop" "I", Cond.fieldLink RX8 23 "PeirceDeskModel" "pad" "[C", Cond.fieldLink RX8 159 "PeirceDeskModel" "typed" "I", Cond.methodLink RX8 224 yX8_work, Cond.instanceMethod yX8_work, Cond.selects RX8 yX8_work yX8_work, Cond.initialized RX8, Cond.code yX8_work cX8_work 2 (some .int), Cond.fieldLink RX8 167 "PeirceDeskModel" "depth" "I", Cond.fieldLink RX8 178 "PeirceDeskModel" "wants" "I", Cond.fieldLink RX8 212 "PeirceDeskModel" "isEquation" "Z", Cond.fieldLink RX8 174 "PeirceDeskModel" "works" "Z", Cond.fieldLink RX8 36 "PeirceDeskModel" "sums" "[I", Cond.fieldLink RX8 39 "PeirceDeskModel" "often" "[I", Cond.methodLink RX8 170 yX8_pileOf, Cond.instanceMethod yX8_pileOf, Cond.selects RX8 yX8_pileOf yX8_pileOf, Cond.code yX8_pileOf cX8_pileOf 3 (some .int), Cond.methodLink RX8 60 yX8_blank, Cond.instanceMethod yX8_blank, Cond.selects RX8 yX8_blank yX8_blank, Cond.code yX8_blank cX8_blank 3 none, Cond.fieldLink RX8 27 "PeirceDeskModel" "w" "[I"]
def wsX8_run_r2 : List Cond := [Cond.methodLink RX8 221 yX8_stands, Cond.instanceMethod yX8_stands, Cond.selects RX8 yX8_stands yX8_stands, Cond.code yX8_stands cX8_stands 3 (some .boolean), Cond.methodLink RX8 215 yX8_factor, Cond.instanceMethod yX8_factor, Cond.selects RX8 yX8_factor yX8_factor, Cond.code yX8_factor cX8_factor 3 (some .boolean), Cond.methodLink RX8 194 yX8_isOne, Cond.static yX8_isOne, Cond.code yX8_isOne cX8_isOne 1 (some .boolean), Cond.methodLink RX8 116 yX8_load, Cond.instanceMethod yX8_load, Cond.selects RX8 yX8_load yX8_load, Cond.code yX8_load cX8_load 4 none, Cond.fieldLink RX8 7 "PeirceDeskModel" "z" "[I", Cond.methodLink RX8 81 yX8_layBase, Cond.instanceMethod yX8_layBase, Cond.selects RX8 yX8_layBase yX8_layBase, Cond.code yX8_layBase cX8_layBase 2 none, Cond.methodLink RX8 78 yX8_invert, Cond.instanceMethod yX8_invert, Cond.selects RX8 yX8_invert yX8_invert, Cond.code yX8_invert cX8_invert 7 none]
def wsX8_run_r3 : List Cond := [Cond.methodLink RX8 72 yX8_determinant, Cond.instanceMethod yX8_determinant, Cond.selects RX8 yX8_determinant yX8_determinant, Cond.code yX8_determinant cX8_determinant 4 (some .int), Cond.methodLink RX8 64 yX8_within, Cond.instanceMethod yX8_within, Cond.selects RX8 yX8_within yX8_within, Cond.code yX8_within cX8_within 3 (some .int), Cond.methodLink RX8 68 yX8_cellOf, Cond.instanceMethod yX8_cellOf, Cond.selects RX8 yX8_cellOf yX8_cellOf, Cond.code yX8_cellOf cX8_cellOf 4 (some .int), Cond.methodLink RX8 75 yX8_over, Cond.instanceMethod yX8_over, Cond.selects RX8 yX8_over yX8_over, Cond.code yX8_over cX8_over 4 (some .int), Cond.methodLink RX8 191 yX8_counts, Cond.instanceMethod yX8_counts, Cond.selects RX8 yX8_counts yX8_counts, Cond.code yX8_counts cX8_counts 3 none, Cond.methodLink RX8 92 yX8_add, Cond.instanceMethod yX8_add, Cond.selects RX8 yX8_add yX8_add, Cond.code yX8_add cX8_add 7 none]
def wsX8_run_r4 : List Cond := [Cond.methodLink RX8 197 yX8_isLetter, Cond.static yX8_isLetter, Cond.code yX8_isLetter cX8_isLetter 1 (some .boolean), Cond.methodLink RX8 200 yX8_opens, Cond.instanceMethod yX8_opens, Cond.selects RX8 yX8_opens yX8_opens, Cond.code yX8_opens cX8_opens 3 none, Cond.fieldLink RX8 33 "PeirceDeskModel" "letters" "[I", Cond.fieldLink RX8 42 "PeirceDeskModel" "places" "[I", Cond.methodLink RX8 218 yX8_behind, Cond.instanceMethod yX8_behind, Cond.selects RX8 yX8_behind yX8_behind, Cond.code yX8_behind cX8_behind 7 (some .boolean), Cond.methodLink RX8 203 yX8_sumsOf, Cond.instanceMethod yX8_sumsOf, Cond.selects RX8 yX8_sumsOf yX8_sumsOf, Cond.code yX8_sumsOf cX8_sumsOf 2 (some .int), Cond.methodLink RX8 206 yX8_closes, Cond.instanceMethod yX8_closes, Cond.selects RX8 yX8_closes yX8_closes, Cond.code yX8_closes cX8_closes 3 none, Cond.methodLink RX8 99 yX8_product, Cond.instanceMethod yX8_product, Cond.selects RX8 yX8_product yX8_product]
def wsX8_run_r5 : List Cond := [Cond.code yX8_product cX8_product 4 none, Cond.methodLink RX8 84 yX8_times, Cond.instanceMethod yX8_times, Cond.selects RX8 yX8_times yX8_times, Cond.code yX8_times cX8_times 8 none, Cond.methodLink RX8 88 yX8_half, Cond.instanceMethod yX8_half, Cond.selects RX8 yX8_half yX8_half, Cond.code yX8_half cX8_half 1 (some .int), Cond.methodLink RX8 106 yX8_operator, Cond.instanceMethod yX8_operator, Cond.selects RX8 yX8_operator yX8_operator, Cond.code yX8_operator cX8_operator 4 none, Cond.methodLink RX8 96 yX8_copy, Cond.instanceMethod yX8_copy, Cond.selects RX8 yX8_copy yX8_copy, Cond.code yX8_copy cX8_copy 4 none, Cond.methodLink RX8 181 yX8_triple, Cond.instanceMethod yX8_triple, Cond.selects RX8 yX8_triple yX8_triple, Cond.code yX8_triple cX8_triple 5 none, Cond.methodLink RX8 185 yX8_inverse, Cond.instanceMethod yX8_inverse, Cond.selects RX8 yX8_inverse yX8_inverse]
def wsX8_run_r6 : List Cond := [Cond.code yX8_inverse cX8_inverse 3 (some .boolean), Cond.methodLink RX8 57 yX8_record, Cond.instanceMethod yX8_record, Cond.selects RX8 yX8_record yX8_record, Cond.code yX8_record cX8_record 2 none, Cond.fieldLink RX8 53 "PeirceDeskModel" "pastMany" "I", Cond.fieldLink RX8 13 "PeirceDeskModel" "past" "[I", Cond.methodLink RX8 125 yX8_store, Cond.instanceMethod yX8_store, Cond.selects RX8 yX8_store yX8_store, Cond.code yX8_store cX8_store 4 none]
def wsX8_run : List Cond := .code yX8_run cX8_run 2 (some .int) :: ((wsX8_run_r1 ++ (wsX8_run_r2 ++ (wsX8_run_r3 ++ (wsX8_run_r4 ++ (wsX8_run_r5 ++ wsX8_run_r6))))) ++ wsX80)
def wsX8_holds_r1 : List Cond := [Cond.fieldLink RX8 209 "PeirceDeskModel" "isFormula" "Z", Cond.fieldLink RX8 188 "PeirceDeskModel" "stop" "I", Cond.methodLink RX8 224 yX8_work, Cond.instanceMethod yX8_work, Cond.selects RX8 yX8_work yX8_work, Cond.initialized RX8, Cond.code yX8_work cX8_work 2 (some .int), Cond.fieldLink RX8 167 "PeirceDeskModel" "depth" "I", Cond.fieldLink RX8 178 "PeirceDeskModel" "wants" "I", Cond.fieldLink RX8 212 "PeirceDeskModel" "isEquation" "Z", Cond.fieldLink RX8 174 "PeirceDeskModel" "works" "Z", Cond.fieldLink RX8 36 "PeirceDeskModel" "sums" "[I", Cond.fieldLink RX8 39 "PeirceDeskModel" "often" "[I", Cond.fieldLink RX8 159 "PeirceDeskModel" "typed" "I", Cond.fieldLink RX8 23 "PeirceDeskModel" "pad" "[C", Cond.methodLink RX8 170 yX8_pileOf, Cond.instanceMethod yX8_pileOf, Cond.selects RX8 yX8_pileOf yX8_pileOf, Cond.code yX8_pileOf cX8_pileOf 3 (some .int), Cond.methodLink RX8 60 yX8_blank, Cond.instanceMethod yX8_blank, Cond.selects RX8 yX8_blank yX8_blank, Cond.code yX8_blank cX8_blank 3 none, Cond.fieldLink RX8 27 "PeirceDeskModel" "w" "[I"]
def wsX8_holds_r2 : List Cond := [Cond.methodLink RX8 221 yX8_stands, Cond.instanceMethod yX8_stands, Cond.selects RX8 yX8_stands yX8_stands, Cond.code yX8_stands cX8_stands 3 (some .boolean), Cond.methodLink RX8 215 yX8_factor, Cond.instanceMethod yX8_factor, Cond.selects RX8 yX8_factor yX8_factor, Cond.code yX8_factor cX8_factor 3 (some .boolean), Cond.methodLink RX8 194 yX8_isOne, Cond.static yX8_isOne, Cond.code yX8_isOne cX8_isOne 1 (some .boolean), Cond.methodLink RX8 116 yX8_load, Cond.instanceMethod yX8_load, Cond.selects RX8 yX8_load yX8_load, Cond.code yX8_load cX8_load 4 none, Cond.fieldLink RX8 7 "PeirceDeskModel" "z" "[I", Cond.methodLink RX8 81 yX8_layBase, Cond.instanceMethod yX8_layBase, Cond.selects RX8 yX8_layBase yX8_layBase, Cond.code yX8_layBase cX8_layBase 2 none, Cond.methodLink RX8 78 yX8_invert, Cond.instanceMethod yX8_invert, Cond.selects RX8 yX8_invert yX8_invert, Cond.code yX8_invert cX8_invert 7 none]
def wsX8_holds_r3 : List Cond := [Cond.methodLink RX8 72 yX8_determinant, Cond.instanceMethod yX8_determinant, Cond.selects RX8 yX8_determinant yX8_determinant, Cond.code yX8_determinant cX8_determinant 4 (some .int), Cond.methodLink RX8 64 yX8_within, Cond.instanceMethod yX8_within, Cond.selects RX8 yX8_within yX8_within, Cond.code yX8_within cX8_within 3 (some .int), Cond.methodLink RX8 68 yX8_cellOf, Cond.instanceMethod yX8_cellOf, Cond.selects RX8 yX8_cellOf yX8_cellOf, Cond.code yX8_cellOf cX8_cellOf 4 (some .int), Cond.methodLink RX8 75 yX8_over, Cond.instanceMethod yX8_over, Cond.selects RX8 yX8_over yX8_over, Cond.code yX8_over cX8_over 4 (some .int), Cond.methodLink RX8 191 yX8_counts, Cond.instanceMethod yX8_counts, Cond.selects RX8 yX8_counts yX8_counts, Cond.code yX8_counts cX8_counts 3 none, Cond.methodLink RX8 92 yX8_add, Cond.instanceMethod yX8_add, Cond.selects RX8 yX8_add yX8_add, Cond.code yX8_add cX8_add 7 none]
def wsX8_holds_r4 : List Cond := [Cond.methodLink RX8 197 yX8_isLetter, Cond.static yX8_isLetter, Cond.code yX8_isLetter cX8_isLetter 1 (some .boolean), Cond.methodLink RX8 200 yX8_opens, Cond.instanceMethod yX8_opens, Cond.selects RX8 yX8_opens yX8_opens, Cond.code yX8_opens cX8_opens 3 none, Cond.fieldLink RX8 33 "PeirceDeskModel" "letters" "[I", Cond.fieldLink RX8 42 "PeirceDeskModel" "places" "[I", Cond.methodLink RX8 218 yX8_behind, Cond.instanceMethod yX8_behind, Cond.selects RX8 yX8_behind yX8_behind, Cond.code yX8_behind cX8_behind 7 (some .boolean), Cond.methodLink RX8 203 yX8_sumsOf, Cond.instanceMethod yX8_sumsOf, Cond.selects RX8 yX8_sumsOf yX8_sumsOf, Cond.code yX8_sumsOf cX8_sumsOf 2 (some .int), Cond.methodLink RX8 206 yX8_closes, Cond.instanceMethod yX8_closes, Cond.selects RX8 yX8_closes yX8_closes, Cond.code yX8_closes cX8_closes 3 none, Cond.methodLink RX8 99 yX8_product, Cond.instanceMethod yX8_product, Cond.selects RX8 yX8_product yX8_product]
def wsX8_holds_r5 : List Cond := [Cond.code yX8_product cX8_product 4 none, Cond.methodLink RX8 84 yX8_times, Cond.instanceMethod yX8_times, Cond.selects RX8 yX8_times yX8_times, Cond.code yX8_times cX8_times 8 none, Cond.methodLink RX8 88 yX8_half, Cond.instanceMethod yX8_half, Cond.selects RX8 yX8_half yX8_half, Cond.code yX8_half cX8_half 1 (some .int), Cond.methodLink RX8 106 yX8_operator, Cond.instanceMethod yX8_operator, Cond.selects RX8 yX8_operator yX8_operator, Cond.code yX8_operator cX8_operator 4 none, Cond.methodLink RX8 96 yX8_copy, Cond.instanceMethod yX8_copy, Cond.selects RX8 yX8_copy yX8_copy, Cond.code yX8_copy cX8_copy 4 none, Cond.methodLink RX8 181 yX8_triple, Cond.instanceMethod yX8_triple, Cond.selects RX8 yX8_triple yX8_triple, Cond.code yX8_triple cX8_triple 5 none, Cond.methodLink RX8 185 yX8_inverse, Cond.instanceMethod yX8_inverse, Cond.selects RX8 yX8_inverse yX8_inverse]
def wsX8_holds_r6 : List Cond := [Cond.code yX8_inverse cX8_inverse 3 (some .boolean), Cond.methodLink RX8 102 yX8_areAlike, Cond.instanceMethod yX8_areAlike, Cond.selects RX8 yX8_areAlike yX8_areAlike, Cond.code yX8_areAlike cX8_areAlike 5 (some .boolean)]
def wsX8_holds : List Cond := .code yX8_holds cX8_holds 1 (some .int) :: ((wsX8_holds_r1 ++ (wsX8_holds_r2 ++ (wsX8_holds_r3 ++ (wsX8_holds_r4 ++ (wsX8_holds_r5 ++ wsX8_holds_r6))))) ++ wsX80)
def wsX8_stops_r1 : List Cond := [Cond.fieldLink RX8 188 "PeirceDeskModel" "stop" "I", Cond.methodLink RX8 224 yX8_work, Cond.instanceMethod yX8_work, Cond.selects RX8 yX8_work yX8_work, Cond.initialized RX8, Cond.code yX8_work cX8_work 2 (some .int), Cond.fieldLink RX8 167 "PeirceDeskModel" "depth" "I", Cond.fieldLink RX8 178 "PeirceDeskModel" "wants" "I", Cond.fieldLink RX8 209 "PeirceDeskModel" "isFormula" "Z", Cond.fieldLink RX8 212 "PeirceDeskModel" "isEquation" "Z", Cond.fieldLink RX8 174 "PeirceDeskModel" "works" "Z", Cond.fieldLink RX8 36 "PeirceDeskModel" "sums" "[I", Cond.fieldLink RX8 39 "PeirceDeskModel" "often" "[I", Cond.fieldLink RX8 159 "PeirceDeskModel" "typed" "I", Cond.fieldLink RX8 23 "PeirceDeskModel" "pad" "[C", Cond.methodLink RX8 170 yX8_pileOf, Cond.instanceMethod yX8_pileOf, Cond.selects RX8 yX8_pileOf yX8_pileOf, Cond.code yX8_pileOf cX8_pileOf 3 (some .int), Cond.methodLink RX8 60 yX8_blank, Cond.instanceMethod yX8_blank, Cond.selects RX8 yX8_blank yX8_blank, Cond.code yX8_blank cX8_blank 3 none, Cond.fieldLink RX8 27 "PeirceDeskModel" "w" "[I"]
def wsX8_stops_r2 : List Cond := [Cond.methodLink RX8 221 yX8_stands, Cond.instanceMethod yX8_stands, Cond.selects RX8 yX8_stands yX8_stands, Cond.code yX8_stands cX8_stands 3 (some .boolean), Cond.methodLink RX8 215 yX8_factor, Cond.instanceMethod yX8_factor, Cond.selects RX8 yX8_factor yX8_factor, Cond.code yX8_factor cX8_factor 3 (some .boolean), Cond.methodLink RX8 194 yX8_isOne, Cond.static yX8_isOne, Cond.code yX8_isOne cX8_isOne 1 (some .boolean), Cond.methodLink RX8 116 yX8_load, Cond.instanceMethod yX8_load, Cond.selects RX8 yX8_load yX8_load, Cond.code yX8_load cX8_load 4 none, Cond.fieldLink RX8 7 "PeirceDeskModel" "z" "[I", Cond.methodLink RX8 81 yX8_layBase, Cond.instanceMethod yX8_layBase, Cond.selects RX8 yX8_layBase yX8_layBase, Cond.code yX8_layBase cX8_layBase 2 none, Cond.methodLink RX8 78 yX8_invert, Cond.instanceMethod yX8_invert, Cond.selects RX8 yX8_invert yX8_invert, Cond.code yX8_invert cX8_invert 7 none]
def wsX8_stops_r3 : List Cond := [Cond.methodLink RX8 72 yX8_determinant, Cond.instanceMethod yX8_determinant, Cond.selects RX8 yX8_determinant yX8_determinant, Cond.code yX8_determinant cX8_determinant 4 (some .int), Cond.methodLink RX8 64 yX8_within, Cond.instanceMethod yX8_within, Cond.selects RX8 yX8_within yX8_within, Cond.code yX8_within cX8_within 3 (some .int), Cond.methodLink RX8 68 yX8_cellOf, Cond.instanceMethod yX8_cellOf, Cond.selects RX8 yX8_cellOf yX8_cellOf, Cond.code yX8_cellOf cX8_cellOf 4 (some .int), Cond.methodLink RX8 75 yX8_over, Cond.instanceMethod yX8_over, Cond.selects RX8 yX8_over yX8_over, Cond.code yX8_over cX8_over 4 (some .int), Cond.methodLink RX8 191 yX8_counts, Cond.instanceMethod yX8_counts, Cond.selects RX8 yX8_counts yX8_counts, Cond.code yX8_counts cX8_counts 3 none, Cond.methodLink RX8 92 yX8_add, Cond.instanceMethod yX8_add, Cond.selects RX8 yX8_add yX8_add, Cond.code yX8_add cX8_add 7 none]
def wsX8_stops_r4 : List Cond := [Cond.methodLink RX8 197 yX8_isLetter, Cond.static yX8_isLetter, Cond.code yX8_isLetter cX8_isLetter 1 (some .boolean), Cond.methodLink RX8 200 yX8_opens, Cond.instanceMethod yX8_opens, Cond.selects RX8 yX8_opens yX8_opens, Cond.code yX8_opens cX8_opens 3 none, Cond.fieldLink RX8 33 "PeirceDeskModel" "letters" "[I", Cond.fieldLink RX8 42 "PeirceDeskModel" "places" "[I", Cond.methodLink RX8 218 yX8_behind, Cond.instanceMethod yX8_behind, Cond.selects RX8 yX8_behind yX8_behind, Cond.code yX8_behind cX8_behind 7 (some .boolean), Cond.methodLink RX8 203 yX8_sumsOf, Cond.instanceMethod yX8_sumsOf, Cond.selects RX8 yX8_sumsOf yX8_sumsOf, Cond.code yX8_sumsOf cX8_sumsOf 2 (some .int), Cond.methodLink RX8 206 yX8_closes, Cond.instanceMethod yX8_closes, Cond.selects RX8 yX8_closes yX8_closes, Cond.code yX8_closes cX8_closes 3 none, Cond.methodLink RX8 99 yX8_product, Cond.instanceMethod yX8_product, Cond.selects RX8 yX8_product yX8_product]
def wsX8_stops_r5 : List Cond := [Cond.code yX8_product cX8_product 4 none, Cond.methodLink RX8 84 yX8_times, Cond.instanceMethod yX8_times, Cond.selects RX8 yX8_times yX8_times, Cond.code yX8_times cX8_times 8 none, Cond.methodLink RX8 88 yX8_half, Cond.instanceMethod yX8_half, Cond.selects RX8 yX8_half yX8_half, Cond.code yX8_half cX8_half 1 (some .int), Cond.methodLink RX8 106 yX8_operator, Cond.instanceMethod yX8_operator, Cond.selects RX8 yX8_operator yX8_operator, Cond.code yX8_operator cX8_operator 4 none, Cond.methodLink RX8 96 yX8_copy, Cond.instanceMethod yX8_copy, Cond.selects RX8 yX8_copy yX8_copy, Cond.code yX8_copy cX8_copy 4 none, Cond.methodLink RX8 181 yX8_triple, Cond.instanceMethod yX8_triple, Cond.selects RX8 yX8_triple yX8_triple, Cond.code yX8_triple cX8_triple 5 none, Cond.methodLink RX8 185 yX8_inverse, Cond.instanceMethod yX8_inverse, Cond.selects RX8 yX8_inverse yX8_inverse]
def wsX8_stops_r6 : List Cond := [Cond.code yX8_inverse cX8_inverse 3 (some .boolean)]
def wsX8_stops : List Cond := .code yX8_stops cX8_stops 1 (some .int) :: ((wsX8_stops_r1 ++ (wsX8_stops_r2 ++ (wsX8_stops_r3 ++ (wsX8_stops_r4 ++ (wsX8_stops_r5 ++ wsX8_stops_r6))))) ++ wsX80)
def wsJ9_min_7cf53 : List Cond := .code yJ9_min_7cf53 cJ9_min_7cf53 2 (some .int) :: ([])
def wsL_law_r1 : List Cond := [Cond.classLink RL 7 RX7, Cond.instantiable RX7 6, Cond.initialized RX7, Cond.classLink RL 10 RX8, Cond.instantiable RX8 20, Cond.initialized RX8, Cond.constantLong RL 78 (4294967295), Cond.methodLink RL 9 yX7_init, Cond.instanceMethod yX7_init, Cond.code yX7_init cX7_init 2 none, Cond.methodLink RX7 3 objectInit, Cond.instanceMethod objectInit, Cond.code objectInit ⟨#[0xb1]⟩ 1 none, Cond.classLink RX7 9 RX0, Cond.instantiable RX0 11, Cond.initialized RX0, Cond.fieldLink RX7 12 "PeirceDesk" "algebra" "LPeirceDesk$Algebra;", Cond.classLink RX7 16 RX3, Cond.instantiable RX3 7, Cond.initialized RX3, Cond.fieldLink RX7 19 "PeirceDesk" "pad" "LPeirceDesk$Pad;", Cond.classLink RX7 23 RX4, Cond.instantiable RX4 3, Cond.initialized RX4]
def wsL_law_r2 : List Cond := [Cond.fieldLink RX7 26 "PeirceDesk" "reckoner" "LPeirceDesk$Reckoner;", Cond.classLink RX7 30 RX2, Cond.instantiable RX2 3, Cond.initialized RX2, Cond.fieldLink RX7 33 "PeirceDesk" "history" "LPeirceDesk$History;", Cond.classLink RX7 37 RX6, Cond.fieldLink RX7 39 "PeirceDesk" "slots" "[LPeirceDesk$State;", Cond.instantiable RX6 3, Cond.initialized RX6, Cond.arrayClass .boolean, Cond.fieldLink RX7 44 "PeirceDesk" "saved" "[Z", Cond.methodLink RX7 11 yX0_init, Cond.instanceMethod yX0_init, Cond.code yX0_init cX0_init 1 none, Cond.methodLink RX0 3 objectInit, Cond.classLink RX0 9 RX6, Cond.fieldLink RX0 12 "PeirceDesk$Algebra" "now" "LPeirceDesk$State;", Cond.classLink RX0 18 RX5, Cond.instantiable RX5 3, Cond.initialized RX5, Cond.fieldLink RX0 21 "PeirceDesk$Algebra" "rows" "LPeirceDesk$Rows;", Cond.classLink RX0 25 "[[I", Cond.arrayClass .int, Cond.fieldLink RX0 27 "PeirceDesk$Algebra" "parts" "[[I"]
def wsL_law_r3 : List Cond := [Cond.fieldLink RX0 30 "PeirceDesk$Algebra" "power" "[I", Cond.fieldLink RX0 34 "PeirceDesk$Algebra" "oneSide" "[I", Cond.fieldLink RX0 37 "PeirceDesk$Algebra" "left" "[I", Cond.fieldLink RX0 40 "PeirceDesk$Algebra" "right" "[I", Cond.fieldLink RX0 43 "PeirceDesk$Algebra" "square" "[I", Cond.fieldLink RX0 46 "PeirceDesk$Algebra" "otherSide" "[I", Cond.fieldLink RX0 49 "PeirceDesk$Algebra" "candidate" "[I", Cond.fieldLink RX0 52 "PeirceDesk$Algebra" "powers" "[[I", Cond.methodLink RX0 11 yX6_init, Cond.instanceMethod yX6_init, Cond.code yX6_init cX6_init 1 none, Cond.methodLink RX6 3 objectInit, Cond.classLink RX6 9 "[[I", Cond.fieldLink RX6 11 "PeirceDesk$State" "elements" "[[I", Cond.methodLink RX6 16 yX6_clear, Cond.instanceMethod yX6_clear, Cond.selects RX6 yX6_clear yX6_clear, Cond.code yX6_clear cX6_clear 5 none, Cond.fieldLink RX6 20 "PeirceDesk$State" "size" "I", Cond.fieldLink RX6 24 "PeirceDesk$State" "modulus" "I", Cond.methodLink RX6 27 yX6_writeIdentity, Cond.instanceMethod yX6_writeIdentity, Cond.selects RX6 yX6_writeIdentity yX6_writeIdentity, Cond.code yX6_writeIdentity cX6_writeIdentity 4 none]
def wsL_law_r4 : List Cond := [Cond.methodLink RX0 20 yX5_init, Cond.instanceMethod yX5_init, Cond.code yX5_init cX5_init 1 none, Cond.methodLink RX5 3 objectInit, Cond.classLink RX5 9 "[[I", Cond.fieldLink RX5 11 "PeirceDesk$Rows" "cells" "[[I", Cond.methodLink RX7 18 yX3_init, Cond.instanceMethod yX3_init, Cond.code yX3_init cX3_init 1 none, Cond.methodLink RX3 3 objectInit, Cond.arrayClass .char, Cond.fieldLink RX3 9 "PeirceDesk$Pad" "signs" "[C", Cond.fieldLink RX3 15 "PeirceDesk$Pad" "commas" "[I", Cond.methodLink RX7 25 yX4_init, Cond.instanceMethod yX4_init, Cond.code yX4_init cX4_init 2 none, Cond.methodLink RX4 3 objectInit, Cond.classLink RX4 9 RX1, Cond.fieldLink RX4 11 "PeirceDesk$Reckoner" "frames" "[LPeirceDesk$Frame;", Cond.instantiable RX1 8, Cond.initialized RX1, Cond.fieldLink RX4 18 "PeirceDesk$Reckoner" "leftSide" "[I", Cond.methodLink RX4 17 yX1_init, Cond.instanceMethod yX1_init]
def wsL_law_r5 : List Cond := [Cond.code yX1_init cX1_init 1 none, Cond.methodLink RX1 3 objectInit, Cond.fieldLink RX1 9 "PeirceDesk$Frame" "sum" "[I", Cond.fieldLink RX1 15 "PeirceDesk$Frame" "first" "[I", Cond.fieldLink RX1 18 "PeirceDesk$Frame" "second" "[I", Cond.methodLink RX7 32 yX2_init, Cond.instanceMethod yX2_init, Cond.code yX2_init cX2_init 2 none, Cond.methodLink RX2 3 objectInit, Cond.classLink RX2 9 RX6, Cond.fieldLink RX2 11 "PeirceDesk$History" "states" "[LPeirceDesk$State;", Cond.methodLink RX2 17 yX6_init, Cond.methodLink RX7 43 yX6_init, Cond.methodLink RL 12 yX8_init, Cond.instanceMethod yX8_init, Cond.code yX8_init cX8_init 1 none, Cond.methodLink RX8 1 objectInit, Cond.fieldLink RX8 7 "PeirceDeskModel" "z" "[I", Cond.fieldLink RX8 13 "PeirceDeskModel" "past" "[I", Cond.fieldLink RX8 16 "PeirceDeskModel" "slots" "[I", Cond.fieldLink RX8 19 "PeirceDeskModel" "isSaved" "[Z", Cond.fieldLink RX8 23 "PeirceDeskModel" "pad" "[C", Cond.fieldLink RX8 27 "PeirceDeskModel" "w" "[I", Cond.fieldLink RX8 30 "PeirceDeskModel" "rows" "[I"]
def wsL_law_r6 : List Cond := [Cond.fieldLink RX8 33 "PeirceDeskModel" "letters" "[I", Cond.fieldLink RX8 36 "PeirceDeskModel" "sums" "[I", Cond.fieldLink RX8 39 "PeirceDeskModel" "often" "[I", Cond.fieldLink RX8 42 "PeirceDeskModel" "places" "[I", Cond.methodLink RX8 45 yX8_clear, Cond.instanceMethod yX8_clear, Cond.selects RX8 yX8_clear yX8_clear, Cond.code yX8_clear cX8_clear 4 none, Cond.methodLink RL 13 yX7_begin, Cond.instanceMethod yX7_begin, Cond.selects RX7 yX7_begin yX7_begin, Cond.code yX7_begin cX7_begin 4 (some .int), Cond.instanceMethod yX2_remember, Cond.selects RX2 yX2_remember yX2_remember, Cond.code yX2_remember cX2_remember 2 none, Cond.fieldLink RX2 18 "PeirceDesk$History" "next" "I", Cond.fieldLink RX2 26 "PeirceDesk$History" "length" "I", Cond.methodLink RX2 29 Lib.Math.min.name, Cond.static Lib.Math.min.name, Cond.initialized "java/lang/Math", Cond.code Lib.Math.min.name Lib.Math.min.code 2 (some .int), Cond.instanceMethod yX6_copyFrom, Cond.selects RX6 yX6_copyFrom yX6_copyFrom, Cond.code yX6_copyFrom cX6_copyFrom 3 none]
def wsL_law_r7 : List Cond := [Cond.static yX7_copy, Cond.code yX7_copy cX7_copy 2 none, Cond.methodLink RX7 194 arraycopyName, Cond.native arraycopyName, Cond.static arraycopyName, Cond.initialized "java/lang/System", Cond.methodLink RL 17 yX8_begin, Cond.instanceMethod yX8_begin, Cond.selects RX8 yX8_begin yX8_begin, Cond.code yX8_begin cX8_begin 5 (some .int), Cond.methodLink RX8 49 yX8_in, Cond.static yX8_in, Cond.code yX8_in cX8_in 3 (some .boolean), Cond.methodLink RX8 57 yX8_record, Cond.instanceMethod yX8_record, Cond.selects RX8 yX8_record yX8_record, Cond.code yX8_record cX8_record 2 none, Cond.fieldLink RX8 53 "PeirceDeskModel" "pastMany" "I", Cond.methodLink RL 18 yX7_set, Cond.instanceMethod yX7_set, Cond.selects RX7 yX7_set yX7_set, Cond.code yX7_set cX7_set 7 (some .int), Cond.methodLink RX7 64 yX7_isRegister, Cond.static yX7_isRegister]
def wsL_law_r8 : List Cond := [Cond.code yX7_isRegister cX7_isRegister 1 (some .boolean), Cond.methodLink RX7 68 yX7_isPlace, Cond.instanceMethod yX7_isPlace, Cond.selects RX7 yX7_isPlace yX7_isPlace, Cond.code yX7_isPlace cX7_isPlace 4 (some .boolean), Cond.methodLink RL 22 yX8_set, Cond.instanceMethod yX8_set, Cond.selects RX8 yX8_set yX8_set, Cond.code yX8_set cX8_set 6 (some .int), Cond.methodLink RX8 109 yX8_isRegister, Cond.static yX8_isRegister, Cond.code yX8_isRegister cX8_isRegister 1 (some .boolean), Cond.methodLink RX8 113 yX8_isCell, Cond.instanceMethod yX8_isCell, Cond.selects RX8 yX8_isCell yX8_isCell, Cond.code yX8_isCell cX8_isCell 3 (some .boolean), Cond.methodLink RL 23 yX7_base, Cond.instanceMethod yX7_base, Cond.selects RX7 yX7_base yX7_base, Cond.code yX7_base cX7_base 3 (some .int), Cond.instanceMethod yX0_determinant, Cond.selects RX0 yX0_determinant yX0_determinant, Cond.code yX0_determinant cX0_determinant 2 (some .int), Cond.instanceMethod yX5_load]
def wsL_law_r9 : List Cond := [Cond.selects RX5 yX5_load yX5_load, Cond.code yX5_load cX5_load 5 none, Cond.fieldLink RX5 22 "PeirceDesk$Rows" "modulus" "I", Cond.methodLink RX5 26 yX5_clearRow, Cond.instanceMethod yX5_clearRow, Cond.selects RX5 yX5_clearRow yX5_clearRow, Cond.code yX5_clearRow cX5_clearRow 3 none, Cond.instanceMethod yX5_reduce, Cond.selects RX5 yX5_reduce yX5_reduce, Cond.code yX5_reduce cX5_reduce 5 (some .int), Cond.fieldLink RX5 34 "PeirceDesk$Rows" "pivots" "I", Cond.methodLink RX5 37 yX5_pivotRow, Cond.instanceMethod yX5_pivotRow, Cond.selects RX5 yX5_pivotRow yX5_pivotRow, Cond.code yX5_pivotRow cX5_pivotRow 4 (some .int), Cond.methodLink RX5 41 yX5_exchange, Cond.instanceMethod yX5_exchange, Cond.selects RX5 yX5_exchange yX5_exchange, Cond.code yX5_exchange cX5_exchange 5 none, Cond.methodLink RX5 45 yX5_makePivotOne, Cond.instanceMethod yX5_makePivotOne, Cond.selects RX5 yX5_makePivotOne yX5_makePivotOne, Cond.code yX5_makePivotOne cX5_makePivotOne 6 none, Cond.static yX7_reduced]
def wsL_law_r10 : List Cond := [Cond.code yX7_reduced cX7_reduced 3 (some .int), Cond.methodLink RX5 48 yX5_clearColumn, Cond.instanceMethod yX5_clearColumn, Cond.selects RX5 yX5_clearColumn yX5_clearColumn, Cond.code yX5_clearColumn cX5_clearColumn 6 none, Cond.instanceMethod yX0_takeIdentityAsBase, Cond.selects RX0 yX0_takeIdentityAsBase yX0_takeIdentityAsBase, Cond.code yX0_takeIdentityAsBase cX0_takeIdentityAsBase 1 none, Cond.methodLink RX0 93 yX0_unit, Cond.instanceMethod yX0_unit, Cond.selects RX0 yX0_unit yX0_unit, Cond.code yX0_unit cX0_unit 1 (some (.array .int)), Cond.instanceMethod yX0_takeAsBase, Cond.selects RX0 yX0_takeAsBase yX0_takeAsBase, Cond.code yX0_takeAsBase cX0_takeAsBase 2 none, Cond.methodLink RX0 106 yX0_determinant, Cond.methodLink RX0 89 yX0_readInverse, Cond.instanceMethod yX0_readInverse, Cond.selects RX0 yX0_readInverse yX0_readInverse, Cond.code yX0_readInverse cX0_readInverse 4 none, Cond.methodLink RL 27 yX8_base, Cond.instanceMethod yX8_base, Cond.selects RX8 yX8_base yX8_base, Cond.code yX8_base cX8_base 4 (some .int)]
def wsL_law_r11 : List Cond := [Cond.methodLink RX8 60 yX8_blank, Cond.instanceMethod yX8_blank, Cond.selects RX8 yX8_blank yX8_blank, Cond.code yX8_blank cX8_blank 3 none, Cond.methodLink RX8 72 yX8_determinant, Cond.instanceMethod yX8_determinant, Cond.selects RX8 yX8_determinant yX8_determinant, Cond.code yX8_determinant cX8_determinant 4 (some .int), Cond.methodLink RX8 64 yX8_within, Cond.instanceMethod yX8_within, Cond.selects RX8 yX8_within yX8_within, Cond.code yX8_within cX8_within 3 (some .int), Cond.methodLink RX8 68 yX8_cellOf, Cond.instanceMethod yX8_cellOf, Cond.selects RX8 yX8_cellOf yX8_cellOf, Cond.code yX8_cellOf cX8_cellOf 4 (some .int), Cond.methodLink RL 28 yX7_split, Cond.instanceMethod yX7_split, Cond.selects RX7 yX7_split yX7_split, Cond.code yX7_split cX7_split 7 (some .int), Cond.instanceMethod yX0_isOwnSquare, Cond.selects RX0 yX0_isOwnSquare yX0_isOwnSquare, Cond.code yX0_isOwnSquare cX0_isOwnSquare 2 (some .boolean), Cond.methodLink RX0 113 yX0_product]
def wsL_law_r12 : List Cond := [Cond.instanceMethod yX0_product, Cond.selects RX0 yX0_product yX0_product, Cond.code yX0_product cX0_product 4 none, Cond.methodLink RX0 66 yX0_multiply, Cond.instanceMethod yX0_multiply, Cond.selects RX0 yX0_multiply yX0_multiply, Cond.code yX0_multiply cX0_multiply 8 none, Cond.methodLink RX0 70 yX0_writeSymmetric, Cond.instanceMethod yX0_writeSymmetric, Cond.selects RX0 yX0_writeSymmetric yX0_writeSymmetric, Cond.code yX0_writeSymmetric cX0_writeSymmetric 7 none, Cond.static yX7_same, Cond.code yX7_same cX7_same 3 (some .boolean), Cond.instanceMethod yX0_findParts, Cond.selects RX0 yX0_findParts yX0_findParts, Cond.code yX0_findParts cX0_findParts 4 none, Cond.methodLink RX0 120 yX0_operator, Cond.instanceMethod yX0_operator, Cond.selects RX0 yX0_operator yX0_operator, Cond.code yX0_operator cX0_operator 4 none, Cond.methodLink RX0 74 yX0_triple, Cond.instanceMethod yX0_triple, Cond.selects RX0 yX0_triple yX0_triple, Cond.code yX0_triple cX0_triple 5 none]
def wsL_law_r13 : List Cond := [Cond.methodLink RX7 101 yX7_copy, Cond.methodLink RX7 104 yX7_isZero, Cond.static yX7_isZero, Cond.code yX7_isZero cX7_isZero 2 (some .boolean), Cond.methodLink RL 32 yX8_split, Cond.instanceMethod yX8_split, Cond.selects RX8 yX8_split yX8_split, Cond.code yX8_split cX8_split 6 (some .int), Cond.methodLink RX8 116 yX8_load, Cond.instanceMethod yX8_load, Cond.selects RX8 yX8_load yX8_load, Cond.code yX8_load cX8_load 4 none, Cond.methodLink RX8 81 yX8_layBase, Cond.instanceMethod yX8_layBase, Cond.selects RX8 yX8_layBase yX8_layBase, Cond.code yX8_layBase cX8_layBase 2 none, Cond.methodLink RX8 78 yX8_invert, Cond.instanceMethod yX8_invert, Cond.selects RX8 yX8_invert yX8_invert, Cond.code yX8_invert cX8_invert 7 none, Cond.methodLink RX8 75 yX8_over, Cond.instanceMethod yX8_over, Cond.selects RX8 yX8_over yX8_over, Cond.code yX8_over cX8_over 4 (some .int)]
def wsL_law_r14 : List Cond := [Cond.methodLink RX8 119 yX8_isOwnSquare, Cond.instanceMethod yX8_isOwnSquare, Cond.selects RX8 yX8_isOwnSquare yX8_isOwnSquare, Cond.code yX8_isOwnSquare cX8_isOwnSquare 2 (some .boolean), Cond.methodLink RX8 99 yX8_product, Cond.instanceMethod yX8_product, Cond.selects RX8 yX8_product yX8_product, Cond.code yX8_product cX8_product 4 none, Cond.methodLink RX8 84 yX8_times, Cond.instanceMethod yX8_times, Cond.selects RX8 yX8_times yX8_times, Cond.code yX8_times cX8_times 8 none, Cond.methodLink RX8 88 yX8_half, Cond.instanceMethod yX8_half, Cond.selects RX8 yX8_half yX8_half, Cond.code yX8_half cX8_half 1 (some .int), Cond.methodLink RX8 92 yX8_add, Cond.instanceMethod yX8_add, Cond.selects RX8 yX8_add yX8_add, Cond.code yX8_add cX8_add 7 none, Cond.methodLink RX8 102 yX8_areAlike, Cond.instanceMethod yX8_areAlike, Cond.selects RX8 yX8_areAlike yX8_areAlike, Cond.code yX8_areAlike cX8_areAlike 5 (some .boolean)]
def wsL_law_r15 : List Cond := [Cond.methodLink RX8 122 yX8_part, Cond.instanceMethod yX8_part, Cond.selects RX8 yX8_part yX8_part, Cond.code yX8_part cX8_part 2 none, Cond.methodLink RX8 106 yX8_operator, Cond.instanceMethod yX8_operator, Cond.selects RX8 yX8_operator yX8_operator, Cond.code yX8_operator cX8_operator 4 none, Cond.methodLink RX8 96 yX8_copy, Cond.instanceMethod yX8_copy, Cond.selects RX8 yX8_copy yX8_copy, Cond.code yX8_copy cX8_copy 4 none, Cond.methodLink RX8 125 yX8_store, Cond.instanceMethod yX8_store, Cond.selects RX8 yX8_store yX8_store, Cond.code yX8_store cX8_store 4 none, Cond.methodLink RX8 128 yX8_isNothing, Cond.instanceMethod yX8_isNothing, Cond.selects RX8 yX8_isNothing yX8_isNothing, Cond.code yX8_isNothing cX8_isNothing 4 (some .boolean), Cond.methodLink RL 33 yX7_run, Cond.instanceMethod yX7_run, Cond.selects RX7 yX7_run yX7_run, Cond.code yX7_run cX7_run 2 (some .int)]
def wsL_law_r16 : List Cond := [Cond.instanceMethod yX3_findFault, Cond.selects RX3 yX3_findFault yX3_findFault, Cond.code yX3_findFault cX3_findFault 2 (some .int), Cond.fieldLink RX3 29 "PeirceDesk$Pad" "open" "I", Cond.fieldLink RX3 32 "PeirceDesk$Pad" "nextCommas" "I", Cond.fieldLink RX3 35 "PeirceDesk$Pad" "awaited" "I", Cond.fieldLink RX3 38 "PeirceDesk$Pad" "divided" "Z", Cond.fieldLink RX3 21 "PeirceDesk$Pad" "length" "I", Cond.methodLink RX3 42 yX3_takes, Cond.instanceMethod yX3_takes, Cond.selects RX3 yX3_takes yX3_takes, Cond.code yX3_takes cX3_takes 3 (some .boolean), Cond.methodLink RX3 46 yX3_takesDigit, Cond.instanceMethod yX3_takesDigit, Cond.selects RX3 yX3_takesDigit yX3_takesDigit, Cond.code yX3_takesDigit cX3_takesDigit 2 (some .boolean), Cond.methodLink RX3 50 yX3_takesFactor, Cond.instanceMethod yX3_takesFactor, Cond.selects RX3 yX3_takesFactor yX3_takesFactor, Cond.code yX3_takesFactor cX3_takesFactor 2 (some .boolean), Cond.static yX7_registerOf, Cond.code yX7_registerOf cX7_registerOf 1 (some .int), Cond.methodLink RX3 53 yX3_takesBracket, Cond.instanceMethod yX3_takesBracket]
def wsL_law_r17 : List Cond := [Cond.selects RX3 yX3_takesBracket yX3_takesBracket, Cond.code yX3_takesBracket cX3_takesBracket 1 (some .boolean), Cond.methodLink RX3 57 yX3_takesInside, Cond.instanceMethod yX3_takesInside, Cond.selects RX3 yX3_takesInside yX3_takesInside, Cond.code yX3_takesInside cX3_takesInside 3 (some .boolean), Cond.methodLink RX3 63 yX3_takesSign, Cond.instanceMethod yX3_takesSign, Cond.selects RX3 yX3_takesSign yX3_takesSign, Cond.code yX3_takesSign cX3_takesSign 2 (some .boolean), Cond.methodLink RX3 60 yX3_takesOutside, Cond.instanceMethod yX3_takesOutside, Cond.selects RX3 yX3_takesOutside yX3_takesOutside, Cond.code yX3_takesOutside cX3_takesOutside 4 (some .boolean), Cond.instanceMethod yX3_target, Cond.selects RX3 yX3_target yX3_target, Cond.code yX3_target cX3_target 1 (some .int), Cond.instanceMethod yX4_carryOut, Cond.selects RX4 yX4_carryOut yX4_carryOut, Cond.code yX4_carryOut cX4_carryOut 6 (some .int), Cond.fieldLink RX4 25 "PeirceDesk$Reckoner" "open" "I", Cond.instanceMethod yX1_open, Cond.selects RX1 yX1_open yX1_open, Cond.code yX1_open cX1_open 3 none]
def wsL_law_r18 : List Cond := [Cond.fieldLink RX1 21 "PeirceDesk$Frame" "kind" "C", Cond.fieldLink RX1 25 "PeirceDesk$Frame" "place" "I", Cond.fieldLink RX1 29 "PeirceDesk$Frame" "arguments" "I", Cond.methodLink RX1 32 yX1_startSum, Cond.instanceMethod yX1_startSum, Cond.selects RX1 yX1_startSum yX1_startSum, Cond.code yX1_startSum cX1_startSum 2 none, Cond.fieldLink RX1 35 "PeirceDesk$Frame" "sign" "I", Cond.fieldLink RX1 38 "PeirceDesk$Frame" "times" "I", Cond.methodLink RX4 45 yX4_openBracket, Cond.instanceMethod yX4_openBracket, Cond.selects RX4 yX4_openBracket yX4_openBracket, Cond.code yX4_openBracket cX4_openBracket 3 none, Cond.instanceMethod yX1_finish, Cond.selects RX1 yX1_finish yX1_finish, Cond.code yX1_finish cX1_finish 2 (some .boolean), Cond.instanceMethod yX0_inverse, Cond.selects RX0 yX0_inverse yX0_inverse, Cond.code yX0_inverse cX0_inverse 3 (some .boolean), Cond.methodLink RX4 66 yX4_closeBracket, Cond.instanceMethod yX4_closeBracket, Cond.selects RX4 yX4_closeBracket yX4_closeBracket, Cond.code yX4_closeBracket cX4_closeBracket 2 none, Cond.instanceMethod yX1_add]
def wsL_law_r19 : List Cond := [Cond.selects RX1 yX1_add yX1_add, Cond.code yX1_add cX1_add 4 none, Cond.methodLink RX4 70 yX4_read, Cond.instanceMethod yX4_read, Cond.selects RX4 yX4_read yX4_read, Cond.code yX4_read cX4_read 5 none, Cond.instanceMethod yX1_keepArgument, Cond.selects RX1 yX1_keepArgument yX1_keepArgument, Cond.code yX1_keepArgument cX1_keepArgument 1 none, Cond.instanceMethod yX4_result, Cond.selects RX4 yX4_result yX4_result, Cond.code yX4_result cX4_result 1 (some (.array .int)), Cond.methodLink RL 37 yX8_run, Cond.instanceMethod yX8_run, Cond.selects RX8 yX8_run yX8_run, Cond.code yX8_run cX8_run 2 (some .int), Cond.fieldLink RX8 209 "PeirceDeskModel" "isFormula" "Z", Cond.fieldLink RX8 188 "PeirceDeskModel" "stop" "I", Cond.fieldLink RX8 159 "PeirceDeskModel" "typed" "I", Cond.methodLink RX8 224 yX8_work, Cond.instanceMethod yX8_work, Cond.selects RX8 yX8_work yX8_work, Cond.code yX8_work cX8_work 2 (some .int), Cond.fieldLink RX8 167 "PeirceDeskModel" "depth" "I"]
def wsL_law_r20 : List Cond := [Cond.fieldLink RX8 178 "PeirceDeskModel" "wants" "I", Cond.fieldLink RX8 212 "PeirceDeskModel" "isEquation" "Z", Cond.fieldLink RX8 174 "PeirceDeskModel" "works" "Z", Cond.methodLink RX8 170 yX8_pileOf, Cond.instanceMethod yX8_pileOf, Cond.selects RX8 yX8_pileOf yX8_pileOf, Cond.code yX8_pileOf cX8_pileOf 3 (some .int), Cond.methodLink RX8 221 yX8_stands, Cond.instanceMethod yX8_stands, Cond.selects RX8 yX8_stands yX8_stands, Cond.code yX8_stands cX8_stands 3 (some .boolean), Cond.methodLink RX8 215 yX8_factor, Cond.instanceMethod yX8_factor, Cond.selects RX8 yX8_factor yX8_factor, Cond.code yX8_factor cX8_factor 3 (some .boolean), Cond.methodLink RX8 194 yX8_isOne, Cond.static yX8_isOne, Cond.code yX8_isOne cX8_isOne 1 (some .boolean), Cond.methodLink RX8 191 yX8_counts, Cond.instanceMethod yX8_counts, Cond.selects RX8 yX8_counts yX8_counts, Cond.code yX8_counts cX8_counts 3 none, Cond.methodLink RX8 197 yX8_isLetter, Cond.static yX8_isLetter]
def wsL_law_r21 : List Cond := [Cond.code yX8_isLetter cX8_isLetter 1 (some .boolean), Cond.methodLink RX8 200 yX8_opens, Cond.instanceMethod yX8_opens, Cond.selects RX8 yX8_opens yX8_opens, Cond.code yX8_opens cX8_opens 3 none, Cond.methodLink RX8 218 yX8_behind, Cond.instanceMethod yX8_behind, Cond.selects RX8 yX8_behind yX8_behind, Cond.code yX8_behind cX8_behind 7 (some .boolean), Cond.methodLink RX8 203 yX8_sumsOf, Cond.instanceMethod yX8_sumsOf, Cond.selects RX8 yX8_sumsOf yX8_sumsOf, Cond.code yX8_sumsOf cX8_sumsOf 2 (some .int), Cond.methodLink RX8 206 yX8_closes, Cond.instanceMethod yX8_closes, Cond.selects RX8 yX8_closes yX8_closes, Cond.code yX8_closes cX8_closes 3 none, Cond.methodLink RX8 181 yX8_triple, Cond.instanceMethod yX8_triple, Cond.selects RX8 yX8_triple yX8_triple, Cond.code yX8_triple cX8_triple 5 none, Cond.methodLink RX8 185 yX8_inverse, Cond.instanceMethod yX8_inverse, Cond.selects RX8 yX8_inverse yX8_inverse]
def wsL_law_r22 : List Cond := [Cond.code yX8_inverse cX8_inverse 3 (some .boolean), Cond.methodLink RL 38 yX7_entry, Cond.instanceMethod yX7_entry, Cond.selects RX7 yX7_entry yX7_entry, Cond.code yX7_entry cX7_entry 4 (some .int), Cond.methodLink RX7 125 yX7_isElement, Cond.static yX7_isElement, Cond.code yX7_isElement cX7_isElement 1 (some .boolean), Cond.methodLink RL 41 yX8_entry, Cond.instanceMethod yX8_entry, Cond.selects RX8 yX8_entry yX8_entry, Cond.code yX8_entry cX8_entry 4 (some .int), Cond.methodLink RL 42 yX7_of, Cond.instanceMethod yX7_of, Cond.selects RX7 yX7_of yX7_of, Cond.code yX7_of cX7_of 4 (some .int), Cond.instanceMethod yX0_trace, Cond.selects RX0 yX0_trace yX0_trace, Cond.code yX0_trace cX0_trace 4 (some .int), Cond.instanceMethod yX0_rank, Cond.selects RX0 yX0_rank yX0_rank, Cond.code yX0_rank cX0_rank 2 (some .int), Cond.instanceMethod yX0_order, Cond.selects RX0 yX0_order yX0_order]
def wsL_law_r23 : List Cond := [Cond.code yX0_order cX0_order 3 (some .int), Cond.instanceMethod yX0_degree, Cond.selects RX0 yX0_degree yX0_degree, Cond.code yX0_degree cX0_degree 3 (some .int), Cond.instanceMethod yX5_loadAll, Cond.selects RX5 yX5_loadAll yX5_loadAll, Cond.code yX5_loadAll cX5_loadAll 5 none, Cond.instanceMethod yX0_leastZeroPower, Cond.selects RX0 yX0_leastZeroPower yX0_leastZeroPower, Cond.code yX0_leastZeroPower cX0_leastZeroPower 3 (some .int), Cond.methodLink RL 45 yX8_of, Cond.instanceMethod yX8_of, Cond.selects RX8 yX8_of yX8_of, Cond.code yX8_of cX8_of 3 (some .int), Cond.methodLink RX8 140 yX8_trace, Cond.instanceMethod yX8_trace, Cond.selects RX8 yX8_trace yX8_trace, Cond.code yX8_trace cX8_trace 2 (some .int), Cond.methodLink RX8 143 yX8_rankOf, Cond.instanceMethod yX8_rankOf, Cond.selects RX8 yX8_rankOf yX8_rankOf, Cond.code yX8_rankOf cX8_rankOf 5 (some .int), Cond.fieldLink RX8 131 "PeirceDeskModel" "rowMany" "I", Cond.methodLink RX8 137 yX8_isNew]
def wsL_law_r24 : List Cond := [Cond.instanceMethod yX8_isNew, Cond.selects RX8 yX8_isNew yX8_isNew, Cond.code yX8_isNew cX8_isNew 7 (some .boolean), Cond.methodLink RX8 134 yX8_leadOf, Cond.instanceMethod yX8_leadOf, Cond.selects RX8 yX8_leadOf yX8_leadOf, Cond.code yX8_leadOf cX8_leadOf 3 (some .int), Cond.methodLink RX8 146 yX8_orderOf, Cond.instanceMethod yX8_orderOf, Cond.selects RX8 yX8_orderOf yX8_orderOf, Cond.code yX8_orderOf cX8_orderOf 3 (some .int), Cond.methodLink RX8 149 yX8_degreeOf, Cond.instanceMethod yX8_degreeOf, Cond.selects RX8 yX8_degreeOf yX8_degreeOf, Cond.code yX8_degreeOf cX8_degreeOf 3 (some .int), Cond.methodLink RX8 152 yX8_endOf, Cond.instanceMethod yX8_endOf, Cond.selects RX8 yX8_endOf yX8_endOf, Cond.code yX8_endOf cX8_endOf 3 (some .int), Cond.methodLink RL 46 yX7_count, Cond.instanceMethod yX7_count, Cond.selects RX7 yX7_count yX7_count, Cond.code yX7_count cX7_count 2 (some .int), Cond.methodLink RX7 143 yX7_registersNotZero]
def wsL_law_r25 : List Cond := [Cond.instanceMethod yX7_registersNotZero, Cond.selects RX7 yX7_registersNotZero yX7_registersNotZero, Cond.code yX7_registersNotZero cX7_registersNotZero 3 (some .int), Cond.methodLink RX7 146 yX7_registersOwnSquares, Cond.instanceMethod yX7_registersOwnSquares, Cond.selects RX7 yX7_registersOwnSquares yX7_registersOwnSquares, Cond.code yX7_registersOwnSquares cX7_registersOwnSquares 3 (some .int), Cond.methodLink RL 49 yX8_count, Cond.instanceMethod yX8_count, Cond.selects RX8 yX8_count yX8_count, Cond.code yX8_count cX8_count 2 (some .int), Cond.methodLink RX8 155 yX8_registersThat, Cond.instanceMethod yX8_registersThat, Cond.selects RX8 yX8_registersThat yX8_registersThat, Cond.code yX8_registersThat cX8_registersThat 5 (some .int), Cond.methodLink RL 50 yX7_areSame, Cond.instanceMethod yX7_areSame, Cond.selects RX7 yX7_areSame yX7_areSame, Cond.code yX7_areSame cX7_areSame 3 (some .int), Cond.methodLink RX7 150 yX7_same, Cond.methodLink RL 53 yX8_areSame, Cond.instanceMethod yX8_areSame, Cond.selects RX8 yX8_areSame yX8_areSame, Cond.code yX8_areSame cX8_areSame 3 (some .int)]
def wsL_law_r26 : List Cond := [Cond.methodLink RL 54 yX7_power, Cond.instanceMethod yX7_power, Cond.selects RX7 yX7_power yX7_power, Cond.code yX7_power cX7_power 5 (some .int), Cond.instanceMethod yX0_raise, Cond.selects RX0 yX0_raise yX0_raise, Cond.code yX0_raise cX0_raise 4 none, Cond.methodLink RL 57 yX8_power, Cond.instanceMethod yX8_power, Cond.selects RX8 yX8_power yX8_power, Cond.code yX8_power cX8_power 6 (some .int), Cond.methodLink RL 58 yX7_rule, Cond.instanceMethod yX7_rule, Cond.selects RX7 yX7_rule yX7_rule, Cond.code yX7_rule cX7_rule 7 (some .int), Cond.instanceMethod yX0_tryRule, Cond.selects RX0 yX0_tryRule yX0_tryRule, Cond.code yX0_tryRule cX0_tryRule 4 (some .boolean), Cond.methodLink RL 61 yX8_rule, Cond.instanceMethod yX8_rule, Cond.selects RX8 yX8_rule yX8_rule, Cond.code yX8_rule cX8_rule 5 (some .int), Cond.methodLink RL 62 yX7_partSize, Cond.instanceMethod yX7_partSize]
def wsL_law_r27 : List Cond := [Cond.selects RX7 yX7_partSize yX7_partSize, Cond.code yX7_partSize cX7_partSize 5 (some .int), Cond.methodLink RX7 169 yX7_partExponent, Cond.static yX7_partExponent, Cond.code yX7_partExponent cX7_partExponent 4 (some .int), Cond.methodLink RL 65 yX8_partSize, Cond.instanceMethod yX8_partSize, Cond.selects RX8 yX8_partSize yX8_partSize, Cond.code yX8_partSize cX8_partSize 6 (some .int), Cond.methodLink RL 66 yX7_howMany, Cond.instanceMethod yX7_howMany, Cond.selects RX7 yX7_howMany yX7_howMany, Cond.code yX7_howMany cX7_howMany 2 (some .int), Cond.instanceMethod yX0_countKind, Cond.selects RX0 yX0_countKind yX0_countKind, Cond.code yX0_countKind cX0_countKind 7 (some .int), Cond.methodLink RX0 131 yX0_isOfKind, Cond.instanceMethod yX0_isOfKind, Cond.selects RX0 yX0_isOfKind yX0_isOfKind, Cond.code yX0_isOfKind cX0_isOfKind 2 (some .boolean), Cond.methodLink RL 69 yX8_howMany, Cond.instanceMethod yX8_howMany, Cond.selects RX8 yX8_howMany yX8_howMany, Cond.code yX8_howMany cX8_howMany 5 (some .int)]
def wsL_law_r28 : List Cond := [Cond.methodLink RX8 162 yX8_isOfKind, Cond.instanceMethod yX8_isOfKind, Cond.selects RX8 yX8_isOfKind yX8_isOfKind, Cond.code yX8_isOfKind cX8_isOfKind 3 (some .boolean), Cond.methodLink RL 70 yX7_holds, Cond.instanceMethod yX7_holds, Cond.selects RX7 yX7_holds yX7_holds, Cond.code yX7_holds cX7_holds 1 (some .int), Cond.methodLink RL 73 yX8_holds, Cond.instanceMethod yX8_holds, Cond.selects RX8 yX8_holds yX8_holds, Cond.code yX8_holds cX8_holds 1 (some .int), Cond.methodLink RL 74 yX7_stops, Cond.instanceMethod yX7_stops, Cond.selects RX7 yX7_stops yX7_stops, Cond.code yX7_stops cX7_stops 1 (some .int), Cond.methodLink RL 77 yX8_stops, Cond.instanceMethod yX8_stops, Cond.selects RX8 yX8_stops yX8_stops, Cond.code yX8_stops cX8_stops 1 (some .int), Cond.methodLink RL 80 yX7_put, Cond.instanceMethod yX7_put, Cond.selects RX7 yX7_put yX7_put, Cond.code yX7_put cX7_put 4 (some .int)]
def wsL_law_r29 : List Cond := [Cond.static yX3_charactersIn, Cond.code yX3_charactersIn cX3_charactersIn 6 (some .int), Cond.constantLong RX3 19 (255), Cond.instanceMethod yX3_append, Cond.selects RX3 yX3_append yX3_append, Cond.code yX3_append cX3_append 5 none, Cond.methodLink RL 84 yX8_put, Cond.instanceMethod yX8_put, Cond.selects RX8 yX8_put yX8_put, Cond.code yX8_put cX8_put 8 (some .int), Cond.constantLong RX8 165 (255), Cond.methodLink RL 85 yX7_wipe, Cond.instanceMethod yX7_wipe, Cond.selects RX7 yX7_wipe yX7_wipe, Cond.code yX7_wipe cX7_wipe 2 (some .int), Cond.methodLink RL 88 yX8_wipe, Cond.instanceMethod yX8_wipe, Cond.selects RX8 yX8_wipe yX8_wipe, Cond.code yX8_wipe cX8_wipe 2 (some .int), Cond.methodLink RL 89 yX7_fault, Cond.instanceMethod yX7_fault, Cond.selects RX7 yX7_fault yX7_fault, Cond.code yX7_fault cX7_fault 1 (some .int), Cond.methodLink RL 92 yX8_fault]
def wsL_law_r30 : List Cond := [Cond.instanceMethod yX8_fault, Cond.selects RX8 yX8_fault yX8_fault, Cond.code yX8_fault cX8_fault 1 (some .int), Cond.methodLink RL 93 yX7_undo, Cond.instanceMethod yX7_undo, Cond.selects RX7 yX7_undo yX7_undo, Cond.code yX7_undo cX7_undo 1 (some .int), Cond.instanceMethod yX2_takeBack, Cond.selects RX2 yX2_takeBack yX2_takeBack, Cond.code yX2_takeBack cX2_takeBack 2 none, Cond.methodLink RL 96 yX8_undo, Cond.instanceMethod yX8_undo, Cond.selects RX8 yX8_undo yX8_undo, Cond.code yX8_undo cX8_undo 2 (some .int), Cond.methodLink RL 97 yX7_save, Cond.instanceMethod yX7_save, Cond.selects RX7 yX7_save yX7_save, Cond.code yX7_save cX7_save 2 (some .int), Cond.methodLink RL 100 yX8_save, Cond.instanceMethod yX8_save, Cond.selects RX8 yX8_save yX8_save, Cond.code yX8_save cX8_save 3 (some .int), Cond.methodLink RL 101 yX7_restore, Cond.instanceMethod yX7_restore]
def wsL_law_r31 : List Cond := [Cond.selects RX7 yX7_restore yX7_restore, Cond.code yX7_restore cX7_restore 2 (some .int), Cond.methodLink RL 104 yX8_restore, Cond.instanceMethod yX8_restore, Cond.selects RX8 yX8_restore yX8_restore, Cond.code yX8_restore cX8_restore 3 (some .int)]
def wsL_law : List Cond := (wsL_law_r1 ++ (wsL_law_r2 ++ (wsL_law_r3 ++ (wsL_law_r4 ++ (wsL_law_r5 ++ (wsL_law_r6 ++ (wsL_law_r7 ++ (wsL_law_r8 ++ (wsL_law_r9 ++ (wsL_law_r10 ++ (wsL_law_r11 ++ (wsL_law_r12 ++ (wsL_law_r13 ++ (wsL_law_r14 ++ (wsL_law_r15 ++ (wsL_law_r16 ++ (wsL_law_r17 ++ (wsL_law_r18 ++ (wsL_law_r19 ++ (wsL_law_r20 ++ (wsL_law_r21 ++ (wsL_law_r22 ++ (wsL_law_r23 ++ (wsL_law_r24 ++ (wsL_law_r25 ++ (wsL_law_r26 ++ (wsL_law_r27 ++ (wsL_law_r28 ++ (wsL_law_r29 ++ (wsL_law_r30 ++ wsL_law_r31)))))))))))))))))))))))))))))) ++ wsX70 ++ wsX80 ++ wsX00 ++ wsX30 ++ wsX40 ++ wsX20 ++ wsX60 ++ wsX50 ++ wsX10 ++ ([] : List Cond)
theorem inlX0 : ∀ w ∈ wsX00, w ∈ wsL_law := fun _ h => List.mem_append_left _ (List.mem_append_left _ (List.mem_append_left _ (List.mem_append_left _ (List.mem_append_left _ (List.mem_append_left _ (List.mem_append_left _ (List.mem_append_right _ h)))))))
theorem inlX1 : ∀ w ∈ wsX10, w ∈ wsL_law := fun _ h => List.mem_append_left _ (List.mem_append_right _ h)
theorem inlX2 : ∀ w ∈ wsX20, w ∈ wsL_law := fun _ h => List.mem_append_left _ (List.mem_append_left _ (List.mem_append_left _ (List.mem_append_left _ (List.mem_append_right _ h))))
theorem inlX3 : ∀ w ∈ wsX30, w ∈ wsL_law := fun _ h => List.mem_append_left _ (List.mem_append_left _ (List.mem_append_left _ (List.mem_append_left _ (List.mem_append_left _ (List.mem_append_left _ (List.mem_append_right _ h))))))
theorem inlX4 : ∀ w ∈ wsX40, w ∈ wsL_law := fun _ h => List.mem_append_left _ (List.mem_append_left _ (List.mem_append_left _ (List.mem_append_left _ (List.mem_append_left _ (List.mem_append_right _ h)))))
theorem inlX5 : ∀ w ∈ wsX50, w ∈ wsL_law := fun _ h => List.mem_append_left _ (List.mem_append_left _ (List.mem_append_right _ h))
theorem inlX6 : ∀ w ∈ wsX60, w ∈ wsL_law := fun _ h => List.mem_append_left _ (List.mem_append_left _ (List.mem_append_left _ (List.mem_append_right _ h)))
theorem inlX7 : ∀ w ∈ wsX70, w ∈ wsL_law := fun _ h => List.mem_append_left _ (List.mem_append_left _ (List.mem_append_left _ (List.mem_append_left _ (List.mem_append_left _ (List.mem_append_left _ (List.mem_append_left _ (List.mem_append_left _ (List.mem_append_left _ (List.mem_append_right _ h)))))))))
theorem inlX8 : ∀ w ∈ wsX80, w ∈ wsL_law := fun _ h => List.mem_append_left _ (List.mem_append_left _ (List.mem_append_left _ (List.mem_append_left _ (List.mem_append_left _ (List.mem_append_left _ (List.mem_append_left _ (List.mem_append_left _ (List.mem_append_right _ h))))))))
theorem inJ9 : ∀ w ∈ wsJ90, w ∈ lw_tbl := by decide +kernel
theorem inJ10 : ∀ w ∈ wsJ100, w ∈ lw_tbl := by decide +kernel
set_option maxRecDepth 20000 in
theorem ggX0_init_X6_init : GoodIn wsX0_init wsX6_init := goodIn_r _ [25, 26, 2, 3, 27, 13, 28, 29, 30, 31, 6, 32, 33, 34, 35, 36, 37, 38, 45, 46, 47] (by decide +kernel) (by decide +kernel)
set_option maxRecDepth 20000 in
theorem gX0_init_X6_init : GoodIn wsX0_init (wsX6_init) := ggX0_init_X6_init
set_option maxRecDepth 20000 in
theorem ggX0_init_X5_init : GoodIn wsX0_init wsX5_init := goodIn_r _ [41, 42, 2, 3, 43, 13, 44, 59, 60, 61] (by decide +kernel) (by decide +kernel)
set_option maxRecDepth 20000 in
theorem gX0_init_X5_init : GoodIn wsX0_init (wsX5_init) := ggX0_init_X5_init
end
section
abbrev vwCl : List vw_C := [(RX0, TX0, 11), (RX1, TX1, 8), (RX2, TX2, 3), (RX3, TX3, 7), (RX4, TX4, 3), (RX5, TX5, 3), (RX6, TX6, 3), (RX7, TX7, 6), (RX8, TX8, 20)]
end
section
/-! A LAYER OVER THE KIT'S ROWS: a heap of a fixed shape, whose numbers are a function of cell and place; values are integers. -/
abbrev gx_V : Type := Int ⊕ Nat ⊕ Int64 ⊕ Unit
abbrev gx_I (z : Int) : gx_V := Sum.inl z
abbrev gx_R (c : Nat) : gx_V := Sum.inr (Sum.inl c)
abbrev gx_J (x : Int64) : gx_V := Sum.inr (Sum.inr (Sum.inl x))
abbrev gx_U : gx_V := Sum.inr (Sum.inr (Sum.inr ()))
abbrev gx_M : Type := Nat → Nat → Int
abbrev gx_K : Type := (Nat × List (Option Nat)) ⊕ (Nat × Nat × Nat × Nat)
def gx_i (z : Int) : Int32 := Int32.ofInt z
def gx_T (ad : Nat → Nat) : gx_V → Value
  | .inl z => .int (gx_i z)
  | .inr (.inl c) => .ref (ad c)
  | .inr (.inr (.inl x)) => .long x
  | .inr (.inr (.inr _)) => .null
/-- the range of an int -/
def gx_3 (z : Int) : Prop := -2147483648 ≤ z ∧ z < 2147483648
theorem gx_toInt {z : Int} (h : gx_3 z) : (gx_i z).toInt = z := Int32.toInt_ofInt_of_le (by simpa using h.1) (by simpa using h.2)
theorem gx_add (x y : Int) : gx_i x + gx_i y = gx_i (x + y) := (Int32.ofInt_add x y).symm
theorem gx_sub (x y : Int) : gx_i x - gx_i y = gx_i (x - y) := (Int32.ofInt_sub x y).symm
theorem gx_mul (x y : Int) : gx_i x * gx_i y = gx_i (x * y) := (Int32.ofInt_mul x y).symm
theorem gx_neg (x : Int) : -gx_i x = gx_i (-x) := (Int32.ofInt_neg x).symm
theorem gx_lt {x y : Int} (hx : gx_3 x) (hy : gx_3 y) : gx_i x < gx_i y ↔ x < y := by rw [Int32.lt_iff_toInt_lt, gx_toInt hx, gx_toInt hy]
theorem gx_le {x y : Int} (hx : gx_3 x) (hy : gx_3 y) : gx_i x ≤ gx_i y ↔ x ≤ y := by rw [Int32.le_iff_toInt_le, gx_toInt hx, gx_toInt hy]
theorem gx_eq {x y : Int} (hx : gx_3 x) (hy : gx_3 y) : gx_i x = gx_i y ↔ x = y := by rw [← Int32.toInt_inj, gx_toInt hx, gx_toInt hy]
theorem gx_i0 : (0 : Int32) = gx_i 0 := rfl
theorem gx_30 : gx_3 0 := ⟨by decide, by decide⟩
theorem gx_ne0 {y : Int} (hy : gx_3 y) (h : y ≠ 0) : ¬ gx_i y = 0 := fun e => h ((gx_eq hy gx_30).mp (e.trans gx_i0))
theorem gx_nat {z : Int} (h : gx_3 z) : (gx_i z).toNatClampNeg = z.toNat := by rw [← Int32.toNat_toInt, gx_toInt h]
theorem gx_in {z : Int} {n : Nat} (h : gx_3 z) (h0 : 0 ≤ z) (hn : z < n) : vp_in (gx_i z) n := by
  intro q
  rcases q with q | q
  · exact absurd ((gx_lt (y := 0) h gx_30).mp q) (by omega)
  · rw [gx_nat h] at q
    omega
theorem gx_div {x y : Int} (hx : gx_3 x) (hy : gx_3 y) (h0 : y ≠ 0) : gx_i x / gx_i y = gx_i (x.tdiv y) := by
  refine (Int32.ofInt_tdiv ?_ ?_ ?_ ?_).symm
  all_goals first | exact hx.1 | exact hy.1 | (have := hx.2; show _ ≤ (2147483647 : Int); omega) | (have := hy.2; show _ ≤ (2147483647 : Int); omega)
theorem gx_rem {x y : Int} (hx : gx_3 x) (hy : gx_3 y) (h0 : y ≠ 0) : gx_i x - gx_i x / gx_i y * gx_i y = gx_i (x.tmod y) := by
  rw [gx_div hx hy h0, gx_mul, gx_sub]
  congr 1
  rw [Int.tmod_def, Int.mul_comm y]
theorem gx_tmod {x y : Int} (h : 0 ≤ x) : x.tmod y = x % y := Int.tmod_eq_emod_of_nonneg h
theorem gx_tdiv {x y : Int} (h : 0 ≤ x) : x.tdiv y = x / y := Int.tdiv_eq_ediv_of_nonneg h
/-- locals: what is listed, at its place -/
def gx_l (ad : Nat → Nat) : Nat → List gx_V → List (Nat × Value)
  | _, [] => []
  | i, v :: vs => match v with
    | .inr (.inr (.inr _)) => gx_l ad (i + 1) vs
    | v => (i, gx_T ad v) :: gx_l ad (i + 1) vs
theorem gx_l_in {ad : Nat → Nat} : ∀ (L : List gx_V) (i k : Nat) (v : gx_V), L[k]? = some v → v ≠ gx_U → (i + k, gx_T ad v) ∈ gx_l ad i L
  | [], _, _, _, h, _ => by simp at h
  | v0 :: vs, i, 0, v, h, hv => by
    simp at h
    subst h
    match v0, hv with
    | .inl z, _ => exact List.mem_cons_self
    | .inr (.inl z), _ => exact List.mem_cons_self
    | .inr (.inr (.inl z)), _ => exact List.mem_cons_self
    | .inr (.inr (.inr ())), hv => exact absurd rfl hv
  | v0 :: vs, i, k + 1, v, h, hv => by
    have h1 := gx_l_in (ad := ad) vs (i + 1) k v (by simpa using h) hv
    rw [show i + 1 + k = i + (k + 1) by omega] at h1
    match v0 with
    | .inl z => exact List.mem_cons_of_mem _ h1
    | .inr (.inl z) => exact List.mem_cons_of_mem _ h1
    | .inr (.inr (.inl z)) => exact List.mem_cons_of_mem _ h1
    | .inr (.inr (.inr ())) => exact h1
theorem gx_l_of {ad : Nat → Nat} : ∀ (L : List gx_V) (i : Nat) (q : Nat × Value), q ∈ gx_l ad i L → ∃ (k : Nat) (v : gx_V), q = (i + k, gx_T ad v) ∧ L[k]? = some v ∧ v ≠ gx_U
  | [], _, _, h => by simp [gx_l] at h
  | v0 :: vs, i, q, h => by
    have tail : q ∈ gx_l ad (i + 1) vs → ∃ (k : Nat) (v : gx_V), q = (i + k, gx_T ad v) ∧ (v0 :: vs)[k]? = some v ∧ v ≠ gx_U := fun h1 => by
      obtain ⟨k, v, e1, e2, e3⟩ := gx_l_of vs (i + 1) q h1
      exact ⟨k + 1, v, by rw [e1, show i + 1 + k = i + (k + 1) by omega], by simpa using e2, e3⟩
    match v0, h with
    | .inl z, h =>
      rcases List.mem_cons.mp h with e | e
      · exact ⟨0, _, e, rfl, by simp⟩
      · exact tail e
    | .inr (.inl z), h =>
      rcases List.mem_cons.mp h with e | e
      · exact ⟨0, _, e, rfl, by simp⟩
      · exact tail e
    | .inr (.inr (.inl z)), h =>
      rcases List.mem_cons.mp h with e | e
      · exact ⟨0, _, e, rfl, by simp⟩
      · exact tail e
    | .inr (.inr (.inr ())), h => exact tail h
theorem gx_lat {ad : Nat → Nat} {ls : Array Slot} {nL : Nat} {L : List gx_V} (h : lv_has ls nL (gx_l ad 0 L)) {k : Nat} {v : gx_V} (hk : L[k]? = some v) (hv : v ≠ gx_U) : ls[k]? = some (.val (gx_T ad v)) := by
  have := h.2.2 _ (gx_l_in (ad := ad) L 0 k v hk hv)
  simpa using this
theorem gx_lmono {ad : Nat → Nat} {ls : Array Slot} {nL : Nat} {L : List gx_V} {l : List (Nat × Value)} (h : lv_has ls nL l) (hk : ∀ (k : Nat) (v : gx_V), L[k]? = some v → v ≠ gx_U → (k, gx_T ad v) ∈ l) : lv_has ls nL (gx_l ad 0 L) := by
  refine ⟨h.1, h.2.1, fun q hq => ?_⟩
  obtain ⟨k, v, e1, e2, e3⟩ := gx_l_of L 0 q hq
  rw [e1, Nat.zero_add]
  exact h.2.2 _ (hk k v e2 e3)
/-- the place before is no long -/
def gx_ok (L : List gx_V) : Nat → Bool
  | 0 => true
  | k + 1 => match L[k]? with
    | some (.inr (.inr (.inl _))) => false
    | _ => true
theorem gx_cat {ad : Nat → Nat} {v : gx_V} (h : (gx_T ad v).category = 2) : ∃ x, v = gx_J x := by
  match v with
  | .inl z => exact absurd h (by simp [gx_T, Value.category])
  | .inr (.inl z) => exact absurd h (by simp [gx_T, Value.category])
  | .inr (.inr (.inl z)) => exact ⟨z, rfl⟩
  | .inr (.inr (.inr ())) => exact absurd h (by simp [gx_T, Value.category])
theorem gx_b1 {a b : Bool} (h : (a && b) = false) : (!a) = true ∨ (!b) = true := by cases a <;> cases b <;> simp_all
theorem gx_lset {ad : Nat → Nat} {ls : Array Slot} {nL i : Nat} {L : List gx_V} {v : gx_V} (hok : gx_ok L i = true) (h : lv_has ls nL ((i, gx_T ad v) :: (gx_l ad 0 L).filter (fun q => !(q.1 == i) && !(q.1 + 1 == i && q.2.category == 2)))) : lv_has ls nL (gx_l ad 0 (L.set i v)) := by
  refine gx_lmono h (fun k w hk hw => ?_)
  by_cases e : i = k
  · subst e
    rw [List.getElem?_set] at hk
    simp at hk
    rw [hk.2]
    exact List.mem_cons_self
  · rw [List.getElem?_set_ne e] at hk
    refine List.mem_cons_of_mem _ (List.mem_filter.mpr ⟨by simpa using gx_l_in (ad := ad) L 0 k w hk hw, ?_⟩)
    have h1 : (k == i) = false := by simp; omega
    have h2 : (k + 1 == i && (gx_T ad w).category == 2) = false := by
      by_cases e1 : k + 1 = i
      · subst e1
        have : ¬ (gx_T ad w).category = 2 := fun hc => by
          obtain ⟨x, rfl⟩ := gx_cat hc
          simp [gx_ok, hk] at hok
        simp [this]
      · simp [e1]
    rw [show (!(k == i)) = true by simp [h1], Bool.true_and, show (!(k + 1 == i && (gx_T ad w).category == 2)) = true by rw [h2]; rfl]
theorem gx_lset2 {ad : Nat → Nat} {ls : Array Slot} {nL i : Nat} {L : List gx_V} {v : gx_V} (hok : gx_ok L i = true) (h : lv_has ls nL ((i, gx_T ad v) :: (gx_l ad 0 L).filter (fun q => !(q.1 == i) && (!(q.1 == i + 1) && !(q.1 + 1 == i && q.2.category == 2))))) : lv_has ls nL (gx_l ad 0 ((L.set i v).set (i + 1) gx_U)) := by
  refine gx_lmono h (fun k w hk hw => ?_)
  by_cases e2 : i + 1 = k
  · subst e2
    rw [List.getElem?_set] at hk
    simp at hk
    exact absurd hk.2.symm hw
  rw [List.getElem?_set_ne e2] at hk
  by_cases e : i = k
  · subst e
    rw [List.getElem?_set] at hk
    simp at hk
    rw [hk.2]
    exact List.mem_cons_self
  · rw [List.getElem?_set_ne e] at hk
    refine List.mem_cons_of_mem _ (List.mem_filter.mpr ⟨by simpa using gx_l_in (ad := ad) L 0 k w hk hw, ?_⟩)
    have h1 : (k == i) = false := by simp; omega
    have h3 : (k == i + 1) = false := by simp; omega
    have h2 : (k + 1 == i && (gx_T ad w).category == 2) = false := by
      by_cases e1 : k + 1 = i
      · subst e1
        have : ¬ (gx_T ad w).category = 2 := fun hc => by
          obtain ⟨x, rfl⟩ := gx_cat hc
          simp [gx_ok, hk] at hok
        simp [this]
      · simp [e1]
    rw [show (!(k == i)) = true by simp [h1], show (!(k == i + 1)) = true by simp [h3], Bool.true_and, Bool.true_and, show (!(k + 1 == i && (gx_T ad w).category == 2)) = true by rw [h2]; rfl]
/-- fewer values are known -/
def gx_sub' : List gx_V → List gx_V → Prop
  | [], _ => True
  | u :: us, [] => u = gx_U ∧ gx_sub' us []
  | u :: us, v :: vs => (u = gx_U ∨ u = v) ∧ gx_sub' us vs
theorem gx_sub_at : ∀ (L' L : List gx_V), gx_sub' L' L → ∀ (k : Nat) (v : gx_V), L'[k]? = some v → v ≠ gx_U → L[k]? = some v
  | [], _, _, _, _, h, _ => by simp at h
  | u :: us, [], hs, 0, v, h, hv => by
    simp at h
    exact absurd (h ▸ hs.1) hv
  | u :: us, [], hs, k + 1, v, h, hv => gx_sub_at us [] hs.2 k v (by simpa using h) hv
  | u :: us, w :: ws, hs, 0, v, h, hv => by
    simp at h
    subst h
    rcases hs.1 with e | e
    · exact absurd e hv
    · simp [e]
  | u :: us, w :: ws, hs, k + 1, v, h, hv => by
    have := gx_sub_at us ws hs.2 k v (by simpa using h) hv
    simpa using this
theorem gx_lsub {ad : Nat → Nat} {ls : Array Slot} {nL : Nat} {L L' : List gx_V} (hs : gx_sub' L' L) (h : lv_has ls nL (gx_l ad 0 L)) : lv_has ls nL (gx_l ad 0 L') :=
  gx_lmono h (fun k v hk hv => by simpa using gx_l_in (ad := ad) L 0 k v (gx_sub_at L' L hs k v hk hv) hv)
/-! the heap -/
def gx_F (ad : Nat → Nat) (f : Nat → Int) (j : Nat) : Option Nat → Value
  | none => .int (gx_i (f j))
  | some r => .ref (ad r)
def gx_a (ad : Nat → Nat) (f : Nat → Int) (k b st : Nat) : (Nat → Int32) ⊕ (Nat → Int64) ⊕ (Nat → UInt32) ⊕ (Nat → UInt64) ⊕ (Nat → Option Nat) :=
  if k < 3 then .inl (fun i => gx_i (f i)) else .inr (.inr (.inr (.inr (fun i => some (ad (b + st * i))))))
def gx_E (tc : Nat → ClassId) (ad : Nat → Nat) (f : Nat → Int) : gx_K → va_E
  | .inl (ci, fs) => .inr (ci, fs.mapIdx (gx_F ad f))
  | .inr (k, n, b, st) => .inl (tc k, n, gx_a ad f k b st)
def gx_w (La : List gx_K) (tc : Nat → ClassId) (ad : Nat → Nat) (M : gx_M) : va_W := (List.range La.length).map (fun c => (ad c, gx_E tc ad (M c) (La.getD c (.inl (0, [])))))
theorem gx_at {La : List gx_K} {tc : Nat → ClassId} {ad : Nat → Nat} {M : gx_M} {c : Nat} {k : gx_K} (h : La[c]? = some k) : (gx_w La tc ad M)[c]? = some (ad c, gx_E tc ad (M c) k) := by
  have hc : c < La.length := (List.getElem?_eq_some_iff.mp h).1
  unfold gx_w
  rw [List.getElem?_map, List.getElem?_range hc]
  simp [h]
theorem gx_len {La : List gx_K} {tc : Nat → ClassId} {ad : Nat → Nat} {M : gx_M} : (gx_w La tc ad M).length = La.length := by simp [gx_w]
theorem gx_of {La : List gx_K} {tc : Nat → ClassId} {ad : Nat → Nat} {M : gx_M} {c : Nat} {q : Nat × va_E} (h : (gx_w La tc ad M)[c]? = some q) : c < La.length ∧ q.1 = ad c := by
  have hc : c < La.length := by
    have := (List.getElem?_eq_some_iff.mp h).1
    rwa [gx_len] at this
  unfold gx_w at h
  rw [List.getElem?_map, List.getElem?_range hc] at h
  simp at h
  exact ⟨hc, by rw [← h]⟩
theorem gx_set {La : List gx_K} {tc : Nat → ClassId} {ad : Nat → Nat} {M : gx_M} {c : Nat} {k : gx_K} {f : Nat → Int} (h : La[c]? = some k) : (gx_w La tc ad M).set c (ad c, gx_E tc ad f k) = gx_w La tc ad (fun c' => if c' = c then f else M c') := by
  have hc : c < La.length := (List.getElem?_eq_some_iff.mp h).1
  refine List.ext_getElem? (fun i => ?_)
  by_cases e : c = i
  · subst e
    rw [List.getElem?_set_self (by rw [gx_len]; exact hc), gx_at h]
    simp
  · rw [List.getElem?_set_ne e]
    by_cases hi : i < La.length
    · have h2 : La[i]? = some La[i] := List.getElem?_eq_getElem hi
      rw [gx_at h2, gx_at h2]
      simp [show ¬ i = c from fun q => e q.symm]
    · rw [List.getElem?_eq_none (by rw [gx_len]; omega), List.getElem?_eq_none (by rw [gx_len]; omega)]
/-- one number changed -/
def gx_u (M : gx_M) (c j : Nat) (v : Int) : gx_M := fun c' => if c' = c then (fun j' => if j' = j then v else M c j') else M c'
theorem gx_u_eq (M : gx_M) (c j : Nat) (v : Int) : gx_u M c j v c j = v := by simp [gx_u]
theorem gx_u_ne {M : gx_M} {c j c' j' : Nat} {v : Int} (h : ¬ (c' = c ∧ j' = j)) : gx_u M c j v c' j' = M c' j' := by
  unfold gx_u
  by_cases e : c' = c
  · subst e
    by_cases e2 : j' = j
    · exact absurd ⟨rfl, e2⟩ h
    · simp [e2]
  · simp [e]
theorem gx_u_nc {M : gx_M} {c j c' : Nat} {v : Int} (h : c' ≠ c) : gx_u M c j v c' = M c' := by simp [gx_u, h]
theorem gx_u_at (M : gx_M) (c j c' j' : Nat) (v : Int) : gx_u M c j v c' j' = if c' = c ∧ j' = j then v else M c' j' := by
  by_cases h : c' = c ∧ j' = j
  · rw [if_pos h, h.1, h.2, gx_u_eq]
  · rw [if_neg h, gx_u_ne h]
def gx_tys (tc : Nat → ClassId) : List (ClassId × FieldType) := [(tc 0, .int), (tc 1, .char), (tc 2, .boolean), (tc 3, .array .int), (tc 4, .object "PeirceDesk$State"), (tc 5, .object "PeirceDesk$Frame")]
def gx_A (ad : Nat → Nat) (n sz : Nat) : Nat → Prop := fun q => (∃ c, c < n ∧ q = ad c) ∨ sz ≤ q
end
section
/-! links between nest mates -/
def gx_nF : List (String × Nat × String × String × String × String) := [("PeirceDesk", 52, "PeirceDesk$State", "size", "I", "PeirceDesk"), ("PeirceDesk$Rows", 23, "PeirceDesk$State", "size", "I", "PeirceDesk"), ("PeirceDesk$Algebra", 86, "PeirceDesk$State", "size", "I", "PeirceDesk"), ("PeirceDesk$Rows", 16, "PeirceDesk$State", "modulus", "I", "PeirceDesk"), ("PeirceDesk", 72, "PeirceDesk$State", "modulus", "I", "PeirceDesk"), ("PeirceDesk$Algebra", 58, "PeirceDesk$State", "modulus", "I", "PeirceDesk"), ("PeirceDesk$Reckoner", 61, "PeirceDesk$State", "modulus", "I", "PeirceDesk"), ("PeirceDesk$Algebra", 55, "PeirceDesk$State", "elements", "[[I", "PeirceDesk"), ("PeirceDesk", 75, "PeirceDesk$State", "elements", "[[I", "PeirceDesk"), ("PeirceDesk$Reckoner", 82, "PeirceDesk$State", "elements", "[[I", "PeirceDesk"), ("PeirceDesk$Algebra", 97, "PeirceDesk$Rows", "cells", "[[I", "PeirceDesk"), ("PeirceDesk$Algebra", 100, "PeirceDesk$Rows", "pivots", "I", "PeirceDesk"), ("PeirceDesk", 48, "PeirceDesk$Algebra", "now", "LPeirceDesk$State;", "PeirceDesk"), ("PeirceDesk$Reckoner", 55, "PeirceDesk$Algebra", "now", "LPeirceDesk$State;", "PeirceDesk"), ("PeirceDesk", 98, "PeirceDesk$Algebra", "parts", "[[I", "PeirceDesk"), ("PeirceDesk", 158, "PeirceDesk$Algebra", "power", "[I", "PeirceDesk"), ("PeirceDesk", 166, "PeirceDesk$Algebra", "oneSide", "[I", "PeirceDesk"), ("PeirceDesk$Reckoner", 41, "PeirceDesk$Pad", "signs", "[C", "PeirceDesk"), ("PeirceDesk$Reckoner", 38, "PeirceDesk$Pad", "length", "I", "PeirceDesk"), ("PeirceDesk", 122, "PeirceDesk$Pad", "length", "I", "PeirceDesk"), ("PeirceDesk$Reckoner", 22, "PeirceDesk$Frame", "sum", "[I", "PeirceDesk"), ("PeirceDesk$Reckoner", 52, "PeirceDesk$Frame", "place", "I", "PeirceDesk"), ("PeirceDesk$Reckoner", 89, "PeirceDesk$Frame", "sign", "I", "PeirceDesk"), ("PeirceDesk$Reckoner", 86, "PeirceDesk$Frame", "times", "I", "PeirceDesk"), ("PeirceDesk", 177, "PeirceDesk$Reckoner", "leftSide", "[I", "PeirceDesk"), ("PeirceDesk", 149, "PeirceDesk$History", "length", "I", "PeirceDesk")]
def gx_nM : List (String × Nat × MethodName × String) := [("PeirceDesk", 56, ⟨"PeirceDesk$History", "remember", "(LPeirceDesk$State;)V"⟩, "PeirceDesk"), ("PeirceDesk$History", 22, ⟨"PeirceDesk$State", "copyFrom", "(LPeirceDesk$State;)V"⟩, "PeirceDesk"), ("PeirceDesk$State", 31, ⟨"PeirceDesk", "copy", "([I[I)V"⟩, "PeirceDesk"), ("PeirceDesk", 60, ⟨"PeirceDesk$State", "clear", "(II)V"⟩, "PeirceDesk"), ("PeirceDesk", 79, ⟨"PeirceDesk$Algebra", "determinant", "([I)I"⟩, "PeirceDesk"), ("PeirceDesk$Algebra", 78, ⟨"PeirceDesk$Rows", "load", "([ILPeirceDesk$State;)V"⟩, "PeirceDesk"), ("PeirceDesk$Algebra", 82, ⟨"PeirceDesk$Rows", "reduce", "(I)I"⟩, "PeirceDesk"), ("PeirceDesk$Rows", 51, ⟨"PeirceDesk", "reduced", "(II)I"⟩, "PeirceDesk"), ("PeirceDesk$Algebra", 62, ⟨"PeirceDesk", "reduced", "(II)I"⟩, "PeirceDesk"), ("PeirceDesk", 83, ⟨"PeirceDesk$Algebra", "takeIdentityAsBase", "()V"⟩, "PeirceDesk"), ("PeirceDesk$Algebra", 103, ⟨"PeirceDesk$State", "writeIdentity", "([I)V"⟩, "PeirceDesk"), ("PeirceDesk", 86, ⟨"PeirceDesk$Algebra", "takeAsBase", "([I)V"⟩, "PeirceDesk"), ("PeirceDesk$Algebra", 110, ⟨"PeirceDesk", "copy", "([I[I)V"⟩, "PeirceDesk"), ("PeirceDesk", 90, ⟨"PeirceDesk$Algebra", "isOwnSquare", "([I)Z"⟩, "PeirceDesk"), ("PeirceDesk$Algebra", 116, ⟨"PeirceDesk", "same", "([I[I)Z"⟩, "PeirceDesk"), ("PeirceDesk", 94, ⟨"PeirceDesk$Algebra", "findParts", "([I[I)V"⟩, "PeirceDesk"), ("PeirceDesk", 107, ⟨"PeirceDesk$Pad", "findFault", "()I"⟩, "PeirceDesk"), ("PeirceDesk$Pad", 25, ⟨"PeirceDesk", "registerOf", "(C)I"⟩, "PeirceDesk"), ("PeirceDesk", 111, ⟨"PeirceDesk$Pad", "target", "()I"⟩, "PeirceDesk"), ("PeirceDesk", 114, ⟨"PeirceDesk$Reckoner", "carryOut", "(LPeirceDesk$Pad;LPeirceDesk$Algebra;)I"⟩, "PeirceDesk"), ("PeirceDesk$Reckoner", 29, ⟨"PeirceDesk$Frame", "open", "(CI)V"⟩, "PeirceDesk"), ("PeirceDesk$Reckoner", 32, ⟨"PeirceDesk$Pad", "target", "()I"⟩, "PeirceDesk"), ("PeirceDesk$Reckoner", 48, ⟨"PeirceDesk$Frame", "finish", "(LPeirceDesk$Algebra;)Z"⟩, "PeirceDesk"), ("PeirceDesk$Frame", 49, ⟨"PeirceDesk$Algebra", "product", "([I[I[I)V"⟩, "PeirceDesk"), ("PeirceDesk$Frame", 55, ⟨"PeirceDesk$Algebra", "operator", "([I[I[I)V"⟩, "PeirceDesk"), ("PeirceDesk$Frame", 58, ⟨"PeirceDesk$Algebra", "triple", "([I[I[I[I)V"⟩, "PeirceDesk"), ("PeirceDesk$Frame", 62, ⟨"PeirceDesk$Algebra", "inverse", "([I[I)Z"⟩, "PeirceDesk"), ("PeirceDesk$Reckoner", 74, ⟨"PeirceDesk$Frame", "add", "([II)V"⟩, "PeirceDesk"), ("PeirceDesk$Frame", 41, ⟨"PeirceDesk", "reduced", "(II)I"⟩, "PeirceDesk"), ("PeirceDesk$Reckoner", 78, ⟨"PeirceDesk", "registerOf", "(C)I"⟩, "PeirceDesk"), ("PeirceDesk$Reckoner", 92, ⟨"PeirceDesk$Frame", "keepArgument", "()V"⟩, "PeirceDesk"), ("PeirceDesk$Frame", 45, ⟨"PeirceDesk", "copy", "([I[I)V"⟩, "PeirceDesk"), ("PeirceDesk$Reckoner", 95, ⟨"PeirceDesk", "copy", "([I[I)V"⟩, "PeirceDesk"), ("PeirceDesk$Reckoner", 99, ⟨"PeirceDesk$Frame", "startSum", "()V"⟩, "PeirceDesk"), ("PeirceDesk", 118, ⟨"PeirceDesk$Reckoner", "result", "()[I"⟩, "PeirceDesk"), ("PeirceDesk", 128, ⟨"PeirceDesk$Algebra", "trace", "([I)I"⟩, "PeirceDesk"), ("PeirceDesk", 131, ⟨"PeirceDesk$Algebra", "rank", "([I)I"⟩, "PeirceDesk"), ("PeirceDesk", 134, ⟨"PeirceDesk$Algebra", "order", "([I)I"⟩, "PeirceDesk"), ("PeirceDesk", 137, ⟨"PeirceDesk$Algebra", "degree", "([I)I"⟩, "PeirceDesk"), ("PeirceDesk$Algebra", 127, ⟨"PeirceDesk$Rows", "loadAll", "([[III)V"⟩, "PeirceDesk"), ("PeirceDesk$Rows", 30, ⟨"PeirceDesk", "copy", "([I[I)V"⟩, "PeirceDesk"), ("PeirceDesk", 140, ⟨"PeirceDesk$Algebra", "leastZeroPower", "([I)I"⟩, "PeirceDesk"), ("PeirceDesk$Algebra", 123, ⟨"PeirceDesk", "isZero", "([I)Z"⟩, "PeirceDesk"), ("PeirceDesk", 154, ⟨"PeirceDesk$Algebra", "raise", "([II)V"⟩, "PeirceDesk"), ("PeirceDesk", 162, ⟨"PeirceDesk$Algebra", "tryRule", "([I[I[I)Z"⟩, "PeirceDesk"), ("PeirceDesk", 173, ⟨"PeirceDesk$Algebra", "countKind", "(I)I"⟩, "PeirceDesk"), ("PeirceDesk", 180, ⟨"PeirceDesk$Pad", "charactersIn", "(J)I"⟩, "PeirceDesk"), ("PeirceDesk", 184, ⟨"PeirceDesk$Pad", "append", "(JI)V"⟩, "PeirceDesk"), ("PeirceDesk", 188, ⟨"PeirceDesk$History", "takeBack", "(LPeirceDesk$State;)V"⟩, "PeirceDesk"), ("PeirceDesk", 191, ⟨"PeirceDesk$State", "copyFrom", "(LPeirceDesk$State;)V"⟩, "PeirceDesk")]
def gx_NW (U : State) : Prop := (∀ q ∈ gx_nF, va_Nw (.fieldLinkNest q.1 q.2.1 q.2.2.1 q.2.2.2.1 q.2.2.2.2.1 q.2.2.2.2.2) U) ∧ (∀ q ∈ gx_nM, va_Nw (.methodLinkNest q.1 q.2.1 q.2.2.1 q.2.2.2) U)
theorem gx_NW.warm {s U : State} (hW : s.WarmedH U.vm) (h : gx_NW s) : gx_NW U := ⟨fun q hq => va_Nw.warmF hW (h.1 q hq), fun q hq => va_Nw.warmM hW (h.2 q hq)⟩
theorem gx_NW.same {u U : State} (hvm : u.vm = U.vm) (h : gx_NW u) : gx_NW U := ⟨fun q hq => va_Nw.same rfl hvm (h.1 q hq), fun q hq => va_Nw.same rfl hvm (h.2 q hq)⟩
def gx_B (D : va_G) (tc : Nat → ClassId) (ad : Nat → Nat) (La : List gx_K) (sz : Nat) (M : gx_M) (U : State) : Prop :=
  U.heap.size = sz ∧ va_P D vwCl (gx_w La tc ad M) U.heap ∧ va_K D vwCl (gx_tys tc) U ∧ gx_NW U ∧ ∀ i j, i < La.length → j < La.length → ad i = ad j → i = j
theorem gx_blind (av : List Value) (D : va_G) (tc : Nat → ClassId) (ad : Nat → Nat) (La : List gx_K) (sz : Nat) (M : gx_M) : FrameBlind (va_Pc av (gx_B D tc ad La sz M)) := by
  intro a U g mk h
  obtain ⟨h0, h1, h2, h3, h4, h5⟩ := h
  exact ⟨h0, h1, h2, va_K.moved (u := U) (U := U.calling g mk a) (Vm.Alike.refl U.vm) h3, gx_NW.same (u := U) rfl h4, h5⟩
def gx_rm (d : Nat) : Room := { frames := d, cells := 0, slots := 0, locals := 37 * d }
/-- a method that answers an int -/
def gx_Ci (La : List gx_K) (y : MethodName) (ws : List Cond) (d : Nat) (av : List gx_V) (M : gx_M) (post : Int → gx_M → Prop) : Prop :=
  ∀ (l : Launch) (D : va_G) (tc : Nat → ClassId) (ad : Nat → Nat) (sz : Nat), Met l y ws (gx_rm d) (va_Pc (av.map (gx_T ad)) (gx_B D tc ad La sz M)) (va_Qi (fun r (M' : gx_M) => ∃ z, r = gx_i z ∧ post z M') (fun M' t => va_P D vwCl (gx_w La tc ad M') t.heap) (gx_A ad La.length sz)) 0 0 (gx_A ad La.length sz)
/-- a method that answers nothing -/
def gx_Cv (La : List gx_K) (y : MethodName) (ws : List Cond) (d : Nat) (av : List gx_V) (M : gx_M) (post : gx_M → Prop) : Prop :=
  ∀ (l : Launch) (D : va_G) (tc : Nat → ClassId) (ad : Nat → Nat) (sz : Nat), Met l y ws (gx_rm d) (va_Pc (av.map (gx_T ad)) (gx_B D tc ad La sz M)) (va_Qv (fun (M' : gx_M) => post M') (fun M' t => va_P D vwCl (gx_w La tc ad M') t.heap) (gx_A ad La.length sz)) 0 0 (gx_A ad La.length sz)
/-- a method that answers a cell -/
def gx_Cr (La : List gx_K) (y : MethodName) (ws : List Cond) (d : Nat) (av : List gx_V) (M : gx_M) (post : Nat → gx_M → Prop) : Prop :=
  ∀ (l : Launch) (D : va_G) (tc : Nat → ClassId) (ad : Nat → Nat) (sz : Nat), Met l y ws (gx_rm d) (va_Pc (av.map (gx_T ad)) (gx_B D tc ad La sz M)) (va_Qr (fun (u : Nat × gx_M) => post u.1 u.2) (fun u q t => q = ad u.1 ∧ va_P D vwCl (gx_w La tc ad u.2) t.heap) (gx_A ad La.length sz)) 0 0 (gx_A ad La.length sz)
/-- what stands throughout a method's run -/
def gx_C (p : Program) (R : Room) (s : State) (m : MethodId) (args : Array Value) (meth : Method) (c : Code) (cc : ByteArray) (own : String) (nL : Nat) (Ts : List Cond) (ret : Option FieldType) (D : va_G) (tc : Nat → ClassId) (ad : Nat → Nat) (La : List gx_K) (A : Nat → Prop) (H0 : Heap) : Prop :=
  p.tables.exec = Jvm.exec ∧ c.code = cc ∧ c.maxLocals = nL ∧ s.vm.findClass own = some m.cls ∧ (∀ w ∈ Ts, w.before args s = true) ∧ va_K D vwCl (gx_tys tc) s ∧ gx_NW s ∧ meth.locks = false ∧ meth.sig.returnType = ret ∧ (∀ i j, i < La.length → j < La.length → ad i = ad j → i = j) ∧ (∀ i, i < La.length → A (ad i)) ∧ (∀ q, H0.size ≤ q → A q)
section GXC
variable {p : Program} {l : Launch} {e : Env} {R : Room} {s : State} {m : MethodId} {args : Array Value} {below : List Frame} {meth : Method} {c : Code} {cells slots : Nat} {Q : State → Prop}
variable {cc : ByteArray} {own : String} {nL : Nat} {Ts : List Cond} {ret : Option FieldType} {D : va_G} {tc : Nat → ClassId} {ad : Nat → Nat} {La : List gx_K} {A : Nat → Prop} {H0 : Heap}
theorem gx_hx (C : gx_C p R s m args meth c cc own nL Ts ret D tc ad La A H0) : p.tables.exec = Jvm.exec := C.1
theorem gx_hb (C : gx_C p R s m args meth c cc own nL Ts ret D tc ad La A H0) : c.code = cc := C.2.1
theorem gx_hml (C : gx_C p R s m args meth c cc own nL Ts ret D tc ad La A H0) : c.maxLocals = nL := C.2.2.1
theorem gx_hown (C : gx_C p R s m args meth c cc own nL Ts ret D tc ad La A H0) : s.vm.findClass own = some m.cls := C.2.2.2.1
theorem gx_hts (C : gx_C p R s m args meth c cc own nL Ts ret D tc ad La A H0) : ∀ w ∈ Ts, w.before args s = true := C.2.2.2.2.1
theorem gx_hK (C : gx_C p R s m args meth c cc own nL Ts ret D tc ad La A H0) : va_K D vwCl (gx_tys tc) s := C.2.2.2.2.2.1
theorem gx_hN (C : gx_C p R s m args meth c cc own nL Ts ret D tc ad La A H0) : gx_NW s := C.2.2.2.2.2.2.1
theorem gx_hlk (C : gx_C p R s m args meth c cc own nL Ts ret D tc ad La A H0) : meth.locks = false := C.2.2.2.2.2.2.2.1
theorem gx_hret (C : gx_C p R s m args meth c cc own nL Ts ret D tc ad La A H0) : meth.sig.returnType = ret := C.2.2.2.2.2.2.2.2.1
theorem gx_inj (C : gx_C p R s m args meth c cc own nL Ts ret D tc ad La A H0) : ∀ i j, i < La.length → j < La.length → ad i = ad j → i = j := C.2.2.2.2.2.2.2.2.2.1
theorem gx_hA (C : gx_C p R s m args meth c cc own nL Ts ret D tc ad La A H0) : ∀ i, i < La.length → A (ad i) := C.2.2.2.2.2.2.2.2.2.2.1
theorem gx_hA0 (C : gx_C p R s m args meth c cc own nL Ts ret D tc ad La A H0) : ∀ q, H0.size ≤ q → A q := C.2.2.2.2.2.2.2.2.2.2.2
theorem gx_Dw (C : gx_C p R s m args meth c cc own nL Ts ret D tc ad La A H0) (M : gx_M) : va_D A (gx_w La tc ad M) := by
  refine ⟨fun i j x y hi hj he => ?_, fun k x hk => ?_⟩
  · obtain ⟨h1, h2⟩ := gx_of hi
    obtain ⟨h3, h4⟩ := gx_of hj
    exact gx_inj C i j h1 h3 (by rw [← h2, ← h4]; exact he)
  · obtain ⟨h1, h2⟩ := gx_of hk
    rw [h2]
    exact gx_hA C k h1
/-- the judgement: from here, with these locals, this stack, these numbers, the method comes to its end as it should -/
def gx_G (p : Program) (l : Launch) (e : Env) (R : Room) (s : State) (m : MethodId) (args : Array Value) (below : List Frame) (meth : Method) (c : Code) (cells slots : Nat) (Q : State → Prop) (nL : Nat) (D : va_G) (tc : Nat → ClassId) (ad : Nat → Nat) (La : List gx_K) (A : Nat → Prop) (H0 : Heap) (pc : Nat) (L st : List gx_V) (M : gx_M) : Prop :=
  ∀ (H : Heap) (locs : List Loc) (ls : Array Slot), va_P D vwCl (gx_w La tc ad M) H → va_S A H0 H locs → lv_has ls nL (gx_l ad 0 L) → W p l e R s m args below meth c H locs cells slots Q (F0 m pc ls (st.map (gx_T ad)))
variable {pc : Nat} {L st : List gx_V} {M : gx_M}
/-- fewer locals are known -/
theorem gx_weak {L' : List gx_V} (hs : gx_sub' L' L) (k : gx_G p l e R s m args below meth c cells slots Q nL D tc ad La A H0 pc L' st M) : gx_G p l e R s m args below meth c cells slots Q nL D tc ad La A H0 pc L st M := fun H locs ls hP hS hl => k H locs ls hP hS (gx_lsub hs hl)
theorem gx_iconst (C : gx_C p R s m args meth c cc own nL Ts ret D tc ad La A H0) {n : Int} (d : decode cc pc = .ok (.iconst n, 1)) (k : gx_G p l e R s m args below meth c cells slots Q nL D tc ad La A H0 (pc + 1) L (gx_I n :: st) M) : gx_G p l e R s m args below meth c cells slots Q nL D tc ad La A H0 pc L st M :=
  fun H locs ls hP hS hl => lv_iconst (v := gx_i n) (gx_hx C) (gx_hb C) d rfl (k H locs ls hP hS hl)
theorem gx_bipush (C : gx_C p R s m args meth c cc own nL Ts ret D tc ad La A H0) {n : Int} (d : decode cc pc = .ok (.bipush n, 2)) (hn : (Int8.ofInt n).toInt32 = gx_i n) (k : gx_G p l e R s m args below meth c cells slots Q nL D tc ad La A H0 (pc + 2) L (gx_I n :: st) M) : gx_G p l e R s m args below meth c cells slots Q nL D tc ad La A H0 pc L st M :=
  fun H locs ls hP hS hl => lv_bipush (v := gx_i n) (gx_hx C) (gx_hb C) d hn (k H locs ls hP hS hl)
theorem gx_sipush (C : gx_C p R s m args meth c cc own nL Ts ret D tc ad La A H0) {n : Int} (d : decode cc pc = .ok (.sipush n, 3)) (hn : (Int16.ofInt n).toInt32 = gx_i n) (k : gx_G p l e R s m args below meth c cells slots Q nL D tc ad La A H0 (pc + 3) L (gx_I n :: st) M) : gx_G p l e R s m args below meth c cells slots Q nL D tc ad La A H0 pc L st M :=
  fun H locs ls hP hS hl => lv_sipush (v := gx_i n) (gx_hx C) (gx_hb C) d hn (k H locs ls hP hS hl)
theorem gx_iload (C : gx_C p R s m args meth c cc own nL Ts ret D tc ad La A H0) {i : Nat} {z : Int} (d : decode cc pc = .ok (.iload i, 2)) (h : L[i]? = some (gx_I z)) (k : gx_G p l e R s m args below meth c cells slots Q nL D tc ad La A H0 (pc + 2) L (gx_I z :: st) M) : gx_G p l e R s m args below meth c cells slots Q nL D tc ad La A H0 pc L st M :=
  fun H locs ls hP hS hl => lv_iload (x := gx_i z) (gx_hx C) (gx_hb C) d (gx_lat hl h (by simp)) (k H locs ls hP hS hl)
theorem gx_iload_n (C : gx_C p R s m args meth c cc own nL Ts ret D tc ad La A H0) {i : Fin 4} {z : Int} (d : decode cc pc = .ok (.iload_n i, 1)) (h : L[(i : Nat)]? = some (gx_I z)) (k : gx_G p l e R s m args below meth c cells slots Q nL D tc ad La A H0 (pc + 1) L (gx_I z :: st) M) : gx_G p l e R s m args below meth c cells slots Q nL D tc ad La A H0 pc L st M :=
  fun H locs ls hP hS hl => lv_iload_n (x := gx_i z) (gx_hx C) (gx_hb C) d rfl (gx_lat hl h (by simp)) (k H locs ls hP hS hl)
theorem gx_aload (C : gx_C p R s m args meth c cc own nL Ts ret D tc ad La A H0) {i : Nat} {z : Nat} (d : decode cc pc = .ok (.aload i, 2)) (h : L[i]? = some (gx_R z)) (k : gx_G p l e R s m args below meth c cells slots Q nL D tc ad La A H0 (pc + 2) L (gx_R z :: st) M) : gx_G p l e R s m args below meth c cells slots Q nL D tc ad La A H0 pc L st M :=
  fun H locs ls hP hS hl => lv_aload (x := ad z) (gx_hx C) (gx_hb C) d (gx_lat hl h (by simp)) (k H locs ls hP hS hl)
theorem gx_aload_n (C : gx_C p R s m args meth c cc own nL Ts ret D tc ad La A H0) {i : Fin 4} {z : Nat} (d : decode cc pc = .ok (.aload_n i, 1)) (h : L[(i : Nat)]? = some (gx_R z)) (k : gx_G p l e R s m args below meth c cells slots Q nL D tc ad La A H0 (pc + 1) L (gx_R z :: st) M) : gx_G p l e R s m args below meth c cells slots Q nL D tc ad La A H0 pc L st M :=
  fun H locs ls hP hS hl => lv_aload_n (x := ad z) (gx_hx C) (gx_hb C) d rfl (gx_lat hl h (by simp)) (k H locs ls hP hS hl)
theorem gx_lload (C : gx_C p R s m args meth c cc own nL Ts ret D tc ad La A H0) {i : Nat} {z : Int64} (d : decode cc pc = .ok (.lload i, 2)) (h : L[i]? = some (gx_J z)) (k : gx_G p l e R s m args below meth c cells slots Q nL D tc ad La A H0 (pc + 2) L (gx_J z :: st) M) : gx_G p l e R s m args below meth c cells slots Q nL D tc ad La A H0 pc L st M :=
  fun H locs ls hP hS hl => lv_lload (x := z) (gx_hx C) (gx_hb C) d (gx_lat hl h (by simp)) (k H locs ls hP hS hl)
theorem gx_lload_n (C : gx_C p R s m args meth c cc own nL Ts ret D tc ad La A H0) {i : Fin 4} {z : Int64} (d : decode cc pc = .ok (.lload_n i, 1)) (h : L[(i : Nat)]? = some (gx_J z)) (k : gx_G p l e R s m args below meth c cells slots Q nL D tc ad La A H0 (pc + 1) L (gx_J z :: st) M) : gx_G p l e R s m args below meth c cells slots Q nL D tc ad La A H0 pc L st M :=
  fun H locs ls hP hS hl => lv_lload_n (x := z) (gx_hx C) (gx_hb C) d rfl (gx_lat hl h (by simp)) (k H locs ls hP hS hl)
theorem gx_istore (C : gx_C p R s m args meth c cc own nL Ts ret D tc ad La A H0) {i : Nat} {z : Int} (d : decode cc pc = .ok (.istore i, 2)) (hn : i < nL) (hok : gx_ok L i = true) (k : gx_G p l e R s m args below meth c cells slots Q nL D tc ad La A H0 (pc + 2) (L.set i (gx_I z)) st M) : gx_G p l e R s m args below meth c cells slots Q nL D tc ad La A H0 pc L (gx_I z :: st) M :=
  fun H locs ls hP hS hl => lv_istore (x := gx_i z) (gx_hx C) (gx_hb C) d hl hn rfl (fun ls' hl' => k H locs ls' hP hS (gx_lset (v := gx_I z) hok hl'))
theorem gx_istore_n (C : gx_C p R s m args meth c cc own nL Ts ret D tc ad La A H0) {i : Fin 4} {z : Int} (d : decode cc pc = .ok (.istore_n i, 1)) (hn : (i : Nat) < nL) (hok : gx_ok L (i : Nat) = true) (k : gx_G p l e R s m args below meth c cells slots Q nL D tc ad La A H0 (pc + 1) (L.set (i : Nat) (gx_I z)) st M) : gx_G p l e R s m args below meth c cells slots Q nL D tc ad La A H0 pc L (gx_I z :: st) M :=
  fun H locs ls hP hS hl => lv_istore_n (x := gx_i z) (gx_hx C) (gx_hb C) d rfl hl hn rfl (fun ls' hl' => k H locs ls' hP hS (gx_lset (v := gx_I z) hok hl'))
theorem gx_astore (C : gx_C p R s m args meth c cc own nL Ts ret D tc ad La A H0) {i : Nat} {z : Nat} (d : decode cc pc = .ok (.astore i, 2)) (hn : i < nL) (hok : gx_ok L i = true) (k : gx_G p l e R s m args below meth c cells slots Q nL D tc ad La A H0 (pc + 2) (L.set i (gx_R z)) st M) : gx_G p l e R s m args below meth c cells slots Q nL D tc ad La A H0 pc L (gx_R z :: st) M :=
  fun H locs ls hP hS hl => lv_astore (x := ad z) (gx_hx C) (gx_hb C) d hl hn rfl (fun ls' hl' => k H locs ls' hP hS (gx_lset (v := gx_R z) hok hl'))
theorem gx_astore_n (C : gx_C p R s m args meth c cc own nL Ts ret D tc ad La A H0) {i : Fin 4} {z : Nat} (d : decode cc pc = .ok (.astore_n i, 1)) (hn : (i : Nat) < nL) (hok : gx_ok L (i : Nat) = true) (k : gx_G p l e R s m args below meth c cells slots Q nL D tc ad La A H0 (pc + 1) (L.set (i : Nat) (gx_R z)) st M) : gx_G p l e R s m args below meth c cells slots Q nL D tc ad La A H0 pc L (gx_R z :: st) M :=
  fun H locs ls hP hS hl => lv_astore_n (x := ad z) (gx_hx C) (gx_hb C) d rfl hl hn rfl (fun ls' hl' => k H locs ls' hP hS (gx_lset (v := gx_R z) hok hl'))
theorem gx_lstore (C : gx_C p R s m args meth c cc own nL Ts ret D tc ad La A H0) {i : Nat} {z : Int64} (d : decode cc pc = .ok (.lstore i, 2)) (hn : i + 1 < nL) (hok : gx_ok L i = true) (k : gx_G p l e R s m args below meth c cells slots Q nL D tc ad La A H0 (pc + 2) ((L.set i (gx_J z)).set (i + 1) gx_U) st M) : gx_G p l e R s m args below meth c cells slots Q nL D tc ad La A H0 pc L (gx_J z :: st) M :=
  fun H locs ls hP hS hl => lv_lstore (x := z) (gx_hx C) (gx_hb C) d hl hn rfl (fun ls' hl' => k H locs ls' hP hS (gx_lset2 (v := gx_J z) hok hl'))
theorem gx_lstore_n (C : gx_C p R s m args meth c cc own nL Ts ret D tc ad La A H0) {i : Fin 4} {z : Int64} (d : decode cc pc = .ok (.lstore_n i, 1)) (hn : (i : Nat) + 1 < nL) (hok : gx_ok L (i : Nat) = true) (k : gx_G p l e R s m args below meth c cells slots Q nL D tc ad La A H0 (pc + 1) ((L.set (i : Nat) (gx_J z)).set ((i : Nat) + 1) gx_U) st M) : gx_G p l e R s m args below meth c cells slots Q nL D tc ad La A H0 pc L (gx_J z :: st) M :=
  fun H locs ls hP hS hl => lv_lstore_n (x := z) (gx_hx C) (gx_hb C) d rfl hl hn rfl (fun ls' hl' => k H locs ls' hP hS (gx_lset2 (v := gx_J z) hok hl'))
theorem gx_iinc (C : gx_C p R s m args meth c cc own nL Ts ret D tc ad La A H0) {i : Nat} {n z : Int} (d : decode cc pc = .ok (.iinc i n, 3)) (hn : i < nL) (hok : gx_ok L i = true) (h : L[i]? = some (gx_I z)) (k : gx_G p l e R s m args below meth c cells slots Q nL D tc ad La A H0 (pc + 3) (L.set i (gx_I (z + n))) st M) : gx_G p l e R s m args below meth c cells slots Q nL D tc ad La A H0 pc L st M := by
  intro H locs ls hP hS hl
  obtain ⟨k9, hk9⟩ := List.getElem?_of_mem (gx_l_in (ad := ad) L 0 i _ h (by simp))
  rw [Nat.zero_add] at hk9
  exact lv_iinc (x := gx_i z) (v := gx_i (z + n)) (gx_hx C) (gx_hb C) d hl hk9 (gx_add z n) hn rfl (fun ls' hl' => k H locs ls' hP hS (gx_lset (v := gx_I (z + n)) hok hl'))
theorem gx_iadd (C : gx_C p R s m args meth c cc own nL Ts ret D tc ad La A H0) {x y : Int} (d : decode cc pc = .ok (.iadd, 1)) (k : gx_G p l e R s m args below meth c cells slots Q nL D tc ad La A H0 (pc + 1) L (gx_I (x + y) :: st) M) : gx_G p l e R s m args below meth c cells slots Q nL D tc ad La A H0 pc L (gx_I y :: gx_I x :: st) M :=
  fun H locs ls hP hS hl => lv_iadd (gx_hx C) (gx_hb C) d (by rw [gx_add]; exact k H locs ls hP hS hl)
theorem gx_isub (C : gx_C p R s m args meth c cc own nL Ts ret D tc ad La A H0) {x y : Int} (d : decode cc pc = .ok (.isub, 1)) (k : gx_G p l e R s m args below meth c cells slots Q nL D tc ad La A H0 (pc + 1) L (gx_I (x - y) :: st) M) : gx_G p l e R s m args below meth c cells slots Q nL D tc ad La A H0 pc L (gx_I y :: gx_I x :: st) M :=
  fun H locs ls hP hS hl => lv_isub (gx_hx C) (gx_hb C) d (by rw [gx_sub]; exact k H locs ls hP hS hl)
theorem gx_imul (C : gx_C p R s m args meth c cc own nL Ts ret D tc ad La A H0) {x y : Int} (d : decode cc pc = .ok (.imul, 1)) (k : gx_G p l e R s m args below meth c cells slots Q nL D tc ad La A H0 (pc + 1) L (gx_I (x * y) :: st) M) : gx_G p l e R s m args below meth c cells slots Q nL D tc ad La A H0 pc L (gx_I y :: gx_I x :: st) M :=
  fun H locs ls hP hS hl => lv_imul (gx_hx C) (gx_hb C) d (by rw [gx_mul]; exact k H locs ls hP hS hl)
theorem gx_ineg (C : gx_C p R s m args meth c cc own nL Ts ret D tc ad La A H0) {x : Int} (d : decode cc pc = .ok (.ineg, 1)) (k : gx_G p l e R s m args below meth c cells slots Q nL D tc ad La A H0 (pc + 1) L (gx_I (-x) :: st) M) : gx_G p l e R s m args below meth c cells slots Q nL D tc ad La A H0 pc L (gx_I x :: st) M :=
  fun H locs ls hP hS hl => lv_ineg (gx_hx C) (gx_hb C) d (by rw [gx_neg]; exact k H locs ls hP hS hl)
theorem gx_idiv (C : gx_C p R s m args meth c cc own nL Ts ret D tc ad La A H0) {x y v : Int} (d : decode cc pc = .ok (.idiv, 1)) (hx : gx_3 x) (hy : gx_3 y) (h0 : y ≠ 0) (hv : x.tdiv y = v) (k : gx_G p l e R s m args below meth c cells slots Q nL D tc ad La A H0 (pc + 1) L (gx_I v :: st) M) : gx_G p l e R s m args below meth c cells slots Q nL D tc ad La A H0 pc L (gx_I y :: gx_I x :: st) M :=
  fun H locs ls hP hS hl => lv_idiv (gx_hx C) (gx_hb C) d (gx_ne0 hy h0) (by rw [gx_div hx hy h0, hv]; exact k H locs ls hP hS hl)
theorem gx_irem (C : gx_C p R s m args meth c cc own nL Ts ret D tc ad La A H0) {x y v : Int} (d : decode cc pc = .ok (.irem, 1)) (hx : gx_3 x) (hy : gx_3 y) (h0 : y ≠ 0) (hv : x.tmod y = v) (k : gx_G p l e R s m args below meth c cells slots Q nL D tc ad La A H0 (pc + 1) L (gx_I v :: st) M) : gx_G p l e R s m args below meth c cells slots Q nL D tc ad La A H0 pc L (gx_I y :: gx_I x :: st) M :=
  fun H locs ls hP hS hl => lv_irem (gx_hx C) (gx_hb C) d (gx_ne0 hy h0) (by rw [gx_rem hx hy h0, hv]; exact k H locs ls hP hS hl)
theorem gx_goto (C : gx_C p R s m args meth c cc own nL Ts ret D tc ad La A H0) {off : Int} {tgt : Nat} (d : decode cc pc = .ok (.goto off, 3)) (ht : (pc : Int) + off = (tgt : Int)) (k : gx_G p l e R s m args below meth c cells slots Q nL D tc ad La A H0 tgt L st M) : gx_G p l e R s m args below meth c cells slots Q nL D tc ad La A H0 pc L st M :=
  fun H locs ls hP hS hl => lv_goto (gx_hx C) (gx_hb C) d ht (k H locs ls hP hS hl)
theorem gx_dup (C : gx_C p R s m args meth c cc own nL Ts ret D tc ad La A H0) {v : gx_V} (d : decode cc pc = .ok (.dup, 1)) (hv : gx_ok [v] 1 = true) (k : gx_G p l e R s m args below meth c cells slots Q nL D tc ad La A H0 (pc + 1) L (v :: v :: st) M) : gx_G p l e R s m args below meth c cells slots Q nL D tc ad La A H0 pc L (v :: st) M :=
  fun H locs ls hP hS hl => lv_dup (va := gx_T ad v) (gx_hx C) (gx_hb C) d (by match v, hv with | .inl z, _ => rfl | .inr (.inl z), _ => rfl | .inr (.inr (.inr z)), _ => rfl) (k H locs ls hP hS hl)
theorem gx_dup2 (C : gx_C p R s m args meth c cc own nL Ts ret D tc ad La A H0) {v w : gx_V} (d : decode cc pc = .ok (.dup2, 1)) (hv : gx_ok [v] 1 = true) (hw : gx_ok [w] 1 = true) (k : gx_G p l e R s m args below meth c cells slots Q nL D tc ad La A H0 (pc + 1) L (v :: w :: v :: w :: st) M) : gx_G p l e R s m args below meth c cells slots Q nL D tc ad La A H0 pc L (v :: w :: st) M :=
  fun H locs ls hP hS hl => lv_dup2_11 (va := gx_T ad v) (vb := gx_T ad w) (gx_hx C) (gx_hb C) d (by match v, hv with | .inl z, _ => rfl | .inr (.inl z), _ => rfl | .inr (.inr (.inr z)), _ => rfl) (by match w, hw with | .inl z, _ => rfl | .inr (.inl z), _ => rfl | .inr (.inr (.inr z)), _ => rfl) (k H locs ls hP hS hl)
theorem gx_icmp_lt (C : gx_C p R s m args meth c cc own nL Ts ret D tc ad La A H0) {x y off : Int} {tgt : Nat} (d : decode cc pc = .ok (.if_icmp .lt off, 3)) (ht : (pc : Int) + off = (tgt : Int)) (hx : gx_3 x) (hy : gx_3 y) (kt : x < y → gx_G p l e R s m args below meth c cells slots Q nL D tc ad La A H0 tgt L st M) (kf : ¬ (x < y) → gx_G p l e R s m args below meth c cells slots Q nL D tc ad La A H0 (pc + 3) L st M) : gx_G p l e R s m args below meth c cells slots Q nL D tc ad La A H0 pc L (gx_I y :: gx_I x :: st) M := by
  intro H locs ls hP hS hl
  refine lv_icmp_lt (gx_hx C) (gx_hb C) d ht (fun h => kt ?_ H locs ls hP hS hl) (fun h => kf ?_ H locs ls hP hS hl)
  · first | exact (gx_lt hx hy).mp h | exact (gx_lt hx hy).mp (by simpa using h)
  · first | exact fun q => h ((gx_lt hx hy).mpr q) | exact fun q => h (by simpa using (gx_lt hx hy).mpr q)
theorem gx_icmp_ge (C : gx_C p R s m args meth c cc own nL Ts ret D tc ad La A H0) {x y off : Int} {tgt : Nat} (d : decode cc pc = .ok (.if_icmp .ge off, 3)) (ht : (pc : Int) + off = (tgt : Int)) (hx : gx_3 x) (hy : gx_3 y) (kt : y ≤ x → gx_G p l e R s m args below meth c cells slots Q nL D tc ad La A H0 tgt L st M) (kf : ¬ (y ≤ x) → gx_G p l e R s m args below meth c cells slots Q nL D tc ad La A H0 (pc + 3) L st M) : gx_G p l e R s m args below meth c cells slots Q nL D tc ad La A H0 pc L (gx_I y :: gx_I x :: st) M := by
  intro H locs ls hP hS hl
  refine lv_icmp_ge (gx_hx C) (gx_hb C) d ht (fun h => kt ?_ H locs ls hP hS hl) (fun h => kf ?_ H locs ls hP hS hl)
  · first | exact (gx_le hy hx).mp h | exact (gx_le hy hx).mp (by simpa using h)
  · first | exact fun q => h ((gx_le hy hx).mpr q) | exact fun q => h (by simpa using (gx_le hy hx).mpr q)
theorem gx_icmp_gt (C : gx_C p R s m args meth c cc own nL Ts ret D tc ad La A H0) {x y off : Int} {tgt : Nat} (d : decode cc pc = .ok (.if_icmp .gt off, 3)) (ht : (pc : Int) + off = (tgt : Int)) (hx : gx_3 x) (hy : gx_3 y) (kt : y < x → gx_G p l e R s m args below meth c cells slots Q nL D tc ad La A H0 tgt L st M) (kf : ¬ (y < x) → gx_G p l e R s m args below meth c cells slots Q nL D tc ad La A H0 (pc + 3) L st M) : gx_G p l e R s m args below meth c cells slots Q nL D tc ad La A H0 pc L (gx_I y :: gx_I x :: st) M := by
  intro H locs ls hP hS hl
  refine lv_icmp_gt (gx_hx C) (gx_hb C) d ht (fun h => kt ?_ H locs ls hP hS hl) (fun h => kf ?_ H locs ls hP hS hl)
  · first | exact (gx_lt hy hx).mp h | exact (gx_lt hy hx).mp (by simpa using h)
  · first | exact fun q => h ((gx_lt hy hx).mpr q) | exact fun q => h (by simpa using (gx_lt hy hx).mpr q)
theorem gx_icmp_le (C : gx_C p R s m args meth c cc own nL Ts ret D tc ad La A H0) {x y off : Int} {tgt : Nat} (d : decode cc pc = .ok (.if_icmp .le off, 3)) (ht : (pc : Int) + off = (tgt : Int)) (hx : gx_3 x) (hy : gx_3 y) (kt : x ≤ y → gx_G p l e R s m args below meth c cells slots Q nL D tc ad La A H0 tgt L st M) (kf : ¬ (x ≤ y) → gx_G p l e R s m args below meth c cells slots Q nL D tc ad La A H0 (pc + 3) L st M) : gx_G p l e R s m args below meth c cells slots Q nL D tc ad La A H0 pc L (gx_I y :: gx_I x :: st) M := by
  intro H locs ls hP hS hl
  refine lv_icmp_le (gx_hx C) (gx_hb C) d ht (fun h => kt ?_ H locs ls hP hS hl) (fun h => kf ?_ H locs ls hP hS hl)
  · first | exact (gx_le hx hy).mp h | exact (gx_le hx hy).mp (by simpa using h)
  · first | exact fun q => h ((gx_le hx hy).mpr q) | exact fun q => h (by simpa using (gx_le hx hy).mpr q)
theorem gx_icmp_eq (C : gx_C p R s m args meth c cc own nL Ts ret D tc ad La A H0) {x y off : Int} {tgt : Nat} (d : decode cc pc = .ok (.if_icmp .eq off, 3)) (ht : (pc : Int) + off = (tgt : Int)) (hx : gx_3 x) (hy : gx_3 y) (kt : x = y → gx_G p l e R s m args below meth c cells slots Q nL D tc ad La A H0 tgt L st M) (kf : ¬ (x = y) → gx_G p l e R s m args below meth c cells slots Q nL D tc ad La A H0 (pc + 3) L st M) : gx_G p l e R s m args below meth c cells slots Q nL D tc ad La A H0 pc L (gx_I y :: gx_I x :: st) M := by
  intro H locs ls hP hS hl
  refine lv_icmp_eq (gx_hx C) (gx_hb C) d ht (fun h => kt ?_ H locs ls hP hS hl) (fun h => kf ?_ H locs ls hP hS hl)
  · first | exact (gx_eq hx hy).mp h | exact (gx_eq hx hy).mp (by simpa using h)
  · first | exact fun q => h ((gx_eq hx hy).mpr q) | exact fun q => h (by simpa using (gx_eq hx hy).mpr q)
theorem gx_icmp_ne (C : gx_C p R s m args meth c cc own nL Ts ret D tc ad La A H0) {x y off : Int} {tgt : Nat} (d : decode cc pc = .ok (.if_icmp .ne off, 3)) (ht : (pc : Int) + off = (tgt : Int)) (hx : gx_3 x) (hy : gx_3 y) (kt : x ≠ y → gx_G p l e R s m args below meth c cells slots Q nL D tc ad La A H0 tgt L st M) (kf : ¬ (x ≠ y) → gx_G p l e R s m args below meth c cells slots Q nL D tc ad La A H0 (pc + 3) L st M) : gx_G p l e R s m args below meth c cells slots Q nL D tc ad La A H0 pc L (gx_I y :: gx_I x :: st) M := by
  intro H locs ls hP hS hl
  refine lv_icmp_ne (gx_hx C) (gx_hb C) d ht (fun h => kt ?_ H locs ls hP hS hl) (fun h => kf ?_ H locs ls hP hS hl)
  · first | exact (not_congr (gx_eq hx hy)).mp h | exact (not_congr (gx_eq hx hy)).mp (by simpa using h)
  · exact fun q => q ((gx_eq hx hy).mp h)
theorem gx_if_lt (C : gx_C p R s m args meth c cc own nL Ts ret D tc ad La A H0) {x off : Int} {tgt : Nat} (d : decode cc pc = .ok (.ifCond .lt off, 3)) (ht : (pc : Int) + off = (tgt : Int)) (hx : gx_3 x) (kt : x < 0 → gx_G p l e R s m args below meth c cells slots Q nL D tc ad La A H0 tgt L st M) (kf : ¬ (x < 0) → gx_G p l e R s m args below meth c cells slots Q nL D tc ad La A H0 (pc + 3) L st M) : gx_G p l e R s m args below meth c cells slots Q nL D tc ad La A H0 pc L (gx_I x :: st) M := by
  intro H locs ls hP hS hl
  have hy : gx_3 0 := gx_30
  refine lv_if_lt (gx_hx C) (gx_hb C) d ht (fun h => kt ?_ H locs ls hP hS hl) (fun h => kf ?_ H locs ls hP hS hl)
  · first | exact (gx_lt hx hy).mp h | exact (gx_lt hx hy).mp (by simpa using h)
  · first | exact fun q => h ((gx_lt hx hy).mpr q) | exact fun q => h (by simpa using (gx_lt hx hy).mpr q)
theorem gx_if_ge (C : gx_C p R s m args meth c cc own nL Ts ret D tc ad La A H0) {x off : Int} {tgt : Nat} (d : decode cc pc = .ok (.ifCond .ge off, 3)) (ht : (pc : Int) + off = (tgt : Int)) (hx : gx_3 x) (kt : 0 ≤ x → gx_G p l e R s m args below meth c cells slots Q nL D tc ad La A H0 tgt L st M) (kf : ¬ (0 ≤ x) → gx_G p l e R s m args below meth c cells slots Q nL D tc ad La A H0 (pc + 3) L st M) : gx_G p l e R s m args below meth c cells slots Q nL D tc ad La A H0 pc L (gx_I x :: st) M := by
  intro H locs ls hP hS hl
  have hy : gx_3 0 := gx_30
  refine lv_if_ge (gx_hx C) (gx_hb C) d ht (fun h => kt ?_ H locs ls hP hS hl) (fun h => kf ?_ H locs ls hP hS hl)
  · first | exact (gx_le hy hx).mp h | exact (gx_le hy hx).mp (by simpa using h)
  · first | exact fun q => h ((gx_le hy hx).mpr q) | exact fun q => h (by simpa using (gx_le hy hx).mpr q)
theorem gx_if_gt (C : gx_C p R s m args meth c cc own nL Ts ret D tc ad La A H0) {x off : Int} {tgt : Nat} (d : decode cc pc = .ok (.ifCond .gt off, 3)) (ht : (pc : Int) + off = (tgt : Int)) (hx : gx_3 x) (kt : 0 < x → gx_G p l e R s m args below meth c cells slots Q nL D tc ad La A H0 tgt L st M) (kf : ¬ (0 < x) → gx_G p l e R s m args below meth c cells slots Q nL D tc ad La A H0 (pc + 3) L st M) : gx_G p l e R s m args below meth c cells slots Q nL D tc ad La A H0 pc L (gx_I x :: st) M := by
  intro H locs ls hP hS hl
  have hy : gx_3 0 := gx_30
  refine lv_if_gt (gx_hx C) (gx_hb C) d ht (fun h => kt ?_ H locs ls hP hS hl) (fun h => kf ?_ H locs ls hP hS hl)
  · first | exact (gx_lt hy hx).mp h | exact (gx_lt hy hx).mp (by simpa using h)
  · first | exact fun q => h ((gx_lt hy hx).mpr q) | exact fun q => h (by simpa using (gx_lt hy hx).mpr q)
theorem gx_if_le (C : gx_C p R s m args meth c cc own nL Ts ret D tc ad La A H0) {x off : Int} {tgt : Nat} (d : decode cc pc = .ok (.ifCond .le off, 3)) (ht : (pc : Int) + off = (tgt : Int)) (hx : gx_3 x) (kt : x ≤ 0 → gx_G p l e R s m args below meth c cells slots Q nL D tc ad La A H0 tgt L st M) (kf : ¬ (x ≤ 0) → gx_G p l e R s m args below meth c cells slots Q nL D tc ad La A H0 (pc + 3) L st M) : gx_G p l e R s m args below meth c cells slots Q nL D tc ad La A H0 pc L (gx_I x :: st) M := by
  intro H locs ls hP hS hl
  have hy : gx_3 0 := gx_30
  refine lv_if_le (gx_hx C) (gx_hb C) d ht (fun h => kt ?_ H locs ls hP hS hl) (fun h => kf ?_ H locs ls hP hS hl)
  · first | exact (gx_le hx hy).mp h | exact (gx_le hx hy).mp (by simpa using h)
  · first | exact fun q => h ((gx_le hx hy).mpr q) | exact fun q => h (by simpa using (gx_le hx hy).mpr q)
theorem gx_if_eq (C : gx_C p R s m args meth c cc own nL Ts ret D tc ad La A H0) {x off : Int} {tgt : Nat} (d : decode cc pc = .ok (.ifCond .eq off, 3)) (ht : (pc : Int) + off = (tgt : Int)) (hx : gx_3 x) (kt : x = 0 → gx_G p l e R s m args below meth c cells slots Q nL D tc ad La A H0 tgt L st M) (kf : ¬ (x = 0) → gx_G p l e R s m args below meth c cells slots Q nL D tc ad La A H0 (pc + 3) L st M) : gx_G p l e R s m args below meth c cells slots Q nL D tc ad La A H0 pc L (gx_I x :: st) M := by
  intro H locs ls hP hS hl
  have hy : gx_3 0 := gx_30
  refine lv_if_eq (gx_hx C) (gx_hb C) d ht (fun h => kt ?_ H locs ls hP hS hl) (fun h => kf ?_ H locs ls hP hS hl)
  · first | exact (gx_eq hx hy).mp h | exact (gx_eq hx hy).mp (by simpa using h)
  · first | exact fun q => h ((gx_eq hx hy).mpr q) | exact fun q => h (by simpa using (gx_eq hx hy).mpr q)
theorem gx_if_ne (C : gx_C p R s m args meth c cc own nL Ts ret D tc ad La A H0) {x off : Int} {tgt : Nat} (d : decode cc pc = .ok (.ifCond .ne off, 3)) (ht : (pc : Int) + off = (tgt : Int)) (hx : gx_3 x) (kt : x ≠ 0 → gx_G p l e R s m args below meth c cells slots Q nL D tc ad La A H0 tgt L st M) (kf : ¬ (x ≠ 0) → gx_G p l e R s m args below meth c cells slots Q nL D tc ad La A H0 (pc + 3) L st M) : gx_G p l e R s m args below meth c cells slots Q nL D tc ad La A H0 pc L (gx_I x :: st) M := by
  intro H locs ls hP hS hl
  have hy : gx_3 0 := gx_30
  refine lv_if_ne (gx_hx C) (gx_hb C) d ht (fun h => kt ?_ H locs ls hP hS hl) (fun h => kf ?_ H locs ls hP hS hl)
  · first | exact (not_congr (gx_eq hx hy)).mp h | exact (not_congr (gx_eq hx hy)).mp (by simpa using h)
  · exact fun q => q ((gx_eq hx hy).mp h)
end GXC
end
section
theorem gx_mi {ad : Nat → Nat} {f : Nat → Int} {fs : List (Option Nat)} {k : Nat} {x : Option Nat} (h : fs[k]? = some x) : (fs.mapIdx (gx_F ad f))[k]? = some (gx_F ad f k x) := by simp [List.getElem?_mapIdx, h]
theorem gx_ms {ad : Nat → Nat} {f : Nat → Int} {fs : List (Option Nat)} {k : Nat} {v : Int} (h : fs[k]? = some none) : (fs.mapIdx (gx_F ad f)).set k (.int (gx_i v)) = fs.mapIdx (gx_F ad (fun j => if j = k then v else f j)) := by
  have hk : k < fs.length := (List.getElem?_eq_some_iff.mp h).1
  refine List.ext_getElem? (fun i => ?_)
  by_cases e : k = i
  · subst e
    rw [List.getElem?_set_self (by simpa using hk), gx_mi h]
    simp [gx_F]
  · rw [List.getElem?_set_ne e, List.getElem?_mapIdx, List.getElem?_mapIdx]
    cases fs[i]? with
    | none => rfl
    | some x =>
      cases x with
      | none => simp [gx_F, show ¬ i = k from fun q => e q.symm]
      | some r => rfl
theorem gx_us {f : Nat → Int} {i v : Int} (h : gx_3 i) : upd (fun j => gx_i (f j)) (gx_i i).toNatClampNeg (gx_i v) = fun j => gx_i (if j = i.toNat then v else f j) := by
  funext j
  unfold upd
  rw [gx_nat h]
  by_cases e : j = i.toNat <;> simp [e]
theorem gx_narC {v : Int} (h : 0 ≤ v ∧ v < 65536) : vp_nar .char (gx_i v) = gx_i v := by
  rw [vp_nar_char]
  obtain ⟨n, rfl⟩ : ∃ n : Nat, v = n := ⟨v.toNat, by omega⟩
  have hn : n < 65536 := by omega
  unfold gx_i
  apply Int32.toBitVec_inj.mp
  show BitVec.setWidth 32 (BitVec.setWidth 16 (BitVec.ofInt 32 (n : Int))) = BitVec.ofInt 32 (n : Int)
  apply BitVec.eq_of_toNat_eq
  rw [BitVec.toNat_setWidth, BitVec.toNat_setWidth, BitVec.toNat_ofInt]
  have h2 : ((n : Int) % ((2 ^ 32 : Nat) : Int)).toNat = n := by omega
  rw [h2]
  omega
theorem gx_narZ {v : Int} (h : v = 0 ∨ v = 1) : vp_nar .boolean (gx_i v) = gx_i v := by
  rcases h with rfl | rfl <;> decide
theorem gx_nZ {v : Int} (h : v = 0 ∨ v = 1) : narrow .boolean (.int (gx_i v)) = .int (gx_i v) := by
  rcases h with rfl | rfl <;> rfl
theorem gx_fZ {v : Int} (h : v = 0 ∨ v = 1) : fits .boolean (.int (gx_i v)) = true := by
  rcases h with rfl | rfl <;> rfl
theorem gx_ht {D : va_G} {w : va_W} {t : State} {H : Heap} (ht : t.heap = H) (hP : va_P D vwCl w H) : va_P D vwCl w t.heap := by rw [ht]; exact hP
/-- words on the stack -/
def gx_c2 : gx_V → Nat
  | .inr (.inr (.inl _)) => 2
  | _ => 1
theorem gx_c2s {ad : Nat → Nat} (v : gx_V) : (gx_T ad v).category = gx_c2 v := by
  match v with
  | .inl z => rfl
  | .inr (.inl z) => rfl
  | .inr (.inr (.inl z)) => rfl
  | .inr (.inr (.inr ())) => rfl
theorem gx_cs {ad : Nat → Nat} {rest : List gx_V} (h : (rest.map gx_c2).sum ≤ 8) : ((rest.map (gx_T ad)).map fun v => v.category).sum ≤ 8 := by
  rw [List.map_map, show ((fun v : Value => v.category) ∘ gx_T ad) = gx_c2 from funext fun v => gx_c2s v]
  exact h
theorem gx_fC {v : Int} (h : 0 ≤ v ∧ v < 65536) : fits .char (.int (gx_i v)) = true := by
  have hn : narrow .char (.int (gx_i v)) = .int (gx_i v) := congrArg Value.int (gx_narC h)
  have h3 : gx_3 v := ⟨by omega, by omega⟩
  have a1 : 0 ≤ gx_i v := (gx_le gx_30 h3).mpr h.1
  have a2 : gx_i v ≤ 65535 := (gx_le (y := 65535) h3 ⟨by decide, by decide⟩).mpr (by omega)
  simp [fits, a1, a2]
section GXD
variable {p : Program} {l : Launch} {e : Env} {R : Room} {s : State} {m : MethodId} {args : Array Value} {below : List Frame} {meth : Method} {c : Code} {cells slots : Nat} {Q : State → Prop}
variable {cc : ByteArray} {own : String} {nL : Nat} {Ts : List Cond} {ret : Option FieldType} {D : va_G} {tc : Nat → ClassId} {ad : Nat → Nat} {La : List gx_K} {A : Nat → Prop} {H0 : Heap}
variable {pc : Nat} {L st : List gx_V} {M : gx_M}
theorem gx_putM {a k : Nat} {ci : Nat} {fs : List (Option Nat)} {v : Int} (hLa : La[a]? = some (.inl (ci, fs))) (hf : fs[k]? = some none) : (gx_w La tc ad M).set a (ad a, .inr (ci, (fs.mapIdx (gx_F ad (M a))).set k (.int (gx_i v)))) = gx_w La tc ad (gx_u M a k v) := by
  rw [gx_ms hf]
  exact gx_set (f := fun j => if j = k then v else M a j) hLa
theorem gx_putA {a : Nat} {k n b sr : Nat} {i v : Int} (hLa : La[a]? = some (.inr (k, n, b, sr))) (hk : k < 3) (hi : gx_3 i) : (gx_w La tc ad M).set a (ad a, .inl (tc k, n, .inl (upd (fun j => gx_i (M a j)) (gx_i i).toNatClampNeg (gx_i v)))) = gx_w La tc ad (gx_u M a i.toNat v) := by
  rw [gx_us hi]
  have := gx_set (tc := tc) (ad := ad) (M := M) (f := fun j => if j = i.toNat then v else M a j) hLa
  simp only [gx_E, gx_a, if_pos hk] at this
  exact this
theorem gx_getI (C : gx_C p R s m args meth c cc own nL Ts ret D tc ad La A H0) {Cn : String} {T : u_T} {N index : Nat} {fs : List (Option Nat)} (ci a k : Nat) (hc : vwCl[ci]? = some (Cn, T, N)) (hLa : La[a]? = some (.inl (ci, fs))) {v : Int} (hf : fs[k]? = some none) (hk : k < N) (hin : ∀ w ∈ u_ws Cn T N, w ∈ Ts) (hlink : (Cond.fieldLink own index (T k).1 (T k).2.1 (T k).2.2.1).before args s = true) (d : decode cc pc = .ok (.getfield index, 3)) (hv : M a k = v) (kk : gx_G p l e R s m args below meth c cells slots Q nL D tc ad La A H0 (pc + 3) L (gx_I v :: st) M) : gx_G p l e R s m args below meth c cells slots Q nL D tc ad La A H0 pc L (gx_R a :: st) M := by
  subst hv
  exact fun H locs ls hP hS hl => va_get (v := .int (gx_i (M a k))) (gx_hx C) (gx_hb C) (gx_hts C) hin (gx_hown C) (gx_hK C) hP a (gx_at hLa) hc k hk hlink (fun _ h => h) (gx_mi hf) d (kk H locs ls hP hS hl)
theorem gx_getR (C : gx_C p R s m args meth c cc own nL Ts ret D tc ad La A H0) {Cn : String} {T : u_T} {N index : Nat} {fs : List (Option Nat)} (ci a k : Nat) (hc : vwCl[ci]? = some (Cn, T, N)) (hLa : La[a]? = some (.inl (ci, fs))) {r : Nat} (hf : fs[k]? = some (some r)) (hk : k < N) (hin : ∀ w ∈ u_ws Cn T N, w ∈ Ts) (hlink : (Cond.fieldLink own index (T k).1 (T k).2.1 (T k).2.2.1).before args s = true) (d : decode cc pc = .ok (.getfield index, 3)) (kk : gx_G p l e R s m args below meth c cells slots Q nL D tc ad La A H0 (pc + 3) L (gx_R r :: st) M) : gx_G p l e R s m args below meth c cells slots Q nL D tc ad La A H0 pc L (gx_R a :: st) M :=
  fun H locs ls hP hS hl => va_get (v := .ref (ad r)) (gx_hx C) (gx_hb C) (gx_hts C) hin (gx_hown C) (gx_hK C) hP a (gx_at hLa) hc k hk hlink (fun _ h => h) (gx_mi hf) d (kk H locs ls hP hS hl)
theorem gx_putI (C : gx_C p R s m args meth c cc own nL Ts ret D tc ad La A H0) {Cn : String} {T : u_T} {N index : Nat} {fs : List (Option Nat)} (ci a k : Nat) (hc : vwCl[ci]? = some (Cn, T, N)) (hLa : La[a]? = some (.inl (ci, fs))) {v : Int} (hf : fs[k]? = some none) (hk : k < N) (hin : ∀ w ∈ u_ws Cn T N, w ∈ Ts) (ty0 : Nat → FieldType) (hty : ∀ k, k < N → parseFieldDescriptor (T k).2.2.1 = some (ty0 k)) (hnm : ∀ a, a < N → ∀ b, b < N → a ≠ b → (T a).2.1 ≠ (T b).2.1) (hlink : (Cond.fieldLink own index (T k).1 (T k).2.1 (T k).2.2.1).before args s = true) (hfin : (T k).2.2.2 = false) (hd : ty0 k = .int) (d : decode cc pc = .ok (.putfield index, 3)) (kk : gx_G p l e R s m args below meth c cells slots Q nL D tc ad La A H0 (pc + 3) L st (gx_u M a k v)) : gx_G p l e R s m args below meth c cells slots Q nL D tc ad La A H0 pc L (gx_I v :: gx_R a :: st) M := by
  intro H locs ls hP hS hl
  refine va_put (v := .int (gx_i v)) (ty := .int) (gx_hx C) (gx_hb C) (gx_hts C) hin ty0 hty hnm (gx_hown C) (gx_hK C) hP (gx_Dw C M) hS a (gx_at hLa) hc k hk hlink (fun _ h => h) hfin (by rw [hty k hk, hd]) rfl rfl (by simpa using (List.getElem?_eq_some_iff.mp hf).1) d (fun H1 locs1 hP1 _ hS1 => ?_)
  rw [gx_putM hLa hf] at hP1
  exact kk H1 locs1 ls hP1 hS1 hl
theorem gx_putZ (C : gx_C p R s m args meth c cc own nL Ts ret D tc ad La A H0) {Cn : String} {T : u_T} {N index : Nat} {fs : List (Option Nat)} (ci a k : Nat) (hc : vwCl[ci]? = some (Cn, T, N)) (hLa : La[a]? = some (.inl (ci, fs))) {v : Int} (hf : fs[k]? = some none) (hk : k < N) (hin : ∀ w ∈ u_ws Cn T N, w ∈ Ts) (ty0 : Nat → FieldType) (hty : ∀ k, k < N → parseFieldDescriptor (T k).2.2.1 = some (ty0 k)) (hnm : ∀ a, a < N → ∀ b, b < N → a ≠ b → (T a).2.1 ≠ (T b).2.1) (hlink : (Cond.fieldLink own index (T k).1 (T k).2.1 (T k).2.2.1).before args s = true) (hfin : (T k).2.2.2 = false) (hd : ty0 k = .boolean) (hz : v = 0 ∨ v = 1) (d : decode cc pc = .ok (.putfield index, 3)) (kk : gx_G p l e R s m args below meth c cells slots Q nL D tc ad La A H0 (pc + 3) L st (gx_u M a k v)) : gx_G p l e R s m args below meth c cells slots Q nL D tc ad La A H0 pc L (gx_I v :: gx_R a :: st) M := by
  intro H locs ls hP hS hl
  refine va_put (v := .int (gx_i v)) (ty := .boolean) (gx_hx C) (gx_hb C) (gx_hts C) hin ty0 hty hnm (gx_hown C) (gx_hK C) hP (gx_Dw C M) hS a (gx_at hLa) hc k hk hlink (fun _ h => h) hfin (by rw [hty k hk, hd]) (gx_nZ hz) (gx_fZ hz) (by simpa using (List.getElem?_eq_some_iff.mp hf).1) d (fun H1 locs1 hP1 _ hS1 => ?_)
  rw [gx_putM hLa hf] at hP1
  exact kk H1 locs1 ls hP1 hS1 hl
theorem gx_getIN (C : gx_C p R s m args meth c cc own nL Ts ret D tc ad La A H0) {Cn : String} {T : u_T} {N index : Nat} {host : String} {fs : List (Option Nat)} (ci a k : Nat) (hc : vwCl[ci]? = some (Cn, T, N)) (hLa : La[a]? = some (.inl (ci, fs))) {v : Int} (hf : fs[k]? = some none) (hk : k < N) (hin : ∀ w ∈ u_ws Cn T N, w ∈ Ts) (hlink : (Cond.fieldLinkNest own index (T k).1 (T k).2.1 (T k).2.2.1 host).before args s = true) (d : decode cc pc = .ok (.getfield index, 3)) (hv : M a k = v) (kk : gx_G p l e R s m args below meth c cells slots Q nL D tc ad La A H0 (pc + 3) L (gx_I v :: st) M) : gx_G p l e R s m args below meth c cells slots Q nL D tc ad La A H0 pc L (gx_R a :: st) M := by
  subst hv
  exact fun H locs ls hP hS hl => va_getN (v := .int (gx_i (M a k))) (gx_hx C) (gx_hb C) (gx_hts C) hin (gx_hown C) (gx_hK C) hP a (gx_at hLa) hc k hk hlink (fun _ h => h) (gx_mi hf) d (kk H locs ls hP hS hl)
theorem gx_getRN (C : gx_C p R s m args meth c cc own nL Ts ret D tc ad La A H0) {Cn : String} {T : u_T} {N index : Nat} {host : String} {fs : List (Option Nat)} (ci a k : Nat) (hc : vwCl[ci]? = some (Cn, T, N)) (hLa : La[a]? = some (.inl (ci, fs))) {r : Nat} (hf : fs[k]? = some (some r)) (hk : k < N) (hin : ∀ w ∈ u_ws Cn T N, w ∈ Ts) (hlink : (Cond.fieldLinkNest own index (T k).1 (T k).2.1 (T k).2.2.1 host).before args s = true) (d : decode cc pc = .ok (.getfield index, 3)) (kk : gx_G p l e R s m args below meth c cells slots Q nL D tc ad La A H0 (pc + 3) L (gx_R r :: st) M) : gx_G p l e R s m args below meth c cells slots Q nL D tc ad La A H0 pc L (gx_R a :: st) M :=
  fun H locs ls hP hS hl => va_getN (v := .ref (ad r)) (gx_hx C) (gx_hb C) (gx_hts C) hin (gx_hown C) (gx_hK C) hP a (gx_at hLa) hc k hk hlink (fun _ h => h) (gx_mi hf) d (kk H locs ls hP hS hl)
theorem gx_putIN (C : gx_C p R s m args meth c cc own nL Ts ret D tc ad La A H0) {Cn : String} {T : u_T} {N index : Nat} {host : String} {fs : List (Option Nat)} (ci a k : Nat) (hc : vwCl[ci]? = some (Cn, T, N)) (hLa : La[a]? = some (.inl (ci, fs))) {v : Int} (hf : fs[k]? = some none) (hk : k < N) (hin : ∀ w ∈ u_ws Cn T N, w ∈ Ts) (ty0 : Nat → FieldType) (hty : ∀ k, k < N → parseFieldDescriptor (T k).2.2.1 = some (ty0 k)) (hnm : ∀ a, a < N → ∀ b, b < N → a ≠ b → (T a).2.1 ≠ (T b).2.1) (hlink : (Cond.fieldLinkNest own index (T k).1 (T k).2.1 (T k).2.2.1 host).before args s = true) (hfin : (T k).2.2.2 = false) (hd : ty0 k = .int) (d : decode cc pc = .ok (.putfield index, 3)) (kk : gx_G p l e R s m args below meth c cells slots Q nL D tc ad La A H0 (pc + 3) L st (gx_u M a k v)) : gx_G p l e R s m args below meth c cells slots Q nL D tc ad La A H0 pc L (gx_I v :: gx_R a :: st) M := by
  intro H locs ls hP hS hl
  refine va_putN (v := .int (gx_i v)) (ty := .int) (gx_hx C) (gx_hb C) (gx_hts C) hin ty0 hty hnm (gx_hown C) (gx_hK C) hP (gx_Dw C M) hS a (gx_at hLa) hc k hk hlink (fun _ h => h) hfin (by rw [hty k hk, hd]) rfl rfl (by simpa using (List.getElem?_eq_some_iff.mp hf).1) d (fun H1 locs1 hP1 _ hS1 => ?_)
  rw [gx_putM hLa hf] at hP1
  exact kk H1 locs1 ls hP1 hS1 hl
theorem gx_putZN (C : gx_C p R s m args meth c cc own nL Ts ret D tc ad La A H0) {Cn : String} {T : u_T} {N index : Nat} {host : String} {fs : List (Option Nat)} (ci a k : Nat) (hc : vwCl[ci]? = some (Cn, T, N)) (hLa : La[a]? = some (.inl (ci, fs))) {v : Int} (hf : fs[k]? = some none) (hk : k < N) (hin : ∀ w ∈ u_ws Cn T N, w ∈ Ts) (ty0 : Nat → FieldType) (hty : ∀ k, k < N → parseFieldDescriptor (T k).2.2.1 = some (ty0 k)) (hnm : ∀ a, a < N → ∀ b, b < N → a ≠ b → (T a).2.1 ≠ (T b).2.1) (hlink : (Cond.fieldLinkNest own index (T k).1 (T k).2.1 (T k).2.2.1 host).before args s = true) (hfin : (T k).2.2.2 = false) (hd : ty0 k = .boolean) (hz : v = 0 ∨ v = 1) (d : decode cc pc = .ok (.putfield index, 3)) (kk : gx_G p l e R s m args below meth c cells slots Q nL D tc ad La A H0 (pc + 3) L st (gx_u M a k v)) : gx_G p l e R s m args below meth c cells slots Q nL D tc ad La A H0 pc L (gx_I v :: gx_R a :: st) M := by
  intro H locs ls hP hS hl
  refine va_putN (v := .int (gx_i v)) (ty := .boolean) (gx_hx C) (gx_hb C) (gx_hts C) hin ty0 hty hnm (gx_hown C) (gx_hK C) hP (gx_Dw C M) hS a (gx_at hLa) hc k hk hlink (fun _ h => h) hfin (by rw [hty k hk, hd]) (gx_nZ hz) (gx_fZ hz) (by simpa using (List.getElem?_eq_some_iff.mp hf).1) d (fun H1 locs1 hP1 _ hS1 => ?_)
  rw [gx_putM hLa hf] at hP1
  exact kk H1 locs1 ls hP1 hS1 hl
theorem gx_putC (C : gx_C p R s m args meth c cc own nL Ts ret D tc ad La A H0) {Cn : String} {T : u_T} {N index : Nat} {fs : List (Option Nat)} (ci a k : Nat) (hc : vwCl[ci]? = some (Cn, T, N)) (hLa : La[a]? = some (.inl (ci, fs))) {v : Int} (hf : fs[k]? = some none) (hk : k < N) (hin : ∀ w ∈ u_ws Cn T N, w ∈ Ts) (ty0 : Nat → FieldType) (hty : ∀ k, k < N → parseFieldDescriptor (T k).2.2.1 = some (ty0 k)) (hnm : ∀ a, a < N → ∀ b, b < N → a ≠ b → (T a).2.1 ≠ (T b).2.1) (hlink : (Cond.fieldLink own index (T k).1 (T k).2.1 (T k).2.2.1).before args s = true) (hfin : (T k).2.2.2 = false) (hd : ty0 k = .char) (hz : 0 ≤ v ∧ v < 65536) (d : decode cc pc = .ok (.putfield index, 3)) (kk : gx_G p l e R s m args below meth c cells slots Q nL D tc ad La A H0 (pc + 3) L st (gx_u M a k v)) : gx_G p l e R s m args below meth c cells slots Q nL D tc ad La A H0 pc L (gx_I v :: gx_R a :: st) M := by
  intro H locs ls hP hS hl
  have hn : narrow .char (.int (gx_i v)) = .int (gx_i v) := congrArg Value.int (gx_narC hz)
  refine va_put (v := .int (gx_i v)) (ty := .char) (gx_hx C) (gx_hb C) (gx_hts C) hin ty0 hty hnm (gx_hown C) (gx_hK C) hP (gx_Dw C M) hS a (gx_at hLa) hc k hk hlink (fun _ h => h) hfin (by rw [hty k hk, hd]) hn (gx_fC hz) (by simpa using (List.getElem?_eq_some_iff.mp hf).1) d (fun H1 locs1 hP1 _ hS1 => ?_)
  rw [gx_putM hLa hf] at hP1
  exact kk H1 locs1 ls hP1 hS1 hl
theorem gx_putCN (C : gx_C p R s m args meth c cc own nL Ts ret D tc ad La A H0) {Cn : String} {T : u_T} {N index : Nat} {host : String} {fs : List (Option Nat)} (ci a k : Nat) (hc : vwCl[ci]? = some (Cn, T, N)) (hLa : La[a]? = some (.inl (ci, fs))) {v : Int} (hf : fs[k]? = some none) (hk : k < N) (hin : ∀ w ∈ u_ws Cn T N, w ∈ Ts) (ty0 : Nat → FieldType) (hty : ∀ k, k < N → parseFieldDescriptor (T k).2.2.1 = some (ty0 k)) (hnm : ∀ a, a < N → ∀ b, b < N → a ≠ b → (T a).2.1 ≠ (T b).2.1) (hlink : (Cond.fieldLinkNest own index (T k).1 (T k).2.1 (T k).2.2.1 host).before args s = true) (hfin : (T k).2.2.2 = false) (hd : ty0 k = .char) (hz : 0 ≤ v ∧ v < 65536) (d : decode cc pc = .ok (.putfield index, 3)) (kk : gx_G p l e R s m args below meth c cells slots Q nL D tc ad La A H0 (pc + 3) L st (gx_u M a k v)) : gx_G p l e R s m args below meth c cells slots Q nL D tc ad La A H0 pc L (gx_I v :: gx_R a :: st) M := by
  intro H locs ls hP hS hl
  have hn : narrow .char (.int (gx_i v)) = .int (gx_i v) := congrArg Value.int (gx_narC hz)
  refine va_putN (v := .int (gx_i v)) (ty := .char) (gx_hx C) (gx_hb C) (gx_hts C) hin ty0 hty hnm (gx_hown C) (gx_hK C) hP (gx_Dw C M) hS a (gx_at hLa) hc k hk hlink (fun _ h => h) hfin (by rw [hty k hk, hd]) hn (gx_fC hz) (by simpa using (List.getElem?_eq_some_iff.mp hf).1) d (fun H1 locs1 hP1 _ hS1 => ?_)
  rw [gx_putM hLa hf] at hP1
  exact kk H1 locs1 ls hP1 hS1 hl
theorem gx_iaload (C : gx_C p R s m args meth c cc own nL Ts ret D tc ad La A H0) {a n b sr : Nat} {i v : Int} (hLa : La[a]? = some (.inr (0, n, b, sr))) (hi : 0 ≤ i ∧ i < n ∧ n < 2147483648) (d : decode cc pc = .ok (.iaload, 1)) (hv : M a i.toNat = v) (kk : gx_G p l e R s m args below meth c cells slots Q nL D tc ad La A H0 (pc + 1) L (gx_I v :: st) M) : gx_G p l e R s m args below meth c cells slots Q nL D tc ad La A H0 pc L (gx_I i :: gx_R a :: st) M := by
  have h3 : gx_3 i := ⟨by omega, by omega⟩
  subst hv
  intro H locs ls hP hS hl
  refine va_iald (f := fun j => gx_i (M a j)) (gx_hx C) (gx_hb C) (gx_hK C) hP a 0 (gx_at hLa) rfl (gx_in h3 hi.1 hi.2.1) d ?_
  rw [gx_nat h3]
  exact kk H locs ls hP hS hl
theorem gx_caload (C : gx_C p R s m args meth c cc own nL Ts ret D tc ad La A H0) {a n b sr : Nat} {i v : Int} (hLa : La[a]? = some (.inr (1, n, b, sr))) (hi : 0 ≤ i ∧ i < n ∧ n < 2147483648) (d : decode cc pc = .ok (.caload, 1)) (hv : M a i.toNat = v) (kk : gx_G p l e R s m args below meth c cells slots Q nL D tc ad La A H0 (pc + 1) L (gx_I v :: st) M) : gx_G p l e R s m args below meth c cells slots Q nL D tc ad La A H0 pc L (gx_I i :: gx_R a :: st) M := by
  have h3 : gx_3 i := ⟨by omega, by omega⟩
  subst hv
  intro H locs ls hP hS hl
  refine va_cald (f := fun j => gx_i (M a j)) (gx_hx C) (gx_hb C) (gx_hK C) hP a 1 (gx_at hLa) rfl (gx_in h3 hi.1 hi.2.1) d ?_
  rw [gx_nat h3]
  exact kk H locs ls hP hS hl
theorem gx_baload (C : gx_C p R s m args meth c cc own nL Ts ret D tc ad La A H0) {a n b sr : Nat} {i v : Int} (hLa : La[a]? = some (.inr (2, n, b, sr))) (hi : 0 ≤ i ∧ i < n ∧ n < 2147483648) (d : decode cc pc = .ok (.baload, 1)) (hv : M a i.toNat = v) (kk : gx_G p l e R s m args below meth c cells slots Q nL D tc ad La A H0 (pc + 1) L (gx_I v :: st) M) : gx_G p l e R s m args below meth c cells slots Q nL D tc ad La A H0 pc L (gx_I i :: gx_R a :: st) M := by
  have h3 : gx_3 i := ⟨by omega, by omega⟩
  subst hv
  intro H locs ls hP hS hl
  refine va_zald (f := fun j => gx_i (M a j)) (gx_hx C) (gx_hb C) (gx_hK C) hP a 2 (gx_at hLa) rfl (gx_in h3 hi.1 hi.2.1) d ?_
  rw [gx_nat h3]
  exact kk H locs ls hP hS hl
theorem gx_iastore (C : gx_C p R s m args meth c cc own nL Ts ret D tc ad La A H0) {a n b sr j : Nat} {i v : Int} (hLa : La[a]? = some (.inr (0, n, b, sr))) (hi : 0 ≤ i ∧ i < n ∧ n < 2147483648) (d : decode cc pc = .ok (.iastore, 1)) (hj : i.toNat = j) (kk : gx_G p l e R s m args below meth c cells slots Q nL D tc ad La A H0 (pc + 1) L st (gx_u M a j v)) : gx_G p l e R s m args below meth c cells slots Q nL D tc ad La A H0 pc L (gx_I v :: gx_I i :: gx_R a :: st) M := by
  have h3 : gx_3 i := ⟨by omega, by omega⟩
  subst hj
  intro H locs ls hP hS hl
  refine va_iast (f := fun j => gx_i (M a j)) (x := gx_i v) (gx_hx C) (gx_hb C) (gx_hK C) hP (gx_Dw C M) hS a 0 (gx_at hLa) rfl (gx_in h3 hi.1 hi.2.1) d (fun H1 locs1 hP1 _ hS1 => ?_)
  rw [gx_putA hLa (by decide) h3] at hP1
  exact kk H1 locs1 ls hP1 hS1 hl
theorem gx_castore (C : gx_C p R s m args meth c cc own nL Ts ret D tc ad La A H0) {a n b sr j : Nat} {i v : Int} (hLa : La[a]? = some (.inr (1, n, b, sr))) (hi : 0 ≤ i ∧ i < n ∧ n < 2147483648) (hz : 0 ≤ v ∧ v < 65536) (d : decode cc pc = .ok (.castore, 1)) (hj : i.toNat = j) (kk : gx_G p l e R s m args below meth c cells slots Q nL D tc ad La A H0 (pc + 1) L st (gx_u M a j v)) : gx_G p l e R s m args below meth c cells slots Q nL D tc ad La A H0 pc L (gx_I v :: gx_I i :: gx_R a :: st) M := by
  have h3 : gx_3 i := ⟨by omega, by omega⟩
  subst hj
  intro H locs ls hP hS hl
  refine va_cast (f := fun j => gx_i (M a j)) (x := gx_i v) (gx_hx C) (gx_hb C) (gx_hK C) hP (gx_Dw C M) hS a 1 (gx_at hLa) rfl (gx_in h3 hi.1 hi.2.1) d (fun H1 locs1 hP1 _ hS1 => ?_)
  rw [gx_narC hz] at hP1
  rw [gx_putA hLa (by decide) h3] at hP1
  exact kk H1 locs1 ls hP1 hS1 hl
theorem gx_bastore (C : gx_C p R s m args meth c cc own nL Ts ret D tc ad La A H0) {a n b sr j : Nat} {i v : Int} (hLa : La[a]? = some (.inr (2, n, b, sr))) (hi : 0 ≤ i ∧ i < n ∧ n < 2147483648) (hz : v = 0 ∨ v = 1) (d : decode cc pc = .ok (.bastore, 1)) (hj : i.toNat = j) (kk : gx_G p l e R s m args below meth c cells slots Q nL D tc ad La A H0 (pc + 1) L st (gx_u M a j v)) : gx_G p l e R s m args below meth c cells slots Q nL D tc ad La A H0 pc L (gx_I v :: gx_I i :: gx_R a :: st) M := by
  have h3 : gx_3 i := ⟨by omega, by omega⟩
  subst hj
  intro H locs ls hP hS hl
  refine va_zast (f := fun j => gx_i (M a j)) (x := gx_i v) (gx_hx C) (gx_hb C) (gx_hK C) hP (gx_Dw C M) hS a 2 (gx_at hLa) rfl (gx_in h3 hi.1 hi.2.1) d (fun H1 locs1 hP1 _ hS1 => ?_)
  rw [gx_narZ hz] at hP1
  rw [gx_putA hLa (by decide) h3] at hP1
  exact kk H1 locs1 ls hP1 hS1 hl
theorem gx_aaload (C : gx_C p R s m args meth c cc own nL Ts ret D tc ad La A H0) {a k n b sr r : Nat} {i : Int} (hLa : La[a]? = some (.inr (k, n, b, sr))) (hk : k = 3 ∨ k = 4 ∨ k = 5) (hi : 0 ≤ i ∧ i < n ∧ n < 2147483648) (d : decode cc pc = .ok (.aaload, 1)) (hr : b + sr * i.toNat = r) (kk : gx_G p l e R s m args below meth c cells slots Q nL D tc ad La A H0 (pc + 1) L (gx_R r :: st) M) : gx_G p l e R s m args below meth c cells slots Q nL D tc ad La A H0 pc L (gx_I i :: gx_R a :: st) M := by
  have h3 : gx_3 i := ⟨by omega, by omega⟩
  subst hr
  intro H locs ls hP hS hl
  obtain ⟨ty, ht, hty⟩ : ∃ ty, (gx_tys tc)[k]? = some (tc k, ty) ∧ ty.isReference = true := by
    rcases hk with rfl | rfl | rfl <;> exact ⟨_, rfl, rfl⟩
  have hcell := hP a _ (gx_at hLa)
  have e : gx_a ad (M a) k b sr = .inr (.inr (.inr (.inr (fun i => some (ad (b + sr * i)))))) := by
    unfold gx_a
    rw [if_neg (by omega)]
  have hcell : H[ad a]? = some (arrV (tc k) n (fun j => va_rf (some (ad (b + sr * j))))) := by
    have h2 : H[ad a]? = some (vp_cell (tc k) (n, gx_a ad (M a) k b sr)) := hcell
    rw [e] at h2
    exact h2
  refine W.aald (v := .ref (ad (b + sr * i.toNat))) (ty := ty) (gx_hx C) (gx_hb C) hcell (((gx_hK C).2 k _ ht).1 n (fun j => va_rf (some (ad (b + sr * j))))) hty (fun q => by cases q) (by rw [arrV_size]; exact gx_in h3 hi.1 hi.2.1) (by rw [gx_nat h3, arrV_read _ _ (by omega)]; rfl) rfl rfl d ?_
  exact kk H locs ls hP hS hl
theorem gx_alen (C : gx_C p R s m args meth c cc own nL Ts ret D tc ad La A H0) {a k n b sr : Nat} (hLa : La[a]? = some (.inr (k, n, b, sr))) (hk : k < 6) (d : decode cc pc = .ok (.arraylength, 1)) (kk : gx_G p l e R s m args below meth c cells slots Q nL D tc ad La A H0 (pc + 1) L (gx_I n :: st) M) : gx_G p l e R s m args below meth c cells slots Q nL D tc ad La A H0 pc L (gx_R a :: st) M := by
  intro H locs ls hP hS hl
  obtain ⟨ty, ht⟩ : ∃ ty, (gx_tys tc)[k]? = some (tc k, ty) := by
    rcases (show k = 0 ∨ k = 1 ∨ k = 2 ∨ k = 3 ∨ k = 4 ∨ k = 5 by omega) with rfl | rfl | rfl | rfl | rfl | rfl <;> exact ⟨_, rfl⟩
  exact va_alen (v := gx_i n) (gx_hx C) (gx_hb C) (gx_hK C) hP a k (gx_at hLa) ht rfl d (kk H locs ls hP hS hl)
theorem gx_own (C : gx_C p R s m args meth c cc own nL Ts ret D tc ad La A H0) {H : Heap} {locs : List Loc} (hS : va_S A H0 H locs) {q : Nat} (h : gx_A ad La.length H.size q) : A q := by
  rcases h with ⟨i, hi, rfl⟩ | h
  · exact gx_hA C i hi
  · exact gx_hA0 C q (Nat.le_trans hS.1 h)
theorem gx_callI (C : gx_C p R s m args meth c cc own nL Ts ret D tc ad La A H0) {Cn : String} {index maxL n dd : Nat} {y : MethodName} {bytes : ByteArray} {rt : Option FieldType} {ws : List Cond} {b : Nat} {as rest : List gx_V} {post : Int → gx_M → Prop} {fs : List (Option Nat)} {T : u_T} {N : Nat} (ci : Nat) (hc : vwCl[ci]? = some (Cn, T, N)) (hLa : La[b]? = some (.inl (ci, fs))) (K : gx_Ci La y ws dd (gx_R b :: as) M post) (cw : CallW R s args own Cn index y bytes maxL rt ws (gx_rm dd) 0 0 n) (hn : as.length = n) (hst : st = as.reverse ++ gx_R b :: rest) (hW : (rest.map gx_c2).sum ≤ 8) (hR : cells ≤ R.cells ∧ slots ≤ R.slots) (d : decode cc pc = .ok (.invokevirtual index, 3)) (kk : ∀ z M', post z M' → gx_G p l e R s m args below meth c cells slots Q nL D tc ad La A H0 (pc + 3) L (gx_I z :: rest) M') : gx_G p l e R s m args below meth c cells slots Q nL D tc ad La A H0 pc L st M := by
  intro H locs ls hP hS hl
  subst hst
  refine va_calli (va_runV (b := ad b) (As := as.map (gx_T ad)) (rest := rest.map (gx_T ad)) ⟨gx_hx C, gx_hb C, gx_hml C, gx_hown C, gx_hts C⟩ (K l D tc ad H.size) cw ⟨gx_blind _ D tc ad La H.size M, va_recv (gx_hK C) hP hc (gx_at hLa), fun U hU hW => ⟨rfl, by rw [hU], by rw [hU]; exact hP, va_K.moved hW.alike (gx_hK C), gx_NW.warm hW (gx_hN C), gx_inj C⟩⟩ rfl (by simpa using hn) hl.1 (by show List.map _ _ = _; simp only [List.map_append, List.map_reverse, List.map_cons] <;> rfl) (lv_room (gx_cs hW)) d hR) hS (fun q _ h => gx_own C hS h) (fun q h => gx_own C hS h) (fun r u t H1 locs1 ht hvm hw hB hz1 hk1 hS1 => ?_)
  obtain ⟨z, rfl, hz⟩ := hw
  have hB : va_P D vwCl (gx_w La tc ad u) t.heap := hB
  rw [ht] at hB
  have := kk z u hz H1 locs1 ls hB hS1 hl
  exact this
theorem gx_statI (C : gx_C p R s m args meth c cc own nL Ts ret D tc ad La A H0) {index maxL n dd : Nat} {y : MethodName} {bytes : ByteArray} {rt : Option FieldType} {ws : List Cond} {as rest : List gx_V} {post : Int → gx_M → Prop} (K : gx_Ci La y ws dd as M post) (cw : CallB R s args own index y bytes maxL rt ws (gx_rm dd) 0 0 n ∧ (Cond.static y).before args s = true) (hn : as.length = n) (hst : st = as.reverse ++ rest) (hW : (rest.map gx_c2).sum ≤ 8) (hR : cells ≤ R.cells ∧ slots ≤ R.slots) (d : decode cc pc = .ok (.invokestatic index, 3)) (kk : ∀ z M', post z M' → gx_G p l e R s m args below meth c cells slots Q nL D tc ad La A H0 (pc + 3) L (gx_I z :: rest) M') : gx_G p l e R s m args below meth c cells slots Q nL D tc ad La A H0 pc L st M := by
  intro H locs ls hP hS hl
  subst hst
  refine va_calli (va_runS (As := as.map (gx_T ad)) (rest := rest.map (gx_T ad)) ⟨gx_hx C, gx_hb C, gx_hml C, gx_hown C, gx_hts C⟩ (K l D tc ad H.size) cw ⟨gx_blind _ D tc ad La H.size M, fun U hU hW => ⟨rfl, by rw [hU], by rw [hU]; exact hP, va_K.moved hW.alike (gx_hK C), gx_NW.warm hW (gx_hN C), gx_inj C⟩⟩ rfl (by simpa using hn) hl.1 (by show List.map _ _ = _; simp only [List.map_append, List.map_reverse, List.map_cons] <;> rfl) (lv_room (gx_cs hW)) d hR) hS (fun q _ h => gx_own C hS h) (fun q h => gx_own C hS h) (fun r u t H1 locs1 ht hvm hw hB hz1 hk1 hS1 => ?_)
  obtain ⟨z, rfl, hz⟩ := hw
  have hB : va_P D vwCl (gx_w La tc ad u) t.heap := hB
  rw [ht] at hB
  have := kk z u hz H1 locs1 ls hB hS1 hl
  exact this
theorem gx_callIN (C : gx_C p R s m args meth c cc own nL Ts ret D tc ad La A H0) {Cn : String} {host : String} {index maxL n dd : Nat} {y : MethodName} {bytes : ByteArray} {rt : Option FieldType} {ws : List Cond} {b : Nat} {as rest : List gx_V} {post : Int → gx_M → Prop} {fs : List (Option Nat)} {T : u_T} {N : Nat} (ci : Nat) (hc : vwCl[ci]? = some (Cn, T, N)) (hLa : La[b]? = some (.inl (ci, fs))) (K : gx_Ci La y ws dd (gx_R b :: as) M post) (cw : va_CN R s args own index y host bytes maxL rt ws (gx_rm dd) 0 0 n ∧ (Cond.instanceMethod y).before args s = true ∧ (Cond.selects Cn y y).before args s = true) (hn : as.length = n) (hst : st = as.reverse ++ gx_R b :: rest) (hW : (rest.map gx_c2).sum ≤ 8) (hR : cells ≤ R.cells ∧ slots ≤ R.slots) (d : decode cc pc = .ok (.invokevirtual index, 3)) (kk : ∀ z M', post z M' → gx_G p l e R s m args below meth c cells slots Q nL D tc ad La A H0 (pc + 3) L (gx_I z :: rest) M') : gx_G p l e R s m args below meth c cells slots Q nL D tc ad La A H0 pc L st M := by
  intro H locs ls hP hS hl
  subst hst
  refine va_calli (va_runVN (b := ad b) (As := as.map (gx_T ad)) (rest := rest.map (gx_T ad)) ⟨gx_hx C, gx_hb C, gx_hml C, gx_hown C, gx_hts C⟩ (K l D tc ad H.size) cw ⟨gx_blind _ D tc ad La H.size M, va_recv (gx_hK C) hP hc (gx_at hLa), fun U hU hW => ⟨rfl, by rw [hU], by rw [hU]; exact hP, va_K.moved hW.alike (gx_hK C), gx_NW.warm hW (gx_hN C), gx_inj C⟩⟩ rfl (by simpa using hn) hl.1 (by show List.map _ _ = _; simp only [List.map_append, List.map_reverse, List.map_cons] <;> rfl) (lv_room (gx_cs hW)) d hR) hS (fun q _ h => gx_own C hS h) (fun q h => gx_own C hS h) (fun r u t H1 locs1 ht hvm hw hB hz1 hk1 hS1 => ?_)
  obtain ⟨z, rfl, hz⟩ := hw
  have hB : va_P D vwCl (gx_w La tc ad u) t.heap := hB
  rw [ht] at hB
  have := kk z u hz H1 locs1 ls hB hS1 hl
  exact this
theorem gx_statIN (C : gx_C p R s m args meth c cc own nL Ts ret D tc ad La A H0) {host : String} {index maxL n dd : Nat} {y : MethodName} {bytes : ByteArray} {rt : Option FieldType} {ws : List Cond} {as rest : List gx_V} {post : Int → gx_M → Prop} (K : gx_Ci La y ws dd as M post) (cw : va_CN R s args own index y host bytes maxL rt ws (gx_rm dd) 0 0 n ∧ (Cond.static y).before args s = true ∧ True) (hn : as.length = n) (hst : st = as.reverse ++ rest) (hW : (rest.map gx_c2).sum ≤ 8) (hR : cells ≤ R.cells ∧ slots ≤ R.slots) (d : decode cc pc = .ok (.invokestatic index, 3)) (kk : ∀ z M', post z M' → gx_G p l e R s m args below meth c cells slots Q nL D tc ad La A H0 (pc + 3) L (gx_I z :: rest) M') : gx_G p l e R s m args below meth c cells slots Q nL D tc ad La A H0 pc L st M := by
  intro H locs ls hP hS hl
  subst hst
  refine va_calli (va_runSN (As := as.map (gx_T ad)) (rest := rest.map (gx_T ad)) ⟨gx_hx C, gx_hb C, gx_hml C, gx_hown C, gx_hts C⟩ (K l D tc ad H.size) cw ⟨gx_blind _ D tc ad La H.size M, fun U hU hW => ⟨rfl, by rw [hU], by rw [hU]; exact hP, va_K.moved hW.alike (gx_hK C), gx_NW.warm hW (gx_hN C), gx_inj C⟩⟩ rfl (by simpa using hn) hl.1 (by show List.map _ _ = _; simp only [List.map_append, List.map_reverse, List.map_cons] <;> rfl) (lv_room (gx_cs hW)) d hR) hS (fun q _ h => gx_own C hS h) (fun q h => gx_own C hS h) (fun r u t H1 locs1 ht hvm hw hB hz1 hk1 hS1 => ?_)
  obtain ⟨z, rfl, hz⟩ := hw
  have hB : va_P D vwCl (gx_w La tc ad u) t.heap := hB
  rw [ht] at hB
  have := kk z u hz H1 locs1 ls hB hS1 hl
  exact this
theorem gx_callV (C : gx_C p R s m args meth c cc own nL Ts ret D tc ad La A H0) {Cn : String} {index maxL n dd : Nat} {y : MethodName} {bytes : ByteArray} {rt : Option FieldType} {ws : List Cond} {b : Nat} {as rest : List gx_V} {post : gx_M → Prop} {fs : List (Option Nat)} {T : u_T} {N : Nat} (ci : Nat) (hc : vwCl[ci]? = some (Cn, T, N)) (hLa : La[b]? = some (.inl (ci, fs))) (K : gx_Cv La y ws dd (gx_R b :: as) M post) (cw : CallW R s args own Cn index y bytes maxL rt ws (gx_rm dd) 0 0 n) (hn : as.length = n) (hst : st = as.reverse ++ gx_R b :: rest) (hW : (rest.map gx_c2).sum ≤ 8) (hR : cells ≤ R.cells ∧ slots ≤ R.slots) (d : decode cc pc = .ok (.invokevirtual index, 3)) (kk : ∀ M', post M' → gx_G p l e R s m args below meth c cells slots Q nL D tc ad La A H0 (pc + 3) L rest M') : gx_G p l e R s m args below meth c cells slots Q nL D tc ad La A H0 pc L st M := by
  intro H locs ls hP hS hl
  subst hst
  refine va_callv (va_runV (b := ad b) (As := as.map (gx_T ad)) (rest := rest.map (gx_T ad)) ⟨gx_hx C, gx_hb C, gx_hml C, gx_hown C, gx_hts C⟩ (K l D tc ad H.size) cw ⟨gx_blind _ D tc ad La H.size M, va_recv (gx_hK C) hP hc (gx_at hLa), fun U hU hW => ⟨rfl, by rw [hU], by rw [hU]; exact hP, va_K.moved hW.alike (gx_hK C), gx_NW.warm hW (gx_hN C), gx_inj C⟩⟩ rfl (by simpa using hn) hl.1 (by show List.map _ _ = _; simp only [List.map_append, List.map_reverse, List.map_cons] <;> rfl) (lv_room (gx_cs hW)) d hR) hS (fun q _ h => gx_own C hS h) (fun q h => gx_own C hS h) (fun u t H1 locs1 ht hvm hw hB hz1 hk1 hS1 => ?_)
  have hB : va_P D vwCl (gx_w La tc ad u) t.heap := hB
  rw [ht] at hB
  exact kk u hw H1 locs1 ls hB hS1 hl
theorem gx_statV (C : gx_C p R s m args meth c cc own nL Ts ret D tc ad La A H0) {index maxL n dd : Nat} {y : MethodName} {bytes : ByteArray} {rt : Option FieldType} {ws : List Cond} {as rest : List gx_V} {post : gx_M → Prop} (K : gx_Cv La y ws dd as M post) (cw : CallB R s args own index y bytes maxL rt ws (gx_rm dd) 0 0 n ∧ (Cond.static y).before args s = true) (hn : as.length = n) (hst : st = as.reverse ++ rest) (hW : (rest.map gx_c2).sum ≤ 8) (hR : cells ≤ R.cells ∧ slots ≤ R.slots) (d : decode cc pc = .ok (.invokestatic index, 3)) (kk : ∀ M', post M' → gx_G p l e R s m args below meth c cells slots Q nL D tc ad La A H0 (pc + 3) L rest M') : gx_G p l e R s m args below meth c cells slots Q nL D tc ad La A H0 pc L st M := by
  intro H locs ls hP hS hl
  subst hst
  refine va_callv (va_runS (As := as.map (gx_T ad)) (rest := rest.map (gx_T ad)) ⟨gx_hx C, gx_hb C, gx_hml C, gx_hown C, gx_hts C⟩ (K l D tc ad H.size) cw ⟨gx_blind _ D tc ad La H.size M, fun U hU hW => ⟨rfl, by rw [hU], by rw [hU]; exact hP, va_K.moved hW.alike (gx_hK C), gx_NW.warm hW (gx_hN C), gx_inj C⟩⟩ rfl (by simpa using hn) hl.1 (by show List.map _ _ = _; simp only [List.map_append, List.map_reverse, List.map_cons] <;> rfl) (lv_room (gx_cs hW)) d hR) hS (fun q _ h => gx_own C hS h) (fun q h => gx_own C hS h) (fun u t H1 locs1 ht hvm hw hB hz1 hk1 hS1 => ?_)
  have hB : va_P D vwCl (gx_w La tc ad u) t.heap := hB
  rw [ht] at hB
  exact kk u hw H1 locs1 ls hB hS1 hl
theorem gx_callVN (C : gx_C p R s m args meth c cc own nL Ts ret D tc ad La A H0) {Cn : String} {host : String} {index maxL n dd : Nat} {y : MethodName} {bytes : ByteArray} {rt : Option FieldType} {ws : List Cond} {b : Nat} {as rest : List gx_V} {post : gx_M → Prop} {fs : List (Option Nat)} {T : u_T} {N : Nat} (ci : Nat) (hc : vwCl[ci]? = some (Cn, T, N)) (hLa : La[b]? = some (.inl (ci, fs))) (K : gx_Cv La y ws dd (gx_R b :: as) M post) (cw : va_CN R s args own index y host bytes maxL rt ws (gx_rm dd) 0 0 n ∧ (Cond.instanceMethod y).before args s = true ∧ (Cond.selects Cn y y).before args s = true) (hn : as.length = n) (hst : st = as.reverse ++ gx_R b :: rest) (hW : (rest.map gx_c2).sum ≤ 8) (hR : cells ≤ R.cells ∧ slots ≤ R.slots) (d : decode cc pc = .ok (.invokevirtual index, 3)) (kk : ∀ M', post M' → gx_G p l e R s m args below meth c cells slots Q nL D tc ad La A H0 (pc + 3) L rest M') : gx_G p l e R s m args below meth c cells slots Q nL D tc ad La A H0 pc L st M := by
  intro H locs ls hP hS hl
  subst hst
  refine va_callv (va_runVN (b := ad b) (As := as.map (gx_T ad)) (rest := rest.map (gx_T ad)) ⟨gx_hx C, gx_hb C, gx_hml C, gx_hown C, gx_hts C⟩ (K l D tc ad H.size) cw ⟨gx_blind _ D tc ad La H.size M, va_recv (gx_hK C) hP hc (gx_at hLa), fun U hU hW => ⟨rfl, by rw [hU], by rw [hU]; exact hP, va_K.moved hW.alike (gx_hK C), gx_NW.warm hW (gx_hN C), gx_inj C⟩⟩ rfl (by simpa using hn) hl.1 (by show List.map _ _ = _; simp only [List.map_append, List.map_reverse, List.map_cons] <;> rfl) (lv_room (gx_cs hW)) d hR) hS (fun q _ h => gx_own C hS h) (fun q h => gx_own C hS h) (fun u t H1 locs1 ht hvm hw hB hz1 hk1 hS1 => ?_)
  have hB : va_P D vwCl (gx_w La tc ad u) t.heap := hB
  rw [ht] at hB
  exact kk u hw H1 locs1 ls hB hS1 hl
theorem gx_statVN (C : gx_C p R s m args meth c cc own nL Ts ret D tc ad La A H0) {host : String} {index maxL n dd : Nat} {y : MethodName} {bytes : ByteArray} {rt : Option FieldType} {ws : List Cond} {as rest : List gx_V} {post : gx_M → Prop} (K : gx_Cv La y ws dd as M post) (cw : va_CN R s args own index y host bytes maxL rt ws (gx_rm dd) 0 0 n ∧ (Cond.static y).before args s = true ∧ True) (hn : as.length = n) (hst : st = as.reverse ++ rest) (hW : (rest.map gx_c2).sum ≤ 8) (hR : cells ≤ R.cells ∧ slots ≤ R.slots) (d : decode cc pc = .ok (.invokestatic index, 3)) (kk : ∀ M', post M' → gx_G p l e R s m args below meth c cells slots Q nL D tc ad La A H0 (pc + 3) L rest M') : gx_G p l e R s m args below meth c cells slots Q nL D tc ad La A H0 pc L st M := by
  intro H locs ls hP hS hl
  subst hst
  refine va_callv (va_runSN (As := as.map (gx_T ad)) (rest := rest.map (gx_T ad)) ⟨gx_hx C, gx_hb C, gx_hml C, gx_hown C, gx_hts C⟩ (K l D tc ad H.size) cw ⟨gx_blind _ D tc ad La H.size M, fun U hU hW => ⟨rfl, by rw [hU], by rw [hU]; exact hP, va_K.moved hW.alike (gx_hK C), gx_NW.warm hW (gx_hN C), gx_inj C⟩⟩ rfl (by simpa using hn) hl.1 (by show List.map _ _ = _; simp only [List.map_append, List.map_reverse, List.map_cons] <;> rfl) (lv_room (gx_cs hW)) d hR) hS (fun q _ h => gx_own C hS h) (fun q h => gx_own C hS h) (fun u t H1 locs1 ht hvm hw hB hz1 hk1 hS1 => ?_)
  have hB : va_P D vwCl (gx_w La tc ad u) t.heap := hB
  rw [ht] at hB
  exact kk u hw H1 locs1 ls hB hS1 hl
theorem gx_callR (C : gx_C p R s m args meth c cc own nL Ts ret D tc ad La A H0) {Cn : String} {index maxL n dd : Nat} {y : MethodName} {bytes : ByteArray} {rt : Option FieldType} {ws : List Cond} {b : Nat} {as rest : List gx_V} {post : Nat → gx_M → Prop} {fs : List (Option Nat)} {T : u_T} {N : Nat} (ci : Nat) (hc : vwCl[ci]? = some (Cn, T, N)) (hLa : La[b]? = some (.inl (ci, fs))) (K : gx_Cr La y ws dd (gx_R b :: as) M post) (cw : CallW R s args own Cn index y bytes maxL rt ws (gx_rm dd) 0 0 n) (hn : as.length = n) (hst : st = as.reverse ++ gx_R b :: rest) (hW : (rest.map gx_c2).sum ≤ 8) (hR : cells ≤ R.cells ∧ slots ≤ R.slots) (d : decode cc pc = .ok (.invokevirtual index, 3)) (kk : ∀ b M', post b M' → gx_G p l e R s m args below meth c cells slots Q nL D tc ad La A H0 (pc + 3) L (gx_R b :: rest) M') : gx_G p l e R s m args below meth c cells slots Q nL D tc ad La A H0 pc L st M := by
  intro H locs ls hP hS hl
  subst hst
  refine va_callr (va_runV (b := ad b) (As := as.map (gx_T ad)) (rest := rest.map (gx_T ad)) ⟨gx_hx C, gx_hb C, gx_hml C, gx_hown C, gx_hts C⟩ (K l D tc ad H.size) cw ⟨gx_blind _ D tc ad La H.size M, va_recv (gx_hK C) hP hc (gx_at hLa), fun U hU hW => ⟨rfl, by rw [hU], by rw [hU]; exact hP, va_K.moved hW.alike (gx_hK C), gx_NW.warm hW (gx_hN C), gx_inj C⟩⟩ rfl (by simpa using hn) hl.1 (by show List.map _ _ = _; simp only [List.map_append, List.map_reverse, List.map_cons] <;> rfl) (lv_room (gx_cs hW)) d hR) hS (fun q _ h => gx_own C hS h) (fun q h => gx_own C hS h) (fun u ra t H1 locs1 ht hvm hw hB hz1 hk1 hS1 => ?_)
  obtain ⟨rfl, hB⟩ := hB
  rw [ht] at hB
  exact kk u.1 u.2 hw H1 locs1 ls hB hS1 hl
theorem gx_callRN (C : gx_C p R s m args meth c cc own nL Ts ret D tc ad La A H0) {Cn : String} {host : String} {index maxL n dd : Nat} {y : MethodName} {bytes : ByteArray} {rt : Option FieldType} {ws : List Cond} {b : Nat} {as rest : List gx_V} {post : Nat → gx_M → Prop} {fs : List (Option Nat)} {T : u_T} {N : Nat} (ci : Nat) (hc : vwCl[ci]? = some (Cn, T, N)) (hLa : La[b]? = some (.inl (ci, fs))) (K : gx_Cr La y ws dd (gx_R b :: as) M post) (cw : va_CN R s args own index y host bytes maxL rt ws (gx_rm dd) 0 0 n ∧ (Cond.instanceMethod y).before args s = true ∧ (Cond.selects Cn y y).before args s = true) (hn : as.length = n) (hst : st = as.reverse ++ gx_R b :: rest) (hW : (rest.map gx_c2).sum ≤ 8) (hR : cells ≤ R.cells ∧ slots ≤ R.slots) (d : decode cc pc = .ok (.invokevirtual index, 3)) (kk : ∀ b M', post b M' → gx_G p l e R s m args below meth c cells slots Q nL D tc ad La A H0 (pc + 3) L (gx_R b :: rest) M') : gx_G p l e R s m args below meth c cells slots Q nL D tc ad La A H0 pc L st M := by
  intro H locs ls hP hS hl
  subst hst
  refine va_callr (va_runVN (b := ad b) (As := as.map (gx_T ad)) (rest := rest.map (gx_T ad)) ⟨gx_hx C, gx_hb C, gx_hml C, gx_hown C, gx_hts C⟩ (K l D tc ad H.size) cw ⟨gx_blind _ D tc ad La H.size M, va_recv (gx_hK C) hP hc (gx_at hLa), fun U hU hW => ⟨rfl, by rw [hU], by rw [hU]; exact hP, va_K.moved hW.alike (gx_hK C), gx_NW.warm hW (gx_hN C), gx_inj C⟩⟩ rfl (by simpa using hn) hl.1 (by show List.map _ _ = _; simp only [List.map_append, List.map_reverse, List.map_cons] <;> rfl) (lv_room (gx_cs hW)) d hR) hS (fun q _ h => gx_own C hS h) (fun q h => gx_own C hS h) (fun u ra t H1 locs1 ht hvm hw hB hz1 hk1 hS1 => ?_)
  obtain ⟨rfl, hB⟩ := hB
  rw [ht] at hB
  exact kk u.1 u.2 hw H1 locs1 ls hB hS1 hl
theorem gx_iret (C : gx_C p R s m args meth c cc own nL Ts (some .int) D tc ad La A s.heap) {post : Int → gx_M → Prop} {z : Int} (d : decode cc pc = .ok (.ireturn, 1)) (h : post z M) : gx_G p l e R s m args below meth c 0 0 (MQ below (va_Qi (fun r (M' : gx_M) => ∃ z, r = gx_i z ∧ post z M') (fun M' t => va_P D vwCl (gx_w La tc ad M') t.heap) A) args s 0 0 A) nL D tc ad La A s.heap pc L [gx_I z] M :=
  fun H locs ls hP hS hl => W.iret (v := gx_i z) (gx_hx C) (gx_hb C) (gx_hret C) (fun t ht hW => ⟨⟨gx_i z, M, rfl, ⟨z, rfl, h⟩, gx_ht ht hP⟩, hS.F ht⟩) hS.2.2 d (gx_hlk C)
theorem gx_zret (C : gx_C p R s m args meth c cc own nL Ts (some .boolean) D tc ad La A s.heap) {post : Int → gx_M → Prop} {z : Int} (hz : z = 0 ∨ z = 1) (d : decode cc pc = .ok (.ireturn, 1)) (h : post z M) : gx_G p l e R s m args below meth c 0 0 (MQ below (va_Qi (fun r (M' : gx_M) => ∃ z, r = gx_i z ∧ post z M') (fun M' t => va_P D vwCl (gx_w La tc ad M') t.heap) A) args s 0 0 A) nL D tc ad La A s.heap pc L [gx_I z] M :=
  fun H locs ls hP hS hl => W.zret (v := gx_i z) (ty := .boolean) (gx_hx C) (gx_hb C) (gx_hret C) (gx_nZ hz) (fun t ht hW => ⟨⟨gx_i z, M, rfl, ⟨z, rfl, h⟩, gx_ht ht hP⟩, hS.F ht⟩) hS.2.2 d (gx_hlk C)
theorem gx_vret (C : gx_C p R s m args meth c cc own nL Ts none D tc ad La A s.heap) {post : gx_M → Prop} (d : decode cc pc = .ok (.return_, 1)) (h : post M) : gx_G p l e R s m args below meth c 0 0 (MQ below (va_Qv (fun (M' : gx_M) => post M') (fun M' t => va_P D vwCl (gx_w La tc ad M') t.heap) A) args s 0 0 A) nL D tc ad La A s.heap pc L [] M :=
  fun H locs ls hP hS hl => W.vret (gx_hx C) (gx_hb C) (gx_hret C) (fun t ht hW => ⟨⟨M, rfl, h, gx_ht ht hP⟩, hS.F ht⟩) hS.2.2 d (gx_hlk C)
theorem gx_aret {rt : FieldType} (C : gx_C p R s m args meth c cc own nL Ts (some (.array rt)) D tc ad La A s.heap) {post : Nat → gx_M → Prop} {r : Nat} (d : decode cc pc = .ok (.areturn, 1)) (h : post r M) : gx_G p l e R s m args below meth c 0 0 (MQ below (va_Qr (fun (u : Nat × gx_M) => post u.1 u.2) (fun u q t => q = ad u.1 ∧ va_P D vwCl (gx_w La tc ad u.2) t.heap) A) args s 0 0 A) nL D tc ad La A s.heap pc L [gx_R r] M :=
  fun H locs ls hP hS hl => W.aret (v := .ref (ad r)) (rt := .array rt) (gx_hx C) (gx_hb C) (gx_hret C) (Or.inr ⟨rt, rfl⟩) (Or.inr ⟨ad r, rfl⟩) (fun t ht hW => ⟨⟨(r, M), ad r, rfl, h, rfl, gx_ht ht hP⟩, hS.F ht⟩) hS.2.2 d (gx_hlk C)
end GXD
/-- the locals at a method's entry -/
def gx_x : List gx_V → List gx_V
  | [] => []
  | v :: vs => match v with
    | .inr (.inr (.inl x)) => gx_J x :: gx_U :: gx_x vs
    | v => v :: gx_x vs
def gx_pad (av : List gx_V) (n : Nat) : List gx_V := gx_x av ++ List.replicate (n - (gx_x av).length) gx_U
theorem gx_x_in {ad : Nat → Nat} : ∀ (av : List gx_V) (i k : Nat) (v : gx_V), (gx_x av)[k]? = some v → v ≠ gx_U → (i + k, gx_T ad v) ∈ lv_args i (av.map (gx_T ad))
  | [], _, _, _, h, _ => by simp [gx_x] at h
  | v0 :: vs, i, k, v, h, hv => by
    have one : ∀ (h1 : gx_x (v0 :: vs) = v0 :: gx_x vs) (h2 : ¬ (gx_T ad v0).category = 2), (i + k, gx_T ad v) ∈ lv_args i ((v0 :: vs).map (gx_T ad)) := fun h1 h2 => by
      rw [h1] at h
      show _ ∈ (i, gx_T ad v0) :: lv_args (if (gx_T ad v0).category = 2 then i + 2 else i + 1) (vs.map (gx_T ad))
      rw [if_neg h2]
      match k, h with
      | 0, h =>
        simp at h
        rw [h]
        exact List.mem_cons_self
      | k + 1, h =>
        have := gx_x_in (ad := ad) vs (i + 1) k v (by simpa using h) hv
        rw [show i + 1 + k = i + (k + 1) by omega] at this
        exact List.mem_cons_of_mem _ this
    match v0, one with
    | .inl z, one => exact one rfl (by simp [gx_T, Value.category])
    | .inr (.inl z), one => exact one rfl (by simp [gx_T, Value.category])
    | .inr (.inr (.inr ())), one => exact one rfl (by simp [gx_T, Value.category])
    | .inr (.inr (.inl z)), _ =>
      show _ ∈ (i, Value.long z) :: lv_args (i + 2) (vs.map (gx_T ad))
      match k, h with
      | 0, h =>
        simp [gx_x] at h
        rw [← h]
        exact List.mem_cons_self
      | 1, h =>
        simp [gx_x] at h
        exact absurd h.symm hv
      | k + 2, h =>
        have := gx_x_in (ad := ad) vs (i + 2) k v (by simpa [gx_x] using h) hv
        rw [show i + 2 + k = i + (k + 2) by omega] at this
        exact List.mem_cons_of_mem _ this
theorem gx_x_len {ad : Nat → Nat} : ∀ av : List gx_V, (lg_sl (av.map (gx_T ad))).length = (gx_x av).length
  | [] => rfl
  | v0 :: vs => by
    have ih := gx_x_len (ad := ad) vs
    have hc : lg_sl ((v0 :: vs).map (gx_T ad)) = lg_sl [gx_T ad v0] ++ lg_sl (vs.map (gx_T ad)) := by simp [lg_sl]
    rw [hc, List.length_append, ih]
    match v0 with
    | .inl z => simp [lg_sl, gx_T, gx_x, Value.category]; omega
    | .inr (.inl z) => simp [lg_sl, gx_T, gx_x, Value.category]; omega
    | .inr (.inr (.inr ())) => simp [lg_sl, gx_T, gx_x, Value.category]; omega
    | .inr (.inr (.inl z)) => simp [lg_sl, gx_T, gx_x, Value.category]; omega
theorem gx_begin {ad : Nat → Nat} {av : List gx_V} {n : Nat} (h : (gx_x av).length ≤ n) : lv_has ((lg_sl (av.map (gx_T ad)) ++ List.replicate (n - (lg_sl (av.map (gx_T ad))).length) Slot.unset).toArray) n (gx_l ad 0 (gx_pad av n)) := by
  refine gx_lmono (lv_entry (av.map (gx_T ad)) (n := n) (by rw [gx_x_len]; exact h)) (fun k v hk hv => ?_)
  unfold gx_pad at hk
  by_cases hlt : k < (gx_x av).length
  · rw [List.getElem?_append_left hlt] at hk
    simpa using gx_x_in (ad := ad) av 0 k v hk hv
  · rw [List.getElem?_append_right (by omega), List.getElem?_replicate] at hk
    split at hk
    · exact absurd (Option.some.inj hk).symm hv
    · cases hk
theorem gx_start_i {La : List gx_K} {y : MethodName} {ws ws' : List Cond} {cc : ByteArray} {maxL d : Nat} {av L : List gx_V} {M : gx_M} {post : Int → gx_M → Prop} {own : String} {ret : Option FieldType} (hy : plainName y.cls = true) (hown : y.cls = own) (hw : ws = Cond.code y cc maxL ret :: ws') (hlen : (gx_x av).length ≤ maxL) (hL : gx_pad av maxL = L) (body : ∀ (l : Launch) (D : va_G) (tc : Nat → ClassId) (ad : Nat → Nat) (p : Program) (e : Env) (s : State) (m : MethodId) (args : Array Value) (below : List Frame) (meth : Method) (c : Code), gx_C p (gx_rm d) s m args meth c cc own maxL ws ret D tc ad La (gx_A ad La.length s.heap.size) s.heap → gx_G p l e (gx_rm d) s m args below meth c 0 0 (MQ below (va_Qi (fun r (M' : gx_M) => ∃ z, r = gx_i z ∧ post z M') (fun M' t => va_P D vwCl (gx_w La tc ad M') t.heap) (gx_A ad La.length s.heap.size)) args s 0 0 (gx_A ad La.length s.heap.size)) maxL D tc ad La (gx_A ad La.length s.heap.size) s.heap 0 L [] M) : gx_Ci La y ws d av M post := by
  intro l D tc ad sz
  refine Met.ofW (cc := cc) (maxL := maxL) (ret := ret) hy hw ?_
  intro p e s m args below meth c s₁ B hml hv
  obtain ⟨rfl, rfl, hP, hK, hN, hI⟩ := hv
  subst hL hown
  have hts := atoms_spec (ws := ws) B.pre
  rw [lg_entry_eq]
  exact body l D tc ad p e s m _ below meth c ⟨B.exec, B.bytes, hml, findClass_of_methodNamed B.named, hts, hK, hN, B.notSynchronized, B.returns, hI, fun i hi => Or.inl ⟨i, hi, rfl⟩, fun q h => Or.inr h⟩ s.heap [] _ hP va_S.rf (gx_begin hlen)
theorem gx_start_v {La : List gx_K} {y : MethodName} {ws ws' : List Cond} {cc : ByteArray} {maxL d : Nat} {av L : List gx_V} {M : gx_M} {post : gx_M → Prop} {own : String} {ret : Option FieldType} (hy : plainName y.cls = true) (hown : y.cls = own) (hw : ws = Cond.code y cc maxL ret :: ws') (hlen : (gx_x av).length ≤ maxL) (hL : gx_pad av maxL = L) (body : ∀ (l : Launch) (D : va_G) (tc : Nat → ClassId) (ad : Nat → Nat) (p : Program) (e : Env) (s : State) (m : MethodId) (args : Array Value) (below : List Frame) (meth : Method) (c : Code), gx_C p (gx_rm d) s m args meth c cc own maxL ws ret D tc ad La (gx_A ad La.length s.heap.size) s.heap → gx_G p l e (gx_rm d) s m args below meth c 0 0 (MQ below (va_Qv (fun (M' : gx_M) => post M') (fun M' t => va_P D vwCl (gx_w La tc ad M') t.heap) (gx_A ad La.length s.heap.size)) args s 0 0 (gx_A ad La.length s.heap.size)) maxL D tc ad La (gx_A ad La.length s.heap.size) s.heap 0 L [] M) : gx_Cv La y ws d av M post := by
  intro l D tc ad sz
  refine Met.ofW (cc := cc) (maxL := maxL) (ret := ret) hy hw ?_
  intro p e s m args below meth c s₁ B hml hv
  obtain ⟨rfl, rfl, hP, hK, hN, hI⟩ := hv
  subst hL hown
  have hts := atoms_spec (ws := ws) B.pre
  rw [lg_entry_eq]
  exact body l D tc ad p e s m _ below meth c ⟨B.exec, B.bytes, hml, findClass_of_methodNamed B.named, hts, hK, hN, B.notSynchronized, B.returns, hI, fun i hi => Or.inl ⟨i, hi, rfl⟩, fun q h => Or.inr h⟩ s.heap [] _ hP va_S.rf (gx_begin hlen)
theorem gx_start_r {La : List gx_K} {y : MethodName} {ws ws' : List Cond} {cc : ByteArray} {maxL d : Nat} {av L : List gx_V} {M : gx_M} {post : Nat → gx_M → Prop} {own : String} {ret : Option FieldType} (hy : plainName y.cls = true) (hown : y.cls = own) (hw : ws = Cond.code y cc maxL ret :: ws') (hlen : (gx_x av).length ≤ maxL) (hL : gx_pad av maxL = L) (body : ∀ (l : Launch) (D : va_G) (tc : Nat → ClassId) (ad : Nat → Nat) (p : Program) (e : Env) (s : State) (m : MethodId) (args : Array Value) (below : List Frame) (meth : Method) (c : Code), gx_C p (gx_rm d) s m args meth c cc own maxL ws ret D tc ad La (gx_A ad La.length s.heap.size) s.heap → gx_G p l e (gx_rm d) s m args below meth c 0 0 (MQ below (va_Qr (fun (u : Nat × gx_M) => post u.1 u.2) (fun u q t => q = ad u.1 ∧ va_P D vwCl (gx_w La tc ad u.2) t.heap) (gx_A ad La.length s.heap.size)) args s 0 0 (gx_A ad La.length s.heap.size)) maxL D tc ad La (gx_A ad La.length s.heap.size) s.heap 0 L [] M) : gx_Cr La y ws d av M post := by
  intro l D tc ad sz
  refine Met.ofW (cc := cc) (maxL := maxL) (ret := ret) hy hw ?_
  intro p e s m args below meth c s₁ B hml hv
  obtain ⟨rfl, rfl, hP, hK, hN, hI⟩ := hv
  subst hL hown
  have hts := atoms_spec (ws := ws) B.pre
  rw [lg_entry_eq]
  exact body l D tc ad p e s m _ below meth c ⟨B.exec, B.bytes, hml, findClass_of_methodNamed B.named, hts, hK, hN, B.notSynchronized, B.returns, hI, fun i hi => Or.inl ⟨i, hi, rfl⟩, fun q h => Or.inr h⟩ s.heap [] _ hP va_S.rf (gx_begin hlen)
section GXL
variable {p : Program} {l : Launch} {e : Env} {R : Room} {s : State} {m : MethodId} {args : Array Value} {below : List Frame} {meth : Method} {c : Code} {cells slots : Nat} {Q : State → Prop}
variable {nL : Nat} {D : va_G} {tc : Nat → ClassId} {ad : Nat → Nat} {La : List gx_K} {A : Nat → Prop} {H0 : Heap}
/-- a loop that counts to n -/
theorem gx_for {α : Type} {head : Nat} (n : Nat) (Lf : Nat → α → List gx_V) (Mf : α → gx_M) (Inv : Nat → α → Prop) (k0 : Nat) (a0 : α) (hk : k0 ≤ n) (h0 : Inv k0 a0)
    (step : ∀ k a, k < n → Inv k a → (∀ a', Inv (k + 1) a' → gx_G p l e R s m args below meth c cells slots Q nL D tc ad La A H0 head (Lf (k + 1) a') [] (Mf a')) → gx_G p l e R s m args below meth c cells slots Q nL D tc ad La A H0 head (Lf k a) [] (Mf a))
    (done : ∀ a, Inv n a → gx_G p l e R s m args below meth c cells slots Q nL D tc ad La A H0 head (Lf n a) [] (Mf a)) : gx_G p l e R s m args below meth c cells slots Q nL D tc ad La A H0 head (Lf k0 a0) [] (Mf a0) := by
  have key : ∀ j k a, k + j = n → Inv k a → gx_G p l e R s m args below meth c cells slots Q nL D tc ad La A H0 head (Lf k a) [] (Mf a) := by
    intro j
    induction j with
    | zero =>
      intro k a hj hI
      have : k = n := by omega
      subst this
      exact done a hI
    | succ j ih =>
      intro k a hj hI
      exact step k a (by omega) hI (fun a' hI' => ih (k + 1) a' (by omega) hI')
  exact key (n - k0) k0 a0 (by omega) h0
end GXL
end
section
set_option maxRecDepth 20000 in
theorem ggX8_init_X8_clear : GoodIn wsX8_init wsX8_clear := goodIn_r _ [22, 5, 23, 24, 25, 26, 27, 28, 29, 30, 31, 32, 33, 34, 35, 36, 37, 38, 39, 40, 41, 42] (by decide +kernel) (by decide +kernel)
set_option maxRecDepth 20000 in
theorem gX8_init_X8_clear : GoodIn wsX8_init (wsV RX8 45 RX8 yX8_clear wsX8_clear) := goodIn_app (goodIn_of _ (by decide +kernel)) ggX8_init_X8_clear
theorem dX8_init_0 : decode cX8_init 0 = .ok (.aload_n 0, 1) := by decide +kernel
theorem dX8_init_1 : decode cX8_init 1 = .ok (.invokespecial 1, 3) := by decide +kernel
theorem dX8_init_4 : decode cX8_init 4 = .ok (.aload_n 0, 1) := by decide +kernel
theorem dX8_init_5 : decode cX8_init 5 = .ok (.bipush 83, 2) := by decide +kernel
theorem dX8_init_7 : decode cX8_init 7 = .ok (.newarray .int, 2) := by decide +kernel
theorem dX8_init_9 : decode cX8_init 9 = .ok (.putfield 7, 3) := by decide +kernel
theorem dX8_init_12 : decode cX8_init 12 = .ok (.aload_n 0, 1) := by decide +kernel
theorem dX8_init_13 : decode cX8_init 13 = .ok (.sipush 498, 3) := by decide +kernel
theorem dX8_init_16 : decode cX8_init 16 = .ok (.newarray .int, 2) := by decide +kernel
theorem dX8_init_18 : decode cX8_init 18 = .ok (.putfield 13, 3) := by decide +kernel
theorem dX8_init_21 : decode cX8_init 21 = .ok (.aload_n 0, 1) := by decide +kernel
theorem dX8_init_22 : decode cX8_init 22 = .ok (.sipush 166, 3) := by decide +kernel
theorem dX8_init_25 : decode cX8_init 25 = .ok (.newarray .int, 2) := by decide +kernel
theorem dX8_init_27 : decode cX8_init 27 = .ok (.putfield 16, 3) := by decide +kernel
theorem dX8_init_30 : decode cX8_init 30 = .ok (.aload_n 0, 1) := by decide +kernel
theorem dX8_init_31 : decode cX8_init 31 = .ok (.iconst 2, 1) := by decide +kernel
theorem dX8_init_32 : decode cX8_init 32 = .ok (.newarray .boolean, 2) := by decide +kernel
theorem dX8_init_34 : decode cX8_init 34 = .ok (.putfield 19, 3) := by decide +kernel
theorem dX8_init_37 : decode cX8_init 37 = .ok (.aload_n 0, 1) := by decide +kernel
theorem dX8_init_38 : decode cX8_init 38 = .ok (.bipush 60, 2) := by decide +kernel
theorem dX8_init_40 : decode cX8_init 40 = .ok (.newarray .char, 2) := by decide +kernel
theorem dX8_init_42 : decode cX8_init 42 = .ok (.putfield 23, 3) := by decide +kernel
theorem dX8_init_45 : decode cX8_init 45 = .ok (.aload_n 0, 1) := by decide +kernel
theorem dX8_init_46 : decode cX8_init 46 = .ok (.sipush 1926, 3) := by decide +kernel
theorem dX8_init_49 : decode cX8_init 49 = .ok (.newarray .int, 2) := by decide +kernel
theorem dX8_init_51 : decode cX8_init 51 = .ok (.putfield 27, 3) := by decide +kernel
theorem dX8_init_54 : decode cX8_init 54 = .ok (.aload_n 0, 1) := by decide +kernel
theorem dX8_init_55 : decode cX8_init 55 = .ok (.bipush 90, 2) := by decide +kernel
theorem dX8_init_57 : decode cX8_init 57 = .ok (.newarray .int, 2) := by decide +kernel
theorem dX8_init_59 : decode cX8_init 59 = .ok (.putfield 30, 3) := by decide +kernel
theorem dX8_init_62 : decode cX8_init 62 = .ok (.aload_n 0, 1) := by decide +kernel
theorem dX8_init_63 : decode cX8_init 63 = .ok (.bipush 64, 2) := by decide +kernel
theorem dX8_init_65 : decode cX8_init 65 = .ok (.newarray .int, 2) := by decide +kernel
theorem dX8_init_67 : decode cX8_init 67 = .ok (.putfield 33, 3) := by decide +kernel
theorem dX8_init_70 : decode cX8_init 70 = .ok (.aload_n 0, 1) := by decide +kernel
theorem dX8_init_71 : decode cX8_init 71 = .ok (.bipush 64, 2) := by decide +kernel
theorem dX8_init_73 : decode cX8_init 73 = .ok (.newarray .int, 2) := by decide +kernel
theorem dX8_init_75 : decode cX8_init 75 = .ok (.putfield 36, 3) := by decide +kernel
theorem dX8_init_78 : decode cX8_init 78 = .ok (.aload_n 0, 1) := by decide +kernel
theorem dX8_init_79 : decode cX8_init 79 = .ok (.bipush 64, 2) := by decide +kernel
theorem dX8_init_81 : decode cX8_init 81 = .ok (.newarray .int, 2) := by decide +kernel
theorem dX8_init_83 : decode cX8_init 83 = .ok (.putfield 39, 3) := by decide +kernel
theorem dX8_init_86 : decode cX8_init 86 = .ok (.aload_n 0, 1) := by decide +kernel
theorem dX8_init_87 : decode cX8_init 87 = .ok (.bipush 64, 2) := by decide +kernel
theorem dX8_init_89 : decode cX8_init 89 = .ok (.newarray .int, 2) := by decide +kernel
theorem dX8_init_91 : decode cX8_init 91 = .ok (.putfield 42, 3) := by decide +kernel
theorem dX8_init_94 : decode cX8_init 94 = .ok (.aload_n 0, 1) := by decide +kernel
theorem dX8_init_95 : decode cX8_init 95 = .ok (.iconst 2, 1) := by decide +kernel
theorem dX8_init_96 : decode cX8_init 96 = .ok (.iconst 5, 1) := by decide +kernel
theorem dX8_init_97 : decode cX8_init 97 = .ok (.invokevirtual 45, 3) := by decide +kernel
theorem dX8_init_100 : decode cX8_init 100 = .ok (.return_, 1) := by decide +kernel
theorem dX8_in_0 : decode cX8_in 0 = .ok (.iload_n 0, 1) := by decide +kernel
theorem dX8_in_1 : decode cX8_in 1 = .ok (.iload_n 1, 1) := by decide +kernel
theorem dX8_in_2 : decode cX8_in 2 = .ok (.if_icmp .lt 12, 3) := by decide +kernel
theorem dX8_in_5 : decode cX8_in 5 = .ok (.iload_n 0, 1) := by decide +kernel
theorem dX8_in_6 : decode cX8_in 6 = .ok (.iload_n 2, 1) := by decide +kernel
theorem dX8_in_7 : decode cX8_in 7 = .ok (.if_icmp .gt 7, 3) := by decide +kernel
theorem dX8_in_10 : decode cX8_in 10 = .ok (.iconst 1, 1) := by decide +kernel
theorem dX8_in_11 : decode cX8_in 11 = .ok (.goto 4, 3) := by decide +kernel
theorem dX8_in_14 : decode cX8_in 14 = .ok (.iconst 0, 1) := by decide +kernel
theorem dX8_in_15 : decode cX8_in 15 = .ok (.ireturn, 1) := by decide +kernel
set_option maxRecDepth 20000 in
theorem ggX8_isRegister_X8_in : GoodIn wsX8_isRegister wsX8_in := goodIn_r _ [4] (by decide +kernel) (by decide +kernel)
set_option maxRecDepth 20000 in
theorem gX8_isRegister_X8_in : GoodIn wsX8_isRegister (va_wsS RX8 49 yX8_in wsX8_in) := goodIn_app (goodIn_of _ (by decide +kernel)) ggX8_isRegister_X8_in
theorem dX8_isRegister_0 : decode cX8_isRegister 0 = .ok (.iload_n 0, 1) := by decide +kernel
theorem dX8_isRegister_1 : decode cX8_isRegister 1 = .ok (.iconst 0, 1) := by decide +kernel
theorem dX8_isRegister_2 : decode cX8_isRegister 2 = .ok (.bipush 7, 2) := by decide +kernel
theorem dX8_isRegister_4 : decode cX8_isRegister 4 = .ok (.invokestatic 49, 3) := by decide +kernel
theorem dX8_isRegister_7 : decode cX8_isRegister 7 = .ok (.ireturn, 1) := by decide +kernel
theorem dX8_clear_0 : decode cX8_clear 0 = .ok (.iconst 0, 1) := by decide +kernel
theorem dX8_clear_1 : decode cX8_clear 1 = .ok (.istore_n 3, 1) := by decide +kernel
theorem dX8_clear_2 : decode cX8_clear 2 = .ok (.iload_n 3, 1) := by decide +kernel
theorem dX8_clear_3 : decode cX8_clear 3 = .ok (.bipush 83, 2) := by decide +kernel
theorem dX8_clear_5 : decode cX8_clear 5 = .ok (.if_icmp .ge 16, 3) := by decide +kernel
theorem dX8_clear_8 : decode cX8_clear 8 = .ok (.aload_n 0, 1) := by decide +kernel
theorem dX8_clear_9 : decode cX8_clear 9 = .ok (.getfield 7, 3) := by decide +kernel
theorem dX8_clear_12 : decode cX8_clear 12 = .ok (.iload_n 3, 1) := by decide +kernel
theorem dX8_clear_13 : decode cX8_clear 13 = .ok (.iconst 0, 1) := by decide +kernel
theorem dX8_clear_14 : decode cX8_clear 14 = .ok (.iastore, 1) := by decide +kernel
theorem dX8_clear_15 : decode cX8_clear 15 = .ok (.iinc 3 1, 3) := by decide +kernel
theorem dX8_clear_18 : decode cX8_clear 18 = .ok (.goto (-16), 3) := by decide +kernel
theorem dX8_clear_21 : decode cX8_clear 21 = .ok (.aload_n 0, 1) := by decide +kernel
theorem dX8_clear_22 : decode cX8_clear 22 = .ok (.getfield 7, 3) := by decide +kernel
theorem dX8_clear_25 : decode cX8_clear 25 = .ok (.bipush 81, 2) := by decide +kernel
theorem dX8_clear_27 : decode cX8_clear 27 = .ok (.iload_n 1, 1) := by decide +kernel
theorem dX8_clear_28 : decode cX8_clear 28 = .ok (.iastore, 1) := by decide +kernel
theorem dX8_clear_29 : decode cX8_clear 29 = .ok (.aload_n 0, 1) := by decide +kernel
theorem dX8_clear_30 : decode cX8_clear 30 = .ok (.getfield 7, 3) := by decide +kernel
theorem dX8_clear_33 : decode cX8_clear 33 = .ok (.bipush 82, 2) := by decide +kernel
theorem dX8_clear_35 : decode cX8_clear 35 = .ok (.iload_n 2, 1) := by decide +kernel
theorem dX8_clear_36 : decode cX8_clear 36 = .ok (.iastore, 1) := by decide +kernel
theorem dX8_clear_37 : decode cX8_clear 37 = .ok (.iconst 0, 1) := by decide +kernel
theorem dX8_clear_38 : decode cX8_clear 38 = .ok (.istore_n 3, 1) := by decide +kernel
theorem dX8_clear_39 : decode cX8_clear 39 = .ok (.iload_n 3, 1) := by decide +kernel
theorem dX8_clear_40 : decode cX8_clear 40 = .ok (.iload_n 1, 1) := by decide +kernel
theorem dX8_clear_41 : decode cX8_clear 41 = .ok (.if_icmp .ge 21, 3) := by decide +kernel
theorem dX8_clear_44 : decode cX8_clear 44 = .ok (.aload_n 0, 1) := by decide +kernel
theorem dX8_clear_45 : decode cX8_clear 45 = .ok (.getfield 7, 3) := by decide +kernel
theorem dX8_clear_48 : decode cX8_clear 48 = .ok (.bipush 72, 2) := by decide +kernel
theorem dX8_clear_50 : decode cX8_clear 50 = .ok (.iconst 4, 1) := by decide +kernel
theorem dX8_clear_51 : decode cX8_clear 51 = .ok (.iload_n 3, 1) := by decide +kernel
theorem dX8_clear_52 : decode cX8_clear 52 = .ok (.imul, 1) := by decide +kernel
theorem dX8_clear_53 : decode cX8_clear 53 = .ok (.iadd, 1) := by decide +kernel
theorem dX8_clear_54 : decode cX8_clear 54 = .ok (.iconst 1, 1) := by decide +kernel
theorem dX8_clear_55 : decode cX8_clear 55 = .ok (.iastore, 1) := by decide +kernel
theorem dX8_clear_56 : decode cX8_clear 56 = .ok (.iinc 3 1, 3) := by decide +kernel
theorem dX8_clear_59 : decode cX8_clear 59 = .ok (.goto (-20), 3) := by decide +kernel
theorem dX8_clear_62 : decode cX8_clear 62 = .ok (.return_, 1) := by decide +kernel
theorem dX8_record_0 : decode cX8_record 0 = .ok (.aload_n 0, 1) := by decide +kernel
theorem dX8_record_1 : decode cX8_record 1 = .ok (.getfield 53, 3) := by decide +kernel
theorem dX8_record_4 : decode cX8_record 4 = .ok (.bipush 6, 2) := by decide +kernel
theorem dX8_record_6 : decode cX8_record 6 = .ok (.if_icmp .ne 43, 3) := by decide +kernel
theorem dX8_record_9 : decode cX8_record 9 = .ok (.iconst 0, 1) := by decide +kernel
theorem dX8_record_10 : decode cX8_record 10 = .ok (.istore_n 1, 1) := by decide +kernel
theorem dX8_record_11 : decode cX8_record 11 = .ok (.iload_n 1, 1) := by decide +kernel
theorem dX8_record_12 : decode cX8_record 12 = .ok (.sipush 415, 3) := by decide +kernel
theorem dX8_record_15 : decode cX8_record 15 = .ok (.if_icmp .ge 24, 3) := by decide +kernel
theorem dX8_record_18 : decode cX8_record 18 = .ok (.aload_n 0, 1) := by decide +kernel
theorem dX8_record_19 : decode cX8_record 19 = .ok (.getfield 13, 3) := by decide +kernel
theorem dX8_record_22 : decode cX8_record 22 = .ok (.iload_n 1, 1) := by decide +kernel
theorem dX8_record_23 : decode cX8_record 23 = .ok (.aload_n 0, 1) := by decide +kernel
theorem dX8_record_24 : decode cX8_record 24 = .ok (.getfield 13, 3) := by decide +kernel
theorem dX8_record_27 : decode cX8_record 27 = .ok (.iload_n 1, 1) := by decide +kernel
theorem dX8_record_28 : decode cX8_record 28 = .ok (.bipush 83, 2) := by decide +kernel
theorem dX8_record_30 : decode cX8_record 30 = .ok (.iadd, 1) := by decide +kernel
theorem dX8_record_31 : decode cX8_record 31 = .ok (.iaload, 1) := by decide +kernel
theorem dX8_record_32 : decode cX8_record 32 = .ok (.iastore, 1) := by decide +kernel
theorem dX8_record_33 : decode cX8_record 33 = .ok (.iinc 1 1, 3) := by decide +kernel
theorem dX8_record_36 : decode cX8_record 36 = .ok (.goto (-25), 3) := by decide +kernel
theorem dX8_record_39 : decode cX8_record 39 = .ok (.aload_n 0, 1) := by decide +kernel
theorem dX8_record_40 : decode cX8_record 40 = .ok (.dup, 1) := by decide +kernel
theorem dX8_record_41 : decode cX8_record 41 = .ok (.getfield 53, 3) := by decide +kernel
theorem dX8_record_44 : decode cX8_record 44 = .ok (.iconst 1, 1) := by decide +kernel
theorem dX8_record_45 : decode cX8_record 45 = .ok (.isub, 1) := by decide +kernel
theorem dX8_record_46 : decode cX8_record 46 = .ok (.putfield 53, 3) := by decide +kernel
theorem dX8_record_49 : decode cX8_record 49 = .ok (.iconst 0, 1) := by decide +kernel
theorem dX8_record_50 : decode cX8_record 50 = .ok (.istore_n 1, 1) := by decide +kernel
theorem dX8_record_51 : decode cX8_record 51 = .ok (.iload_n 1, 1) := by decide +kernel
theorem dX8_record_52 : decode cX8_record 52 = .ok (.bipush 83, 2) := by decide +kernel
theorem dX8_record_54 : decode cX8_record 54 = .ok (.if_icmp .ge 29, 3) := by decide +kernel
theorem dX8_record_57 : decode cX8_record 57 = .ok (.aload_n 0, 1) := by decide +kernel
theorem dX8_record_58 : decode cX8_record 58 = .ok (.getfield 13, 3) := by decide +kernel
theorem dX8_record_61 : decode cX8_record 61 = .ok (.aload_n 0, 1) := by decide +kernel
theorem dX8_record_62 : decode cX8_record 62 = .ok (.getfield 53, 3) := by decide +kernel
theorem dX8_record_65 : decode cX8_record 65 = .ok (.bipush 83, 2) := by decide +kernel
theorem dX8_record_67 : decode cX8_record 67 = .ok (.imul, 1) := by decide +kernel
theorem dX8_record_68 : decode cX8_record 68 = .ok (.iload_n 1, 1) := by decide +kernel
theorem dX8_record_69 : decode cX8_record 69 = .ok (.iadd, 1) := by decide +kernel
theorem dX8_record_70 : decode cX8_record 70 = .ok (.aload_n 0, 1) := by decide +kernel
theorem dX8_record_71 : decode cX8_record 71 = .ok (.getfield 7, 3) := by decide +kernel
theorem dX8_record_74 : decode cX8_record 74 = .ok (.iload_n 1, 1) := by decide +kernel
theorem dX8_record_75 : decode cX8_record 75 = .ok (.iaload, 1) := by decide +kernel
theorem dX8_record_76 : decode cX8_record 76 = .ok (.iastore, 1) := by decide +kernel
theorem dX8_record_77 : decode cX8_record 77 = .ok (.iinc 1 1, 3) := by decide +kernel
theorem dX8_record_80 : decode cX8_record 80 = .ok (.goto (-29), 3) := by decide +kernel
theorem dX8_record_83 : decode cX8_record 83 = .ok (.aload_n 0, 1) := by decide +kernel
theorem dX8_record_84 : decode cX8_record 84 = .ok (.dup, 1) := by decide +kernel
theorem dX8_record_85 : decode cX8_record 85 = .ok (.getfield 53, 3) := by decide +kernel
theorem dX8_record_88 : decode cX8_record 88 = .ok (.iconst 1, 1) := by decide +kernel
theorem dX8_record_89 : decode cX8_record 89 = .ok (.iadd, 1) := by decide +kernel
theorem dX8_record_90 : decode cX8_record 90 = .ok (.putfield 53, 3) := by decide +kernel
theorem dX8_record_93 : decode cX8_record 93 = .ok (.return_, 1) := by decide +kernel
theorem dX8_undo_0 : decode cX8_undo 0 = .ok (.aload_n 0, 1) := by decide +kernel
theorem dX8_undo_1 : decode cX8_undo 1 = .ok (.getfield 53, 3) := by decide +kernel
theorem dX8_undo_4 : decode cX8_undo 4 = .ok (.ifCond .ne 6, 3) := by decide +kernel
theorem dX8_undo_7 : decode cX8_undo 7 = .ok (.bipush (-5), 2) := by decide +kernel
theorem dX8_undo_9 : decode cX8_undo 9 = .ok (.ireturn, 1) := by decide +kernel
theorem dX8_undo_10 : decode cX8_undo 10 = .ok (.aload_n 0, 1) := by decide +kernel
theorem dX8_undo_11 : decode cX8_undo 11 = .ok (.dup, 1) := by decide +kernel
theorem dX8_undo_12 : decode cX8_undo 12 = .ok (.getfield 53, 3) := by decide +kernel
theorem dX8_undo_15 : decode cX8_undo 15 = .ok (.iconst 1, 1) := by decide +kernel
theorem dX8_undo_16 : decode cX8_undo 16 = .ok (.isub, 1) := by decide +kernel
theorem dX8_undo_17 : decode cX8_undo 17 = .ok (.putfield 53, 3) := by decide +kernel
theorem dX8_undo_20 : decode cX8_undo 20 = .ok (.iconst 0, 1) := by decide +kernel
theorem dX8_undo_21 : decode cX8_undo 21 = .ok (.istore_n 1, 1) := by decide +kernel
theorem dX8_undo_22 : decode cX8_undo 22 = .ok (.iload_n 1, 1) := by decide +kernel
theorem dX8_undo_23 : decode cX8_undo 23 = .ok (.bipush 83, 2) := by decide +kernel
theorem dX8_undo_25 : decode cX8_undo 25 = .ok (.if_icmp .ge 29, 3) := by decide +kernel
theorem dX8_undo_28 : decode cX8_undo 28 = .ok (.aload_n 0, 1) := by decide +kernel
theorem dX8_undo_29 : decode cX8_undo 29 = .ok (.getfield 7, 3) := by decide +kernel
theorem dX8_undo_32 : decode cX8_undo 32 = .ok (.iload_n 1, 1) := by decide +kernel
theorem dX8_undo_33 : decode cX8_undo 33 = .ok (.aload_n 0, 1) := by decide +kernel
theorem dX8_undo_34 : decode cX8_undo 34 = .ok (.getfield 13, 3) := by decide +kernel
theorem dX8_undo_37 : decode cX8_undo 37 = .ok (.aload_n 0, 1) := by decide +kernel
theorem dX8_undo_38 : decode cX8_undo 38 = .ok (.getfield 53, 3) := by decide +kernel
theorem dX8_undo_41 : decode cX8_undo 41 = .ok (.bipush 83, 2) := by decide +kernel
theorem dX8_undo_43 : decode cX8_undo 43 = .ok (.imul, 1) := by decide +kernel
theorem dX8_undo_44 : decode cX8_undo 44 = .ok (.iload_n 1, 1) := by decide +kernel
theorem dX8_undo_45 : decode cX8_undo 45 = .ok (.iadd, 1) := by decide +kernel
theorem dX8_undo_46 : decode cX8_undo 46 = .ok (.iaload, 1) := by decide +kernel
theorem dX8_undo_47 : decode cX8_undo 47 = .ok (.iastore, 1) := by decide +kernel
theorem dX8_undo_48 : decode cX8_undo 48 = .ok (.iinc 1 1, 3) := by decide +kernel
theorem dX8_undo_51 : decode cX8_undo 51 = .ok (.goto (-29), 3) := by decide +kernel
theorem dX8_undo_54 : decode cX8_undo 54 = .ok (.aload_n 0, 1) := by decide +kernel
theorem dX8_undo_55 : decode cX8_undo 55 = .ok (.getfield 53, 3) := by decide +kernel
theorem dX8_undo_58 : decode cX8_undo 58 = .ok (.ireturn, 1) := by decide +kernel
set_option maxRecDepth 20000 in
theorem ggX8_save_X8_in : GoodIn wsX8_save wsX8_in := goodIn_r _ [7] (by decide +kernel) (by decide +kernel)
set_option maxRecDepth 20000 in
theorem gX8_save_X8_in : GoodIn wsX8_save (va_wsS RX8 49 yX8_in wsX8_in) := goodIn_app (goodIn_of _ (by decide +kernel)) ggX8_save_X8_in
theorem dX8_save_0 : decode cX8_save 0 = .ok (.iload_n 1, 1) := by decide +kernel
theorem dX8_save_1 : decode cX8_save 1 = .ok (.iconst 0, 1) := by decide +kernel
theorem dX8_save_2 : decode cX8_save 2 = .ok (.iconst 1, 1) := by decide +kernel
theorem dX8_save_3 : decode cX8_save 3 = .ok (.invokestatic 49, 3) := by decide +kernel
theorem dX8_save_6 : decode cX8_save 6 = .ok (.ifCond .ne 6, 3) := by decide +kernel
theorem dX8_save_9 : decode cX8_save 9 = .ok (.bipush (-2), 2) := by decide +kernel
theorem dX8_save_11 : decode cX8_save 11 = .ok (.ireturn, 1) := by decide +kernel
theorem dX8_save_12 : decode cX8_save 12 = .ok (.aload_n 0, 1) := by decide +kernel
theorem dX8_save_13 : decode cX8_save 13 = .ok (.getfield 19, 3) := by decide +kernel
theorem dX8_save_16 : decode cX8_save 16 = .ok (.iload_n 1, 1) := by decide +kernel
theorem dX8_save_17 : decode cX8_save 17 = .ok (.iconst 1, 1) := by decide +kernel
theorem dX8_save_18 : decode cX8_save 18 = .ok (.bastore, 1) := by decide +kernel
theorem dX8_save_19 : decode cX8_save 19 = .ok (.iconst 0, 1) := by decide +kernel
theorem dX8_save_20 : decode cX8_save 20 = .ok (.istore_n 2, 1) := by decide +kernel
theorem dX8_save_21 : decode cX8_save 21 = .ok (.iload_n 2, 1) := by decide +kernel
theorem dX8_save_22 : decode cX8_save 22 = .ok (.bipush 83, 2) := by decide +kernel
theorem dX8_save_24 : decode cX8_save 24 = .ok (.if_icmp .ge 26, 3) := by decide +kernel
theorem dX8_save_27 : decode cX8_save 27 = .ok (.aload_n 0, 1) := by decide +kernel
theorem dX8_save_28 : decode cX8_save 28 = .ok (.getfield 16, 3) := by decide +kernel
theorem dX8_save_31 : decode cX8_save 31 = .ok (.iload_n 1, 1) := by decide +kernel
theorem dX8_save_32 : decode cX8_save 32 = .ok (.bipush 83, 2) := by decide +kernel
theorem dX8_save_34 : decode cX8_save 34 = .ok (.imul, 1) := by decide +kernel
theorem dX8_save_35 : decode cX8_save 35 = .ok (.iload_n 2, 1) := by decide +kernel
theorem dX8_save_36 : decode cX8_save 36 = .ok (.iadd, 1) := by decide +kernel
theorem dX8_save_37 : decode cX8_save 37 = .ok (.aload_n 0, 1) := by decide +kernel
theorem dX8_save_38 : decode cX8_save 38 = .ok (.getfield 7, 3) := by decide +kernel
theorem dX8_save_41 : decode cX8_save 41 = .ok (.iload_n 2, 1) := by decide +kernel
theorem dX8_save_42 : decode cX8_save 42 = .ok (.iaload, 1) := by decide +kernel
theorem dX8_save_43 : decode cX8_save 43 = .ok (.iastore, 1) := by decide +kernel
theorem dX8_save_44 : decode cX8_save 44 = .ok (.iinc 2 1, 3) := by decide +kernel
theorem dX8_save_47 : decode cX8_save 47 = .ok (.goto (-26), 3) := by decide +kernel
theorem dX8_save_50 : decode cX8_save 50 = .ok (.aload_n 0, 1) := by decide +kernel
theorem dX8_save_51 : decode cX8_save 51 = .ok (.getfield 7, 3) := by decide +kernel
theorem dX8_save_54 : decode cX8_save 54 = .ok (.bipush 81, 2) := by decide +kernel
theorem dX8_save_56 : decode cX8_save 56 = .ok (.iaload, 1) := by decide +kernel
theorem dX8_save_57 : decode cX8_save 57 = .ok (.ireturn, 1) := by decide +kernel
set_option maxRecDepth 20000 in
theorem ggX8_restore_X8_in : GoodIn wsX8_restore wsX8_in := goodIn_r _ [7] (by decide +kernel) (by decide +kernel)
set_option maxRecDepth 20000 in
theorem gX8_restore_X8_in : GoodIn wsX8_restore (va_wsS RX8 49 yX8_in wsX8_in) := goodIn_app (goodIn_of _ (by decide +kernel)) ggX8_restore_X8_in
set_option maxRecDepth 20000 in
theorem ggX8_restore_X8_record : GoodIn wsX8_restore wsX8_record := goodIn_r _ [11, 12, 13, 2, 14, 15, 16, 17, 18, 19, 20, 21, 22, 23, 24, 25, 26, 27, 28, 29, 30, 31, 32, 33] (by decide +kernel) (by decide +kernel)
set_option maxRecDepth 20000 in
theorem gX8_restore_X8_record : GoodIn wsX8_restore (wsV RX8 57 RX8 yX8_record wsX8_record) := goodIn_app (goodIn_of _ (by decide +kernel)) ggX8_restore_X8_record
theorem dX8_restore_0 : decode cX8_restore 0 = .ok (.iload_n 1, 1) := by decide +kernel
theorem dX8_restore_1 : decode cX8_restore 1 = .ok (.iconst 0, 1) := by decide +kernel
theorem dX8_restore_2 : decode cX8_restore 2 = .ok (.iconst 1, 1) := by decide +kernel
theorem dX8_restore_3 : decode cX8_restore 3 = .ok (.invokestatic 49, 3) := by decide +kernel
theorem dX8_restore_6 : decode cX8_restore 6 = .ok (.ifCond .ne 6, 3) := by decide +kernel
theorem dX8_restore_9 : decode cX8_restore 9 = .ok (.bipush (-2), 2) := by decide +kernel
theorem dX8_restore_11 : decode cX8_restore 11 = .ok (.ireturn, 1) := by decide +kernel
theorem dX8_restore_12 : decode cX8_restore 12 = .ok (.aload_n 0, 1) := by decide +kernel
theorem dX8_restore_13 : decode cX8_restore 13 = .ok (.getfield 19, 3) := by decide +kernel
theorem dX8_restore_16 : decode cX8_restore 16 = .ok (.iload_n 1, 1) := by decide +kernel
theorem dX8_restore_17 : decode cX8_restore 17 = .ok (.baload, 1) := by decide +kernel
theorem dX8_restore_18 : decode cX8_restore 18 = .ok (.ifCond .ne 6, 3) := by decide +kernel
theorem dX8_restore_21 : decode cX8_restore 21 = .ok (.bipush (-5), 2) := by decide +kernel
theorem dX8_restore_23 : decode cX8_restore 23 = .ok (.ireturn, 1) := by decide +kernel
theorem dX8_restore_24 : decode cX8_restore 24 = .ok (.aload_n 0, 1) := by decide +kernel
theorem dX8_restore_25 : decode cX8_restore 25 = .ok (.invokevirtual 57, 3) := by decide +kernel
theorem dX8_restore_28 : decode cX8_restore 28 = .ok (.iconst 0, 1) := by decide +kernel
theorem dX8_restore_29 : decode cX8_restore 29 = .ok (.istore_n 2, 1) := by decide +kernel
theorem dX8_restore_30 : decode cX8_restore 30 = .ok (.iload_n 2, 1) := by decide +kernel
theorem dX8_restore_31 : decode cX8_restore 31 = .ok (.bipush 83, 2) := by decide +kernel
theorem dX8_restore_33 : decode cX8_restore 33 = .ok (.if_icmp .ge 26, 3) := by decide +kernel
theorem dX8_restore_36 : decode cX8_restore 36 = .ok (.aload_n 0, 1) := by decide +kernel
theorem dX8_restore_37 : decode cX8_restore 37 = .ok (.getfield 7, 3) := by decide +kernel
theorem dX8_restore_40 : decode cX8_restore 40 = .ok (.iload_n 2, 1) := by decide +kernel
theorem dX8_restore_41 : decode cX8_restore 41 = .ok (.aload_n 0, 1) := by decide +kernel
theorem dX8_restore_42 : decode cX8_restore 42 = .ok (.getfield 16, 3) := by decide +kernel
theorem dX8_restore_45 : decode cX8_restore 45 = .ok (.iload_n 1, 1) := by decide +kernel
theorem dX8_restore_46 : decode cX8_restore 46 = .ok (.bipush 83, 2) := by decide +kernel
theorem dX8_restore_48 : decode cX8_restore 48 = .ok (.imul, 1) := by decide +kernel
theorem dX8_restore_49 : decode cX8_restore 49 = .ok (.iload_n 2, 1) := by decide +kernel
theorem dX8_restore_50 : decode cX8_restore 50 = .ok (.iadd, 1) := by decide +kernel
theorem dX8_restore_51 : decode cX8_restore 51 = .ok (.iaload, 1) := by decide +kernel
theorem dX8_restore_52 : decode cX8_restore 52 = .ok (.iastore, 1) := by decide +kernel
theorem dX8_restore_53 : decode cX8_restore 53 = .ok (.iinc 2 1, 3) := by decide +kernel
theorem dX8_restore_56 : decode cX8_restore 56 = .ok (.goto (-26), 3) := by decide +kernel
theorem dX8_restore_59 : decode cX8_restore 59 = .ok (.aload_n 0, 1) := by decide +kernel
theorem dX8_restore_60 : decode cX8_restore 60 = .ok (.getfield 7, 3) := by decide +kernel
theorem dX8_restore_63 : decode cX8_restore 63 = .ok (.bipush 81, 2) := by decide +kernel
theorem dX8_restore_65 : decode cX8_restore 65 = .ok (.iaload, 1) := by decide +kernel
theorem dX8_restore_66 : decode cX8_restore 66 = .ok (.ireturn, 1) := by decide +kernel
theorem dX8_half_0 : decode cX8_half 0 = .ok (.aload_n 0, 1) := by decide +kernel
theorem dX8_half_1 : decode cX8_half 1 = .ok (.getfield 7, 3) := by decide +kernel
theorem dX8_half_4 : decode cX8_half 4 = .ok (.bipush 82, 2) := by decide +kernel
theorem dX8_half_6 : decode cX8_half 6 = .ok (.iaload, 1) := by decide +kernel
theorem dX8_half_7 : decode cX8_half 7 = .ok (.iconst 1, 1) := by decide +kernel
theorem dX8_half_8 : decode cX8_half 8 = .ok (.iadd, 1) := by decide +kernel
theorem dX8_half_9 : decode cX8_half 9 = .ok (.iconst 2, 1) := by decide +kernel
theorem dX8_half_10 : decode cX8_half 10 = .ok (.idiv, 1) := by decide +kernel
theorem dX8_half_11 : decode cX8_half 11 = .ok (.ireturn, 1) := by decide +kernel
theorem dX8_within_0 : decode cX8_within 0 = .ok (.aload_n 0, 1) := by decide +kernel
theorem dX8_within_1 : decode cX8_within 1 = .ok (.getfield 7, 3) := by decide +kernel
theorem dX8_within_4 : decode cX8_within 4 = .ok (.bipush 82, 2) := by decide +kernel
theorem dX8_within_6 : decode cX8_within 6 = .ok (.iaload, 1) := by decide +kernel
theorem dX8_within_7 : decode cX8_within 7 = .ok (.istore_n 2, 1) := by decide +kernel
theorem dX8_within_8 : decode cX8_within 8 = .ok (.iload_n 1, 1) := by decide +kernel
theorem dX8_within_9 : decode cX8_within 9 = .ok (.iload_n 2, 1) := by decide +kernel
theorem dX8_within_10 : decode cX8_within 10 = .ok (.irem, 1) := by decide +kernel
theorem dX8_within_11 : decode cX8_within 11 = .ok (.iload_n 2, 1) := by decide +kernel
theorem dX8_within_12 : decode cX8_within 12 = .ok (.iadd, 1) := by decide +kernel
theorem dX8_within_13 : decode cX8_within 13 = .ok (.iload_n 2, 1) := by decide +kernel
theorem dX8_within_14 : decode cX8_within 14 = .ok (.irem, 1) := by decide +kernel
theorem dX8_within_15 : decode cX8_within 15 = .ok (.ireturn, 1) := by decide +kernel
theorem dX8_over_0 : decode cX8_over 0 = .ok (.iconst 1, 1) := by decide +kernel
theorem dX8_over_1 : decode cX8_over 1 = .ok (.istore_n 2, 1) := by decide +kernel
theorem dX8_over_2 : decode cX8_over 2 = .ok (.iconst 1, 1) := by decide +kernel
theorem dX8_over_3 : decode cX8_over 3 = .ok (.istore_n 3, 1) := by decide +kernel
theorem dX8_over_4 : decode cX8_over 4 = .ok (.iload_n 3, 1) := by decide +kernel
theorem dX8_over_5 : decode cX8_over 5 = .ok (.aload_n 0, 1) := by decide +kernel
theorem dX8_over_6 : decode cX8_over 6 = .ok (.getfield 7, 3) := by decide +kernel
theorem dX8_over_9 : decode cX8_over 9 = .ok (.bipush 82, 2) := by decide +kernel
theorem dX8_over_11 : decode cX8_over 11 = .ok (.iaload, 1) := by decide +kernel
theorem dX8_over_12 : decode cX8_over 12 = .ok (.if_icmp .ge 30, 3) := by decide +kernel
theorem dX8_over_15 : decode cX8_over 15 = .ok (.iload_n 1, 1) := by decide +kernel
theorem dX8_over_16 : decode cX8_over 16 = .ok (.iload_n 3, 1) := by decide +kernel
theorem dX8_over_17 : decode cX8_over 17 = .ok (.imul, 1) := by decide +kernel
theorem dX8_over_18 : decode cX8_over 18 = .ok (.aload_n 0, 1) := by decide +kernel
theorem dX8_over_19 : decode cX8_over 19 = .ok (.getfield 7, 3) := by decide +kernel
theorem dX8_over_22 : decode cX8_over 22 = .ok (.bipush 82, 2) := by decide +kernel
theorem dX8_over_24 : decode cX8_over 24 = .ok (.iaload, 1) := by decide +kernel
theorem dX8_over_25 : decode cX8_over 25 = .ok (.irem, 1) := by decide +kernel
theorem dX8_over_26 : decode cX8_over 26 = .ok (.iconst 1, 1) := by decide +kernel
theorem dX8_over_27 : decode cX8_over 27 = .ok (.if_icmp .ne 7, 3) := by decide +kernel
theorem dX8_over_30 : decode cX8_over 30 = .ok (.iload_n 3, 1) := by decide +kernel
theorem dX8_over_31 : decode cX8_over 31 = .ok (.goto 4, 3) := by decide +kernel
theorem dX8_over_34 : decode cX8_over 34 = .ok (.iload_n 2, 1) := by decide +kernel
theorem dX8_over_35 : decode cX8_over 35 = .ok (.istore_n 2, 1) := by decide +kernel
theorem dX8_over_36 : decode cX8_over 36 = .ok (.iinc 3 1, 3) := by decide +kernel
theorem dX8_over_39 : decode cX8_over 39 = .ok (.goto (-35), 3) := by decide +kernel
theorem dX8_over_42 : decode cX8_over 42 = .ok (.iload_n 2, 1) := by decide +kernel
theorem dX8_over_43 : decode cX8_over 43 = .ok (.ireturn, 1) := by decide +kernel
set_option maxRecDepth 20000 in
theorem ggX8_times_X8_blank : GoodIn wsX8_times wsX8_blank := goodIn_r _ [7, 2, 8, 9, 10, 11, 12, 13, 14, 15, 16, 17, 18, 19, 20, 21, 22, 23, 24, 25, 26, 27] (by decide +kernel) (by decide +kernel)
set_option maxRecDepth 20000 in
theorem gX8_times_X8_blank : GoodIn wsX8_times (wsV RX8 60 RX8 yX8_blank wsX8_blank) := goodIn_app (goodIn_of _ (by decide +kernel)) ggX8_times_X8_blank
theorem dX8_times_0 : decode cX8_times 0 = .ok (.aload_n 0, 1) := by decide +kernel
theorem dX8_times_1 : decode cX8_times 1 = .ok (.iload_n 3, 1) := by decide +kernel
theorem dX8_times_2 : decode cX8_times 2 = .ok (.invokevirtual 60, 3) := by decide +kernel
theorem dX8_times_5 : decode cX8_times 5 = .ok (.iconst 0, 1) := by decide +kernel
theorem dX8_times_6 : decode cX8_times 6 = .ok (.istore 4, 2) := by decide +kernel
theorem dX8_times_8 : decode cX8_times 8 = .ok (.iload 4, 2) := by decide +kernel
theorem dX8_times_10 : decode cX8_times 10 = .ok (.aload_n 0, 1) := by decide +kernel
theorem dX8_times_11 : decode cX8_times 11 = .ok (.getfield 7, 3) := by decide +kernel
theorem dX8_times_14 : decode cX8_times 14 = .ok (.bipush 81, 2) := by decide +kernel
theorem dX8_times_16 : decode cX8_times 16 = .ok (.iaload, 1) := by decide +kernel
theorem dX8_times_17 : decode cX8_times 17 = .ok (.if_icmp .ge 112, 3) := by decide +kernel
theorem dX8_times_20 : decode cX8_times 20 = .ok (.iconst 0, 1) := by decide +kernel
theorem dX8_times_21 : decode cX8_times 21 = .ok (.istore 5, 2) := by decide +kernel
theorem dX8_times_23 : decode cX8_times 23 = .ok (.iload 5, 2) := by decide +kernel
theorem dX8_times_25 : decode cX8_times 25 = .ok (.aload_n 0, 1) := by decide +kernel
theorem dX8_times_26 : decode cX8_times 26 = .ok (.getfield 7, 3) := by decide +kernel
theorem dX8_times_29 : decode cX8_times 29 = .ok (.bipush 81, 2) := by decide +kernel
theorem dX8_times_31 : decode cX8_times 31 = .ok (.iaload, 1) := by decide +kernel
theorem dX8_times_32 : decode cX8_times 32 = .ok (.if_icmp .ge 91, 3) := by decide +kernel
theorem dX8_times_35 : decode cX8_times 35 = .ok (.iconst 0, 1) := by decide +kernel
theorem dX8_times_36 : decode cX8_times 36 = .ok (.istore 6, 2) := by decide +kernel
theorem dX8_times_38 : decode cX8_times 38 = .ok (.iconst 0, 1) := by decide +kernel
theorem dX8_times_39 : decode cX8_times 39 = .ok (.istore 7, 2) := by decide +kernel
theorem dX8_times_41 : decode cX8_times 41 = .ok (.iload 7, 2) := by decide +kernel
theorem dX8_times_43 : decode cX8_times 43 = .ok (.aload_n 0, 1) := by decide +kernel
theorem dX8_times_44 : decode cX8_times 44 = .ok (.getfield 7, 3) := by decide +kernel
theorem dX8_times_47 : decode cX8_times 47 = .ok (.bipush 81, 2) := by decide +kernel
theorem dX8_times_49 : decode cX8_times 49 = .ok (.iaload, 1) := by decide +kernel
theorem dX8_times_50 : decode cX8_times 50 = .ok (.if_icmp .ge 43, 3) := by decide +kernel
theorem dX8_times_53 : decode cX8_times 53 = .ok (.iload 6, 2) := by decide +kernel
theorem dX8_times_55 : decode cX8_times 55 = .ok (.aload_n 0, 1) := by decide +kernel
theorem dX8_times_56 : decode cX8_times 56 = .ok (.getfield 27, 3) := by decide +kernel
theorem dX8_times_59 : decode cX8_times 59 = .ok (.iload_n 1, 1) := by decide +kernel
theorem dX8_times_60 : decode cX8_times 60 = .ok (.iconst 3, 1) := by decide +kernel
theorem dX8_times_61 : decode cX8_times 61 = .ok (.iload 4, 2) := by decide +kernel
theorem dX8_times_63 : decode cX8_times 63 = .ok (.imul, 1) := by decide +kernel
theorem dX8_times_64 : decode cX8_times 64 = .ok (.iadd, 1) := by decide +kernel
theorem dX8_times_65 : decode cX8_times 65 = .ok (.iload 7, 2) := by decide +kernel
theorem dX8_times_67 : decode cX8_times 67 = .ok (.iadd, 1) := by decide +kernel
theorem dX8_times_68 : decode cX8_times 68 = .ok (.iaload, 1) := by decide +kernel
theorem dX8_times_69 : decode cX8_times 69 = .ok (.aload_n 0, 1) := by decide +kernel
theorem dX8_times_70 : decode cX8_times 70 = .ok (.getfield 27, 3) := by decide +kernel
theorem dX8_times_73 : decode cX8_times 73 = .ok (.iload_n 2, 1) := by decide +kernel
theorem dX8_times_74 : decode cX8_times 74 = .ok (.iconst 3, 1) := by decide +kernel
theorem dX8_times_75 : decode cX8_times 75 = .ok (.iload 7, 2) := by decide +kernel
theorem dX8_times_77 : decode cX8_times 77 = .ok (.imul, 1) := by decide +kernel
theorem dX8_times_78 : decode cX8_times 78 = .ok (.iadd, 1) := by decide +kernel
theorem dX8_times_79 : decode cX8_times 79 = .ok (.iload 5, 2) := by decide +kernel
theorem dX8_times_81 : decode cX8_times 81 = .ok (.iadd, 1) := by decide +kernel
theorem dX8_times_82 : decode cX8_times 82 = .ok (.iaload, 1) := by decide +kernel
theorem dX8_times_83 : decode cX8_times 83 = .ok (.imul, 1) := by decide +kernel
theorem dX8_times_84 : decode cX8_times 84 = .ok (.iadd, 1) := by decide +kernel
theorem dX8_times_85 : decode cX8_times 85 = .ok (.istore 6, 2) := by decide +kernel
theorem dX8_times_87 : decode cX8_times 87 = .ok (.iinc 7 1, 3) := by decide +kernel
theorem dX8_times_90 : decode cX8_times 90 = .ok (.goto (-49), 3) := by decide +kernel
theorem dX8_times_93 : decode cX8_times 93 = .ok (.aload_n 0, 1) := by decide +kernel
theorem dX8_times_94 : decode cX8_times 94 = .ok (.getfield 27, 3) := by decide +kernel
theorem dX8_times_97 : decode cX8_times 97 = .ok (.iload_n 3, 1) := by decide +kernel
theorem dX8_times_98 : decode cX8_times 98 = .ok (.iconst 3, 1) := by decide +kernel
theorem dX8_times_99 : decode cX8_times 99 = .ok (.iload 4, 2) := by decide +kernel
theorem dX8_times_101 : decode cX8_times 101 = .ok (.imul, 1) := by decide +kernel
theorem dX8_times_102 : decode cX8_times 102 = .ok (.iadd, 1) := by decide +kernel
theorem dX8_times_103 : decode cX8_times 103 = .ok (.iload 5, 2) := by decide +kernel
theorem dX8_times_105 : decode cX8_times 105 = .ok (.iadd, 1) := by decide +kernel
theorem dX8_times_106 : decode cX8_times 106 = .ok (.iload 6, 2) := by decide +kernel
theorem dX8_times_108 : decode cX8_times 108 = .ok (.aload_n 0, 1) := by decide +kernel
theorem dX8_times_109 : decode cX8_times 109 = .ok (.getfield 7, 3) := by decide +kernel
theorem dX8_times_112 : decode cX8_times 112 = .ok (.bipush 82, 2) := by decide +kernel
theorem dX8_times_114 : decode cX8_times 114 = .ok (.iaload, 1) := by decide +kernel
theorem dX8_times_115 : decode cX8_times 115 = .ok (.irem, 1) := by decide +kernel
theorem dX8_times_116 : decode cX8_times 116 = .ok (.iastore, 1) := by decide +kernel
theorem dX8_times_117 : decode cX8_times 117 = .ok (.iinc 5 1, 3) := by decide +kernel
theorem dX8_times_120 : decode cX8_times 120 = .ok (.goto (-97), 3) := by decide +kernel
theorem dX8_times_123 : decode cX8_times 123 = .ok (.iinc 4 1, 3) := by decide +kernel
theorem dX8_times_126 : decode cX8_times 126 = .ok (.goto (-118), 3) := by decide +kernel
theorem dX8_times_129 : decode cX8_times 129 = .ok (.return_, 1) := by decide +kernel
theorem dX8_copy_0 : decode cX8_copy 0 = .ok (.iconst 0, 1) := by decide +kernel
theorem dX8_copy_1 : decode cX8_copy 1 = .ok (.istore_n 3, 1) := by decide +kernel
theorem dX8_copy_2 : decode cX8_copy 2 = .ok (.iload_n 3, 1) := by decide +kernel
theorem dX8_copy_3 : decode cX8_copy 3 = .ok (.bipush 9, 2) := by decide +kernel
theorem dX8_copy_5 : decode cX8_copy 5 = .ok (.if_icmp .ge 25, 3) := by decide +kernel
theorem dX8_copy_8 : decode cX8_copy 8 = .ok (.aload_n 0, 1) := by decide +kernel
theorem dX8_copy_9 : decode cX8_copy 9 = .ok (.getfield 27, 3) := by decide +kernel
theorem dX8_copy_12 : decode cX8_copy 12 = .ok (.iload_n 2, 1) := by decide +kernel
theorem dX8_copy_13 : decode cX8_copy 13 = .ok (.iload_n 3, 1) := by decide +kernel
theorem dX8_copy_14 : decode cX8_copy 14 = .ok (.iadd, 1) := by decide +kernel
theorem dX8_copy_15 : decode cX8_copy 15 = .ok (.aload_n 0, 1) := by decide +kernel
theorem dX8_copy_16 : decode cX8_copy 16 = .ok (.getfield 27, 3) := by decide +kernel
theorem dX8_copy_19 : decode cX8_copy 19 = .ok (.iload_n 1, 1) := by decide +kernel
theorem dX8_copy_20 : decode cX8_copy 20 = .ok (.iload_n 3, 1) := by decide +kernel
theorem dX8_copy_21 : decode cX8_copy 21 = .ok (.iadd, 1) := by decide +kernel
theorem dX8_copy_22 : decode cX8_copy 22 = .ok (.iaload, 1) := by decide +kernel
theorem dX8_copy_23 : decode cX8_copy 23 = .ok (.iastore, 1) := by decide +kernel
theorem dX8_copy_24 : decode cX8_copy 24 = .ok (.iinc 3 1, 3) := by decide +kernel
theorem dX8_copy_27 : decode cX8_copy 27 = .ok (.goto (-25), 3) := by decide +kernel
theorem dX8_copy_30 : decode cX8_copy 30 = .ok (.return_, 1) := by decide +kernel
theorem dX8_blank_0 : decode cX8_blank 0 = .ok (.iconst 0, 1) := by decide +kernel
theorem dX8_blank_1 : decode cX8_blank 1 = .ok (.istore_n 2, 1) := by decide +kernel
theorem dX8_blank_2 : decode cX8_blank 2 = .ok (.iload_n 2, 1) := by decide +kernel
theorem dX8_blank_3 : decode cX8_blank 3 = .ok (.bipush 9, 2) := by decide +kernel
theorem dX8_blank_5 : decode cX8_blank 5 = .ok (.if_icmp .ge 18, 3) := by decide +kernel
theorem dX8_blank_8 : decode cX8_blank 8 = .ok (.aload_n 0, 1) := by decide +kernel
theorem dX8_blank_9 : decode cX8_blank 9 = .ok (.getfield 27, 3) := by decide +kernel
theorem dX8_blank_12 : decode cX8_blank 12 = .ok (.iload_n 1, 1) := by decide +kernel
theorem dX8_blank_13 : decode cX8_blank 13 = .ok (.iload_n 2, 1) := by decide +kernel
theorem dX8_blank_14 : decode cX8_blank 14 = .ok (.iadd, 1) := by decide +kernel
theorem dX8_blank_15 : decode cX8_blank 15 = .ok (.iconst 0, 1) := by decide +kernel
theorem dX8_blank_16 : decode cX8_blank 16 = .ok (.iastore, 1) := by decide +kernel
theorem dX8_blank_17 : decode cX8_blank 17 = .ok (.iinc 2 1, 3) := by decide +kernel
theorem dX8_blank_20 : decode cX8_blank 20 = .ok (.goto (-18), 3) := by decide +kernel
theorem dX8_blank_23 : decode cX8_blank 23 = .ok (.return_, 1) := by decide +kernel
set_option maxRecDepth 20000 in
theorem ggX8_add_X8_within : GoodIn wsX8_add wsX8_within := goodIn_r _ [6, 7, 8, 9, 10, 11, 12, 13, 14, 15, 16, 17, 18, 19, 20, 21, 22, 23, 24, 25, 26, 27] (by decide +kernel) (by decide +kernel)
set_option maxRecDepth 20000 in
theorem gX8_add_X8_within : GoodIn wsX8_add (wsV RX8 64 RX8 yX8_within wsX8_within) := goodIn_app (goodIn_of _ (by decide +kernel)) ggX8_add_X8_within
theorem dX8_add_0 : decode cX8_add 0 = .ok (.iconst 0, 1) := by decide +kernel
theorem dX8_add_1 : decode cX8_add 1 = .ok (.istore 6, 2) := by decide +kernel
theorem dX8_add_3 : decode cX8_add 3 = .ok (.iload 6, 2) := by decide +kernel
theorem dX8_add_5 : decode cX8_add 5 = .ok (.bipush 9, 2) := by decide +kernel
theorem dX8_add_7 : decode cX8_add 7 = .ok (.if_icmp .ge 47, 3) := by decide +kernel
theorem dX8_add_10 : decode cX8_add 10 = .ok (.aload_n 0, 1) := by decide +kernel
theorem dX8_add_11 : decode cX8_add 11 = .ok (.getfield 27, 3) := by decide +kernel
theorem dX8_add_14 : decode cX8_add 14 = .ok (.iload 5, 2) := by decide +kernel
theorem dX8_add_16 : decode cX8_add 16 = .ok (.iload 6, 2) := by decide +kernel
theorem dX8_add_18 : decode cX8_add 18 = .ok (.iadd, 1) := by decide +kernel
theorem dX8_add_19 : decode cX8_add 19 = .ok (.aload_n 0, 1) := by decide +kernel
theorem dX8_add_20 : decode cX8_add 20 = .ok (.aload_n 0, 1) := by decide +kernel
theorem dX8_add_21 : decode cX8_add 21 = .ok (.getfield 27, 3) := by decide +kernel
theorem dX8_add_24 : decode cX8_add 24 = .ok (.iload_n 1, 1) := by decide +kernel
theorem dX8_add_25 : decode cX8_add 25 = .ok (.iload 6, 2) := by decide +kernel
theorem dX8_add_27 : decode cX8_add 27 = .ok (.iadd, 1) := by decide +kernel
theorem dX8_add_28 : decode cX8_add 28 = .ok (.iaload, 1) := by decide +kernel
theorem dX8_add_29 : decode cX8_add 29 = .ok (.iload_n 2, 1) := by decide +kernel
theorem dX8_add_30 : decode cX8_add 30 = .ok (.imul, 1) := by decide +kernel
theorem dX8_add_31 : decode cX8_add 31 = .ok (.aload_n 0, 1) := by decide +kernel
theorem dX8_add_32 : decode cX8_add 32 = .ok (.getfield 27, 3) := by decide +kernel
theorem dX8_add_35 : decode cX8_add 35 = .ok (.iload_n 3, 1) := by decide +kernel
theorem dX8_add_36 : decode cX8_add 36 = .ok (.iload 6, 2) := by decide +kernel
theorem dX8_add_38 : decode cX8_add 38 = .ok (.iadd, 1) := by decide +kernel
theorem dX8_add_39 : decode cX8_add 39 = .ok (.iaload, 1) := by decide +kernel
theorem dX8_add_40 : decode cX8_add 40 = .ok (.iload 4, 2) := by decide +kernel
theorem dX8_add_42 : decode cX8_add 42 = .ok (.imul, 1) := by decide +kernel
theorem dX8_add_43 : decode cX8_add 43 = .ok (.iadd, 1) := by decide +kernel
theorem dX8_add_44 : decode cX8_add 44 = .ok (.invokevirtual 64, 3) := by decide +kernel
theorem dX8_add_47 : decode cX8_add 47 = .ok (.iastore, 1) := by decide +kernel
theorem dX8_add_48 : decode cX8_add 48 = .ok (.iinc 6 1, 3) := by decide +kernel
theorem dX8_add_51 : decode cX8_add 51 = .ok (.goto (-48), 3) := by decide +kernel
theorem dX8_add_54 : decode cX8_add 54 = .ok (.return_, 1) := by decide +kernel
theorem dX8_areAlike_0 : decode cX8_areAlike 0 = .ok (.iconst 1, 1) := by decide +kernel
theorem dX8_areAlike_1 : decode cX8_areAlike 1 = .ok (.istore_n 3, 1) := by decide +kernel
theorem dX8_areAlike_2 : decode cX8_areAlike 2 = .ok (.iconst 0, 1) := by decide +kernel
theorem dX8_areAlike_3 : decode cX8_areAlike 3 = .ok (.istore 4, 2) := by decide +kernel
theorem dX8_areAlike_5 : decode cX8_areAlike 5 = .ok (.iload 4, 2) := by decide +kernel
theorem dX8_areAlike_7 : decode cX8_areAlike 7 = .ok (.bipush 9, 2) := by decide +kernel
theorem dX8_areAlike_9 : decode cX8_areAlike 9 = .ok (.if_icmp .ge 40, 3) := by decide +kernel
theorem dX8_areAlike_12 : decode cX8_areAlike 12 = .ok (.iload_n 3, 1) := by decide +kernel
theorem dX8_areAlike_13 : decode cX8_areAlike 13 = .ok (.ifCond .eq 28, 3) := by decide +kernel
theorem dX8_areAlike_16 : decode cX8_areAlike 16 = .ok (.aload_n 0, 1) := by decide +kernel
theorem dX8_areAlike_17 : decode cX8_areAlike 17 = .ok (.getfield 27, 3) := by decide +kernel
theorem dX8_areAlike_20 : decode cX8_areAlike 20 = .ok (.iload_n 1, 1) := by decide +kernel
theorem dX8_areAlike_21 : decode cX8_areAlike 21 = .ok (.iload 4, 2) := by decide +kernel
theorem dX8_areAlike_23 : decode cX8_areAlike 23 = .ok (.iadd, 1) := by decide +kernel
theorem dX8_areAlike_24 : decode cX8_areAlike 24 = .ok (.iaload, 1) := by decide +kernel
theorem dX8_areAlike_25 : decode cX8_areAlike 25 = .ok (.aload_n 0, 1) := by decide +kernel
theorem dX8_areAlike_26 : decode cX8_areAlike 26 = .ok (.getfield 27, 3) := by decide +kernel
theorem dX8_areAlike_29 : decode cX8_areAlike 29 = .ok (.iload_n 2, 1) := by decide +kernel
theorem dX8_areAlike_30 : decode cX8_areAlike 30 = .ok (.iload 4, 2) := by decide +kernel
theorem dX8_areAlike_32 : decode cX8_areAlike 32 = .ok (.iadd, 1) := by decide +kernel
theorem dX8_areAlike_33 : decode cX8_areAlike 33 = .ok (.iaload, 1) := by decide +kernel
theorem dX8_areAlike_34 : decode cX8_areAlike 34 = .ok (.if_icmp .ne 7, 3) := by decide +kernel
theorem dX8_areAlike_37 : decode cX8_areAlike 37 = .ok (.iconst 1, 1) := by decide +kernel
theorem dX8_areAlike_38 : decode cX8_areAlike 38 = .ok (.goto 4, 3) := by decide +kernel
theorem dX8_areAlike_41 : decode cX8_areAlike 41 = .ok (.iconst 0, 1) := by decide +kernel
theorem dX8_areAlike_42 : decode cX8_areAlike 42 = .ok (.istore_n 3, 1) := by decide +kernel
theorem dX8_areAlike_43 : decode cX8_areAlike 43 = .ok (.iinc 4 1, 3) := by decide +kernel
theorem dX8_areAlike_46 : decode cX8_areAlike 46 = .ok (.goto (-41), 3) := by decide +kernel
theorem dX8_areAlike_49 : decode cX8_areAlike 49 = .ok (.iload_n 3, 1) := by decide +kernel
theorem dX8_areAlike_50 : decode cX8_areAlike 50 = .ok (.ireturn, 1) := by decide +kernel
theorem dX8_isNothing_0 : decode cX8_isNothing 0 = .ok (.iconst 1, 1) := by decide +kernel
theorem dX8_isNothing_1 : decode cX8_isNothing 1 = .ok (.istore_n 2, 1) := by decide +kernel
theorem dX8_isNothing_2 : decode cX8_isNothing 2 = .ok (.iconst 0, 1) := by decide +kernel
theorem dX8_isNothing_3 : decode cX8_isNothing 3 = .ok (.istore_n 3, 1) := by decide +kernel
theorem dX8_isNothing_4 : decode cX8_isNothing 4 = .ok (.iload_n 3, 1) := by decide +kernel
theorem dX8_isNothing_5 : decode cX8_isNothing 5 = .ok (.bipush 9, 2) := by decide +kernel
theorem dX8_isNothing_7 : decode cX8_isNothing 7 = .ok (.if_icmp .ge 30, 3) := by decide +kernel
theorem dX8_isNothing_10 : decode cX8_isNothing 10 = .ok (.iload_n 2, 1) := by decide +kernel
theorem dX8_isNothing_11 : decode cX8_isNothing 11 = .ok (.ifCond .eq 18, 3) := by decide +kernel
theorem dX8_isNothing_14 : decode cX8_isNothing 14 = .ok (.aload_n 0, 1) := by decide +kernel
theorem dX8_isNothing_15 : decode cX8_isNothing 15 = .ok (.getfield 27, 3) := by decide +kernel
theorem dX8_isNothing_18 : decode cX8_isNothing 18 = .ok (.iload_n 1, 1) := by decide +kernel
theorem dX8_isNothing_19 : decode cX8_isNothing 19 = .ok (.iload_n 3, 1) := by decide +kernel
theorem dX8_isNothing_20 : decode cX8_isNothing 20 = .ok (.iadd, 1) := by decide +kernel
theorem dX8_isNothing_21 : decode cX8_isNothing 21 = .ok (.iaload, 1) := by decide +kernel
theorem dX8_isNothing_22 : decode cX8_isNothing 22 = .ok (.ifCond .ne 7, 3) := by decide +kernel
theorem dX8_isNothing_25 : decode cX8_isNothing 25 = .ok (.iconst 1, 1) := by decide +kernel
theorem dX8_isNothing_26 : decode cX8_isNothing 26 = .ok (.goto 4, 3) := by decide +kernel
theorem dX8_isNothing_29 : decode cX8_isNothing 29 = .ok (.iconst 0, 1) := by decide +kernel
theorem dX8_isNothing_30 : decode cX8_isNothing 30 = .ok (.istore_n 2, 1) := by decide +kernel
theorem dX8_isNothing_31 : decode cX8_isNothing 31 = .ok (.iinc 3 1, 3) := by decide +kernel
theorem dX8_isNothing_34 : decode cX8_isNothing 34 = .ok (.goto (-30), 3) := by decide +kernel
theorem dX8_isNothing_37 : decode cX8_isNothing 37 = .ok (.iload_n 2, 1) := by decide +kernel
theorem dX8_isNothing_38 : decode cX8_isNothing 38 = .ok (.ireturn, 1) := by decide +kernel
theorem dX8_cellOf_0 : decode cX8_cellOf 0 = .ok (.aload_n 0, 1) := by decide +kernel
theorem dX8_cellOf_1 : decode cX8_cellOf 1 = .ok (.getfield 27, 3) := by decide +kernel
theorem dX8_cellOf_4 : decode cX8_cellOf 4 = .ok (.iload_n 1, 1) := by decide +kernel
theorem dX8_cellOf_5 : decode cX8_cellOf 5 = .ok (.iconst 3, 1) := by decide +kernel
theorem dX8_cellOf_6 : decode cX8_cellOf 6 = .ok (.iload_n 2, 1) := by decide +kernel
theorem dX8_cellOf_7 : decode cX8_cellOf 7 = .ok (.iconst 3, 1) := by decide +kernel
theorem dX8_cellOf_8 : decode cX8_cellOf 8 = .ok (.irem, 1) := by decide +kernel
theorem dX8_cellOf_9 : decode cX8_cellOf 9 = .ok (.imul, 1) := by decide +kernel
theorem dX8_cellOf_10 : decode cX8_cellOf 10 = .ok (.iadd, 1) := by decide +kernel
theorem dX8_cellOf_11 : decode cX8_cellOf 11 = .ok (.iload_n 3, 1) := by decide +kernel
theorem dX8_cellOf_12 : decode cX8_cellOf 12 = .ok (.iconst 3, 1) := by decide +kernel
theorem dX8_cellOf_13 : decode cX8_cellOf 13 = .ok (.irem, 1) := by decide +kernel
theorem dX8_cellOf_14 : decode cX8_cellOf 14 = .ok (.iadd, 1) := by decide +kernel
theorem dX8_cellOf_15 : decode cX8_cellOf 15 = .ok (.iaload, 1) := by decide +kernel
theorem dX8_cellOf_16 : decode cX8_cellOf 16 = .ok (.ireturn, 1) := by decide +kernel
set_option maxRecDepth 20000 in
theorem ggX8_determinant_X8_within : GoodIn wsX8_determinant wsX8_within := goodIn_r _ [7, 1, 12, 13, 14, 15, 16, 17, 18, 19, 20, 21, 22, 23, 24, 25, 26, 27, 28, 29, 30, 31] (by decide +kernel) (by decide +kernel)
set_option maxRecDepth 20000 in
theorem gX8_determinant_X8_within : GoodIn wsX8_determinant (wsV RX8 64 RX8 yX8_within wsX8_within) := goodIn_app (goodIn_of _ (by decide +kernel)) ggX8_determinant_X8_within
set_option maxRecDepth 20000 in
theorem ggX8_determinant_X8_cellOf : GoodIn wsX8_determinant wsX8_cellOf := goodIn_r _ [11, 2, 12, 13, 14, 15, 16, 17, 18, 19, 20, 21, 22, 23, 24, 25, 26, 27, 28, 29, 30, 31] (by decide +kernel) (by decide +kernel)
set_option maxRecDepth 20000 in
theorem gX8_determinant_X8_cellOf : GoodIn wsX8_determinant (wsV RX8 68 RX8 yX8_cellOf wsX8_cellOf) := goodIn_app (goodIn_of _ (by decide +kernel)) ggX8_determinant_X8_cellOf
theorem dX8_determinant_0 : decode cX8_determinant 0 = .ok (.aload_n 0, 1) := by decide +kernel
theorem dX8_determinant_1 : decode cX8_determinant 1 = .ok (.getfield 7, 3) := by decide +kernel
theorem dX8_determinant_4 : decode cX8_determinant 4 = .ok (.bipush 81, 2) := by decide +kernel
theorem dX8_determinant_6 : decode cX8_determinant 6 = .ok (.iaload, 1) := by decide +kernel
theorem dX8_determinant_7 : decode cX8_determinant 7 = .ok (.iconst 2, 1) := by decide +kernel
theorem dX8_determinant_8 : decode cX8_determinant 8 = .ok (.if_icmp .ne 41, 3) := by decide +kernel
theorem dX8_determinant_11 : decode cX8_determinant 11 = .ok (.aload_n 0, 1) := by decide +kernel
theorem dX8_determinant_12 : decode cX8_determinant 12 = .ok (.aload_n 0, 1) := by decide +kernel
theorem dX8_determinant_13 : decode cX8_determinant 13 = .ok (.getfield 27, 3) := by decide +kernel
theorem dX8_determinant_16 : decode cX8_determinant 16 = .ok (.iload_n 1, 1) := by decide +kernel
theorem dX8_determinant_17 : decode cX8_determinant 17 = .ok (.iaload, 1) := by decide +kernel
theorem dX8_determinant_18 : decode cX8_determinant 18 = .ok (.aload_n 0, 1) := by decide +kernel
theorem dX8_determinant_19 : decode cX8_determinant 19 = .ok (.getfield 27, 3) := by decide +kernel
theorem dX8_determinant_22 : decode cX8_determinant 22 = .ok (.iload_n 1, 1) := by decide +kernel
theorem dX8_determinant_23 : decode cX8_determinant 23 = .ok (.iconst 4, 1) := by decide +kernel
theorem dX8_determinant_24 : decode cX8_determinant 24 = .ok (.iadd, 1) := by decide +kernel
theorem dX8_determinant_25 : decode cX8_determinant 25 = .ok (.iaload, 1) := by decide +kernel
theorem dX8_determinant_26 : decode cX8_determinant 26 = .ok (.imul, 1) := by decide +kernel
theorem dX8_determinant_27 : decode cX8_determinant 27 = .ok (.aload_n 0, 1) := by decide +kernel
theorem dX8_determinant_28 : decode cX8_determinant 28 = .ok (.getfield 27, 3) := by decide +kernel
theorem dX8_determinant_31 : decode cX8_determinant 31 = .ok (.iload_n 1, 1) := by decide +kernel
theorem dX8_determinant_32 : decode cX8_determinant 32 = .ok (.iconst 1, 1) := by decide +kernel
theorem dX8_determinant_33 : decode cX8_determinant 33 = .ok (.iadd, 1) := by decide +kernel
theorem dX8_determinant_34 : decode cX8_determinant 34 = .ok (.iaload, 1) := by decide +kernel
theorem dX8_determinant_35 : decode cX8_determinant 35 = .ok (.aload_n 0, 1) := by decide +kernel
theorem dX8_determinant_36 : decode cX8_determinant 36 = .ok (.getfield 27, 3) := by decide +kernel
theorem dX8_determinant_39 : decode cX8_determinant 39 = .ok (.iload_n 1, 1) := by decide +kernel
theorem dX8_determinant_40 : decode cX8_determinant 40 = .ok (.iconst 3, 1) := by decide +kernel
theorem dX8_determinant_41 : decode cX8_determinant 41 = .ok (.iadd, 1) := by decide +kernel
theorem dX8_determinant_42 : decode cX8_determinant 42 = .ok (.iaload, 1) := by decide +kernel
theorem dX8_determinant_43 : decode cX8_determinant 43 = .ok (.imul, 1) := by decide +kernel
theorem dX8_determinant_44 : decode cX8_determinant 44 = .ok (.isub, 1) := by decide +kernel
theorem dX8_determinant_45 : decode cX8_determinant 45 = .ok (.invokevirtual 64, 3) := by decide +kernel
theorem dX8_determinant_48 : decode cX8_determinant 48 = .ok (.ireturn, 1) := by decide +kernel
theorem dX8_determinant_49 : decode cX8_determinant 49 = .ok (.iconst 0, 1) := by decide +kernel
theorem dX8_determinant_50 : decode cX8_determinant 50 = .ok (.istore_n 2, 1) := by decide +kernel
theorem dX8_determinant_51 : decode cX8_determinant 51 = .ok (.iconst 0, 1) := by decide +kernel
theorem dX8_determinant_52 : decode cX8_determinant 52 = .ok (.istore_n 3, 1) := by decide +kernel
theorem dX8_determinant_53 : decode cX8_determinant 53 = .ok (.iload_n 3, 1) := by decide +kernel
theorem dX8_determinant_54 : decode cX8_determinant 54 = .ok (.iconst 3, 1) := by decide +kernel
theorem dX8_determinant_55 : decode cX8_determinant 55 = .ok (.if_icmp .ge 59, 3) := by decide +kernel
theorem dX8_determinant_58 : decode cX8_determinant 58 = .ok (.iload_n 2, 1) := by decide +kernel
theorem dX8_determinant_59 : decode cX8_determinant 59 = .ok (.aload_n 0, 1) := by decide +kernel
theorem dX8_determinant_60 : decode cX8_determinant 60 = .ok (.iload_n 1, 1) := by decide +kernel
theorem dX8_determinant_61 : decode cX8_determinant 61 = .ok (.iconst 0, 1) := by decide +kernel
theorem dX8_determinant_62 : decode cX8_determinant 62 = .ok (.iload_n 3, 1) := by decide +kernel
theorem dX8_determinant_63 : decode cX8_determinant 63 = .ok (.invokevirtual 68, 3) := by decide +kernel
theorem dX8_determinant_66 : decode cX8_determinant 66 = .ok (.aload_n 0, 1) := by decide +kernel
theorem dX8_determinant_67 : decode cX8_determinant 67 = .ok (.iload_n 1, 1) := by decide +kernel
theorem dX8_determinant_68 : decode cX8_determinant 68 = .ok (.iconst 1, 1) := by decide +kernel
theorem dX8_determinant_69 : decode cX8_determinant 69 = .ok (.iload_n 3, 1) := by decide +kernel
theorem dX8_determinant_70 : decode cX8_determinant 70 = .ok (.iconst 1, 1) := by decide +kernel
theorem dX8_determinant_71 : decode cX8_determinant 71 = .ok (.iadd, 1) := by decide +kernel
theorem dX8_determinant_72 : decode cX8_determinant 72 = .ok (.invokevirtual 68, 3) := by decide +kernel
theorem dX8_determinant_75 : decode cX8_determinant 75 = .ok (.aload_n 0, 1) := by decide +kernel
theorem dX8_determinant_76 : decode cX8_determinant 76 = .ok (.iload_n 1, 1) := by decide +kernel
theorem dX8_determinant_77 : decode cX8_determinant 77 = .ok (.iconst 2, 1) := by decide +kernel
theorem dX8_determinant_78 : decode cX8_determinant 78 = .ok (.iload_n 3, 1) := by decide +kernel
theorem dX8_determinant_79 : decode cX8_determinant 79 = .ok (.iconst 2, 1) := by decide +kernel
theorem dX8_determinant_80 : decode cX8_determinant 80 = .ok (.iadd, 1) := by decide +kernel
theorem dX8_determinant_81 : decode cX8_determinant 81 = .ok (.invokevirtual 68, 3) := by decide +kernel
theorem dX8_determinant_84 : decode cX8_determinant 84 = .ok (.imul, 1) := by decide +kernel
theorem dX8_determinant_85 : decode cX8_determinant 85 = .ok (.aload_n 0, 1) := by decide +kernel
theorem dX8_determinant_86 : decode cX8_determinant 86 = .ok (.iload_n 1, 1) := by decide +kernel
theorem dX8_determinant_87 : decode cX8_determinant 87 = .ok (.iconst 1, 1) := by decide +kernel
theorem dX8_determinant_88 : decode cX8_determinant 88 = .ok (.iload_n 3, 1) := by decide +kernel
theorem dX8_determinant_89 : decode cX8_determinant 89 = .ok (.iconst 2, 1) := by decide +kernel
theorem dX8_determinant_90 : decode cX8_determinant 90 = .ok (.iadd, 1) := by decide +kernel
theorem dX8_determinant_91 : decode cX8_determinant 91 = .ok (.invokevirtual 68, 3) := by decide +kernel
theorem dX8_determinant_94 : decode cX8_determinant 94 = .ok (.aload_n 0, 1) := by decide +kernel
theorem dX8_determinant_95 : decode cX8_determinant 95 = .ok (.iload_n 1, 1) := by decide +kernel
theorem dX8_determinant_96 : decode cX8_determinant 96 = .ok (.iconst 2, 1) := by decide +kernel
theorem dX8_determinant_97 : decode cX8_determinant 97 = .ok (.iload_n 3, 1) := by decide +kernel
theorem dX8_determinant_98 : decode cX8_determinant 98 = .ok (.iconst 1, 1) := by decide +kernel
theorem dX8_determinant_99 : decode cX8_determinant 99 = .ok (.iadd, 1) := by decide +kernel
theorem dX8_determinant_100 : decode cX8_determinant 100 = .ok (.invokevirtual 68, 3) := by decide +kernel
theorem dX8_determinant_103 : decode cX8_determinant 103 = .ok (.imul, 1) := by decide +kernel
theorem dX8_determinant_104 : decode cX8_determinant 104 = .ok (.isub, 1) := by decide +kernel
theorem dX8_determinant_105 : decode cX8_determinant 105 = .ok (.imul, 1) := by decide +kernel
theorem dX8_determinant_106 : decode cX8_determinant 106 = .ok (.iadd, 1) := by decide +kernel
theorem dX8_determinant_107 : decode cX8_determinant 107 = .ok (.istore_n 2, 1) := by decide +kernel
theorem dX8_determinant_108 : decode cX8_determinant 108 = .ok (.iinc 3 1, 3) := by decide +kernel
theorem dX8_determinant_111 : decode cX8_determinant 111 = .ok (.goto (-58), 3) := by decide +kernel
theorem dX8_determinant_114 : decode cX8_determinant 114 = .ok (.aload_n 0, 1) := by decide +kernel
theorem dX8_determinant_115 : decode cX8_determinant 115 = .ok (.iload_n 2, 1) := by decide +kernel
theorem dX8_determinant_116 : decode cX8_determinant 116 = .ok (.invokevirtual 64, 3) := by decide +kernel
theorem dX8_determinant_119 : decode cX8_determinant 119 = .ok (.ireturn, 1) := by decide +kernel
set_option maxRecDepth 20000 in
theorem ggX8_invert_X8_determinant : GoodIn wsX8_invert wsX8_determinant := goodIn_r _ [7, 1, 2, 8, 9, 10, 6, 11, 12, 13, 14, 15, 24, 25, 26, 27, 28, 29, 30, 31, 32, 33, 34, 35, 36, 37, 38, 39, 40, 41, 42, 43] (by decide +kernel) (by decide +kernel)
set_option maxRecDepth 20000 in
theorem gX8_invert_X8_determinant : GoodIn wsX8_invert (wsV RX8 72 RX8 yX8_determinant wsX8_determinant) := goodIn_app (goodIn_of _ (by decide +kernel)) ggX8_invert_X8_determinant
set_option maxRecDepth 20000 in
theorem ggX8_invert_X8_over : GoodIn wsX8_invert wsX8_over := goodIn_r _ [19, 1, 24, 25, 26, 27, 28, 29, 30, 31, 32, 33, 34, 35, 36, 37, 38, 39, 40, 41, 42, 43] (by decide +kernel) (by decide +kernel)
set_option maxRecDepth 20000 in
theorem gX8_invert_X8_over : GoodIn wsX8_invert (wsV RX8 75 RX8 yX8_over wsX8_over) := goodIn_app (goodIn_of _ (by decide +kernel)) ggX8_invert_X8_over
set_option maxRecDepth 20000 in
theorem ggX8_invert_X8_blank : GoodIn wsX8_invert wsX8_blank := goodIn_r _ [23, 2, 24, 25, 26, 27, 28, 29, 30, 31, 32, 33, 34, 35, 36, 37, 38, 39, 40, 41, 42, 43] (by decide +kernel) (by decide +kernel)
set_option maxRecDepth 20000 in
theorem gX8_invert_X8_blank : GoodIn wsX8_invert (wsV RX8 60 RX8 yX8_blank wsX8_blank) := goodIn_app (goodIn_of _ (by decide +kernel)) ggX8_invert_X8_blank
set_option maxRecDepth 20000 in
theorem ggX8_invert_X8_within : GoodIn wsX8_invert wsX8_within := goodIn_r _ [11, 1, 24, 25, 26, 27, 28, 29, 30, 31, 32, 33, 34, 35, 36, 37, 38, 39, 40, 41, 42, 43] (by decide +kernel) (by decide +kernel)
set_option maxRecDepth 20000 in
theorem gX8_invert_X8_within : GoodIn wsX8_invert (wsV RX8 64 RX8 yX8_within wsX8_within) := goodIn_app (goodIn_of _ (by decide +kernel)) ggX8_invert_X8_within
set_option maxRecDepth 20000 in
theorem ggX8_invert_X8_cellOf : GoodIn wsX8_invert wsX8_cellOf := goodIn_r _ [15, 2, 24, 25, 26, 27, 28, 29, 30, 31, 32, 33, 34, 35, 36, 37, 38, 39, 40, 41, 42, 43] (by decide +kernel) (by decide +kernel)
set_option maxRecDepth 20000 in
theorem gX8_invert_X8_cellOf : GoodIn wsX8_invert (wsV RX8 68 RX8 yX8_cellOf wsX8_cellOf) := goodIn_app (goodIn_of _ (by decide +kernel)) ggX8_invert_X8_cellOf
theorem dX8_invert_0 : decode cX8_invert 0 = .ok (.aload_n 0, 1) := by decide +kernel
theorem dX8_invert_1 : decode cX8_invert 1 = .ok (.aload_n 0, 1) := by decide +kernel
theorem dX8_invert_2 : decode cX8_invert 2 = .ok (.iload_n 1, 1) := by decide +kernel
theorem dX8_invert_3 : decode cX8_invert 3 = .ok (.invokevirtual 72, 3) := by decide +kernel
theorem dX8_invert_6 : decode cX8_invert 6 = .ok (.invokevirtual 75, 3) := by decide +kernel
theorem dX8_invert_9 : decode cX8_invert 9 = .ok (.istore_n 3, 1) := by decide +kernel
theorem dX8_invert_10 : decode cX8_invert 10 = .ok (.aload_n 0, 1) := by decide +kernel
theorem dX8_invert_11 : decode cX8_invert 11 = .ok (.getfield 7, 3) := by decide +kernel
theorem dX8_invert_14 : decode cX8_invert 14 = .ok (.bipush 81, 2) := by decide +kernel
theorem dX8_invert_16 : decode cX8_invert 16 = .ok (.iaload, 1) := by decide +kernel
theorem dX8_invert_17 : decode cX8_invert 17 = .ok (.iconst 2, 1) := by decide +kernel
theorem dX8_invert_18 : decode cX8_invert 18 = .ok (.if_icmp .ne 95, 3) := by decide +kernel
theorem dX8_invert_21 : decode cX8_invert 21 = .ok (.aload_n 0, 1) := by decide +kernel
theorem dX8_invert_22 : decode cX8_invert 22 = .ok (.iload_n 2, 1) := by decide +kernel
theorem dX8_invert_23 : decode cX8_invert 23 = .ok (.invokevirtual 60, 3) := by decide +kernel
theorem dX8_invert_26 : decode cX8_invert 26 = .ok (.aload_n 0, 1) := by decide +kernel
theorem dX8_invert_27 : decode cX8_invert 27 = .ok (.getfield 27, 3) := by decide +kernel
theorem dX8_invert_30 : decode cX8_invert 30 = .ok (.iload_n 2, 1) := by decide +kernel
theorem dX8_invert_31 : decode cX8_invert 31 = .ok (.aload_n 0, 1) := by decide +kernel
theorem dX8_invert_32 : decode cX8_invert 32 = .ok (.aload_n 0, 1) := by decide +kernel
theorem dX8_invert_33 : decode cX8_invert 33 = .ok (.getfield 27, 3) := by decide +kernel
theorem dX8_invert_36 : decode cX8_invert 36 = .ok (.iload_n 1, 1) := by decide +kernel
theorem dX8_invert_37 : decode cX8_invert 37 = .ok (.iconst 4, 1) := by decide +kernel
theorem dX8_invert_38 : decode cX8_invert 38 = .ok (.iadd, 1) := by decide +kernel
theorem dX8_invert_39 : decode cX8_invert 39 = .ok (.iaload, 1) := by decide +kernel
theorem dX8_invert_40 : decode cX8_invert 40 = .ok (.iload_n 3, 1) := by decide +kernel
theorem dX8_invert_41 : decode cX8_invert 41 = .ok (.imul, 1) := by decide +kernel
theorem dX8_invert_42 : decode cX8_invert 42 = .ok (.invokevirtual 64, 3) := by decide +kernel
theorem dX8_invert_45 : decode cX8_invert 45 = .ok (.iastore, 1) := by decide +kernel
theorem dX8_invert_46 : decode cX8_invert 46 = .ok (.aload_n 0, 1) := by decide +kernel
theorem dX8_invert_47 : decode cX8_invert 47 = .ok (.getfield 27, 3) := by decide +kernel
theorem dX8_invert_50 : decode cX8_invert 50 = .ok (.iload_n 2, 1) := by decide +kernel
theorem dX8_invert_51 : decode cX8_invert 51 = .ok (.iconst 1, 1) := by decide +kernel
theorem dX8_invert_52 : decode cX8_invert 52 = .ok (.iadd, 1) := by decide +kernel
theorem dX8_invert_53 : decode cX8_invert 53 = .ok (.aload_n 0, 1) := by decide +kernel
theorem dX8_invert_54 : decode cX8_invert 54 = .ok (.aload_n 0, 1) := by decide +kernel
theorem dX8_invert_55 : decode cX8_invert 55 = .ok (.getfield 27, 3) := by decide +kernel
theorem dX8_invert_58 : decode cX8_invert 58 = .ok (.iload_n 1, 1) := by decide +kernel
theorem dX8_invert_59 : decode cX8_invert 59 = .ok (.iconst 1, 1) := by decide +kernel
theorem dX8_invert_60 : decode cX8_invert 60 = .ok (.iadd, 1) := by decide +kernel
theorem dX8_invert_61 : decode cX8_invert 61 = .ok (.iaload, 1) := by decide +kernel
theorem dX8_invert_62 : decode cX8_invert 62 = .ok (.ineg, 1) := by decide +kernel
theorem dX8_invert_63 : decode cX8_invert 63 = .ok (.iload_n 3, 1) := by decide +kernel
theorem dX8_invert_64 : decode cX8_invert 64 = .ok (.imul, 1) := by decide +kernel
theorem dX8_invert_65 : decode cX8_invert 65 = .ok (.invokevirtual 64, 3) := by decide +kernel
theorem dX8_invert_68 : decode cX8_invert 68 = .ok (.iastore, 1) := by decide +kernel
theorem dX8_invert_69 : decode cX8_invert 69 = .ok (.aload_n 0, 1) := by decide +kernel
theorem dX8_invert_70 : decode cX8_invert 70 = .ok (.getfield 27, 3) := by decide +kernel
theorem dX8_invert_73 : decode cX8_invert 73 = .ok (.iload_n 2, 1) := by decide +kernel
theorem dX8_invert_74 : decode cX8_invert 74 = .ok (.iconst 3, 1) := by decide +kernel
theorem dX8_invert_75 : decode cX8_invert 75 = .ok (.iadd, 1) := by decide +kernel
theorem dX8_invert_76 : decode cX8_invert 76 = .ok (.aload_n 0, 1) := by decide +kernel
theorem dX8_invert_77 : decode cX8_invert 77 = .ok (.aload_n 0, 1) := by decide +kernel
theorem dX8_invert_78 : decode cX8_invert 78 = .ok (.getfield 27, 3) := by decide +kernel
theorem dX8_invert_81 : decode cX8_invert 81 = .ok (.iload_n 1, 1) := by decide +kernel
theorem dX8_invert_82 : decode cX8_invert 82 = .ok (.iconst 3, 1) := by decide +kernel
theorem dX8_invert_83 : decode cX8_invert 83 = .ok (.iadd, 1) := by decide +kernel
theorem dX8_invert_84 : decode cX8_invert 84 = .ok (.iaload, 1) := by decide +kernel
theorem dX8_invert_85 : decode cX8_invert 85 = .ok (.ineg, 1) := by decide +kernel
theorem dX8_invert_86 : decode cX8_invert 86 = .ok (.iload_n 3, 1) := by decide +kernel
theorem dX8_invert_87 : decode cX8_invert 87 = .ok (.imul, 1) := by decide +kernel
theorem dX8_invert_88 : decode cX8_invert 88 = .ok (.invokevirtual 64, 3) := by decide +kernel
theorem dX8_invert_91 : decode cX8_invert 91 = .ok (.iastore, 1) := by decide +kernel
theorem dX8_invert_92 : decode cX8_invert 92 = .ok (.aload_n 0, 1) := by decide +kernel
theorem dX8_invert_93 : decode cX8_invert 93 = .ok (.getfield 27, 3) := by decide +kernel
theorem dX8_invert_96 : decode cX8_invert 96 = .ok (.iload_n 2, 1) := by decide +kernel
theorem dX8_invert_97 : decode cX8_invert 97 = .ok (.iconst 4, 1) := by decide +kernel
theorem dX8_invert_98 : decode cX8_invert 98 = .ok (.iadd, 1) := by decide +kernel
theorem dX8_invert_99 : decode cX8_invert 99 = .ok (.aload_n 0, 1) := by decide +kernel
theorem dX8_invert_100 : decode cX8_invert 100 = .ok (.aload_n 0, 1) := by decide +kernel
theorem dX8_invert_101 : decode cX8_invert 101 = .ok (.getfield 27, 3) := by decide +kernel
theorem dX8_invert_104 : decode cX8_invert 104 = .ok (.iload_n 1, 1) := by decide +kernel
theorem dX8_invert_105 : decode cX8_invert 105 = .ok (.iaload, 1) := by decide +kernel
theorem dX8_invert_106 : decode cX8_invert 106 = .ok (.iload_n 3, 1) := by decide +kernel
theorem dX8_invert_107 : decode cX8_invert 107 = .ok (.imul, 1) := by decide +kernel
theorem dX8_invert_108 : decode cX8_invert 108 = .ok (.invokevirtual 64, 3) := by decide +kernel
theorem dX8_invert_111 : decode cX8_invert 111 = .ok (.iastore, 1) := by decide +kernel
theorem dX8_invert_112 : decode cX8_invert 112 = .ok (.return_, 1) := by decide +kernel
theorem dX8_invert_113 : decode cX8_invert 113 = .ok (.iconst 0, 1) := by decide +kernel
theorem dX8_invert_114 : decode cX8_invert 114 = .ok (.istore 4, 2) := by decide +kernel
theorem dX8_invert_116 : decode cX8_invert 116 = .ok (.iload 4, 2) := by decide +kernel
theorem dX8_invert_118 : decode cX8_invert 118 = .ok (.iconst 3, 1) := by decide +kernel
theorem dX8_invert_119 : decode cX8_invert 119 = .ok (.if_icmp .ge 107, 3) := by decide +kernel
theorem dX8_invert_122 : decode cX8_invert 122 = .ok (.iconst 0, 1) := by decide +kernel
theorem dX8_invert_123 : decode cX8_invert 123 = .ok (.istore 5, 2) := by decide +kernel
theorem dX8_invert_125 : decode cX8_invert 125 = .ok (.iload 5, 2) := by decide +kernel
theorem dX8_invert_127 : decode cX8_invert 127 = .ok (.iconst 3, 1) := by decide +kernel
theorem dX8_invert_128 : decode cX8_invert 128 = .ok (.if_icmp .ge 92, 3) := by decide +kernel
theorem dX8_invert_131 : decode cX8_invert 131 = .ok (.aload_n 0, 1) := by decide +kernel
theorem dX8_invert_132 : decode cX8_invert 132 = .ok (.iload_n 1, 1) := by decide +kernel
theorem dX8_invert_133 : decode cX8_invert 133 = .ok (.iload 5, 2) := by decide +kernel
theorem dX8_invert_135 : decode cX8_invert 135 = .ok (.iconst 1, 1) := by decide +kernel
theorem dX8_invert_136 : decode cX8_invert 136 = .ok (.iadd, 1) := by decide +kernel
theorem dX8_invert_137 : decode cX8_invert 137 = .ok (.iload 4, 2) := by decide +kernel
theorem dX8_invert_139 : decode cX8_invert 139 = .ok (.iconst 1, 1) := by decide +kernel
theorem dX8_invert_140 : decode cX8_invert 140 = .ok (.iadd, 1) := by decide +kernel
theorem dX8_invert_141 : decode cX8_invert 141 = .ok (.invokevirtual 68, 3) := by decide +kernel
theorem dX8_invert_144 : decode cX8_invert 144 = .ok (.aload_n 0, 1) := by decide +kernel
theorem dX8_invert_145 : decode cX8_invert 145 = .ok (.iload_n 1, 1) := by decide +kernel
theorem dX8_invert_146 : decode cX8_invert 146 = .ok (.iload 5, 2) := by decide +kernel
theorem dX8_invert_148 : decode cX8_invert 148 = .ok (.iconst 2, 1) := by decide +kernel
theorem dX8_invert_149 : decode cX8_invert 149 = .ok (.iadd, 1) := by decide +kernel
theorem dX8_invert_150 : decode cX8_invert 150 = .ok (.iload 4, 2) := by decide +kernel
theorem dX8_invert_152 : decode cX8_invert 152 = .ok (.iconst 2, 1) := by decide +kernel
theorem dX8_invert_153 : decode cX8_invert 153 = .ok (.iadd, 1) := by decide +kernel
theorem dX8_invert_154 : decode cX8_invert 154 = .ok (.invokevirtual 68, 3) := by decide +kernel
theorem dX8_invert_157 : decode cX8_invert 157 = .ok (.imul, 1) := by decide +kernel
theorem dX8_invert_158 : decode cX8_invert 158 = .ok (.aload_n 0, 1) := by decide +kernel
theorem dX8_invert_159 : decode cX8_invert 159 = .ok (.iload_n 1, 1) := by decide +kernel
theorem dX8_invert_160 : decode cX8_invert 160 = .ok (.iload 5, 2) := by decide +kernel
theorem dX8_invert_162 : decode cX8_invert 162 = .ok (.iconst 1, 1) := by decide +kernel
theorem dX8_invert_163 : decode cX8_invert 163 = .ok (.iadd, 1) := by decide +kernel
theorem dX8_invert_164 : decode cX8_invert 164 = .ok (.iload 4, 2) := by decide +kernel
theorem dX8_invert_166 : decode cX8_invert 166 = .ok (.iconst 2, 1) := by decide +kernel
theorem dX8_invert_167 : decode cX8_invert 167 = .ok (.iadd, 1) := by decide +kernel
theorem dX8_invert_168 : decode cX8_invert 168 = .ok (.invokevirtual 68, 3) := by decide +kernel
theorem dX8_invert_171 : decode cX8_invert 171 = .ok (.aload_n 0, 1) := by decide +kernel
theorem dX8_invert_172 : decode cX8_invert 172 = .ok (.iload_n 1, 1) := by decide +kernel
theorem dX8_invert_173 : decode cX8_invert 173 = .ok (.iload 5, 2) := by decide +kernel
theorem dX8_invert_175 : decode cX8_invert 175 = .ok (.iconst 2, 1) := by decide +kernel
theorem dX8_invert_176 : decode cX8_invert 176 = .ok (.iadd, 1) := by decide +kernel
theorem dX8_invert_177 : decode cX8_invert 177 = .ok (.iload 4, 2) := by decide +kernel
theorem dX8_invert_179 : decode cX8_invert 179 = .ok (.iconst 1, 1) := by decide +kernel
theorem dX8_invert_180 : decode cX8_invert 180 = .ok (.iadd, 1) := by decide +kernel
theorem dX8_invert_181 : decode cX8_invert 181 = .ok (.invokevirtual 68, 3) := by decide +kernel
theorem dX8_invert_184 : decode cX8_invert 184 = .ok (.imul, 1) := by decide +kernel
theorem dX8_invert_185 : decode cX8_invert 185 = .ok (.isub, 1) := by decide +kernel
theorem dX8_invert_186 : decode cX8_invert 186 = .ok (.istore 6, 2) := by decide +kernel
theorem dX8_invert_188 : decode cX8_invert 188 = .ok (.aload_n 0, 1) := by decide +kernel
theorem dX8_invert_189 : decode cX8_invert 189 = .ok (.getfield 27, 3) := by decide +kernel
theorem dX8_invert_192 : decode cX8_invert 192 = .ok (.iload_n 2, 1) := by decide +kernel
theorem dX8_invert_193 : decode cX8_invert 193 = .ok (.iconst 3, 1) := by decide +kernel
theorem dX8_invert_194 : decode cX8_invert 194 = .ok (.iload 4, 2) := by decide +kernel
theorem dX8_invert_196 : decode cX8_invert 196 = .ok (.imul, 1) := by decide +kernel
theorem dX8_invert_197 : decode cX8_invert 197 = .ok (.iadd, 1) := by decide +kernel
theorem dX8_invert_198 : decode cX8_invert 198 = .ok (.iload 5, 2) := by decide +kernel
theorem dX8_invert_200 : decode cX8_invert 200 = .ok (.iadd, 1) := by decide +kernel
theorem dX8_invert_201 : decode cX8_invert 201 = .ok (.aload_n 0, 1) := by decide +kernel
theorem dX8_invert_202 : decode cX8_invert 202 = .ok (.aload_n 0, 1) := by decide +kernel
theorem dX8_invert_203 : decode cX8_invert 203 = .ok (.iload 6, 2) := by decide +kernel
theorem dX8_invert_205 : decode cX8_invert 205 = .ok (.invokevirtual 64, 3) := by decide +kernel
theorem dX8_invert_208 : decode cX8_invert 208 = .ok (.iload_n 3, 1) := by decide +kernel
theorem dX8_invert_209 : decode cX8_invert 209 = .ok (.imul, 1) := by decide +kernel
theorem dX8_invert_210 : decode cX8_invert 210 = .ok (.invokevirtual 64, 3) := by decide +kernel
theorem dX8_invert_213 : decode cX8_invert 213 = .ok (.iastore, 1) := by decide +kernel
theorem dX8_invert_214 : decode cX8_invert 214 = .ok (.iinc 5 1, 3) := by decide +kernel
theorem dX8_invert_217 : decode cX8_invert 217 = .ok (.goto (-92), 3) := by decide +kernel
theorem dX8_invert_220 : decode cX8_invert 220 = .ok (.iinc 4 1, 3) := by decide +kernel
theorem dX8_invert_223 : decode cX8_invert 223 = .ok (.goto (-107), 3) := by decide +kernel
theorem dX8_invert_226 : decode cX8_invert 226 = .ok (.return_, 1) := by decide +kernel
set_option maxRecDepth 20000 in
theorem ggX8_layBase_X8_invert : GoodIn wsX8_layBase wsX8_invert := goodIn_r _ [7, 2, 1, 8, 9, 10, 6, 11, 12, 13, 14, 15, 16, 17, 18, 19, 20, 21, 22, 23, 24, 25, 26, 27, 28, 29, 30, 31, 32, 33, 34, 35, 36, 37, 38, 39, 40, 41, 42, 43, 44, 45, 46, 47] (by decide +kernel) (by decide +kernel)
set_option maxRecDepth 20000 in
theorem gX8_layBase_X8_invert : GoodIn wsX8_layBase (wsV RX8 78 RX8 yX8_invert wsX8_invert) := goodIn_app (goodIn_of _ (by decide +kernel)) ggX8_layBase_X8_invert
theorem dX8_layBase_0 : decode cX8_layBase 0 = .ok (.iconst 0, 1) := by decide +kernel
theorem dX8_layBase_1 : decode cX8_layBase 1 = .ok (.istore_n 1, 1) := by decide +kernel
theorem dX8_layBase_2 : decode cX8_layBase 2 = .ok (.iload_n 1, 1) := by decide +kernel
theorem dX8_layBase_3 : decode cX8_layBase 3 = .ok (.bipush 9, 2) := by decide +kernel
theorem dX8_layBase_5 : decode cX8_layBase 5 = .ok (.if_icmp .ge 27, 3) := by decide +kernel
theorem dX8_layBase_8 : decode cX8_layBase 8 = .ok (.aload_n 0, 1) := by decide +kernel
theorem dX8_layBase_9 : decode cX8_layBase 9 = .ok (.getfield 27, 3) := by decide +kernel
theorem dX8_layBase_12 : decode cX8_layBase 12 = .ok (.bipush 27, 2) := by decide +kernel
theorem dX8_layBase_14 : decode cX8_layBase 14 = .ok (.iload_n 1, 1) := by decide +kernel
theorem dX8_layBase_15 : decode cX8_layBase 15 = .ok (.iadd, 1) := by decide +kernel
theorem dX8_layBase_16 : decode cX8_layBase 16 = .ok (.aload_n 0, 1) := by decide +kernel
theorem dX8_layBase_17 : decode cX8_layBase 17 = .ok (.getfield 7, 3) := by decide +kernel
theorem dX8_layBase_20 : decode cX8_layBase 20 = .ok (.bipush 72, 2) := by decide +kernel
theorem dX8_layBase_22 : decode cX8_layBase 22 = .ok (.iload_n 1, 1) := by decide +kernel
theorem dX8_layBase_23 : decode cX8_layBase 23 = .ok (.iadd, 1) := by decide +kernel
theorem dX8_layBase_24 : decode cX8_layBase 24 = .ok (.iaload, 1) := by decide +kernel
theorem dX8_layBase_25 : decode cX8_layBase 25 = .ok (.iastore, 1) := by decide +kernel
theorem dX8_layBase_26 : decode cX8_layBase 26 = .ok (.iinc 1 1, 3) := by decide +kernel
theorem dX8_layBase_29 : decode cX8_layBase 29 = .ok (.goto (-27), 3) := by decide +kernel
theorem dX8_layBase_32 : decode cX8_layBase 32 = .ok (.aload_n 0, 1) := by decide +kernel
theorem dX8_layBase_33 : decode cX8_layBase 33 = .ok (.bipush 27, 2) := by decide +kernel
theorem dX8_layBase_35 : decode cX8_layBase 35 = .ok (.bipush 36, 2) := by decide +kernel
theorem dX8_layBase_37 : decode cX8_layBase 37 = .ok (.invokevirtual 78, 3) := by decide +kernel
theorem dX8_layBase_40 : decode cX8_layBase 40 = .ok (.return_, 1) := by decide +kernel
set_option maxRecDepth 20000 in
theorem ggX8_load_X8_layBase : GoodIn wsX8_load wsX8_layBase := goodIn_r _ [7, 1, 2, 8, 9, 10, 6, 11, 12, 13, 14, 15, 16, 17, 18, 19, 20, 21, 22, 23, 24, 25, 26, 27, 28, 29, 30, 31, 32, 33, 34, 35, 36, 37, 38, 39, 40, 41, 42, 43, 44, 45, 46, 47, 48, 49, 50, 51] (by decide +kernel) (by decide +kernel)
set_option maxRecDepth 20000 in
theorem gX8_load_X8_layBase : GoodIn wsX8_load (wsV RX8 81 RX8 yX8_layBase wsX8_layBase) := goodIn_app (goodIn_of _ (by decide +kernel)) ggX8_load_X8_layBase
theorem dX8_load_0 : decode cX8_load 0 = .ok (.aload_n 0, 1) := by decide +kernel
theorem dX8_load_1 : decode cX8_load 1 = .ok (.invokevirtual 81, 3) := by decide +kernel
theorem dX8_load_4 : decode cX8_load 4 = .ok (.iconst 0, 1) := by decide +kernel
theorem dX8_load_5 : decode cX8_load 5 = .ok (.istore_n 3, 1) := by decide +kernel
theorem dX8_load_6 : decode cX8_load 6 = .ok (.iload_n 3, 1) := by decide +kernel
theorem dX8_load_7 : decode cX8_load 7 = .ok (.bipush 9, 2) := by decide +kernel
theorem dX8_load_9 : decode cX8_load 9 = .ok (.if_icmp .ge 57, 3) := by decide +kernel
theorem dX8_load_12 : decode cX8_load 12 = .ok (.aload_n 0, 1) := by decide +kernel
theorem dX8_load_13 : decode cX8_load 13 = .ok (.getfield 27, 3) := by decide +kernel
theorem dX8_load_16 : decode cX8_load 16 = .ok (.iload_n 2, 1) := by decide +kernel
theorem dX8_load_17 : decode cX8_load 17 = .ok (.iload_n 3, 1) := by decide +kernel
theorem dX8_load_18 : decode cX8_load 18 = .ok (.iadd, 1) := by decide +kernel
theorem dX8_load_19 : decode cX8_load 19 = .ok (.iload_n 1, 1) := by decide +kernel
theorem dX8_load_20 : decode cX8_load 20 = .ok (.bipush 8, 2) := by decide +kernel
theorem dX8_load_22 : decode cX8_load 22 = .ok (.if_icmp .ge 17, 3) := by decide +kernel
theorem dX8_load_25 : decode cX8_load 25 = .ok (.aload_n 0, 1) := by decide +kernel
theorem dX8_load_26 : decode cX8_load 26 = .ok (.getfield 7, 3) := by decide +kernel
theorem dX8_load_29 : decode cX8_load 29 = .ok (.bipush 9, 2) := by decide +kernel
theorem dX8_load_31 : decode cX8_load 31 = .ok (.iload_n 1, 1) := by decide +kernel
theorem dX8_load_32 : decode cX8_load 32 = .ok (.imul, 1) := by decide +kernel
theorem dX8_load_33 : decode cX8_load 33 = .ok (.iload_n 3, 1) := by decide +kernel
theorem dX8_load_34 : decode cX8_load 34 = .ok (.iadd, 1) := by decide +kernel
theorem dX8_load_35 : decode cX8_load 35 = .ok (.iaload, 1) := by decide +kernel
theorem dX8_load_36 : decode cX8_load 36 = .ok (.goto 23, 3) := by decide +kernel
theorem dX8_load_39 : decode cX8_load 39 = .ok (.aload_n 0, 1) := by decide +kernel
theorem dX8_load_40 : decode cX8_load 40 = .ok (.getfield 27, 3) := by decide +kernel
theorem dX8_load_43 : decode cX8_load 43 = .ok (.iload_n 1, 1) := by decide +kernel
theorem dX8_load_44 : decode cX8_load 44 = .ok (.bipush 8, 2) := by decide +kernel
theorem dX8_load_46 : decode cX8_load 46 = .ok (.if_icmp .ne 8, 3) := by decide +kernel
theorem dX8_load_49 : decode cX8_load 49 = .ok (.bipush 27, 2) := by decide +kernel
theorem dX8_load_51 : decode cX8_load 51 = .ok (.goto 5, 3) := by decide +kernel
theorem dX8_load_54 : decode cX8_load 54 = .ok (.bipush 36, 2) := by decide +kernel
theorem dX8_load_56 : decode cX8_load 56 = .ok (.iload_n 3, 1) := by decide +kernel
theorem dX8_load_57 : decode cX8_load 57 = .ok (.iadd, 1) := by decide +kernel
theorem dX8_load_58 : decode cX8_load 58 = .ok (.iaload, 1) := by decide +kernel
theorem dX8_load_59 : decode cX8_load 59 = .ok (.iastore, 1) := by decide +kernel
theorem dX8_load_60 : decode cX8_load 60 = .ok (.iinc 3 1, 3) := by decide +kernel
theorem dX8_load_63 : decode cX8_load 63 = .ok (.goto (-57), 3) := by decide +kernel
theorem dX8_load_66 : decode cX8_load 66 = .ok (.return_, 1) := by decide +kernel
theorem dX8_store_0 : decode cX8_store 0 = .ok (.iconst 0, 1) := by decide +kernel
theorem dX8_store_1 : decode cX8_store 1 = .ok (.istore_n 3, 1) := by decide +kernel
theorem dX8_store_2 : decode cX8_store 2 = .ok (.iload_n 3, 1) := by decide +kernel
theorem dX8_store_3 : decode cX8_store 3 = .ok (.bipush 9, 2) := by decide +kernel
theorem dX8_store_5 : decode cX8_store 5 = .ok (.if_icmp .ge 28, 3) := by decide +kernel
theorem dX8_store_8 : decode cX8_store 8 = .ok (.aload_n 0, 1) := by decide +kernel
theorem dX8_store_9 : decode cX8_store 9 = .ok (.getfield 7, 3) := by decide +kernel
theorem dX8_store_12 : decode cX8_store 12 = .ok (.bipush 9, 2) := by decide +kernel
theorem dX8_store_14 : decode cX8_store 14 = .ok (.iload_n 2, 1) := by decide +kernel
theorem dX8_store_15 : decode cX8_store 15 = .ok (.imul, 1) := by decide +kernel
theorem dX8_store_16 : decode cX8_store 16 = .ok (.iload_n 3, 1) := by decide +kernel
theorem dX8_store_17 : decode cX8_store 17 = .ok (.iadd, 1) := by decide +kernel
theorem dX8_store_18 : decode cX8_store 18 = .ok (.aload_n 0, 1) := by decide +kernel
theorem dX8_store_19 : decode cX8_store 19 = .ok (.getfield 27, 3) := by decide +kernel
theorem dX8_store_22 : decode cX8_store 22 = .ok (.iload_n 1, 1) := by decide +kernel
theorem dX8_store_23 : decode cX8_store 23 = .ok (.iload_n 3, 1) := by decide +kernel
theorem dX8_store_24 : decode cX8_store 24 = .ok (.iadd, 1) := by decide +kernel
theorem dX8_store_25 : decode cX8_store 25 = .ok (.iaload, 1) := by decide +kernel
theorem dX8_store_26 : decode cX8_store 26 = .ok (.iastore, 1) := by decide +kernel
theorem dX8_store_27 : decode cX8_store 27 = .ok (.iinc 3 1, 3) := by decide +kernel
theorem dX8_store_30 : decode cX8_store 30 = .ok (.goto (-28), 3) := by decide +kernel
theorem dX8_store_33 : decode cX8_store 33 = .ok (.return_, 1) := by decide +kernel
set_option maxRecDepth 20000 in
theorem ggX8_product_X8_times : GoodIn wsX8_product wsX8_times := goodIn_r _ [5, 6, 7, 8, 9, 10, 4, 11, 24, 25, 26, 27, 28, 29, 30, 31, 32, 33, 34, 35, 36, 37, 38, 39, 40, 41, 42, 43] (by decide +kernel) (by decide +kernel)
set_option maxRecDepth 20000 in
theorem gX8_product_X8_times : GoodIn wsX8_product (wsV RX8 84 RX8 yX8_times wsX8_times) := goodIn_app (goodIn_of _ (by decide +kernel)) ggX8_product_X8_times
set_option maxRecDepth 20000 in
theorem ggX8_product_X8_half : GoodIn wsX8_product wsX8_half := goodIn_r _ [15, 6, 24, 25, 26, 27, 28, 29, 30, 31, 32, 33, 34, 35, 36, 37, 38, 39, 40, 41, 42, 43] (by decide +kernel) (by decide +kernel)
set_option maxRecDepth 20000 in
theorem gX8_product_X8_half : GoodIn wsX8_product (wsV RX8 88 RX8 yX8_half wsX8_half) := goodIn_app (goodIn_of _ (by decide +kernel)) ggX8_product_X8_half
set_option maxRecDepth 20000 in
theorem ggX8_product_X8_add : GoodIn wsX8_product wsX8_add := goodIn_r _ [19, 7, 20, 21, 22, 4, 23, 6, 24, 25, 26, 27, 28, 29, 30, 31, 32, 33, 34, 35, 36, 37, 38, 39, 40, 41, 42, 43] (by decide +kernel) (by decide +kernel)
set_option maxRecDepth 20000 in
theorem gX8_product_X8_add : GoodIn wsX8_product (wsV RX8 92 RX8 yX8_add wsX8_add) := goodIn_app (goodIn_of _ (by decide +kernel)) ggX8_product_X8_add
theorem dX8_product_0 : decode cX8_product 0 = .ok (.aload_n 0, 1) := by decide +kernel
theorem dX8_product_1 : decode cX8_product 1 = .ok (.iload_n 1, 1) := by decide +kernel
theorem dX8_product_2 : decode cX8_product 2 = .ok (.bipush 27, 2) := by decide +kernel
theorem dX8_product_4 : decode cX8_product 4 = .ok (.bipush 45, 2) := by decide +kernel
theorem dX8_product_6 : decode cX8_product 6 = .ok (.invokevirtual 84, 3) := by decide +kernel
theorem dX8_product_9 : decode cX8_product 9 = .ok (.aload_n 0, 1) := by decide +kernel
theorem dX8_product_10 : decode cX8_product 10 = .ok (.bipush 45, 2) := by decide +kernel
theorem dX8_product_12 : decode cX8_product 12 = .ok (.iload_n 2, 1) := by decide +kernel
end
section
theorem dX8_product_13 : decode cX8_product 13 = .ok (.bipush 54, 2) := by decide +kernel
theorem dX8_product_15 : decode cX8_product 15 = .ok (.invokevirtual 84, 3) := by decide +kernel
theorem dX8_product_18 : decode cX8_product 18 = .ok (.aload_n 0, 1) := by decide +kernel
theorem dX8_product_19 : decode cX8_product 19 = .ok (.iload_n 2, 1) := by decide +kernel
theorem dX8_product_20 : decode cX8_product 20 = .ok (.bipush 27, 2) := by decide +kernel
theorem dX8_product_22 : decode cX8_product 22 = .ok (.bipush 45, 2) := by decide +kernel
theorem dX8_product_24 : decode cX8_product 24 = .ok (.invokevirtual 84, 3) := by decide +kernel
theorem dX8_product_27 : decode cX8_product 27 = .ok (.aload_n 0, 1) := by decide +kernel
theorem dX8_product_28 : decode cX8_product 28 = .ok (.bipush 45, 2) := by decide +kernel
theorem dX8_product_30 : decode cX8_product 30 = .ok (.iload_n 1, 1) := by decide +kernel
theorem dX8_product_31 : decode cX8_product 31 = .ok (.bipush 63, 2) := by decide +kernel
theorem dX8_product_33 : decode cX8_product 33 = .ok (.invokevirtual 84, 3) := by decide +kernel
theorem dX8_product_36 : decode cX8_product 36 = .ok (.aload_n 0, 1) := by decide +kernel
theorem dX8_product_37 : decode cX8_product 37 = .ok (.bipush 54, 2) := by decide +kernel
theorem dX8_product_39 : decode cX8_product 39 = .ok (.aload_n 0, 1) := by decide +kernel
theorem dX8_product_40 : decode cX8_product 40 = .ok (.invokevirtual 88, 3) := by decide +kernel
theorem dX8_product_43 : decode cX8_product 43 = .ok (.bipush 63, 2) := by decide +kernel
theorem dX8_product_45 : decode cX8_product 45 = .ok (.aload_n 0, 1) := by decide +kernel
theorem dX8_product_46 : decode cX8_product 46 = .ok (.invokevirtual 88, 3) := by decide +kernel
theorem dX8_product_49 : decode cX8_product 49 = .ok (.iload_n 3, 1) := by decide +kernel
theorem dX8_product_50 : decode cX8_product 50 = .ok (.invokevirtual 92, 3) := by decide +kernel
theorem dX8_product_53 : decode cX8_product 53 = .ok (.return_, 1) := by decide +kernel
set_option maxRecDepth 20000 in
theorem ggX8_operator_X8_times : GoodIn wsX8_operator wsX8_times := goodIn_r _ [5, 6, 7, 8, 9, 10, 4, 11, 16, 17, 18, 19, 20, 21, 22, 23, 24, 25, 26, 27, 28, 29, 30, 31, 32, 33, 34, 35] (by decide +kernel) (by decide +kernel)
set_option maxRecDepth 20000 in
theorem gX8_operator_X8_times : GoodIn wsX8_operator (wsV RX8 84 RX8 yX8_times wsX8_times) := goodIn_app (goodIn_of _ (by decide +kernel)) ggX8_operator_X8_times
set_option maxRecDepth 20000 in
theorem ggX8_operator_X8_copy : GoodIn wsX8_operator wsX8_copy := goodIn_r _ [15, 7, 16, 17, 18, 19, 20, 21, 22, 23, 24, 25, 26, 27, 28, 29, 30, 31, 32, 33, 34, 35] (by decide +kernel) (by decide +kernel)
set_option maxRecDepth 20000 in
theorem gX8_operator_X8_copy : GoodIn wsX8_operator (wsV RX8 96 RX8 yX8_copy wsX8_copy) := goodIn_app (goodIn_of _ (by decide +kernel)) ggX8_operator_X8_copy
theorem dX8_operator_0 : decode cX8_operator 0 = .ok (.aload_n 0, 1) := by decide +kernel
theorem dX8_operator_1 : decode cX8_operator 1 = .ok (.iload_n 1, 1) := by decide +kernel
theorem dX8_operator_2 : decode cX8_operator 2 = .ok (.bipush 27, 2) := by decide +kernel
theorem dX8_operator_4 : decode cX8_operator 4 = .ok (.bipush 45, 2) := by decide +kernel
theorem dX8_operator_6 : decode cX8_operator 6 = .ok (.invokevirtual 84, 3) := by decide +kernel
theorem dX8_operator_9 : decode cX8_operator 9 = .ok (.aload_n 0, 1) := by decide +kernel
theorem dX8_operator_10 : decode cX8_operator 10 = .ok (.bipush 45, 2) := by decide +kernel
theorem dX8_operator_12 : decode cX8_operator 12 = .ok (.iload_n 2, 1) := by decide +kernel
theorem dX8_operator_13 : decode cX8_operator 13 = .ok (.bipush 54, 2) := by decide +kernel
theorem dX8_operator_15 : decode cX8_operator 15 = .ok (.invokevirtual 84, 3) := by decide +kernel
theorem dX8_operator_18 : decode cX8_operator 18 = .ok (.aload_n 0, 1) := by decide +kernel
theorem dX8_operator_19 : decode cX8_operator 19 = .ok (.bipush 54, 2) := by decide +kernel
theorem dX8_operator_21 : decode cX8_operator 21 = .ok (.bipush 27, 2) := by decide +kernel
theorem dX8_operator_23 : decode cX8_operator 23 = .ok (.bipush 45, 2) := by decide +kernel
theorem dX8_operator_25 : decode cX8_operator 25 = .ok (.invokevirtual 84, 3) := by decide +kernel
theorem dX8_operator_28 : decode cX8_operator 28 = .ok (.aload_n 0, 1) := by decide +kernel
theorem dX8_operator_29 : decode cX8_operator 29 = .ok (.bipush 45, 2) := by decide +kernel
theorem dX8_operator_31 : decode cX8_operator 31 = .ok (.iload_n 1, 1) := by decide +kernel
theorem dX8_operator_32 : decode cX8_operator 32 = .ok (.bipush 63, 2) := by decide +kernel
theorem dX8_operator_34 : decode cX8_operator 34 = .ok (.invokevirtual 84, 3) := by decide +kernel
theorem dX8_operator_37 : decode cX8_operator 37 = .ok (.aload_n 0, 1) := by decide +kernel
theorem dX8_operator_38 : decode cX8_operator 38 = .ok (.bipush 63, 2) := by decide +kernel
theorem dX8_operator_40 : decode cX8_operator 40 = .ok (.iload_n 3, 1) := by decide +kernel
theorem dX8_operator_41 : decode cX8_operator 41 = .ok (.invokevirtual 96, 3) := by decide +kernel
theorem dX8_operator_44 : decode cX8_operator 44 = .ok (.return_, 1) := by decide +kernel
set_option maxRecDepth 20000 in
theorem ggX8_triple_X8_times : GoodIn wsX8_triple wsX8_times := goodIn_r _ [5, 6, 7, 8, 9, 10, 4, 11, 24, 25, 26, 27, 28, 29, 30, 31, 32, 33, 34, 35, 36, 37, 38, 39, 40, 41, 42, 43] (by decide +kernel) (by decide +kernel)
set_option maxRecDepth 20000 in
theorem gX8_triple_X8_times : GoodIn wsX8_triple (wsV RX8 84 RX8 yX8_times wsX8_times) := goodIn_app (goodIn_of _ (by decide +kernel)) ggX8_triple_X8_times
set_option maxRecDepth 20000 in
theorem ggX8_triple_X8_half : GoodIn wsX8_triple wsX8_half := goodIn_r _ [15, 6, 24, 25, 26, 27, 28, 29, 30, 31, 32, 33, 34, 35, 36, 37, 38, 39, 40, 41, 42, 43] (by decide +kernel) (by decide +kernel)
set_option maxRecDepth 20000 in
theorem gX8_triple_X8_half : GoodIn wsX8_triple (wsV RX8 88 RX8 yX8_half wsX8_half) := goodIn_app (goodIn_of _ (by decide +kernel)) ggX8_triple_X8_half
set_option maxRecDepth 20000 in
theorem ggX8_triple_X8_add : GoodIn wsX8_triple wsX8_add := goodIn_r _ [19, 7, 20, 21, 22, 4, 23, 6, 24, 25, 26, 27, 28, 29, 30, 31, 32, 33, 34, 35, 36, 37, 38, 39, 40, 41, 42, 43] (by decide +kernel) (by decide +kernel)
set_option maxRecDepth 20000 in
theorem gX8_triple_X8_add : GoodIn wsX8_triple (wsV RX8 92 RX8 yX8_add wsX8_add) := goodIn_app (goodIn_of _ (by decide +kernel)) ggX8_triple_X8_add
theorem dX8_triple_0 : decode cX8_triple 0 = .ok (.aload_n 0, 1) := by decide +kernel
theorem dX8_triple_1 : decode cX8_triple 1 = .ok (.iload_n 1, 1) := by decide +kernel
theorem dX8_triple_2 : decode cX8_triple 2 = .ok (.bipush 27, 2) := by decide +kernel
theorem dX8_triple_4 : decode cX8_triple 4 = .ok (.bipush 45, 2) := by decide +kernel
theorem dX8_triple_6 : decode cX8_triple 6 = .ok (.invokevirtual 84, 3) := by decide +kernel
theorem dX8_triple_9 : decode cX8_triple 9 = .ok (.aload_n 0, 1) := by decide +kernel
theorem dX8_triple_10 : decode cX8_triple 10 = .ok (.bipush 45, 2) := by decide +kernel
theorem dX8_triple_12 : decode cX8_triple 12 = .ok (.iload_n 2, 1) := by decide +kernel
theorem dX8_triple_13 : decode cX8_triple 13 = .ok (.bipush 54, 2) := by decide +kernel
theorem dX8_triple_15 : decode cX8_triple 15 = .ok (.invokevirtual 84, 3) := by decide +kernel
theorem dX8_triple_18 : decode cX8_triple 18 = .ok (.aload_n 0, 1) := by decide +kernel
theorem dX8_triple_19 : decode cX8_triple 19 = .ok (.bipush 54, 2) := by decide +kernel
theorem dX8_triple_21 : decode cX8_triple 21 = .ok (.bipush 27, 2) := by decide +kernel
theorem dX8_triple_23 : decode cX8_triple 23 = .ok (.bipush 45, 2) := by decide +kernel
theorem dX8_triple_25 : decode cX8_triple 25 = .ok (.invokevirtual 84, 3) := by decide +kernel
theorem dX8_triple_28 : decode cX8_triple 28 = .ok (.aload_n 0, 1) := by decide +kernel
theorem dX8_triple_29 : decode cX8_triple 29 = .ok (.bipush 45, 2) := by decide +kernel
theorem dX8_triple_31 : decode cX8_triple 31 = .ok (.iload_n 3, 1) := by decide +kernel
theorem dX8_triple_32 : decode cX8_triple 32 = .ok (.bipush 63, 2) := by decide +kernel
theorem dX8_triple_34 : decode cX8_triple 34 = .ok (.invokevirtual 84, 3) := by decide +kernel
theorem dX8_triple_37 : decode cX8_triple 37 = .ok (.aload_n 0, 1) := by decide +kernel
theorem dX8_triple_38 : decode cX8_triple 38 = .ok (.iload_n 3, 1) := by decide +kernel
theorem dX8_triple_39 : decode cX8_triple 39 = .ok (.bipush 27, 2) := by decide +kernel
theorem dX8_triple_41 : decode cX8_triple 41 = .ok (.bipush 45, 2) := by decide +kernel
theorem dX8_triple_43 : decode cX8_triple 43 = .ok (.invokevirtual 84, 3) := by decide +kernel
theorem dX8_triple_46 : decode cX8_triple 46 = .ok (.aload_n 0, 1) := by decide +kernel
theorem dX8_triple_47 : decode cX8_triple 47 = .ok (.bipush 45, 2) := by decide +kernel
theorem dX8_triple_49 : decode cX8_triple 49 = .ok (.iload_n 2, 1) := by decide +kernel
theorem dX8_triple_50 : decode cX8_triple 50 = .ok (.bipush 54, 2) := by decide +kernel
theorem dX8_triple_52 : decode cX8_triple 52 = .ok (.invokevirtual 84, 3) := by decide +kernel
theorem dX8_triple_55 : decode cX8_triple 55 = .ok (.aload_n 0, 1) := by decide +kernel
theorem dX8_triple_56 : decode cX8_triple 56 = .ok (.bipush 54, 2) := by decide +kernel
theorem dX8_triple_58 : decode cX8_triple 58 = .ok (.bipush 27, 2) := by decide +kernel
theorem dX8_triple_60 : decode cX8_triple 60 = .ok (.bipush 45, 2) := by decide +kernel
theorem dX8_triple_62 : decode cX8_triple 62 = .ok (.invokevirtual 84, 3) := by decide +kernel
theorem dX8_triple_65 : decode cX8_triple 65 = .ok (.aload_n 0, 1) := by decide +kernel
theorem dX8_triple_66 : decode cX8_triple 66 = .ok (.bipush 45, 2) := by decide +kernel
theorem dX8_triple_68 : decode cX8_triple 68 = .ok (.iload_n 1, 1) := by decide +kernel
theorem dX8_triple_69 : decode cX8_triple 69 = .ok (.bipush 72, 2) := by decide +kernel
theorem dX8_triple_71 : decode cX8_triple 71 = .ok (.invokevirtual 84, 3) := by decide +kernel
theorem dX8_triple_74 : decode cX8_triple 74 = .ok (.aload_n 0, 1) := by decide +kernel
theorem dX8_triple_75 : decode cX8_triple 75 = .ok (.bipush 63, 2) := by decide +kernel
theorem dX8_triple_77 : decode cX8_triple 77 = .ok (.aload_n 0, 1) := by decide +kernel
theorem dX8_triple_78 : decode cX8_triple 78 = .ok (.invokevirtual 88, 3) := by decide +kernel
theorem dX8_triple_81 : decode cX8_triple 81 = .ok (.bipush 72, 2) := by decide +kernel
theorem dX8_triple_83 : decode cX8_triple 83 = .ok (.aload_n 0, 1) := by decide +kernel
theorem dX8_triple_84 : decode cX8_triple 84 = .ok (.invokevirtual 88, 3) := by decide +kernel
theorem dX8_triple_87 : decode cX8_triple 87 = .ok (.iload 4, 2) := by decide +kernel
theorem dX8_triple_89 : decode cX8_triple 89 = .ok (.invokevirtual 92, 3) := by decide +kernel
theorem dX8_triple_92 : decode cX8_triple 92 = .ok (.return_, 1) := by decide +kernel
set_option maxRecDepth 20000 in
theorem ggX8_inverse_X8_determinant : GoodIn wsX8_inverse wsX8_determinant := goodIn_r _ [5, 6, 7, 8, 9, 10, 4, 11, 12, 13, 14, 15, 36, 37, 38, 39, 40, 41, 42, 43, 44, 45, 46, 47, 48, 49, 50, 51, 52, 53, 54, 55] (by decide +kernel) (by decide +kernel)
set_option maxRecDepth 20000 in
theorem gX8_inverse_X8_determinant : GoodIn wsX8_inverse (wsV RX8 72 RX8 yX8_determinant wsX8_determinant) := goodIn_app (goodIn_of _ (by decide +kernel)) ggX8_inverse_X8_determinant
set_option maxRecDepth 20000 in
theorem ggX8_inverse_X8_invert : GoodIn wsX8_inverse wsX8_invert := goodIn_r _ [19, 6, 7, 1, 2, 3, 4, 5, 8, 9, 10, 11, 12, 13, 14, 15, 20, 21, 22, 23, 24, 25, 26, 27, 36, 37, 38, 39, 40, 41, 42, 43, 44, 45, 46, 47, 48, 49, 50, 51, 52, 53, 54, 55] (by decide +kernel) (by decide +kernel)
set_option maxRecDepth 20000 in
theorem gX8_inverse_X8_invert : GoodIn wsX8_inverse (wsV RX8 78 RX8 yX8_invert wsX8_invert) := goodIn_app (goodIn_of _ (by decide +kernel)) ggX8_inverse_X8_invert
set_option maxRecDepth 20000 in
theorem ggX8_inverse_X8_times : GoodIn wsX8_inverse wsX8_times := goodIn_r _ [31, 6, 7, 24, 25, 26, 4, 27, 36, 37, 38, 39, 40, 41, 42, 43, 44, 45, 46, 47, 48, 49, 50, 51, 52, 53, 54, 55] (by decide +kernel) (by decide +kernel)
set_option maxRecDepth 20000 in
theorem gX8_inverse_X8_times : GoodIn wsX8_inverse (wsV RX8 84 RX8 yX8_times wsX8_times) := goodIn_app (goodIn_of _ (by decide +kernel)) ggX8_inverse_X8_times
set_option maxRecDepth 20000 in
theorem ggX8_inverse_X8_copy : GoodIn wsX8_inverse wsX8_copy := goodIn_r _ [35, 7, 36, 37, 38, 39, 40, 41, 42, 43, 44, 45, 46, 47, 48, 49, 50, 51, 52, 53, 54, 55] (by decide +kernel) (by decide +kernel)
set_option maxRecDepth 20000 in
theorem gX8_inverse_X8_copy : GoodIn wsX8_inverse (wsV RX8 96 RX8 yX8_copy wsX8_copy) := goodIn_app (goodIn_of _ (by decide +kernel)) ggX8_inverse_X8_copy
theorem dX8_inverse_0 : decode cX8_inverse 0 = .ok (.aload_n 0, 1) := by decide +kernel
theorem dX8_inverse_1 : decode cX8_inverse 1 = .ok (.iload_n 1, 1) := by decide +kernel
theorem dX8_inverse_2 : decode cX8_inverse 2 = .ok (.invokevirtual 72, 3) := by decide +kernel
theorem dX8_inverse_5 : decode cX8_inverse 5 = .ok (.ifCond .ne 5, 3) := by decide +kernel
theorem dX8_inverse_8 : decode cX8_inverse 8 = .ok (.iconst 0, 1) := by decide +kernel
theorem dX8_inverse_9 : decode cX8_inverse 9 = .ok (.ireturn, 1) := by decide +kernel
theorem dX8_inverse_10 : decode cX8_inverse 10 = .ok (.aload_n 0, 1) := by decide +kernel
theorem dX8_inverse_11 : decode cX8_inverse 11 = .ok (.iload_n 1, 1) := by decide +kernel
theorem dX8_inverse_12 : decode cX8_inverse 12 = .ok (.bipush 45, 2) := by decide +kernel
theorem dX8_inverse_14 : decode cX8_inverse 14 = .ok (.invokevirtual 78, 3) := by decide +kernel
theorem dX8_inverse_17 : decode cX8_inverse 17 = .ok (.aload_n 0, 1) := by decide +kernel
theorem dX8_inverse_18 : decode cX8_inverse 18 = .ok (.bipush 36, 2) := by decide +kernel
theorem dX8_inverse_20 : decode cX8_inverse 20 = .ok (.bipush 45, 2) := by decide +kernel
theorem dX8_inverse_22 : decode cX8_inverse 22 = .ok (.bipush 54, 2) := by decide +kernel
theorem dX8_inverse_24 : decode cX8_inverse 24 = .ok (.invokevirtual 84, 3) := by decide +kernel
theorem dX8_inverse_27 : decode cX8_inverse 27 = .ok (.aload_n 0, 1) := by decide +kernel
theorem dX8_inverse_28 : decode cX8_inverse 28 = .ok (.bipush 54, 2) := by decide +kernel
theorem dX8_inverse_30 : decode cX8_inverse 30 = .ok (.bipush 36, 2) := by decide +kernel
theorem dX8_inverse_32 : decode cX8_inverse 32 = .ok (.bipush 63, 2) := by decide +kernel
theorem dX8_inverse_34 : decode cX8_inverse 34 = .ok (.invokevirtual 84, 3) := by decide +kernel
theorem dX8_inverse_37 : decode cX8_inverse 37 = .ok (.aload_n 0, 1) := by decide +kernel
theorem dX8_inverse_38 : decode cX8_inverse 38 = .ok (.bipush 63, 2) := by decide +kernel
theorem dX8_inverse_40 : decode cX8_inverse 40 = .ok (.iload_n 2, 1) := by decide +kernel
theorem dX8_inverse_41 : decode cX8_inverse 41 = .ok (.invokevirtual 96, 3) := by decide +kernel
theorem dX8_inverse_44 : decode cX8_inverse 44 = .ok (.iconst 1, 1) := by decide +kernel
theorem dX8_inverse_45 : decode cX8_inverse 45 = .ok (.ireturn, 1) := by decide +kernel
set_option maxRecDepth 20000 in
theorem ggX8_isOwnSquare_X8_product : GoodIn wsX8_isOwnSquare wsX8_product := goodIn_r _ [5, 6, 7, 8, 4, 9, 10, 11, 12, 13, 14, 15, 16, 17, 18, 19, 20, 21, 22, 23, 24, 25, 26, 27, 32, 33, 34, 35, 36, 37, 38, 39, 40, 41, 42, 43, 44, 45, 46, 47, 48, 49, 50, 51] (by decide +kernel) (by decide +kernel)
set_option maxRecDepth 20000 in
theorem gX8_isOwnSquare_X8_product : GoodIn wsX8_isOwnSquare (wsV RX8 99 RX8 yX8_product wsX8_product) := goodIn_app (goodIn_of _ (by decide +kernel)) ggX8_isOwnSquare_X8_product
set_option maxRecDepth 20000 in
theorem ggX8_isOwnSquare_X8_areAlike : GoodIn wsX8_isOwnSquare wsX8_areAlike := goodIn_r _ [31, 11, 32, 33, 34, 35, 36, 37, 38, 39, 40, 41, 42, 43, 44, 45, 46, 47, 48, 49, 50, 51] (by decide +kernel) (by decide +kernel)
set_option maxRecDepth 20000 in
theorem gX8_isOwnSquare_X8_areAlike : GoodIn wsX8_isOwnSquare (wsV RX8 102 RX8 yX8_areAlike wsX8_areAlike) := goodIn_app (goodIn_of _ (by decide +kernel)) ggX8_isOwnSquare_X8_areAlike
theorem dX8_isOwnSquare_0 : decode cX8_isOwnSquare 0 = .ok (.aload_n 0, 1) := by decide +kernel
theorem dX8_isOwnSquare_1 : decode cX8_isOwnSquare 1 = .ok (.iload_n 1, 1) := by decide +kernel
theorem dX8_isOwnSquare_2 : decode cX8_isOwnSquare 2 = .ok (.iload_n 1, 1) := by decide +kernel
theorem dX8_isOwnSquare_3 : decode cX8_isOwnSquare 3 = .ok (.bipush 81, 2) := by decide +kernel
theorem dX8_isOwnSquare_5 : decode cX8_isOwnSquare 5 = .ok (.invokevirtual 99, 3) := by decide +kernel
theorem dX8_isOwnSquare_8 : decode cX8_isOwnSquare 8 = .ok (.aload_n 0, 1) := by decide +kernel
theorem dX8_isOwnSquare_9 : decode cX8_isOwnSquare 9 = .ok (.iload_n 1, 1) := by decide +kernel
theorem dX8_isOwnSquare_10 : decode cX8_isOwnSquare 10 = .ok (.bipush 81, 2) := by decide +kernel
theorem dX8_isOwnSquare_12 : decode cX8_isOwnSquare 12 = .ok (.invokevirtual 102, 3) := by decide +kernel
theorem dX8_isOwnSquare_15 : decode cX8_isOwnSquare 15 = .ok (.ireturn, 1) := by decide +kernel
set_option maxRecDepth 20000 in
theorem ggX8_part_X8_add : GoodIn wsX8_part wsX8_add := goodIn_r _ [5, 6, 7, 8, 9, 4, 10, 11, 28, 29, 30, 31, 32, 33, 34, 35, 36, 37, 38, 39, 40, 41, 42, 43, 44, 45, 46, 47] (by decide +kernel) (by decide +kernel)
set_option maxRecDepth 20000 in
theorem gX8_part_X8_add : GoodIn wsX8_part (wsV RX8 92 RX8 yX8_add wsX8_add) := goodIn_app (goodIn_of _ (by decide +kernel)) ggX8_part_X8_add
set_option maxRecDepth 20000 in
theorem ggX8_part_X8_operator : GoodIn wsX8_part wsX8_operator := goodIn_r _ [15, 16, 17, 18, 4, 19, 11, 6, 20, 21, 22, 23, 24, 25, 26, 27, 28, 29, 30, 31, 32, 33, 34, 35, 36, 37, 38, 39, 40, 41, 42, 43, 44, 45, 46, 47] (by decide +kernel) (by decide +kernel)
set_option maxRecDepth 20000 in
theorem gX8_part_X8_operator : GoodIn wsX8_part (wsV RX8 106 RX8 yX8_operator wsX8_operator) := goodIn_app (goodIn_of _ (by decide +kernel)) ggX8_part_X8_operator
set_option maxRecDepth 20000 in
theorem ggX8_part_X8_copy : GoodIn wsX8_part wsX8_copy := goodIn_r _ [27, 6, 28, 29, 30, 31, 32, 33, 34, 35, 36, 37, 38, 39, 40, 41, 42, 43, 44, 45, 46, 47] (by decide +kernel) (by decide +kernel)
set_option maxRecDepth 20000 in
theorem gX8_part_X8_copy : GoodIn wsX8_part (wsV RX8 96 RX8 yX8_copy wsX8_copy) := goodIn_app (goodIn_of _ (by decide +kernel)) ggX8_part_X8_copy
theorem dX8_part_0 : decode cX8_part 0 = .ok (.aload_n 0, 1) := by decide +kernel
theorem dX8_part_1 : decode cX8_part 1 = .ok (.bipush 36, 2) := by decide +kernel
theorem dX8_part_3 : decode cX8_part 3 = .ok (.iconst 1, 1) := by decide +kernel
theorem dX8_part_4 : decode cX8_part 4 = .ok (.bipush 90, 2) := by decide +kernel
theorem dX8_part_6 : decode cX8_part 6 = .ok (.iconst (-1), 1) := by decide +kernel
theorem dX8_part_7 : decode cX8_part 7 = .ok (.bipush 99, 2) := by decide +kernel
theorem dX8_part_9 : decode cX8_part 9 = .ok (.invokevirtual 92, 3) := by decide +kernel
theorem dX8_part_12 : decode cX8_part 12 = .ok (.aload_n 0, 1) := by decide +kernel
theorem dX8_part_13 : decode cX8_part 13 = .ok (.iload_n 1, 1) := by decide +kernel
theorem dX8_part_14 : decode cX8_part 14 = .ok (.ifCond .ne 8, 3) := by decide +kernel
theorem dX8_part_17 : decode cX8_part 17 = .ok (.bipush 99, 2) := by decide +kernel
theorem dX8_part_19 : decode cX8_part 19 = .ok (.goto 5, 3) := by decide +kernel
theorem dX8_part_22 : decode cX8_part 22 = .ok (.bipush 90, 2) := by decide +kernel
theorem dX8_part_24 : decode cX8_part 24 = .ok (.bipush 9, 2) := by decide +kernel
theorem dX8_part_26 : decode cX8_part 26 = .ok (.bipush 81, 2) := by decide +kernel
theorem dX8_part_28 : decode cX8_part 28 = .ok (.invokevirtual 106, 3) := by decide +kernel
theorem dX8_part_31 : decode cX8_part 31 = .ok (.iload_n 1, 1) := by decide +kernel
theorem dX8_part_32 : decode cX8_part 32 = .ok (.iconst 1, 1) := by decide +kernel
theorem dX8_part_33 : decode cX8_part 33 = .ok (.if_icmp .ne 45, 3) := by decide +kernel
theorem dX8_part_36 : decode cX8_part 36 = .ok (.aload_n 0, 1) := by decide +kernel
theorem dX8_part_37 : decode cX8_part 37 = .ok (.bipush 81, 2) := by decide +kernel
theorem dX8_part_39 : decode cX8_part 39 = .ok (.bipush 117, 2) := by decide +kernel
theorem dX8_part_41 : decode cX8_part 41 = .ok (.invokevirtual 96, 3) := by decide +kernel
theorem dX8_part_44 : decode cX8_part 44 = .ok (.aload_n 0, 1) := by decide +kernel
theorem dX8_part_45 : decode cX8_part 45 = .ok (.bipush 99, 2) := by decide +kernel
theorem dX8_part_47 : decode cX8_part 47 = .ok (.bipush 9, 2) := by decide +kernel
theorem dX8_part_49 : decode cX8_part 49 = .ok (.bipush 81, 2) := by decide +kernel
theorem dX8_part_51 : decode cX8_part 51 = .ok (.invokevirtual 106, 3) := by decide +kernel
theorem dX8_part_54 : decode cX8_part 54 = .ok (.aload_n 0, 1) := by decide +kernel
theorem dX8_part_55 : decode cX8_part 55 = .ok (.bipush 117, 2) := by decide +kernel
theorem dX8_part_57 : decode cX8_part 57 = .ok (.iconst 1, 1) := by decide +kernel
theorem dX8_part_58 : decode cX8_part 58 = .ok (.bipush 81, 2) := by decide +kernel
theorem dX8_part_60 : decode cX8_part 60 = .ok (.iconst 1, 1) := by decide +kernel
theorem dX8_part_61 : decode cX8_part 61 = .ok (.bipush 117, 2) := by decide +kernel
theorem dX8_part_63 : decode cX8_part 63 = .ok (.invokevirtual 92, 3) := by decide +kernel
theorem dX8_part_66 : decode cX8_part 66 = .ok (.aload_n 0, 1) := by decide +kernel
theorem dX8_part_67 : decode cX8_part 67 = .ok (.bipush 9, 2) := by decide +kernel
theorem dX8_part_69 : decode cX8_part 69 = .ok (.iconst 1, 1) := by decide +kernel
theorem dX8_part_70 : decode cX8_part 70 = .ok (.bipush 117, 2) := by decide +kernel
theorem dX8_part_72 : decode cX8_part 72 = .ok (.iconst (-1), 1) := by decide +kernel
theorem dX8_part_73 : decode cX8_part 73 = .ok (.bipush 81, 2) := by decide +kernel
theorem dX8_part_75 : decode cX8_part 75 = .ok (.invokevirtual 92, 3) := by decide +kernel
theorem dX8_part_78 : decode cX8_part 78 = .ok (.return_, 1) := by decide +kernel
set_option maxRecDepth 20000 in
theorem ggX8_begin_X8_in : GoodIn wsX8_begin wsX8_in := goodIn_r _ [5] (by decide +kernel) (by decide +kernel)
set_option maxRecDepth 20000 in
theorem gX8_begin_X8_in : GoodIn wsX8_begin (va_wsS RX8 49 yX8_in wsX8_in) := goodIn_app (goodIn_of _ (by decide +kernel)) ggX8_begin_X8_in
set_option maxRecDepth 20000 in
theorem ggX8_begin_X8_record : GoodIn wsX8_begin wsX8_record := goodIn_r _ [9, 10, 11, 1, 16, 17, 18, 19, 20, 21, 22, 23, 24, 25, 26, 27, 28, 29, 30, 31, 32, 33, 34, 35] (by decide +kernel) (by decide +kernel)
set_option maxRecDepth 20000 in
theorem gX8_begin_X8_record : GoodIn wsX8_begin (wsV RX8 57 RX8 yX8_record wsX8_record) := goodIn_app (goodIn_of _ (by decide +kernel)) ggX8_begin_X8_record
set_option maxRecDepth 20000 in
theorem ggX8_begin_X8_clear : GoodIn wsX8_begin wsX8_clear := goodIn_r _ [15, 1, 16, 17, 18, 19, 20, 21, 22, 23, 24, 25, 26, 27, 28, 29, 30, 31, 32, 33, 34, 35] (by decide +kernel) (by decide +kernel)
set_option maxRecDepth 20000 in
theorem gX8_begin_X8_clear : GoodIn wsX8_begin (wsV RX8 45 RX8 yX8_clear wsX8_clear) := goodIn_app (goodIn_of _ (by decide +kernel)) ggX8_begin_X8_clear
theorem dX8_begin_0 : decode cX8_begin 0 = .ok (.iload_n 2, 1) := by decide +kernel
theorem dX8_begin_1 : decode cX8_begin 1 = .ok (.iconst 3, 1) := by decide +kernel
theorem dX8_begin_2 : decode cX8_begin 2 = .ok (.if_icmp .eq 20, 3) := by decide +kernel
theorem dX8_begin_5 : decode cX8_begin 5 = .ok (.iload_n 2, 1) := by decide +kernel
theorem dX8_begin_6 : decode cX8_begin 6 = .ok (.iconst 5, 1) := by decide +kernel
theorem dX8_begin_7 : decode cX8_begin 7 = .ok (.if_icmp .eq 15, 3) := by decide +kernel
theorem dX8_begin_10 : decode cX8_begin 10 = .ok (.iload_n 2, 1) := by decide +kernel
theorem dX8_begin_11 : decode cX8_begin 11 = .ok (.bipush 7, 2) := by decide +kernel
theorem dX8_begin_13 : decode cX8_begin 13 = .ok (.if_icmp .eq 9, 3) := by decide +kernel
theorem dX8_begin_16 : decode cX8_begin 16 = .ok (.iload_n 2, 1) := by decide +kernel
theorem dX8_begin_17 : decode cX8_begin 17 = .ok (.bipush 11, 2) := by decide +kernel
theorem dX8_begin_19 : decode cX8_begin 19 = .ok (.if_icmp .ne 7, 3) := by decide +kernel
theorem dX8_begin_22 : decode cX8_begin 22 = .ok (.iconst 1, 1) := by decide +kernel
theorem dX8_begin_23 : decode cX8_begin 23 = .ok (.goto 4, 3) := by decide +kernel
theorem dX8_begin_26 : decode cX8_begin 26 = .ok (.iconst 0, 1) := by decide +kernel
theorem dX8_begin_27 : decode cX8_begin 27 = .ok (.istore_n 3, 1) := by decide +kernel
theorem dX8_begin_28 : decode cX8_begin 28 = .ok (.iload_n 3, 1) := by decide +kernel
theorem dX8_begin_29 : decode cX8_begin 29 = .ok (.ifCond .eq 12, 3) := by decide +kernel
theorem dX8_begin_32 : decode cX8_begin 32 = .ok (.iload_n 1, 1) := by decide +kernel
theorem dX8_begin_33 : decode cX8_begin 33 = .ok (.iconst 2, 1) := by decide +kernel
theorem dX8_begin_34 : decode cX8_begin 34 = .ok (.iconst 3, 1) := by decide +kernel
theorem dX8_begin_35 : decode cX8_begin 35 = .ok (.invokestatic 49, 3) := by decide +kernel
theorem dX8_begin_38 : decode cX8_begin 38 = .ok (.ifCond .ne 6, 3) := by decide +kernel
theorem dX8_begin_41 : decode cX8_begin 41 = .ok (.bipush (-2), 2) := by decide +kernel
theorem dX8_begin_43 : decode cX8_begin 43 = .ok (.ireturn, 1) := by decide +kernel
theorem dX8_begin_44 : decode cX8_begin 44 = .ok (.aload_n 0, 1) := by decide +kernel
theorem dX8_begin_45 : decode cX8_begin 45 = .ok (.invokevirtual 57, 3) := by decide +kernel
theorem dX8_begin_48 : decode cX8_begin 48 = .ok (.aload_n 0, 1) := by decide +kernel
theorem dX8_begin_49 : decode cX8_begin 49 = .ok (.getfield 7, 3) := by decide +kernel
theorem dX8_begin_52 : decode cX8_begin 52 = .ok (.bipush 81, 2) := by decide +kernel
theorem dX8_begin_54 : decode cX8_begin 54 = .ok (.iaload, 1) := by decide +kernel
theorem dX8_begin_55 : decode cX8_begin 55 = .ok (.istore 4, 2) := by decide +kernel
theorem dX8_begin_57 : decode cX8_begin 57 = .ok (.aload_n 0, 1) := by decide +kernel
theorem dX8_begin_58 : decode cX8_begin 58 = .ok (.iload_n 1, 1) := by decide +kernel
theorem dX8_begin_59 : decode cX8_begin 59 = .ok (.iload_n 2, 1) := by decide +kernel
theorem dX8_begin_60 : decode cX8_begin 60 = .ok (.invokevirtual 45, 3) := by decide +kernel
theorem dX8_begin_63 : decode cX8_begin 63 = .ok (.iload 4, 2) := by decide +kernel
theorem dX8_begin_65 : decode cX8_begin 65 = .ok (.ireturn, 1) := by decide +kernel
set_option maxRecDepth 20000 in
theorem ggX8_isCell_X8_in : GoodIn wsX8_isCell wsX8_in := goodIn_r _ [5] (by decide +kernel) (by decide +kernel)
set_option maxRecDepth 20000 in
theorem gX8_isCell_X8_in : GoodIn wsX8_isCell (va_wsS RX8 49 yX8_in wsX8_in) := goodIn_app (goodIn_of _ (by decide +kernel)) ggX8_isCell_X8_in
theorem dX8_isCell_0 : decode cX8_isCell 0 = .ok (.iload_n 1, 1) := by decide +kernel
theorem dX8_isCell_1 : decode cX8_isCell 1 = .ok (.iconst 0, 1) := by decide +kernel
theorem dX8_isCell_2 : decode cX8_isCell 2 = .ok (.aload_n 0, 1) := by decide +kernel
theorem dX8_isCell_3 : decode cX8_isCell 3 = .ok (.getfield 7, 3) := by decide +kernel
theorem dX8_isCell_6 : decode cX8_isCell 6 = .ok (.bipush 81, 2) := by decide +kernel
theorem dX8_isCell_8 : decode cX8_isCell 8 = .ok (.iaload, 1) := by decide +kernel
theorem dX8_isCell_9 : decode cX8_isCell 9 = .ok (.iconst 1, 1) := by decide +kernel
theorem dX8_isCell_10 : decode cX8_isCell 10 = .ok (.isub, 1) := by decide +kernel
theorem dX8_isCell_11 : decode cX8_isCell 11 = .ok (.invokestatic 49, 3) := by decide +kernel
theorem dX8_isCell_14 : decode cX8_isCell 14 = .ok (.ifCond .eq 24, 3) := by decide +kernel
theorem dX8_isCell_17 : decode cX8_isCell 17 = .ok (.iload_n 2, 1) := by decide +kernel
theorem dX8_isCell_18 : decode cX8_isCell 18 = .ok (.iconst 0, 1) := by decide +kernel
theorem dX8_isCell_19 : decode cX8_isCell 19 = .ok (.aload_n 0, 1) := by decide +kernel
theorem dX8_isCell_20 : decode cX8_isCell 20 = .ok (.getfield 7, 3) := by decide +kernel
theorem dX8_isCell_23 : decode cX8_isCell 23 = .ok (.bipush 81, 2) := by decide +kernel
theorem dX8_isCell_25 : decode cX8_isCell 25 = .ok (.iaload, 1) := by decide +kernel
theorem dX8_isCell_26 : decode cX8_isCell 26 = .ok (.iconst 1, 1) := by decide +kernel
theorem dX8_isCell_27 : decode cX8_isCell 27 = .ok (.isub, 1) := by decide +kernel
theorem dX8_isCell_28 : decode cX8_isCell 28 = .ok (.invokestatic 49, 3) := by decide +kernel
theorem dX8_isCell_31 : decode cX8_isCell 31 = .ok (.ifCond .eq 7, 3) := by decide +kernel
theorem dX8_isCell_34 : decode cX8_isCell 34 = .ok (.iconst 1, 1) := by decide +kernel
theorem dX8_isCell_35 : decode cX8_isCell 35 = .ok (.goto 4, 3) := by decide +kernel
theorem dX8_isCell_38 : decode cX8_isCell 38 = .ok (.iconst 0, 1) := by decide +kernel
theorem dX8_isCell_39 : decode cX8_isCell 39 = .ok (.ireturn, 1) := by decide +kernel
set_option maxRecDepth 20000 in
theorem ggX8_set_X8_isRegister : GoodIn wsX8_set wsX8_isRegister := goodIn_r _ [5, 6, 7, 4, 8] (by decide +kernel) (by decide +kernel)
set_option maxRecDepth 20000 in
theorem gX8_set_X8_isRegister : GoodIn wsX8_set (va_wsS RX8 109 yX8_isRegister wsX8_isRegister) := goodIn_app (goodIn_of _ (by decide +kernel)) ggX8_set_X8_isRegister
set_option maxRecDepth 20000 in
theorem ggX8_set_X8_isCell : GoodIn wsX8_set wsX8_isCell := goodIn_r _ [12, 1, 6, 7, 4, 8, 19, 20, 21, 22, 23, 24, 25, 26, 27, 28, 29, 30, 31, 32, 33, 34, 35, 36, 37, 38] (by decide +kernel) (by decide +kernel)
set_option maxRecDepth 20000 in
theorem gX8_set_X8_isCell : GoodIn wsX8_set (wsV RX8 113 RX8 yX8_isCell wsX8_isCell) := goodIn_app (goodIn_of _ (by decide +kernel)) ggX8_set_X8_isCell
set_option maxRecDepth 20000 in
theorem ggX8_set_X8_in : GoodIn wsX8_set wsX8_in := goodIn_r _ [8] (by decide +kernel) (by decide +kernel)
set_option maxRecDepth 20000 in
theorem gX8_set_X8_in : GoodIn wsX8_set (va_wsS RX8 49 yX8_in wsX8_in) := goodIn_app (goodIn_of _ (by decide +kernel)) ggX8_set_X8_in
set_option maxRecDepth 20000 in
theorem ggX8_set_X8_record : GoodIn wsX8_set wsX8_record := goodIn_r _ [16, 17, 18, 1, 19, 20, 21, 22, 23, 24, 25, 26, 27, 28, 29, 30, 31, 32, 33, 34, 35, 36, 37, 38] (by decide +kernel) (by decide +kernel)
set_option maxRecDepth 20000 in
theorem gX8_set_X8_record : GoodIn wsX8_set (wsV RX8 57 RX8 yX8_record wsX8_record) := goodIn_app (goodIn_of _ (by decide +kernel)) ggX8_set_X8_record
theorem dX8_set_0 : decode cX8_set 0 = .ok (.iload_n 1, 1) := by decide +kernel
theorem dX8_set_1 : decode cX8_set 1 = .ok (.invokestatic 109, 3) := by decide +kernel
theorem dX8_set_4 : decode cX8_set 4 = .ok (.ifCond .eq 12, 3) := by decide +kernel
theorem dX8_set_7 : decode cX8_set 7 = .ok (.aload_n 0, 1) := by decide +kernel
theorem dX8_set_8 : decode cX8_set 8 = .ok (.iload_n 2, 1) := by decide +kernel
theorem dX8_set_9 : decode cX8_set 9 = .ok (.iload_n 3, 1) := by decide +kernel
theorem dX8_set_10 : decode cX8_set 10 = .ok (.invokevirtual 113, 3) := by decide +kernel
theorem dX8_set_13 : decode cX8_set 13 = .ok (.ifCond .ne 5, 3) := by decide +kernel
theorem dX8_set_16 : decode cX8_set 16 = .ok (.iconst (-1), 1) := by decide +kernel
theorem dX8_set_17 : decode cX8_set 17 = .ok (.ireturn, 1) := by decide +kernel
theorem dX8_set_18 : decode cX8_set 18 = .ok (.iload 4, 2) := by decide +kernel
theorem dX8_set_20 : decode cX8_set 20 = .ok (.iconst 0, 1) := by decide +kernel
theorem dX8_set_21 : decode cX8_set 21 = .ok (.aload_n 0, 1) := by decide +kernel
theorem dX8_set_22 : decode cX8_set 22 = .ok (.getfield 7, 3) := by decide +kernel
theorem dX8_set_25 : decode cX8_set 25 = .ok (.bipush 82, 2) := by decide +kernel
theorem dX8_set_27 : decode cX8_set 27 = .ok (.iaload, 1) := by decide +kernel
theorem dX8_set_28 : decode cX8_set 28 = .ok (.iconst 1, 1) := by decide +kernel
theorem dX8_set_29 : decode cX8_set 29 = .ok (.isub, 1) := by decide +kernel
theorem dX8_set_30 : decode cX8_set 30 = .ok (.invokestatic 49, 3) := by decide +kernel
theorem dX8_set_33 : decode cX8_set 33 = .ok (.ifCond .ne 6, 3) := by decide +kernel
theorem dX8_set_36 : decode cX8_set 36 = .ok (.bipush (-2), 2) := by decide +kernel
theorem dX8_set_38 : decode cX8_set 38 = .ok (.ireturn, 1) := by decide +kernel
theorem dX8_set_39 : decode cX8_set 39 = .ok (.aload_n 0, 1) := by decide +kernel
theorem dX8_set_40 : decode cX8_set 40 = .ok (.invokevirtual 57, 3) := by decide +kernel
theorem dX8_set_43 : decode cX8_set 43 = .ok (.aload_n 0, 1) := by decide +kernel
theorem dX8_set_44 : decode cX8_set 44 = .ok (.getfield 7, 3) := by decide +kernel
theorem dX8_set_47 : decode cX8_set 47 = .ok (.bipush 9, 2) := by decide +kernel
theorem dX8_set_49 : decode cX8_set 49 = .ok (.iload_n 1, 1) := by decide +kernel
theorem dX8_set_50 : decode cX8_set 50 = .ok (.imul, 1) := by decide +kernel
theorem dX8_set_51 : decode cX8_set 51 = .ok (.iconst 3, 1) := by decide +kernel
theorem dX8_set_52 : decode cX8_set 52 = .ok (.iload_n 2, 1) := by decide +kernel
theorem dX8_set_53 : decode cX8_set 53 = .ok (.imul, 1) := by decide +kernel
theorem dX8_set_54 : decode cX8_set 54 = .ok (.iadd, 1) := by decide +kernel
theorem dX8_set_55 : decode cX8_set 55 = .ok (.iload_n 3, 1) := by decide +kernel
theorem dX8_set_56 : decode cX8_set 56 = .ok (.iadd, 1) := by decide +kernel
theorem dX8_set_57 : decode cX8_set 57 = .ok (.iaload, 1) := by decide +kernel
theorem dX8_set_58 : decode cX8_set 58 = .ok (.istore 5, 2) := by decide +kernel
theorem dX8_set_60 : decode cX8_set 60 = .ok (.aload_n 0, 1) := by decide +kernel
theorem dX8_set_61 : decode cX8_set 61 = .ok (.getfield 7, 3) := by decide +kernel
theorem dX8_set_64 : decode cX8_set 64 = .ok (.bipush 9, 2) := by decide +kernel
theorem dX8_set_66 : decode cX8_set 66 = .ok (.iload_n 1, 1) := by decide +kernel
theorem dX8_set_67 : decode cX8_set 67 = .ok (.imul, 1) := by decide +kernel
theorem dX8_set_68 : decode cX8_set 68 = .ok (.iconst 3, 1) := by decide +kernel
theorem dX8_set_69 : decode cX8_set 69 = .ok (.iload_n 2, 1) := by decide +kernel
theorem dX8_set_70 : decode cX8_set 70 = .ok (.imul, 1) := by decide +kernel
theorem dX8_set_71 : decode cX8_set 71 = .ok (.iadd, 1) := by decide +kernel
theorem dX8_set_72 : decode cX8_set 72 = .ok (.iload_n 3, 1) := by decide +kernel
theorem dX8_set_73 : decode cX8_set 73 = .ok (.iadd, 1) := by decide +kernel
theorem dX8_set_74 : decode cX8_set 74 = .ok (.iload 4, 2) := by decide +kernel
theorem dX8_set_76 : decode cX8_set 76 = .ok (.iastore, 1) := by decide +kernel
theorem dX8_set_77 : decode cX8_set 77 = .ok (.aload_n 0, 1) := by decide +kernel
theorem dX8_set_78 : decode cX8_set 78 = .ok (.getfield 7, 3) := by decide +kernel
theorem dX8_set_81 : decode cX8_set 81 = .ok (.bipush 9, 2) := by decide +kernel
theorem dX8_set_83 : decode cX8_set 83 = .ok (.iload_n 1, 1) := by decide +kernel
theorem dX8_set_84 : decode cX8_set 84 = .ok (.imul, 1) := by decide +kernel
theorem dX8_set_85 : decode cX8_set 85 = .ok (.iconst 3, 1) := by decide +kernel
theorem dX8_set_86 : decode cX8_set 86 = .ok (.iload_n 3, 1) := by decide +kernel
theorem dX8_set_87 : decode cX8_set 87 = .ok (.imul, 1) := by decide +kernel
theorem dX8_set_88 : decode cX8_set 88 = .ok (.iadd, 1) := by decide +kernel
theorem dX8_set_89 : decode cX8_set 89 = .ok (.iload_n 2, 1) := by decide +kernel
theorem dX8_set_90 : decode cX8_set 90 = .ok (.iadd, 1) := by decide +kernel
theorem dX8_set_91 : decode cX8_set 91 = .ok (.iload 4, 2) := by decide +kernel
theorem dX8_set_93 : decode cX8_set 93 = .ok (.iastore, 1) := by decide +kernel
theorem dX8_set_94 : decode cX8_set 94 = .ok (.iload 5, 2) := by decide +kernel
theorem dX8_set_96 : decode cX8_set 96 = .ok (.ireturn, 1) := by decide +kernel
set_option maxRecDepth 20000 in
theorem ggX8_base_X8_isRegister : GoodIn wsX8_base wsX8_isRegister := goodIn_r _ [6, 7, 8, 5, 9] (by decide +kernel) (by decide +kernel)
set_option maxRecDepth 20000 in
theorem gX8_base_X8_isRegister : GoodIn wsX8_base (va_wsS RX8 109 yX8_isRegister wsX8_isRegister) := goodIn_app (goodIn_of _ (by decide +kernel)) ggX8_base_X8_isRegister
set_option maxRecDepth 20000 in
theorem ggX8_base_X8_blank : GoodIn wsX8_base wsX8_blank := goodIn_r _ [13, 2, 32, 33, 34, 35, 36, 37, 38, 39, 40, 41, 42, 43, 44, 45, 46, 47, 48, 49, 50, 51] (by decide +kernel) (by decide +kernel)
set_option maxRecDepth 20000 in
theorem gX8_base_X8_blank : GoodIn wsX8_base (wsV RX8 60 RX8 yX8_blank wsX8_blank) := goodIn_app (goodIn_of _ (by decide +kernel)) ggX8_base_X8_blank
set_option maxRecDepth 20000 in
theorem ggX8_base_X8_determinant : GoodIn wsX8_base wsX8_determinant := goodIn_r _ [17, 1, 2, 18, 19, 20, 5, 21, 22, 23, 24, 25, 32, 33, 34, 35, 36, 37, 38, 39, 40, 41, 42, 43, 44, 45, 46, 47, 48, 49, 50, 51] (by decide +kernel) (by decide +kernel)
set_option maxRecDepth 20000 in
theorem gX8_base_X8_determinant : GoodIn wsX8_base (wsV RX8 72 RX8 yX8_determinant wsX8_determinant) := goodIn_app (goodIn_of _ (by decide +kernel)) ggX8_base_X8_determinant
set_option maxRecDepth 20000 in
theorem ggX8_base_X8_record : GoodIn wsX8_base wsX8_record := goodIn_r _ [29, 30, 31, 1, 32, 33, 34, 35, 36, 37, 38, 39, 40, 41, 42, 43, 44, 45, 46, 47, 48, 49, 50, 51] (by decide +kernel) (by decide +kernel)
set_option maxRecDepth 20000 in
theorem gX8_base_X8_record : GoodIn wsX8_base (wsV RX8 57 RX8 yX8_record wsX8_record) := goodIn_app (goodIn_of _ (by decide +kernel)) ggX8_base_X8_record
theorem dX8_base_0 : decode cX8_base 0 = .ok (.iload_n 1, 1) := by decide +kernel
theorem dX8_base_1 : decode cX8_base 1 = .ok (.bipush (-6), 2) := by decide +kernel
theorem dX8_base_3 : decode cX8_base 3 = .ok (.if_icmp .eq 12, 3) := by decide +kernel
theorem dX8_base_6 : decode cX8_base 6 = .ok (.iload_n 1, 1) := by decide +kernel
theorem dX8_base_7 : decode cX8_base 7 = .ok (.invokestatic 109, 3) := by decide +kernel
theorem dX8_base_10 : decode cX8_base 10 = .ok (.ifCond .ne 5, 3) := by decide +kernel
theorem dX8_base_13 : decode cX8_base 13 = .ok (.iconst (-1), 1) := by decide +kernel
theorem dX8_base_14 : decode cX8_base 14 = .ok (.ireturn, 1) := by decide +kernel
theorem dX8_base_15 : decode cX8_base 15 = .ok (.aload_n 0, 1) := by decide +kernel
theorem dX8_base_16 : decode cX8_base 16 = .ok (.iconst 0, 1) := by decide +kernel
theorem dX8_base_17 : decode cX8_base 17 = .ok (.invokevirtual 60, 3) := by decide +kernel
theorem dX8_base_20 : decode cX8_base 20 = .ok (.iconst 0, 1) := by decide +kernel
theorem dX8_base_21 : decode cX8_base 21 = .ok (.istore_n 2, 1) := by decide +kernel
theorem dX8_base_22 : decode cX8_base 22 = .ok (.iload_n 2, 1) := by decide +kernel
theorem dX8_base_23 : decode cX8_base 23 = .ok (.bipush 9, 2) := by decide +kernel
theorem dX8_base_25 : decode cX8_base 25 = .ok (.if_icmp .ge 71, 3) := by decide +kernel
theorem dX8_base_28 : decode cX8_base 28 = .ok (.iload_n 2, 1) := by decide +kernel
theorem dX8_base_29 : decode cX8_base 29 = .ok (.iconst 4, 1) := by decide +kernel
theorem dX8_base_30 : decode cX8_base 30 = .ok (.irem, 1) := by decide +kernel
theorem dX8_base_31 : decode cX8_base 31 = .ok (.ifCond .ne 20, 3) := by decide +kernel
theorem dX8_base_34 : decode cX8_base 34 = .ok (.iload_n 2, 1) := by decide +kernel
theorem dX8_base_35 : decode cX8_base 35 = .ok (.iconst 4, 1) := by decide +kernel
theorem dX8_base_36 : decode cX8_base 36 = .ok (.idiv, 1) := by decide +kernel
theorem dX8_base_37 : decode cX8_base 37 = .ok (.aload_n 0, 1) := by decide +kernel
theorem dX8_base_38 : decode cX8_base 38 = .ok (.getfield 7, 3) := by decide +kernel
theorem dX8_base_41 : decode cX8_base 41 = .ok (.bipush 81, 2) := by decide +kernel
theorem dX8_base_43 : decode cX8_base 43 = .ok (.iaload, 1) := by decide +kernel
theorem dX8_base_44 : decode cX8_base 44 = .ok (.if_icmp .ge 7, 3) := by decide +kernel
theorem dX8_base_47 : decode cX8_base 47 = .ok (.iconst 1, 1) := by decide +kernel
theorem dX8_base_48 : decode cX8_base 48 = .ok (.goto 4, 3) := by decide +kernel
theorem dX8_base_51 : decode cX8_base 51 = .ok (.iconst 0, 1) := by decide +kernel
theorem dX8_base_52 : decode cX8_base 52 = .ok (.istore_n 3, 1) := by decide +kernel
theorem dX8_base_53 : decode cX8_base 53 = .ok (.aload_n 0, 1) := by decide +kernel
theorem dX8_base_54 : decode cX8_base 54 = .ok (.getfield 27, 3) := by decide +kernel
theorem dX8_base_57 : decode cX8_base 57 = .ok (.iconst 0, 1) := by decide +kernel
theorem dX8_base_58 : decode cX8_base 58 = .ok (.iload_n 2, 1) := by decide +kernel
theorem dX8_base_59 : decode cX8_base 59 = .ok (.iadd, 1) := by decide +kernel
theorem dX8_base_60 : decode cX8_base 60 = .ok (.iload_n 1, 1) := by decide +kernel
theorem dX8_base_61 : decode cX8_base 61 = .ok (.bipush (-6), 2) := by decide +kernel
theorem dX8_base_63 : decode cX8_base 63 = .ok (.if_icmp .eq 17, 3) := by decide +kernel
theorem dX8_base_66 : decode cX8_base 66 = .ok (.aload_n 0, 1) := by decide +kernel
theorem dX8_base_67 : decode cX8_base 67 = .ok (.getfield 7, 3) := by decide +kernel
theorem dX8_base_70 : decode cX8_base 70 = .ok (.bipush 9, 2) := by decide +kernel
theorem dX8_base_72 : decode cX8_base 72 = .ok (.iload_n 1, 1) := by decide +kernel
theorem dX8_base_73 : decode cX8_base 73 = .ok (.imul, 1) := by decide +kernel
theorem dX8_base_74 : decode cX8_base 74 = .ok (.iload_n 2, 1) := by decide +kernel
theorem dX8_base_75 : decode cX8_base 75 = .ok (.iadd, 1) := by decide +kernel
theorem dX8_base_76 : decode cX8_base 76 = .ok (.iaload, 1) := by decide +kernel
theorem dX8_base_77 : decode cX8_base 77 = .ok (.goto 12, 3) := by decide +kernel
theorem dX8_base_80 : decode cX8_base 80 = .ok (.iload_n 3, 1) := by decide +kernel
theorem dX8_base_81 : decode cX8_base 81 = .ok (.ifCond .eq 7, 3) := by decide +kernel
theorem dX8_base_84 : decode cX8_base 84 = .ok (.iconst 1, 1) := by decide +kernel
theorem dX8_base_85 : decode cX8_base 85 = .ok (.goto 4, 3) := by decide +kernel
theorem dX8_base_88 : decode cX8_base 88 = .ok (.iconst 0, 1) := by decide +kernel
theorem dX8_base_89 : decode cX8_base 89 = .ok (.iastore, 1) := by decide +kernel
theorem dX8_base_90 : decode cX8_base 90 = .ok (.iinc 2 1, 3) := by decide +kernel
theorem dX8_base_93 : decode cX8_base 93 = .ok (.goto (-71), 3) := by decide +kernel
theorem dX8_base_96 : decode cX8_base 96 = .ok (.aload_n 0, 1) := by decide +kernel
theorem dX8_base_97 : decode cX8_base 97 = .ok (.iconst 0, 1) := by decide +kernel
theorem dX8_base_98 : decode cX8_base 98 = .ok (.invokevirtual 72, 3) := by decide +kernel
theorem dX8_base_101 : decode cX8_base 101 = .ok (.istore_n 2, 1) := by decide +kernel
theorem dX8_base_102 : decode cX8_base 102 = .ok (.iload_n 2, 1) := by decide +kernel
theorem dX8_base_103 : decode cX8_base 103 = .ok (.ifCond .ne 6, 3) := by decide +kernel
theorem dX8_base_106 : decode cX8_base 106 = .ok (.bipush (-5), 2) := by decide +kernel
theorem dX8_base_108 : decode cX8_base 108 = .ok (.ireturn, 1) := by decide +kernel
theorem dX8_base_109 : decode cX8_base 109 = .ok (.aload_n 0, 1) := by decide +kernel
theorem dX8_base_110 : decode cX8_base 110 = .ok (.invokevirtual 57, 3) := by decide +kernel
theorem dX8_base_113 : decode cX8_base 113 = .ok (.iconst 0, 1) := by decide +kernel
theorem dX8_base_114 : decode cX8_base 114 = .ok (.istore_n 3, 1) := by decide +kernel
theorem dX8_base_115 : decode cX8_base 115 = .ok (.iload_n 3, 1) := by decide +kernel
theorem dX8_base_116 : decode cX8_base 116 = .ok (.bipush 9, 2) := by decide +kernel
theorem dX8_base_118 : decode cX8_base 118 = .ok (.if_icmp .ge 26, 3) := by decide +kernel
theorem dX8_base_121 : decode cX8_base 121 = .ok (.aload_n 0, 1) := by decide +kernel
theorem dX8_base_122 : decode cX8_base 122 = .ok (.getfield 7, 3) := by decide +kernel
theorem dX8_base_125 : decode cX8_base 125 = .ok (.bipush 72, 2) := by decide +kernel
theorem dX8_base_127 : decode cX8_base 127 = .ok (.iload_n 3, 1) := by decide +kernel
theorem dX8_base_128 : decode cX8_base 128 = .ok (.iadd, 1) := by decide +kernel
theorem dX8_base_129 : decode cX8_base 129 = .ok (.aload_n 0, 1) := by decide +kernel
theorem dX8_base_130 : decode cX8_base 130 = .ok (.getfield 27, 3) := by decide +kernel
theorem dX8_base_133 : decode cX8_base 133 = .ok (.iconst 0, 1) := by decide +kernel
theorem dX8_base_134 : decode cX8_base 134 = .ok (.iload_n 3, 1) := by decide +kernel
theorem dX8_base_135 : decode cX8_base 135 = .ok (.iadd, 1) := by decide +kernel
theorem dX8_base_136 : decode cX8_base 136 = .ok (.iaload, 1) := by decide +kernel
theorem dX8_base_137 : decode cX8_base 137 = .ok (.iastore, 1) := by decide +kernel
theorem dX8_base_138 : decode cX8_base 138 = .ok (.iinc 3 1, 3) := by decide +kernel
theorem dX8_base_141 : decode cX8_base 141 = .ok (.goto (-26), 3) := by decide +kernel
theorem dX8_base_144 : decode cX8_base 144 = .ok (.iload_n 2, 1) := by decide +kernel
theorem dX8_base_145 : decode cX8_base 145 = .ok (.ireturn, 1) := by decide +kernel
set_option maxRecDepth 20000 in
theorem ggX8_split_X8_isRegister : GoodIn wsX8_split wsX8_isRegister := goodIn_r _ [4, 5, 6, 3, 7] (by decide +kernel) (by decide +kernel)
set_option maxRecDepth 20000 in
theorem gX8_split_X8_isRegister : GoodIn wsX8_split (va_wsS RX8 109 yX8_isRegister wsX8_isRegister) := goodIn_app (goodIn_of _ (by decide +kernel)) ggX8_split_X8_isRegister
set_option maxRecDepth 20000 in
theorem ggX8_split_X8_in : GoodIn wsX8_split wsX8_in := goodIn_r _ [7] (by decide +kernel) (by decide +kernel)
set_option maxRecDepth 20000 in
theorem gX8_split_X8_in : GoodIn wsX8_split (va_wsS RX8 49 yX8_in wsX8_in) := goodIn_app (goodIn_of _ (by decide +kernel)) ggX8_split_X8_in
set_option maxRecDepth 20000 in
theorem ggX8_split_X8_load : GoodIn wsX8_split wsX8_load := goodIn_r _ [11, 12, 13, 14, 15, 16, 3, 17, 18, 19, 20, 21, 22, 23, 24, 25, 26, 27, 28, 29, 30, 31, 32, 33, 34, 35, 36, 37, 38, 39, 40, 41, 92, 93, 94, 95, 96, 97, 98, 99, 100, 101, 102, 103, 104, 105, 106, 107, 108, 109, 110, 111] (by decide +kernel) (by decide +kernel)
set_option maxRecDepth 20000 in
theorem gX8_split_X8_load : GoodIn wsX8_split (wsV RX8 116 RX8 yX8_load wsX8_load) := goodIn_app (goodIn_of _ (by decide +kernel)) ggX8_split_X8_load
set_option maxRecDepth 20000 in
theorem ggX8_split_X8_isOwnSquare : GoodIn wsX8_split wsX8_isOwnSquare := goodIn_r _ [45, 46, 47, 48, 3, 49, 50, 51, 52, 53, 13, 12, 38, 39, 40, 41, 54, 55, 56, 57, 58, 59, 60, 61, 26, 27, 28, 29, 62, 63, 64, 65, 92, 93, 94, 95, 96, 97, 98, 99, 100, 101, 102, 103, 104, 105, 106, 107, 108, 109, 110, 111] (by decide +kernel) (by decide +kernel)
set_option maxRecDepth 20000 in
theorem gX8_split_X8_isOwnSquare : GoodIn wsX8_split (wsV RX8 119 RX8 yX8_isOwnSquare wsX8_isOwnSquare) := goodIn_app (goodIn_of _ (by decide +kernel)) ggX8_split_X8_isOwnSquare
set_option maxRecDepth 20000 in
theorem ggX8_split_X8_record : GoodIn wsX8_split wsX8_record := goodIn_r _ [69, 70, 71, 13, 92, 93, 94, 95, 96, 97, 98, 99, 100, 101, 102, 103, 104, 105, 106, 107, 108, 109, 110, 111] (by decide +kernel) (by decide +kernel)
set_option maxRecDepth 20000 in
theorem gX8_split_X8_record : GoodIn wsX8_split (wsV RX8 57 RX8 yX8_record wsX8_record) := goodIn_app (goodIn_of _ (by decide +kernel)) ggX8_split_X8_record
set_option maxRecDepth 20000 in
theorem ggX8_split_X8_part : GoodIn wsX8_split wsX8_part := goodIn_r _ [75, 58, 59, 60, 3, 61, 12, 26, 27, 28, 29, 13, 76, 77, 78, 79, 50, 51, 52, 53, 38, 39, 40, 41, 80, 81, 82, 83, 92, 93, 94, 95, 96, 97, 98, 99, 100, 101, 102, 103, 104, 105, 106, 107, 108, 109, 110, 111] (by decide +kernel) (by decide +kernel)
set_option maxRecDepth 20000 in
theorem gX8_split_X8_part : GoodIn wsX8_split (wsV RX8 122 RX8 yX8_part wsX8_part) := goodIn_app (goodIn_of _ (by decide +kernel)) ggX8_split_X8_part
set_option maxRecDepth 20000 in
theorem ggX8_split_X8_store : GoodIn wsX8_split wsX8_store := goodIn_r _ [87, 13, 12, 92, 93, 94, 95, 96, 97, 98, 99, 100, 101, 102, 103, 104, 105, 106, 107, 108, 109, 110, 111] (by decide +kernel) (by decide +kernel)
set_option maxRecDepth 20000 in
theorem gX8_split_X8_store : GoodIn wsX8_split (wsV RX8 125 RX8 yX8_store wsX8_store) := goodIn_app (goodIn_of _ (by decide +kernel)) ggX8_split_X8_store
set_option maxRecDepth 20000 in
theorem ggX8_split_X8_isNothing : GoodIn wsX8_split wsX8_isNothing := goodIn_r _ [91, 12, 92, 93, 94, 95, 96, 97, 98, 99, 100, 101, 102, 103, 104, 105, 106, 107, 108, 109, 110, 111] (by decide +kernel) (by decide +kernel)
set_option maxRecDepth 20000 in
theorem gX8_split_X8_isNothing : GoodIn wsX8_split (wsV RX8 128 RX8 yX8_isNothing wsX8_isNothing) := goodIn_app (goodIn_of _ (by decide +kernel)) ggX8_split_X8_isNothing
theorem dX8_split_0 : decode cX8_split 0 = .ok (.iload_n 1, 1) := by decide +kernel
theorem dX8_split_1 : decode cX8_split 1 = .ok (.invokestatic 109, 3) := by decide +kernel
theorem dX8_split_4 : decode cX8_split 4 = .ok (.ifCond .eq 19, 3) := by decide +kernel
theorem dX8_split_7 : decode cX8_split 7 = .ok (.iload_n 2, 1) := by decide +kernel
theorem dX8_split_8 : decode cX8_split 8 = .ok (.invokestatic 109, 3) := by decide +kernel
theorem dX8_split_11 : decode cX8_split 11 = .ok (.ifCond .eq 12, 3) := by decide +kernel
theorem dX8_split_14 : decode cX8_split 14 = .ok (.iload_n 3, 1) := by decide +kernel
theorem dX8_split_15 : decode cX8_split 15 = .ok (.iconst 0, 1) := by decide +kernel
theorem dX8_split_16 : decode cX8_split 16 = .ok (.iconst 5, 1) := by decide +kernel
theorem dX8_split_17 : decode cX8_split 17 = .ok (.invokestatic 49, 3) := by decide +kernel
theorem dX8_split_20 : decode cX8_split 20 = .ok (.ifCond .ne 5, 3) := by decide +kernel
theorem dX8_split_23 : decode cX8_split 23 = .ok (.iconst (-1), 1) := by decide +kernel
theorem dX8_split_24 : decode cX8_split 24 = .ok (.ireturn, 1) := by decide +kernel
theorem dX8_split_25 : decode cX8_split 25 = .ok (.aload_n 0, 1) := by decide +kernel
theorem dX8_split_26 : decode cX8_split 26 = .ok (.iload_n 1, 1) := by decide +kernel
theorem dX8_split_27 : decode cX8_split 27 = .ok (.bipush 90, 2) := by decide +kernel
theorem dX8_split_29 : decode cX8_split 29 = .ok (.invokevirtual 116, 3) := by decide +kernel
theorem dX8_split_32 : decode cX8_split 32 = .ok (.aload_n 0, 1) := by decide +kernel
theorem dX8_split_33 : decode cX8_split 33 = .ok (.iload_n 2, 1) := by decide +kernel
theorem dX8_split_34 : decode cX8_split 34 = .ok (.bipush 9, 2) := by decide +kernel
theorem dX8_split_36 : decode cX8_split 36 = .ok (.invokevirtual 116, 3) := by decide +kernel
theorem dX8_split_39 : decode cX8_split 39 = .ok (.aload_n 0, 1) := by decide +kernel
theorem dX8_split_40 : decode cX8_split 40 = .ok (.bipush 90, 2) := by decide +kernel
theorem dX8_split_42 : decode cX8_split 42 = .ok (.invokevirtual 119, 3) := by decide +kernel
theorem dX8_split_45 : decode cX8_split 45 = .ok (.ifCond .ne 6, 3) := by decide +kernel
theorem dX8_split_48 : decode cX8_split 48 = .ok (.bipush (-5), 2) := by decide +kernel
theorem dX8_split_50 : decode cX8_split 50 = .ok (.ireturn, 1) := by decide +kernel
theorem dX8_split_51 : decode cX8_split 51 = .ok (.aload_n 0, 1) := by decide +kernel
theorem dX8_split_52 : decode cX8_split 52 = .ok (.invokevirtual 57, 3) := by decide +kernel
theorem dX8_split_55 : decode cX8_split 55 = .ok (.iconst 0, 1) := by decide +kernel
theorem dX8_split_56 : decode cX8_split 56 = .ok (.istore 4, 2) := by decide +kernel
theorem dX8_split_58 : decode cX8_split 58 = .ok (.iconst 2, 1) := by decide +kernel
theorem dX8_split_59 : decode cX8_split 59 = .ok (.istore 5, 2) := by decide +kernel
theorem dX8_split_61 : decode cX8_split 61 = .ok (.iload 5, 2) := by decide +kernel
theorem dX8_split_63 : decode cX8_split 63 = .ok (.ifCond .lt 46, 3) := by decide +kernel
theorem dX8_split_66 : decode cX8_split 66 = .ok (.aload_n 0, 1) := by decide +kernel
theorem dX8_split_67 : decode cX8_split 67 = .ok (.iload 5, 2) := by decide +kernel
theorem dX8_split_69 : decode cX8_split 69 = .ok (.invokevirtual 122, 3) := by decide +kernel
theorem dX8_split_72 : decode cX8_split 72 = .ok (.aload_n 0, 1) := by decide +kernel
theorem dX8_split_73 : decode cX8_split 73 = .ok (.bipush 81, 2) := by decide +kernel
theorem dX8_split_75 : decode cX8_split 75 = .ok (.iload_n 3, 1) := by decide +kernel
theorem dX8_split_76 : decode cX8_split 76 = .ok (.iconst 2, 1) := by decide +kernel
theorem dX8_split_77 : decode cX8_split 77 = .ok (.iadd, 1) := by decide +kernel
theorem dX8_split_78 : decode cX8_split 78 = .ok (.iload 5, 2) := by decide +kernel
theorem dX8_split_80 : decode cX8_split 80 = .ok (.isub, 1) := by decide +kernel
theorem dX8_split_81 : decode cX8_split 81 = .ok (.invokevirtual 125, 3) := by decide +kernel
theorem dX8_split_84 : decode cX8_split 84 = .ok (.iload 4, 2) := by decide +kernel
theorem dX8_split_86 : decode cX8_split 86 = .ok (.aload_n 0, 1) := by decide +kernel
theorem dX8_split_87 : decode cX8_split 87 = .ok (.bipush 81, 2) := by decide +kernel
theorem dX8_split_89 : decode cX8_split 89 = .ok (.invokevirtual 128, 3) := by decide +kernel
theorem dX8_split_92 : decode cX8_split 92 = .ok (.ifCond .eq 7, 3) := by decide +kernel
theorem dX8_split_95 : decode cX8_split 95 = .ok (.iconst 0, 1) := by decide +kernel
theorem dX8_split_96 : decode cX8_split 96 = .ok (.goto 4, 3) := by decide +kernel
theorem dX8_split_99 : decode cX8_split 99 = .ok (.iconst 1, 1) := by decide +kernel
theorem dX8_split_100 : decode cX8_split 100 = .ok (.iadd, 1) := by decide +kernel
theorem dX8_split_101 : decode cX8_split 101 = .ok (.istore 4, 2) := by decide +kernel
theorem dX8_split_103 : decode cX8_split 103 = .ok (.iinc 5 (-1), 3) := by decide +kernel
theorem dX8_split_106 : decode cX8_split 106 = .ok (.goto (-45), 3) := by decide +kernel
theorem dX8_split_109 : decode cX8_split 109 = .ok (.iload 4, 2) := by decide +kernel
theorem dX8_split_111 : decode cX8_split 111 = .ok (.ireturn, 1) := by decide +kernel
set_option maxRecDepth 20000 in
theorem ggX8_entry_X8_in : GoodIn wsX8_entry wsX8_in := goodIn_r _ [5] (by decide +kernel) (by decide +kernel)
set_option maxRecDepth 20000 in
theorem gX8_entry_X8_in : GoodIn wsX8_entry (va_wsS RX8 49 yX8_in wsX8_in) := goodIn_app (goodIn_of _ (by decide +kernel)) ggX8_entry_X8_in
set_option maxRecDepth 20000 in
theorem ggX8_entry_X8_isCell : GoodIn wsX8_entry wsX8_isCell := goodIn_r _ [9, 10, 2, 3, 4, 5, 43, 44, 45, 46, 47, 48, 49, 50, 51, 52, 53, 54, 55, 56, 57, 58, 59, 60, 61, 62] (by decide +kernel) (by decide +kernel)
set_option maxRecDepth 20000 in
theorem gX8_entry_X8_isCell : GoodIn wsX8_entry (wsV RX8 113 RX8 yX8_isCell wsX8_isCell) := goodIn_app (goodIn_of _ (by decide +kernel)) ggX8_entry_X8_isCell
set_option maxRecDepth 20000 in
theorem ggX8_entry_X8_load : GoodIn wsX8_entry wsX8_load := goodIn_r _ [14, 1, 10, 15, 16, 17, 4, 18, 19, 20, 21, 22, 23, 24, 25, 26, 27, 28, 29, 30, 31, 32, 33, 34, 35, 36, 37, 38, 39, 40, 41, 42, 43, 44, 45, 46, 47, 48, 49, 50, 51, 52, 53, 54, 55, 56, 57, 58, 59, 60, 61, 62] (by decide +kernel) (by decide +kernel)
set_option maxRecDepth 20000 in
theorem gX8_entry_X8_load : GoodIn wsX8_entry (wsV RX8 116 RX8 yX8_load wsX8_load) := goodIn_app (goodIn_of _ (by decide +kernel)) ggX8_entry_X8_load
theorem dX8_entry_0 : decode cX8_entry 0 = .ok (.iload_n 1, 1) := by decide +kernel
theorem dX8_entry_1 : decode cX8_entry 1 = .ok (.iconst 0, 1) := by decide +kernel
theorem dX8_entry_2 : decode cX8_entry 2 = .ok (.bipush 9, 2) := by decide +kernel
theorem dX8_entry_4 : decode cX8_entry 4 = .ok (.invokestatic 49, 3) := by decide +kernel
theorem dX8_entry_7 : decode cX8_entry 7 = .ok (.ifCond .eq 12, 3) := by decide +kernel
theorem dX8_entry_10 : decode cX8_entry 10 = .ok (.aload_n 0, 1) := by decide +kernel
theorem dX8_entry_11 : decode cX8_entry 11 = .ok (.iload_n 2, 1) := by decide +kernel
theorem dX8_entry_12 : decode cX8_entry 12 = .ok (.iload_n 3, 1) := by decide +kernel
theorem dX8_entry_13 : decode cX8_entry 13 = .ok (.invokevirtual 113, 3) := by decide +kernel
theorem dX8_entry_16 : decode cX8_entry 16 = .ok (.ifCond .ne 5, 3) := by decide +kernel
theorem dX8_entry_19 : decode cX8_entry 19 = .ok (.iconst (-1), 1) := by decide +kernel
theorem dX8_entry_20 : decode cX8_entry 20 = .ok (.ireturn, 1) := by decide +kernel
theorem dX8_entry_21 : decode cX8_entry 21 = .ok (.aload_n 0, 1) := by decide +kernel
theorem dX8_entry_22 : decode cX8_entry 22 = .ok (.iload_n 1, 1) := by decide +kernel
theorem dX8_entry_23 : decode cX8_entry 23 = .ok (.iconst 0, 1) := by decide +kernel
theorem dX8_entry_24 : decode cX8_entry 24 = .ok (.invokevirtual 116, 3) := by decide +kernel
theorem dX8_entry_27 : decode cX8_entry 27 = .ok (.aload_n 0, 1) := by decide +kernel
theorem dX8_entry_28 : decode cX8_entry 28 = .ok (.getfield 27, 3) := by decide +kernel
theorem dX8_entry_31 : decode cX8_entry 31 = .ok (.iconst 0, 1) := by decide +kernel
theorem dX8_entry_32 : decode cX8_entry 32 = .ok (.iconst 3, 1) := by decide +kernel
theorem dX8_entry_33 : decode cX8_entry 33 = .ok (.iload_n 2, 1) := by decide +kernel
theorem dX8_entry_34 : decode cX8_entry 34 = .ok (.imul, 1) := by decide +kernel
theorem dX8_entry_35 : decode cX8_entry 35 = .ok (.iadd, 1) := by decide +kernel
theorem dX8_entry_36 : decode cX8_entry 36 = .ok (.iload_n 3, 1) := by decide +kernel
theorem dX8_entry_37 : decode cX8_entry 37 = .ok (.iadd, 1) := by decide +kernel
theorem dX8_entry_38 : decode cX8_entry 38 = .ok (.iaload, 1) := by decide +kernel
theorem dX8_entry_39 : decode cX8_entry 39 = .ok (.ireturn, 1) := by decide +kernel
set_option maxRecDepth 20000 in
theorem ggX8_isNew_X8_leadOf : GoodIn wsX8_isNew wsX8_leadOf := goodIn_r _ [9, 2, 18, 19, 20, 21, 22, 23, 24, 25, 26, 27, 28, 29, 30, 31, 32, 33, 34, 35, 36, 37] (by decide +kernel) (by decide +kernel)
set_option maxRecDepth 20000 in
theorem gX8_isNew_X8_leadOf : GoodIn wsX8_isNew (wsV RX8 134 RX8 yX8_leadOf wsX8_leadOf) := goodIn_app (goodIn_of _ (by decide +kernel)) ggX8_isNew_X8_leadOf
set_option maxRecDepth 20000 in
theorem ggX8_isNew_X8_over : GoodIn wsX8_isNew wsX8_over := goodIn_r _ [13, 4, 18, 19, 20, 21, 22, 23, 24, 25, 26, 27, 28, 29, 30, 31, 32, 33, 34, 35, 36, 37] (by decide +kernel) (by decide +kernel)
set_option maxRecDepth 20000 in
theorem gX8_isNew_X8_over : GoodIn wsX8_isNew (wsV RX8 75 RX8 yX8_over wsX8_over) := goodIn_app (goodIn_of _ (by decide +kernel)) ggX8_isNew_X8_over
set_option maxRecDepth 20000 in
theorem ggX8_isNew_X8_within : GoodIn wsX8_isNew wsX8_within := goodIn_r _ [17, 4, 18, 19, 20, 21, 22, 23, 24, 25, 26, 27, 28, 29, 30, 31, 32, 33, 34, 35, 36, 37] (by decide +kernel) (by decide +kernel)
set_option maxRecDepth 20000 in
theorem gX8_isNew_X8_within : GoodIn wsX8_isNew (wsV RX8 64 RX8 yX8_within wsX8_within) := goodIn_app (goodIn_of _ (by decide +kernel)) ggX8_isNew_X8_within
theorem dX8_isNew_0 : decode cX8_isNew 0 = .ok (.bipush 9, 2) := by decide +kernel
theorem dX8_isNew_2 : decode cX8_isNew 2 = .ok (.aload_n 0, 1) := by decide +kernel
theorem dX8_isNew_3 : decode cX8_isNew 3 = .ok (.getfield 131, 3) := by decide +kernel
theorem dX8_isNew_6 : decode cX8_isNew 6 = .ok (.imul, 1) := by decide +kernel
theorem dX8_isNew_7 : decode cX8_isNew 7 = .ok (.istore_n 2, 1) := by decide +kernel
theorem dX8_isNew_8 : decode cX8_isNew 8 = .ok (.iconst 0, 1) := by decide +kernel
theorem dX8_isNew_9 : decode cX8_isNew 9 = .ok (.istore_n 3, 1) := by decide +kernel
theorem dX8_isNew_10 : decode cX8_isNew 10 = .ok (.iload_n 3, 1) := by decide +kernel
theorem dX8_isNew_11 : decode cX8_isNew 11 = .ok (.bipush 9, 2) := by decide +kernel
theorem dX8_isNew_13 : decode cX8_isNew 13 = .ok (.if_icmp .ge 25, 3) := by decide +kernel
theorem dX8_isNew_16 : decode cX8_isNew 16 = .ok (.aload_n 0, 1) := by decide +kernel
theorem dX8_isNew_17 : decode cX8_isNew 17 = .ok (.getfield 30, 3) := by decide +kernel
theorem dX8_isNew_20 : decode cX8_isNew 20 = .ok (.iload_n 2, 1) := by decide +kernel
theorem dX8_isNew_21 : decode cX8_isNew 21 = .ok (.iload_n 3, 1) := by decide +kernel
theorem dX8_isNew_22 : decode cX8_isNew 22 = .ok (.iadd, 1) := by decide +kernel
theorem dX8_isNew_23 : decode cX8_isNew 23 = .ok (.aload_n 0, 1) := by decide +kernel
theorem dX8_isNew_24 : decode cX8_isNew 24 = .ok (.getfield 27, 3) := by decide +kernel
theorem dX8_isNew_27 : decode cX8_isNew 27 = .ok (.iload_n 1, 1) := by decide +kernel
theorem dX8_isNew_28 : decode cX8_isNew 28 = .ok (.iload_n 3, 1) := by decide +kernel
theorem dX8_isNew_29 : decode cX8_isNew 29 = .ok (.iadd, 1) := by decide +kernel
theorem dX8_isNew_30 : decode cX8_isNew 30 = .ok (.iaload, 1) := by decide +kernel
theorem dX8_isNew_31 : decode cX8_isNew 31 = .ok (.iastore, 1) := by decide +kernel
theorem dX8_isNew_32 : decode cX8_isNew 32 = .ok (.iinc 3 1, 3) := by decide +kernel
theorem dX8_isNew_35 : decode cX8_isNew 35 = .ok (.goto (-25), 3) := by decide +kernel
theorem dX8_isNew_38 : decode cX8_isNew 38 = .ok (.iconst 0, 1) := by decide +kernel
theorem dX8_isNew_39 : decode cX8_isNew 39 = .ok (.istore_n 3, 1) := by decide +kernel
theorem dX8_isNew_40 : decode cX8_isNew 40 = .ok (.iload_n 3, 1) := by decide +kernel
theorem dX8_isNew_41 : decode cX8_isNew 41 = .ok (.aload_n 0, 1) := by decide +kernel
theorem dX8_isNew_42 : decode cX8_isNew 42 = .ok (.getfield 131, 3) := by decide +kernel
theorem dX8_isNew_45 : decode cX8_isNew 45 = .ok (.if_icmp .ge 109, 3) := by decide +kernel
theorem dX8_isNew_48 : decode cX8_isNew 48 = .ok (.aload_n 0, 1) := by decide +kernel
theorem dX8_isNew_49 : decode cX8_isNew 49 = .ok (.bipush 9, 2) := by decide +kernel
theorem dX8_isNew_51 : decode cX8_isNew 51 = .ok (.iload_n 3, 1) := by decide +kernel
theorem dX8_isNew_52 : decode cX8_isNew 52 = .ok (.imul, 1) := by decide +kernel
theorem dX8_isNew_53 : decode cX8_isNew 53 = .ok (.invokevirtual 134, 3) := by decide +kernel
theorem dX8_isNew_56 : decode cX8_isNew 56 = .ok (.istore 4, 2) := by decide +kernel
theorem dX8_isNew_58 : decode cX8_isNew 58 = .ok (.aload_n 0, 1) := by decide +kernel
theorem dX8_isNew_59 : decode cX8_isNew 59 = .ok (.getfield 30, 3) := by decide +kernel
theorem dX8_isNew_62 : decode cX8_isNew 62 = .ok (.iload_n 2, 1) := by decide +kernel
theorem dX8_isNew_63 : decode cX8_isNew 63 = .ok (.iload 4, 2) := by decide +kernel
theorem dX8_isNew_65 : decode cX8_isNew 65 = .ok (.iadd, 1) := by decide +kernel
theorem dX8_isNew_66 : decode cX8_isNew 66 = .ok (.iaload, 1) := by decide +kernel
theorem dX8_isNew_67 : decode cX8_isNew 67 = .ok (.aload_n 0, 1) := by decide +kernel
theorem dX8_isNew_68 : decode cX8_isNew 68 = .ok (.aload_n 0, 1) := by decide +kernel
theorem dX8_isNew_69 : decode cX8_isNew 69 = .ok (.getfield 30, 3) := by decide +kernel
theorem dX8_isNew_72 : decode cX8_isNew 72 = .ok (.bipush 9, 2) := by decide +kernel
theorem dX8_isNew_74 : decode cX8_isNew 74 = .ok (.iload_n 3, 1) := by decide +kernel
theorem dX8_isNew_75 : decode cX8_isNew 75 = .ok (.imul, 1) := by decide +kernel
theorem dX8_isNew_76 : decode cX8_isNew 76 = .ok (.iload 4, 2) := by decide +kernel
theorem dX8_isNew_78 : decode cX8_isNew 78 = .ok (.iadd, 1) := by decide +kernel
theorem dX8_isNew_79 : decode cX8_isNew 79 = .ok (.iaload, 1) := by decide +kernel
theorem dX8_isNew_80 : decode cX8_isNew 80 = .ok (.invokevirtual 75, 3) := by decide +kernel
theorem dX8_isNew_83 : decode cX8_isNew 83 = .ok (.imul, 1) := by decide +kernel
theorem dX8_isNew_84 : decode cX8_isNew 84 = .ok (.aload_n 0, 1) := by decide +kernel
theorem dX8_isNew_85 : decode cX8_isNew 85 = .ok (.getfield 7, 3) := by decide +kernel
theorem dX8_isNew_88 : decode cX8_isNew 88 = .ok (.bipush 82, 2) := by decide +kernel
theorem dX8_isNew_90 : decode cX8_isNew 90 = .ok (.iaload, 1) := by decide +kernel
theorem dX8_isNew_91 : decode cX8_isNew 91 = .ok (.irem, 1) := by decide +kernel
theorem dX8_isNew_92 : decode cX8_isNew 92 = .ok (.istore 5, 2) := by decide +kernel
theorem dX8_isNew_94 : decode cX8_isNew 94 = .ok (.iconst 0, 1) := by decide +kernel
theorem dX8_isNew_95 : decode cX8_isNew 95 = .ok (.istore 6, 2) := by decide +kernel
theorem dX8_isNew_97 : decode cX8_isNew 97 = .ok (.iload 6, 2) := by decide +kernel
theorem dX8_isNew_99 : decode cX8_isNew 99 = .ok (.bipush 9, 2) := by decide +kernel
theorem dX8_isNew_101 : decode cX8_isNew 101 = .ok (.if_icmp .ge 47, 3) := by decide +kernel
theorem dX8_isNew_104 : decode cX8_isNew 104 = .ok (.aload_n 0, 1) := by decide +kernel
theorem dX8_isNew_105 : decode cX8_isNew 105 = .ok (.getfield 30, 3) := by decide +kernel
theorem dX8_isNew_108 : decode cX8_isNew 108 = .ok (.iload_n 2, 1) := by decide +kernel
theorem dX8_isNew_109 : decode cX8_isNew 109 = .ok (.iload 6, 2) := by decide +kernel
theorem dX8_isNew_111 : decode cX8_isNew 111 = .ok (.iadd, 1) := by decide +kernel
theorem dX8_isNew_112 : decode cX8_isNew 112 = .ok (.aload_n 0, 1) := by decide +kernel
theorem dX8_isNew_113 : decode cX8_isNew 113 = .ok (.aload_n 0, 1) := by decide +kernel
theorem dX8_isNew_114 : decode cX8_isNew 114 = .ok (.getfield 30, 3) := by decide +kernel
theorem dX8_isNew_117 : decode cX8_isNew 117 = .ok (.iload_n 2, 1) := by decide +kernel
theorem dX8_isNew_118 : decode cX8_isNew 118 = .ok (.iload 6, 2) := by decide +kernel
theorem dX8_isNew_120 : decode cX8_isNew 120 = .ok (.iadd, 1) := by decide +kernel
theorem dX8_isNew_121 : decode cX8_isNew 121 = .ok (.iaload, 1) := by decide +kernel
theorem dX8_isNew_122 : decode cX8_isNew 122 = .ok (.iload 5, 2) := by decide +kernel
theorem dX8_isNew_124 : decode cX8_isNew 124 = .ok (.aload_n 0, 1) := by decide +kernel
theorem dX8_isNew_125 : decode cX8_isNew 125 = .ok (.getfield 30, 3) := by decide +kernel
theorem dX8_isNew_128 : decode cX8_isNew 128 = .ok (.bipush 9, 2) := by decide +kernel
theorem dX8_isNew_130 : decode cX8_isNew 130 = .ok (.iload_n 3, 1) := by decide +kernel
theorem dX8_isNew_131 : decode cX8_isNew 131 = .ok (.imul, 1) := by decide +kernel
theorem dX8_isNew_132 : decode cX8_isNew 132 = .ok (.iload 6, 2) := by decide +kernel
theorem dX8_isNew_134 : decode cX8_isNew 134 = .ok (.iadd, 1) := by decide +kernel
theorem dX8_isNew_135 : decode cX8_isNew 135 = .ok (.iaload, 1) := by decide +kernel
theorem dX8_isNew_136 : decode cX8_isNew 136 = .ok (.imul, 1) := by decide +kernel
theorem dX8_isNew_137 : decode cX8_isNew 137 = .ok (.isub, 1) := by decide +kernel
theorem dX8_isNew_138 : decode cX8_isNew 138 = .ok (.invokevirtual 64, 3) := by decide +kernel
theorem dX8_isNew_141 : decode cX8_isNew 141 = .ok (.iastore, 1) := by decide +kernel
theorem dX8_isNew_142 : decode cX8_isNew 142 = .ok (.iinc 6 1, 3) := by decide +kernel
theorem dX8_isNew_145 : decode cX8_isNew 145 = .ok (.goto (-48), 3) := by decide +kernel
theorem dX8_isNew_148 : decode cX8_isNew 148 = .ok (.iinc 3 1, 3) := by decide +kernel
theorem dX8_isNew_151 : decode cX8_isNew 151 = .ok (.goto (-111), 3) := by decide +kernel
theorem dX8_isNew_154 : decode cX8_isNew 154 = .ok (.aload_n 0, 1) := by decide +kernel
theorem dX8_isNew_155 : decode cX8_isNew 155 = .ok (.iload_n 2, 1) := by decide +kernel
theorem dX8_isNew_156 : decode cX8_isNew 156 = .ok (.invokevirtual 134, 3) := by decide +kernel
theorem dX8_isNew_159 : decode cX8_isNew 159 = .ok (.bipush 9, 2) := by decide +kernel
theorem dX8_isNew_161 : decode cX8_isNew 161 = .ok (.if_icmp .ge 7, 3) := by decide +kernel
theorem dX8_isNew_164 : decode cX8_isNew 164 = .ok (.iconst 1, 1) := by decide +kernel
theorem dX8_isNew_165 : decode cX8_isNew 165 = .ok (.goto 4, 3) := by decide +kernel
theorem dX8_isNew_168 : decode cX8_isNew 168 = .ok (.iconst 0, 1) := by decide +kernel
theorem dX8_isNew_169 : decode cX8_isNew 169 = .ok (.istore_n 3, 1) := by decide +kernel
theorem dX8_isNew_170 : decode cX8_isNew 170 = .ok (.aload_n 0, 1) := by decide +kernel
theorem dX8_isNew_171 : decode cX8_isNew 171 = .ok (.dup, 1) := by decide +kernel
theorem dX8_isNew_172 : decode cX8_isNew 172 = .ok (.getfield 131, 3) := by decide +kernel
theorem dX8_isNew_175 : decode cX8_isNew 175 = .ok (.iload_n 3, 1) := by decide +kernel
theorem dX8_isNew_176 : decode cX8_isNew 176 = .ok (.ifCond .eq 7, 3) := by decide +kernel
theorem dX8_isNew_179 : decode cX8_isNew 179 = .ok (.iconst 1, 1) := by decide +kernel
theorem dX8_isNew_180 : decode cX8_isNew 180 = .ok (.goto 4, 3) := by decide +kernel
theorem dX8_isNew_183 : decode cX8_isNew 183 = .ok (.iconst 0, 1) := by decide +kernel
theorem dX8_isNew_184 : decode cX8_isNew 184 = .ok (.iadd, 1) := by decide +kernel
theorem dX8_isNew_185 : decode cX8_isNew 185 = .ok (.putfield 131, 3) := by decide +kernel
theorem dX8_isNew_188 : decode cX8_isNew 188 = .ok (.iload_n 3, 1) := by decide +kernel
theorem dX8_isNew_189 : decode cX8_isNew 189 = .ok (.ireturn, 1) := by decide +kernel
theorem dX8_leadOf_0 : decode cX8_leadOf 0 = .ok (.iconst 0, 1) := by decide +kernel
theorem dX8_leadOf_1 : decode cX8_leadOf 1 = .ok (.istore_n 2, 1) := by decide +kernel
theorem dX8_leadOf_2 : decode cX8_leadOf 2 = .ok (.iload_n 2, 1) := by decide +kernel
theorem dX8_leadOf_3 : decode cX8_leadOf 3 = .ok (.bipush 9, 2) := by decide +kernel
theorem dX8_leadOf_5 : decode cX8_leadOf 5 = .ok (.if_icmp .ge 20, 3) := by decide +kernel
theorem dX8_leadOf_8 : decode cX8_leadOf 8 = .ok (.aload_n 0, 1) := by decide +kernel
theorem dX8_leadOf_9 : decode cX8_leadOf 9 = .ok (.getfield 30, 3) := by decide +kernel
theorem dX8_leadOf_12 : decode cX8_leadOf 12 = .ok (.iload_n 1, 1) := by decide +kernel
theorem dX8_leadOf_13 : decode cX8_leadOf 13 = .ok (.iload_n 2, 1) := by decide +kernel
theorem dX8_leadOf_14 : decode cX8_leadOf 14 = .ok (.iadd, 1) := by decide +kernel
theorem dX8_leadOf_15 : decode cX8_leadOf 15 = .ok (.iaload, 1) := by decide +kernel
theorem dX8_leadOf_16 : decode cX8_leadOf 16 = .ok (.ifCond .ne 9, 3) := by decide +kernel
theorem dX8_leadOf_19 : decode cX8_leadOf 19 = .ok (.iinc 2 1, 3) := by decide +kernel
theorem dX8_leadOf_22 : decode cX8_leadOf 22 = .ok (.goto (-20), 3) := by decide +kernel
theorem dX8_leadOf_25 : decode cX8_leadOf 25 = .ok (.iload_n 2, 1) := by decide +kernel
theorem dX8_leadOf_26 : decode cX8_leadOf 26 = .ok (.ireturn, 1) := by decide +kernel
set_option maxRecDepth 20000 in
theorem ggX8_rankOf_X8_blank : GoodIn wsX8_rankOf wsX8_blank := goodIn_r _ [8, 3, 26, 27, 28, 29, 30, 31, 32, 33, 34, 35, 36, 37, 38, 39, 40, 41, 42, 43, 44, 45] (by decide +kernel) (by decide +kernel)
set_option maxRecDepth 20000 in
theorem gX8_rankOf_X8_blank : GoodIn wsX8_rankOf (wsV RX8 60 RX8 yX8_blank wsX8_blank) := goodIn_app (goodIn_of _ (by decide +kernel)) ggX8_rankOf_X8_blank
set_option maxRecDepth 20000 in
theorem ggX8_rankOf_X8_isNew : GoodIn wsX8_rankOf wsX8_isNew := goodIn_r _ [12, 1, 13, 3, 2, 14, 15, 16, 7, 17, 18, 19, 20, 21, 22, 23, 24, 25, 26, 27, 28, 29, 30, 31, 32, 33, 34, 35, 36, 37, 38, 39, 40, 41, 42, 43, 44, 45] (by decide +kernel) (by decide +kernel)
set_option maxRecDepth 20000 in
theorem gX8_rankOf_X8_isNew : GoodIn wsX8_rankOf (wsV RX8 137 RX8 yX8_isNew wsX8_isNew) := goodIn_app (goodIn_of _ (by decide +kernel)) ggX8_rankOf_X8_isNew
theorem dX8_rankOf_0 : decode cX8_rankOf 0 = .ok (.aload_n 0, 1) := by decide +kernel
theorem dX8_rankOf_1 : decode cX8_rankOf 1 = .ok (.iconst 0, 1) := by decide +kernel
theorem dX8_rankOf_2 : decode cX8_rankOf 2 = .ok (.putfield 131, 3) := by decide +kernel
theorem dX8_rankOf_5 : decode cX8_rankOf 5 = .ok (.iconst 0, 1) := by decide +kernel
theorem dX8_rankOf_6 : decode cX8_rankOf 6 = .ok (.istore_n 2, 1) := by decide +kernel
theorem dX8_rankOf_7 : decode cX8_rankOf 7 = .ok (.iconst 0, 1) := by decide +kernel
theorem dX8_rankOf_8 : decode cX8_rankOf 8 = .ok (.istore_n 3, 1) := by decide +kernel
theorem dX8_rankOf_9 : decode cX8_rankOf 9 = .ok (.iload_n 3, 1) := by decide +kernel
theorem dX8_rankOf_10 : decode cX8_rankOf 10 = .ok (.aload_n 0, 1) := by decide +kernel
theorem dX8_rankOf_11 : decode cX8_rankOf 11 = .ok (.getfield 7, 3) := by decide +kernel
theorem dX8_rankOf_14 : decode cX8_rankOf 14 = .ok (.bipush 81, 2) := by decide +kernel
theorem dX8_rankOf_16 : decode cX8_rankOf 16 = .ok (.iaload, 1) := by decide +kernel
theorem dX8_rankOf_17 : decode cX8_rankOf 17 = .ok (.if_icmp .ge 76, 3) := by decide +kernel
theorem dX8_rankOf_20 : decode cX8_rankOf 20 = .ok (.aload_n 0, 1) := by decide +kernel
theorem dX8_rankOf_21 : decode cX8_rankOf 21 = .ok (.bipush 108, 2) := by decide +kernel
theorem dX8_rankOf_23 : decode cX8_rankOf 23 = .ok (.invokevirtual 60, 3) := by decide +kernel
theorem dX8_rankOf_26 : decode cX8_rankOf 26 = .ok (.iconst 0, 1) := by decide +kernel
theorem dX8_rankOf_27 : decode cX8_rankOf 27 = .ok (.istore 4, 2) := by decide +kernel
theorem dX8_rankOf_29 : decode cX8_rankOf 29 = .ok (.iload 4, 2) := by decide +kernel
theorem dX8_rankOf_31 : decode cX8_rankOf 31 = .ok (.aload_n 0, 1) := by decide +kernel
theorem dX8_rankOf_32 : decode cX8_rankOf 32 = .ok (.getfield 7, 3) := by decide +kernel
theorem dX8_rankOf_35 : decode cX8_rankOf 35 = .ok (.bipush 81, 2) := by decide +kernel
theorem dX8_rankOf_37 : decode cX8_rankOf 37 = .ok (.iaload, 1) := by decide +kernel
theorem dX8_rankOf_38 : decode cX8_rankOf 38 = .ok (.if_icmp .ge 32, 3) := by decide +kernel
theorem dX8_rankOf_41 : decode cX8_rankOf 41 = .ok (.aload_n 0, 1) := by decide +kernel
theorem dX8_rankOf_42 : decode cX8_rankOf 42 = .ok (.getfield 27, 3) := by decide +kernel
theorem dX8_rankOf_45 : decode cX8_rankOf 45 = .ok (.bipush 108, 2) := by decide +kernel
theorem dX8_rankOf_47 : decode cX8_rankOf 47 = .ok (.iload 4, 2) := by decide +kernel
theorem dX8_rankOf_49 : decode cX8_rankOf 49 = .ok (.iadd, 1) := by decide +kernel
theorem dX8_rankOf_50 : decode cX8_rankOf 50 = .ok (.aload_n 0, 1) := by decide +kernel
theorem dX8_rankOf_51 : decode cX8_rankOf 51 = .ok (.getfield 27, 3) := by decide +kernel
theorem dX8_rankOf_54 : decode cX8_rankOf 54 = .ok (.iload_n 1, 1) := by decide +kernel
theorem dX8_rankOf_55 : decode cX8_rankOf 55 = .ok (.iconst 3, 1) := by decide +kernel
theorem dX8_rankOf_56 : decode cX8_rankOf 56 = .ok (.iload_n 3, 1) := by decide +kernel
theorem dX8_rankOf_57 : decode cX8_rankOf 57 = .ok (.imul, 1) := by decide +kernel
theorem dX8_rankOf_58 : decode cX8_rankOf 58 = .ok (.iadd, 1) := by decide +kernel
theorem dX8_rankOf_59 : decode cX8_rankOf 59 = .ok (.iload 4, 2) := by decide +kernel
theorem dX8_rankOf_61 : decode cX8_rankOf 61 = .ok (.iadd, 1) := by decide +kernel
theorem dX8_rankOf_62 : decode cX8_rankOf 62 = .ok (.iaload, 1) := by decide +kernel
theorem dX8_rankOf_63 : decode cX8_rankOf 63 = .ok (.iastore, 1) := by decide +kernel
theorem dX8_rankOf_64 : decode cX8_rankOf 64 = .ok (.iinc 4 1, 3) := by decide +kernel
theorem dX8_rankOf_67 : decode cX8_rankOf 67 = .ok (.goto (-38), 3) := by decide +kernel
theorem dX8_rankOf_70 : decode cX8_rankOf 70 = .ok (.iload_n 2, 1) := by decide +kernel
theorem dX8_rankOf_71 : decode cX8_rankOf 71 = .ok (.aload_n 0, 1) := by decide +kernel
theorem dX8_rankOf_72 : decode cX8_rankOf 72 = .ok (.bipush 108, 2) := by decide +kernel
theorem dX8_rankOf_74 : decode cX8_rankOf 74 = .ok (.invokevirtual 137, 3) := by decide +kernel
theorem dX8_rankOf_77 : decode cX8_rankOf 77 = .ok (.ifCond .eq 7, 3) := by decide +kernel
theorem dX8_rankOf_80 : decode cX8_rankOf 80 = .ok (.iconst 1, 1) := by decide +kernel
theorem dX8_rankOf_81 : decode cX8_rankOf 81 = .ok (.goto 4, 3) := by decide +kernel
theorem dX8_rankOf_84 : decode cX8_rankOf 84 = .ok (.iconst 0, 1) := by decide +kernel
theorem dX8_rankOf_85 : decode cX8_rankOf 85 = .ok (.iadd, 1) := by decide +kernel
theorem dX8_rankOf_86 : decode cX8_rankOf 86 = .ok (.istore_n 2, 1) := by decide +kernel
theorem dX8_rankOf_87 : decode cX8_rankOf 87 = .ok (.iinc 3 1, 3) := by decide +kernel
theorem dX8_rankOf_90 : decode cX8_rankOf 90 = .ok (.goto (-81), 3) := by decide +kernel
theorem dX8_rankOf_93 : decode cX8_rankOf 93 = .ok (.iload_n 2, 1) := by decide +kernel
theorem dX8_rankOf_94 : decode cX8_rankOf 94 = .ok (.ireturn, 1) := by decide +kernel
set_option maxRecDepth 20000 in
theorem ggX8_orderOf_X8_copy : GoodIn wsX8_orderOf wsX8_copy := goodIn_r _ [5, 6, 36, 37, 38, 39, 40, 41, 42, 43, 44, 45, 46, 47, 48, 49, 50, 51, 52, 53, 54, 55] (by decide +kernel) (by decide +kernel)
set_option maxRecDepth 20000 in
theorem gX8_orderOf_X8_copy : GoodIn wsX8_orderOf (wsV RX8 96 RX8 yX8_copy wsX8_copy) := goodIn_app (goodIn_of _ (by decide +kernel)) ggX8_orderOf_X8_copy
set_option maxRecDepth 20000 in
theorem ggX8_orderOf_X8_areAlike : GoodIn wsX8_orderOf wsX8_areAlike := goodIn_r _ [10, 6, 36, 37, 38, 39, 40, 41, 42, 43, 44, 45, 46, 47, 48, 49, 50, 51, 52, 53, 54, 55] (by decide +kernel) (by decide +kernel)
set_option maxRecDepth 20000 in
theorem gX8_orderOf_X8_areAlike : GoodIn wsX8_orderOf (wsV RX8 102 RX8 yX8_areAlike wsX8_areAlike) := goodIn_app (goodIn_of _ (by decide +kernel)) ggX8_orderOf_X8_areAlike
set_option maxRecDepth 20000 in
theorem ggX8_orderOf_X8_product : GoodIn wsX8_orderOf wsX8_product := goodIn_r _ [14, 15, 16, 17, 4, 18, 19, 6, 20, 21, 22, 23, 24, 25, 26, 27, 28, 29, 30, 31, 32, 33, 34, 35, 36, 37, 38, 39, 40, 41, 42, 43, 44, 45, 46, 47, 48, 49, 50, 51, 52, 53, 54, 55] (by decide +kernel) (by decide +kernel)
set_option maxRecDepth 20000 in
theorem gX8_orderOf_X8_product : GoodIn wsX8_orderOf (wsV RX8 99 RX8 yX8_product wsX8_product) := goodIn_app (goodIn_of _ (by decide +kernel)) ggX8_orderOf_X8_product
theorem dX8_orderOf_0 : decode cX8_orderOf 0 = .ok (.aload_n 0, 1) := by decide +kernel
theorem dX8_orderOf_1 : decode cX8_orderOf 1 = .ok (.iload_n 1, 1) := by decide +kernel
theorem dX8_orderOf_2 : decode cX8_orderOf 2 = .ok (.bipush 108, 2) := by decide +kernel
theorem dX8_orderOf_4 : decode cX8_orderOf 4 = .ok (.invokevirtual 96, 3) := by decide +kernel
theorem dX8_orderOf_7 : decode cX8_orderOf 7 = .ok (.iconst 1, 1) := by decide +kernel
theorem dX8_orderOf_8 : decode cX8_orderOf 8 = .ok (.istore_n 2, 1) := by decide +kernel
theorem dX8_orderOf_9 : decode cX8_orderOf 9 = .ok (.iload_n 2, 1) := by decide +kernel
theorem dX8_orderOf_10 : decode cX8_orderOf 10 = .ok (.sipush 2000, 3) := by decide +kernel
theorem dX8_orderOf_13 : decode cX8_orderOf 13 = .ok (.if_icmp .gt 31, 3) := by decide +kernel
theorem dX8_orderOf_16 : decode cX8_orderOf 16 = .ok (.aload_n 0, 1) := by decide +kernel
theorem dX8_orderOf_17 : decode cX8_orderOf 17 = .ok (.bipush 108, 2) := by decide +kernel
theorem dX8_orderOf_19 : decode cX8_orderOf 19 = .ok (.bipush 36, 2) := by decide +kernel
theorem dX8_orderOf_21 : decode cX8_orderOf 21 = .ok (.invokevirtual 102, 3) := by decide +kernel
theorem dX8_orderOf_24 : decode cX8_orderOf 24 = .ok (.ifCond .eq 5, 3) := by decide +kernel
theorem dX8_orderOf_27 : decode cX8_orderOf 27 = .ok (.iload_n 2, 1) := by decide +kernel
theorem dX8_orderOf_28 : decode cX8_orderOf 28 = .ok (.ireturn, 1) := by decide +kernel
theorem dX8_orderOf_29 : decode cX8_orderOf 29 = .ok (.aload_n 0, 1) := by decide +kernel
theorem dX8_orderOf_30 : decode cX8_orderOf 30 = .ok (.bipush 108, 2) := by decide +kernel
theorem dX8_orderOf_32 : decode cX8_orderOf 32 = .ok (.iload_n 1, 1) := by decide +kernel
theorem dX8_orderOf_33 : decode cX8_orderOf 33 = .ok (.bipush 108, 2) := by decide +kernel
theorem dX8_orderOf_35 : decode cX8_orderOf 35 = .ok (.invokevirtual 99, 3) := by decide +kernel
theorem dX8_orderOf_38 : decode cX8_orderOf 38 = .ok (.iinc 2 1, 3) := by decide +kernel
theorem dX8_orderOf_41 : decode cX8_orderOf 41 = .ok (.goto (-32), 3) := by decide +kernel
theorem dX8_orderOf_44 : decode cX8_orderOf 44 = .ok (.bipush (-6), 2) := by decide +kernel
theorem dX8_orderOf_46 : decode cX8_orderOf 46 = .ok (.ireturn, 1) := by decide +kernel
set_option maxRecDepth 20000 in
theorem ggX8_degreeOf_X8_copy : GoodIn wsX8_degreeOf wsX8_copy := goodIn_r _ [6, 7, 46, 47, 48, 49, 50, 51, 52, 53, 54, 55, 56, 57, 58, 59, 60, 61, 62, 63, 64, 65] (by decide +kernel) (by decide +kernel)
set_option maxRecDepth 20000 in
theorem gX8_degreeOf_X8_copy : GoodIn wsX8_degreeOf (wsV RX8 96 RX8 yX8_copy wsX8_copy) := goodIn_app (goodIn_of _ (by decide +kernel)) ggX8_degreeOf_X8_copy
set_option maxRecDepth 20000 in
theorem ggX8_degreeOf_X8_isNew : GoodIn wsX8_degreeOf wsX8_isNew := goodIn_r _ [11, 1, 12, 7, 13, 14, 15, 16, 5, 17, 18, 19, 20, 21, 22, 23, 24, 25, 46, 47, 48, 49, 50, 51, 52, 53, 54, 55, 56, 57, 58, 59, 60, 61, 62, 63, 64, 65] (by decide +kernel) (by decide +kernel)
set_option maxRecDepth 20000 in
theorem gX8_degreeOf_X8_isNew : GoodIn wsX8_degreeOf (wsV RX8 137 RX8 yX8_isNew wsX8_isNew) := goodIn_app (goodIn_of _ (by decide +kernel)) ggX8_degreeOf_X8_isNew
set_option maxRecDepth 20000 in
theorem ggX8_degreeOf_X8_product : GoodIn wsX8_degreeOf wsX8_product := goodIn_r _ [29, 30, 31, 32, 5, 33, 13, 7, 34, 35, 36, 37, 38, 39, 40, 41, 42, 43, 44, 45, 22, 23, 24, 25, 46, 47, 48, 49, 50, 51, 52, 53, 54, 55, 56, 57, 58, 59, 60, 61, 62, 63, 64, 65] (by decide +kernel) (by decide +kernel)
set_option maxRecDepth 20000 in
theorem gX8_degreeOf_X8_product : GoodIn wsX8_degreeOf (wsV RX8 99 RX8 yX8_product wsX8_product) := goodIn_app (goodIn_of _ (by decide +kernel)) ggX8_degreeOf_X8_product
theorem dX8_degreeOf_0 : decode cX8_degreeOf 0 = .ok (.aload_n 0, 1) := by decide +kernel
theorem dX8_degreeOf_1 : decode cX8_degreeOf 1 = .ok (.iconst 0, 1) := by decide +kernel
theorem dX8_degreeOf_2 : decode cX8_degreeOf 2 = .ok (.putfield 131, 3) := by decide +kernel
theorem dX8_degreeOf_5 : decode cX8_degreeOf 5 = .ok (.aload_n 0, 1) := by decide +kernel
theorem dX8_degreeOf_6 : decode cX8_degreeOf 6 = .ok (.bipush 36, 2) := by decide +kernel
theorem dX8_degreeOf_8 : decode cX8_degreeOf 8 = .ok (.bipush 108, 2) := by decide +kernel
theorem dX8_degreeOf_10 : decode cX8_degreeOf 10 = .ok (.invokevirtual 96, 3) := by decide +kernel
theorem dX8_degreeOf_13 : decode cX8_degreeOf 13 = .ok (.iconst 0, 1) := by decide +kernel
theorem dX8_degreeOf_14 : decode cX8_degreeOf 14 = .ok (.istore_n 2, 1) := by decide +kernel
theorem dX8_degreeOf_15 : decode cX8_degreeOf 15 = .ok (.aload_n 0, 1) := by decide +kernel
theorem dX8_degreeOf_16 : decode cX8_degreeOf 16 = .ok (.bipush 108, 2) := by decide +kernel
theorem dX8_degreeOf_18 : decode cX8_degreeOf 18 = .ok (.invokevirtual 137, 3) := by decide +kernel
theorem dX8_degreeOf_21 : decode cX8_degreeOf 21 = .ok (.ifCond .eq 18, 3) := by decide +kernel
theorem dX8_degreeOf_24 : decode cX8_degreeOf 24 = .ok (.aload_n 0, 1) := by decide +kernel
theorem dX8_degreeOf_25 : decode cX8_degreeOf 25 = .ok (.bipush 108, 2) := by decide +kernel
theorem dX8_degreeOf_27 : decode cX8_degreeOf 27 = .ok (.iload_n 1, 1) := by decide +kernel
theorem dX8_degreeOf_28 : decode cX8_degreeOf 28 = .ok (.bipush 108, 2) := by decide +kernel
theorem dX8_degreeOf_30 : decode cX8_degreeOf 30 = .ok (.invokevirtual 99, 3) := by decide +kernel
theorem dX8_degreeOf_33 : decode cX8_degreeOf 33 = .ok (.iinc 2 1, 3) := by decide +kernel
theorem dX8_degreeOf_36 : decode cX8_degreeOf 36 = .ok (.goto (-21), 3) := by decide +kernel
theorem dX8_degreeOf_39 : decode cX8_degreeOf 39 = .ok (.iload_n 2, 1) := by decide +kernel
theorem dX8_degreeOf_40 : decode cX8_degreeOf 40 = .ok (.ireturn, 1) := by decide +kernel
set_option maxRecDepth 20000 in
theorem ggX8_endOf_X8_copy : GoodIn wsX8_endOf wsX8_copy := goodIn_r _ [5, 6, 36, 37, 38, 39, 40, 41, 42, 43, 44, 45, 46, 47, 48, 49, 50, 51, 52, 53, 54, 55] (by decide +kernel) (by decide +kernel)
set_option maxRecDepth 20000 in
theorem gX8_endOf_X8_copy : GoodIn wsX8_endOf (wsV RX8 96 RX8 yX8_copy wsX8_copy) := goodIn_app (goodIn_of _ (by decide +kernel)) ggX8_endOf_X8_copy
set_option maxRecDepth 20000 in
theorem ggX8_endOf_X8_isNothing : GoodIn wsX8_endOf wsX8_isNothing := goodIn_r _ [10, 6, 36, 37, 38, 39, 40, 41, 42, 43, 44, 45, 46, 47, 48, 49, 50, 51, 52, 53, 54, 55] (by decide +kernel) (by decide +kernel)
set_option maxRecDepth 20000 in
theorem gX8_endOf_X8_isNothing : GoodIn wsX8_endOf (wsV RX8 128 RX8 yX8_isNothing wsX8_isNothing) := goodIn_app (goodIn_of _ (by decide +kernel)) ggX8_endOf_X8_isNothing
set_option maxRecDepth 20000 in
theorem ggX8_endOf_X8_product : GoodIn wsX8_endOf wsX8_product := goodIn_r _ [14, 15, 16, 17, 4, 18, 19, 6, 20, 21, 22, 23, 24, 25, 26, 27, 28, 29, 30, 31, 32, 33, 34, 35, 36, 37, 38, 39, 40, 41, 42, 43, 44, 45, 46, 47, 48, 49, 50, 51, 52, 53, 54, 55] (by decide +kernel) (by decide +kernel)
set_option maxRecDepth 20000 in
theorem gX8_endOf_X8_product : GoodIn wsX8_endOf (wsV RX8 99 RX8 yX8_product wsX8_product) := goodIn_app (goodIn_of _ (by decide +kernel)) ggX8_endOf_X8_product
theorem dX8_endOf_0 : decode cX8_endOf 0 = .ok (.aload_n 0, 1) := by decide +kernel
theorem dX8_endOf_1 : decode cX8_endOf 1 = .ok (.iload_n 1, 1) := by decide +kernel
theorem dX8_endOf_2 : decode cX8_endOf 2 = .ok (.bipush 108, 2) := by decide +kernel
theorem dX8_endOf_4 : decode cX8_endOf 4 = .ok (.invokevirtual 96, 3) := by decide +kernel
theorem dX8_endOf_7 : decode cX8_endOf 7 = .ok (.iconst 1, 1) := by decide +kernel
theorem dX8_endOf_8 : decode cX8_endOf 8 = .ok (.istore_n 2, 1) := by decide +kernel
theorem dX8_endOf_9 : decode cX8_endOf 9 = .ok (.iload_n 2, 1) := by decide +kernel
theorem dX8_endOf_10 : decode cX8_endOf 10 = .ok (.bipush 10, 2) := by decide +kernel
theorem dX8_endOf_12 : decode cX8_endOf 12 = .ok (.if_icmp .gt 29, 3) := by decide +kernel
theorem dX8_endOf_15 : decode cX8_endOf 15 = .ok (.aload_n 0, 1) := by decide +kernel
theorem dX8_endOf_16 : decode cX8_endOf 16 = .ok (.bipush 108, 2) := by decide +kernel
theorem dX8_endOf_18 : decode cX8_endOf 18 = .ok (.invokevirtual 128, 3) := by decide +kernel
theorem dX8_endOf_21 : decode cX8_endOf 21 = .ok (.ifCond .eq 5, 3) := by decide +kernel
theorem dX8_endOf_24 : decode cX8_endOf 24 = .ok (.iload_n 2, 1) := by decide +kernel
theorem dX8_endOf_25 : decode cX8_endOf 25 = .ok (.ireturn, 1) := by decide +kernel
theorem dX8_endOf_26 : decode cX8_endOf 26 = .ok (.aload_n 0, 1) := by decide +kernel
theorem dX8_endOf_27 : decode cX8_endOf 27 = .ok (.bipush 108, 2) := by decide +kernel
theorem dX8_endOf_29 : decode cX8_endOf 29 = .ok (.iload_n 1, 1) := by decide +kernel
theorem dX8_endOf_30 : decode cX8_endOf 30 = .ok (.bipush 108, 2) := by decide +kernel
theorem dX8_endOf_32 : decode cX8_endOf 32 = .ok (.invokevirtual 99, 3) := by decide +kernel
theorem dX8_endOf_35 : decode cX8_endOf 35 = .ok (.iinc 2 1, 3) := by decide +kernel
theorem dX8_endOf_38 : decode cX8_endOf 38 = .ok (.goto (-29), 3) := by decide +kernel
theorem dX8_endOf_41 : decode cX8_endOf 41 = .ok (.bipush (-6), 2) := by decide +kernel
theorem dX8_endOf_43 : decode cX8_endOf 43 = .ok (.ireturn, 1) := by decide +kernel
theorem dX8_trace_0 : decode cX8_trace 0 = .ok (.aload_n 0, 1) := by decide +kernel
theorem dX8_trace_1 : decode cX8_trace 1 = .ok (.getfield 27, 3) := by decide +kernel
theorem dX8_trace_4 : decode cX8_trace 4 = .ok (.iload_n 1, 1) := by decide +kernel
theorem dX8_trace_5 : decode cX8_trace 5 = .ok (.iaload, 1) := by decide +kernel
theorem dX8_trace_6 : decode cX8_trace 6 = .ok (.aload_n 0, 1) := by decide +kernel
theorem dX8_trace_7 : decode cX8_trace 7 = .ok (.getfield 27, 3) := by decide +kernel
theorem dX8_trace_10 : decode cX8_trace 10 = .ok (.iload_n 1, 1) := by decide +kernel
theorem dX8_trace_11 : decode cX8_trace 11 = .ok (.iconst 4, 1) := by decide +kernel
theorem dX8_trace_12 : decode cX8_trace 12 = .ok (.iadd, 1) := by decide +kernel
theorem dX8_trace_13 : decode cX8_trace 13 = .ok (.iaload, 1) := by decide +kernel
theorem dX8_trace_14 : decode cX8_trace 14 = .ok (.iadd, 1) := by decide +kernel
theorem dX8_trace_15 : decode cX8_trace 15 = .ok (.aload_n 0, 1) := by decide +kernel
theorem dX8_trace_16 : decode cX8_trace 16 = .ok (.getfield 27, 3) := by decide +kernel
theorem dX8_trace_19 : decode cX8_trace 19 = .ok (.iload_n 1, 1) := by decide +kernel
theorem dX8_trace_20 : decode cX8_trace 20 = .ok (.bipush 8, 2) := by decide +kernel
theorem dX8_trace_22 : decode cX8_trace 22 = .ok (.iadd, 1) := by decide +kernel
theorem dX8_trace_23 : decode cX8_trace 23 = .ok (.iaload, 1) := by decide +kernel
theorem dX8_trace_24 : decode cX8_trace 24 = .ok (.iadd, 1) := by decide +kernel
theorem dX8_trace_25 : decode cX8_trace 25 = .ok (.aload_n 0, 1) := by decide +kernel
theorem dX8_trace_26 : decode cX8_trace 26 = .ok (.getfield 7, 3) := by decide +kernel
theorem dX8_trace_29 : decode cX8_trace 29 = .ok (.bipush 82, 2) := by decide +kernel
theorem dX8_trace_31 : decode cX8_trace 31 = .ok (.iaload, 1) := by decide +kernel
theorem dX8_trace_32 : decode cX8_trace 32 = .ok (.irem, 1) := by decide +kernel
theorem dX8_trace_33 : decode cX8_trace 33 = .ok (.ireturn, 1) := by decide +kernel
set_option maxRecDepth 20000 in
theorem ggX8_of_X8_in : GoodIn wsX8_of wsX8_in := goodIn_r _ [4] (by decide +kernel) (by decide +kernel)
set_option maxRecDepth 20000 in
theorem gX8_of_X8_in : GoodIn wsX8_of (va_wsS RX8 49 yX8_in wsX8_in) := goodIn_app (goodIn_of _ (by decide +kernel)) ggX8_of_X8_in
set_option maxRecDepth 20000 in
theorem ggX8_of_X8_load : GoodIn wsX8_of wsX8_load := goodIn_r _ [8, 9, 10, 11, 12, 13, 3, 14, 15, 16, 17, 18, 19, 20, 21, 22, 23, 24, 25, 26, 27, 28, 29, 30, 31, 32, 33, 34, 35, 36, 37, 38, 101, 102, 103, 104, 105, 106, 107, 108, 109, 110, 111, 112, 113, 114, 115, 116, 117, 118, 119, 120] (by decide +kernel) (by decide +kernel)
set_option maxRecDepth 20000 in
theorem gX8_of_X8_load : GoodIn wsX8_of (wsV RX8 116 RX8 yX8_load wsX8_load) := goodIn_app (goodIn_of _ (by decide +kernel)) ggX8_of_X8_load
set_option maxRecDepth 20000 in
theorem ggX8_of_X8_trace : GoodIn wsX8_of wsX8_trace := goodIn_r _ [42, 9, 10, 101, 102, 103, 104, 105, 106, 107, 108, 109, 110, 111, 112, 113, 114, 115, 116, 117, 118, 119, 120] (by decide +kernel) (by decide +kernel)
set_option maxRecDepth 20000 in
theorem gX8_of_X8_trace : GoodIn wsX8_of (wsV RX8 140 RX8 yX8_trace wsX8_trace) := goodIn_app (goodIn_of _ (by decide +kernel)) ggX8_of_X8_trace
set_option maxRecDepth 20000 in
theorem ggX8_of_X8_determinant : GoodIn wsX8_of wsX8_determinant := goodIn_r _ [22, 10, 9, 23, 24, 25, 3, 26, 27, 28, 29, 30, 101, 102, 103, 104, 105, 106, 107, 108, 109, 110, 111, 112, 113, 114, 115, 116, 117, 118, 119, 120] (by decide +kernel) (by decide +kernel)
set_option maxRecDepth 20000 in
theorem gX8_of_X8_determinant : GoodIn wsX8_of (wsV RX8 72 RX8 yX8_determinant wsX8_determinant) := goodIn_app (goodIn_of _ (by decide +kernel)) ggX8_of_X8_determinant
set_option maxRecDepth 20000 in
theorem ggX8_of_X8_rankOf : GoodIn wsX8_of wsX8_rankOf := goodIn_r _ [46, 47, 10, 9, 35, 36, 37, 3, 38, 48, 49, 50, 51, 52, 53, 54, 55, 56, 31, 32, 33, 34, 23, 24, 25, 26, 101, 102, 103, 104, 105, 106, 107, 108, 109, 110, 111, 112, 113, 114, 115, 116, 117, 118, 119, 120] (by decide +kernel) (by decide +kernel)
set_option maxRecDepth 20000 in
theorem gX8_of_X8_rankOf : GoodIn wsX8_of (wsV RX8 143 RX8 yX8_rankOf wsX8_rankOf) := goodIn_app (goodIn_of _ (by decide +kernel)) ggX8_of_X8_rankOf
set_option maxRecDepth 20000 in
theorem ggX8_of_X8_isOwnSquare : GoodIn wsX8_of wsX8_isOwnSquare := goodIn_r _ [60, 61, 62, 63, 3, 64, 65, 66, 67, 68, 10, 9, 35, 36, 37, 38, 69, 70, 71, 72, 73, 74, 75, 76, 23, 24, 25, 26, 77, 78, 79, 80, 101, 102, 103, 104, 105, 106, 107, 108, 109, 110, 111, 112, 113, 114, 115, 116, 117, 118, 119, 120] (by decide +kernel) (by decide +kernel)
set_option maxRecDepth 20000 in
theorem gX8_of_X8_isOwnSquare : GoodIn wsX8_of (wsV RX8 119 RX8 yX8_isOwnSquare wsX8_isOwnSquare) := goodIn_app (goodIn_of _ (by decide +kernel)) ggX8_of_X8_isOwnSquare
set_option maxRecDepth 20000 in
theorem ggX8_of_X8_orderOf : GoodIn wsX8_of wsX8_orderOf := goodIn_r _ [84, 85, 86, 87, 3, 88, 9, 77, 78, 79, 80, 61, 62, 63, 64, 65, 66, 67, 68, 10, 35, 36, 37, 38, 69, 70, 71, 72, 73, 74, 75, 76, 23, 24, 25, 26, 101, 102, 103, 104, 105, 106, 107, 108, 109, 110, 111, 112, 113, 114, 115, 116, 117, 118, 119, 120] (by decide +kernel) (by decide +kernel)
set_option maxRecDepth 20000 in
theorem gX8_of_X8_orderOf : GoodIn wsX8_of (wsV RX8 146 RX8 yX8_orderOf wsX8_orderOf) := goodIn_app (goodIn_of _ (by decide +kernel)) ggX8_of_X8_orderOf
set_option maxRecDepth 20000 in
theorem ggX8_of_X8_degreeOf : GoodIn wsX8_of wsX8_degreeOf := goodIn_r _ [92, 47, 85, 86, 87, 3, 88, 9, 48, 49, 50, 51, 52, 10, 53, 54, 55, 56, 31, 32, 33, 34, 23, 24, 25, 26, 61, 62, 63, 64, 65, 66, 67, 68, 35, 36, 37, 38, 69, 70, 71, 72, 73, 74, 75, 76, 101, 102, 103, 104, 105, 106, 107, 108, 109, 110, 111, 112, 113, 114, 115, 116, 117, 118, 119, 120] (by decide +kernel) (by decide +kernel)
set_option maxRecDepth 20000 in
theorem gX8_of_X8_degreeOf : GoodIn wsX8_of (wsV RX8 149 RX8 yX8_degreeOf wsX8_degreeOf) := goodIn_app (goodIn_of _ (by decide +kernel)) ggX8_of_X8_degreeOf
set_option maxRecDepth 20000 in
theorem ggX8_of_X8_endOf : GoodIn wsX8_of wsX8_endOf := goodIn_r _ [96, 85, 86, 87, 3, 88, 9, 97, 98, 99, 100, 61, 62, 63, 64, 65, 66, 67, 68, 10, 35, 36, 37, 38, 69, 70, 71, 72, 73, 74, 75, 76, 23, 24, 25, 26, 101, 102, 103, 104, 105, 106, 107, 108, 109, 110, 111, 112, 113, 114, 115, 116, 117, 118, 119, 120] (by decide +kernel) (by decide +kernel)
set_option maxRecDepth 20000 in
theorem gX8_of_X8_endOf : GoodIn wsX8_of (wsV RX8 152 RX8 yX8_endOf wsX8_endOf) := goodIn_app (goodIn_of _ (by decide +kernel)) ggX8_of_X8_endOf
theorem dX8_of_0 : decode cX8_of 0 = .ok (.iload_n 1, 1) := by decide +kernel
theorem dX8_of_1 : decode cX8_of 1 = .ok (.iconst 0, 1) := by decide +kernel
theorem dX8_of_2 : decode cX8_of 2 = .ok (.bipush 9, 2) := by decide +kernel
theorem dX8_of_4 : decode cX8_of 4 = .ok (.invokestatic 49, 3) := by decide +kernel
theorem dX8_of_7 : decode cX8_of 7 = .ok (.ifCond .ne 5, 3) := by decide +kernel
theorem dX8_of_10 : decode cX8_of 10 = .ok (.iconst (-1), 1) := by decide +kernel
theorem dX8_of_11 : decode cX8_of 11 = .ok (.ireturn, 1) := by decide +kernel
theorem dX8_of_12 : decode cX8_of 12 = .ok (.aload_n 0, 1) := by decide +kernel
theorem dX8_of_13 : decode cX8_of 13 = .ok (.iload_n 1, 1) := by decide +kernel
theorem dX8_of_14 : decode cX8_of 14 = .ok (.iconst 0, 1) := by decide +kernel
theorem dX8_of_15 : decode cX8_of 15 = .ok (.invokevirtual 116, 3) := by decide +kernel
theorem dX8_of_18 : decode cX8_of 18 = .ok (.iload_n 2, 1) := by decide +kernel
theorem dX8_of_19 : decode cX8_of 19 = .ok (.tableswitch 109 0 7 #[45, 51, 57, 63, 77, 91, 97, 103], 45) := by decide +kernel
theorem dX8_of_64 : decode cX8_of 64 = .ok (.aload_n 0, 1) := by decide +kernel
theorem dX8_of_65 : decode cX8_of 65 = .ok (.iconst 0, 1) := by decide +kernel
theorem dX8_of_66 : decode cX8_of 66 = .ok (.invokevirtual 140, 3) := by decide +kernel
theorem dX8_of_69 : decode cX8_of 69 = .ok (.ireturn, 1) := by decide +kernel
theorem dX8_of_70 : decode cX8_of 70 = .ok (.aload_n 0, 1) := by decide +kernel
theorem dX8_of_71 : decode cX8_of 71 = .ok (.iconst 0, 1) := by decide +kernel
theorem dX8_of_72 : decode cX8_of 72 = .ok (.invokevirtual 72, 3) := by decide +kernel
theorem dX8_of_75 : decode cX8_of 75 = .ok (.ireturn, 1) := by decide +kernel
end
section
theorem dX8_of_76 : decode cX8_of 76 = .ok (.aload_n 0, 1) := by decide +kernel
theorem dX8_of_77 : decode cX8_of 77 = .ok (.iconst 0, 1) := by decide +kernel
theorem dX8_of_78 : decode cX8_of 78 = .ok (.invokevirtual 143, 3) := by decide +kernel
theorem dX8_of_81 : decode cX8_of 81 = .ok (.ireturn, 1) := by decide +kernel
theorem dX8_of_82 : decode cX8_of 82 = .ok (.aload_n 0, 1) := by decide +kernel
theorem dX8_of_83 : decode cX8_of 83 = .ok (.iconst 0, 1) := by decide +kernel
theorem dX8_of_84 : decode cX8_of 84 = .ok (.invokevirtual 119, 3) := by decide +kernel
theorem dX8_of_87 : decode cX8_of 87 = .ok (.ifCond .eq 7, 3) := by decide +kernel
theorem dX8_of_90 : decode cX8_of 90 = .ok (.iconst 1, 1) := by decide +kernel
theorem dX8_of_91 : decode cX8_of 91 = .ok (.goto 4, 3) := by decide +kernel
theorem dX8_of_94 : decode cX8_of 94 = .ok (.iconst 0, 1) := by decide +kernel
theorem dX8_of_95 : decode cX8_of 95 = .ok (.ireturn, 1) := by decide +kernel
theorem dX8_of_96 : decode cX8_of 96 = .ok (.aload_n 0, 1) := by decide +kernel
theorem dX8_of_97 : decode cX8_of 97 = .ok (.iconst 0, 1) := by decide +kernel
theorem dX8_of_98 : decode cX8_of 98 = .ok (.invokevirtual 72, 3) := by decide +kernel
theorem dX8_of_101 : decode cX8_of 101 = .ok (.ifCond .ne 7, 3) := by decide +kernel
theorem dX8_of_104 : decode cX8_of 104 = .ok (.iconst 0, 1) := by decide +kernel
theorem dX8_of_105 : decode cX8_of 105 = .ok (.goto 4, 3) := by decide +kernel
theorem dX8_of_108 : decode cX8_of 108 = .ok (.iconst 1, 1) := by decide +kernel
theorem dX8_of_109 : decode cX8_of 109 = .ok (.ireturn, 1) := by decide +kernel
theorem dX8_of_110 : decode cX8_of 110 = .ok (.aload_n 0, 1) := by decide +kernel
theorem dX8_of_111 : decode cX8_of 111 = .ok (.iconst 0, 1) := by decide +kernel
theorem dX8_of_112 : decode cX8_of 112 = .ok (.invokevirtual 146, 3) := by decide +kernel
theorem dX8_of_115 : decode cX8_of 115 = .ok (.ireturn, 1) := by decide +kernel
theorem dX8_of_116 : decode cX8_of 116 = .ok (.aload_n 0, 1) := by decide +kernel
theorem dX8_of_117 : decode cX8_of 117 = .ok (.iconst 0, 1) := by decide +kernel
theorem dX8_of_118 : decode cX8_of 118 = .ok (.invokevirtual 149, 3) := by decide +kernel
theorem dX8_of_121 : decode cX8_of 121 = .ok (.ireturn, 1) := by decide +kernel
theorem dX8_of_122 : decode cX8_of 122 = .ok (.aload_n 0, 1) := by decide +kernel
theorem dX8_of_123 : decode cX8_of 123 = .ok (.iconst 0, 1) := by decide +kernel
theorem dX8_of_124 : decode cX8_of 124 = .ok (.invokevirtual 152, 3) := by decide +kernel
theorem dX8_of_127 : decode cX8_of 127 = .ok (.ireturn, 1) := by decide +kernel
theorem dX8_of_128 : decode cX8_of 128 = .ok (.bipush (-2), 2) := by decide +kernel
theorem dX8_of_130 : decode cX8_of 130 = .ok (.ireturn, 1) := by decide +kernel
set_option maxRecDepth 20000 in
theorem ggX8_registersThat_X8_load : GoodIn wsX8_registersThat wsX8_load := goodIn_r _ [5, 6, 7, 8, 9, 10, 4, 11, 12, 13, 14, 15, 16, 17, 18, 19, 20, 21, 22, 23, 24, 25, 26, 27, 28, 29, 30, 31, 32, 33, 34, 35, 64, 65, 66, 67, 68, 69, 70, 71, 72, 73, 74, 75, 76, 77, 78, 79, 80, 81, 82, 83] (by decide +kernel) (by decide +kernel)
set_option maxRecDepth 20000 in
theorem gX8_registersThat_X8_load : GoodIn wsX8_registersThat (wsV RX8 116 RX8 yX8_load wsX8_load) := goodIn_app (goodIn_of _ (by decide +kernel)) ggX8_registersThat_X8_load
set_option maxRecDepth 20000 in
theorem ggX8_registersThat_X8_isOwnSquare : GoodIn wsX8_registersThat wsX8_isOwnSquare := goodIn_r _ [39, 40, 41, 42, 4, 43, 44, 45, 46, 47, 7, 6, 32, 33, 34, 35, 48, 49, 50, 51, 52, 53, 54, 55, 20, 21, 22, 23, 56, 57, 58, 59, 64, 65, 66, 67, 68, 69, 70, 71, 72, 73, 74, 75, 76, 77, 78, 79, 80, 81, 82, 83] (by decide +kernel) (by decide +kernel)
set_option maxRecDepth 20000 in
theorem gX8_registersThat_X8_isOwnSquare : GoodIn wsX8_registersThat (wsV RX8 119 RX8 yX8_isOwnSquare wsX8_isOwnSquare) := goodIn_app (goodIn_of _ (by decide +kernel)) ggX8_registersThat_X8_isOwnSquare
set_option maxRecDepth 20000 in
theorem ggX8_registersThat_X8_isNothing : GoodIn wsX8_registersThat wsX8_isNothing := goodIn_r _ [63, 6, 64, 65, 66, 67, 68, 69, 70, 71, 72, 73, 74, 75, 76, 77, 78, 79, 80, 81, 82, 83] (by decide +kernel) (by decide +kernel)
set_option maxRecDepth 20000 in
theorem gX8_registersThat_X8_isNothing : GoodIn wsX8_registersThat (wsV RX8 128 RX8 yX8_isNothing wsX8_isNothing) := goodIn_app (goodIn_of _ (by decide +kernel)) ggX8_registersThat_X8_isNothing
theorem dX8_registersThat_0 : decode cX8_registersThat 0 = .ok (.iconst 0, 1) := by decide +kernel
theorem dX8_registersThat_1 : decode cX8_registersThat 1 = .ok (.istore_n 2, 1) := by decide +kernel
theorem dX8_registersThat_2 : decode cX8_registersThat 2 = .ok (.iconst 0, 1) := by decide +kernel
theorem dX8_registersThat_3 : decode cX8_registersThat 3 = .ok (.istore_n 3, 1) := by decide +kernel
theorem dX8_registersThat_4 : decode cX8_registersThat 4 = .ok (.iload_n 3, 1) := by decide +kernel
theorem dX8_registersThat_5 : decode cX8_registersThat 5 = .ok (.bipush 8, 2) := by decide +kernel
theorem dX8_registersThat_7 : decode cX8_registersThat 7 = .ok (.if_icmp .ge 57, 3) := by decide +kernel
theorem dX8_registersThat_10 : decode cX8_registersThat 10 = .ok (.aload_n 0, 1) := by decide +kernel
theorem dX8_registersThat_11 : decode cX8_registersThat 11 = .ok (.iload_n 3, 1) := by decide +kernel
theorem dX8_registersThat_12 : decode cX8_registersThat 12 = .ok (.iconst 0, 1) := by decide +kernel
theorem dX8_registersThat_13 : decode cX8_registersThat 13 = .ok (.invokevirtual 116, 3) := by decide +kernel
theorem dX8_registersThat_16 : decode cX8_registersThat 16 = .ok (.iload_n 1, 1) := by decide +kernel
theorem dX8_registersThat_17 : decode cX8_registersThat 17 = .ok (.ifCond .eq 11, 3) := by decide +kernel
theorem dX8_registersThat_20 : decode cX8_registersThat 20 = .ok (.aload_n 0, 1) := by decide +kernel
theorem dX8_registersThat_21 : decode cX8_registersThat 21 = .ok (.iconst 0, 1) := by decide +kernel
theorem dX8_registersThat_22 : decode cX8_registersThat 22 = .ok (.invokevirtual 119, 3) := by decide +kernel
theorem dX8_registersThat_25 : decode cX8_registersThat 25 = .ok (.goto 16, 3) := by decide +kernel
theorem dX8_registersThat_28 : decode cX8_registersThat 28 = .ok (.aload_n 0, 1) := by decide +kernel
theorem dX8_registersThat_29 : decode cX8_registersThat 29 = .ok (.iconst 0, 1) := by decide +kernel
theorem dX8_registersThat_30 : decode cX8_registersThat 30 = .ok (.invokevirtual 128, 3) := by decide +kernel
theorem dX8_registersThat_33 : decode cX8_registersThat 33 = .ok (.ifCond .ne 7, 3) := by decide +kernel
theorem dX8_registersThat_36 : decode cX8_registersThat 36 = .ok (.iconst 1, 1) := by decide +kernel
theorem dX8_registersThat_37 : decode cX8_registersThat 37 = .ok (.goto 4, 3) := by decide +kernel
theorem dX8_registersThat_40 : decode cX8_registersThat 40 = .ok (.iconst 0, 1) := by decide +kernel
theorem dX8_registersThat_41 : decode cX8_registersThat 41 = .ok (.istore 4, 2) := by decide +kernel
theorem dX8_registersThat_43 : decode cX8_registersThat 43 = .ok (.iload_n 2, 1) := by decide +kernel
theorem dX8_registersThat_44 : decode cX8_registersThat 44 = .ok (.iload 4, 2) := by decide +kernel
theorem dX8_registersThat_46 : decode cX8_registersThat 46 = .ok (.ifCond .eq 9, 3) := by decide +kernel
theorem dX8_registersThat_49 : decode cX8_registersThat 49 = .ok (.iconst 1, 1) := by decide +kernel
theorem dX8_registersThat_50 : decode cX8_registersThat 50 = .ok (.iload_n 3, 1) := by decide +kernel
theorem dX8_registersThat_51 : decode cX8_registersThat 51 = .ok (.ishl, 1) := by decide +kernel
theorem dX8_registersThat_52 : decode cX8_registersThat 52 = .ok (.goto 4, 3) := by decide +kernel
theorem dX8_registersThat_55 : decode cX8_registersThat 55 = .ok (.iconst 0, 1) := by decide +kernel
theorem dX8_registersThat_56 : decode cX8_registersThat 56 = .ok (.ior, 1) := by decide +kernel
theorem dX8_registersThat_57 : decode cX8_registersThat 57 = .ok (.istore_n 2, 1) := by decide +kernel
theorem dX8_registersThat_58 : decode cX8_registersThat 58 = .ok (.iinc 3 1, 3) := by decide +kernel
theorem dX8_registersThat_61 : decode cX8_registersThat 61 = .ok (.goto (-57), 3) := by decide +kernel
theorem dX8_registersThat_64 : decode cX8_registersThat 64 = .ok (.iload_n 2, 1) := by decide +kernel
theorem dX8_registersThat_65 : decode cX8_registersThat 65 = .ok (.ireturn, 1) := by decide +kernel
set_option maxRecDepth 20000 in
theorem ggX8_count_X8_registersThat : GoodIn wsX8_count wsX8_registersThat := goodIn_r _ [8, 9, 10, 11, 7, 12, 13, 1, 14, 15, 16, 17, 18, 19, 20, 21, 22, 23, 24, 25, 26, 27, 28, 29, 30, 31, 32, 33, 34, 35, 36, 37, 38, 39, 40, 41, 42, 43, 44, 45, 46, 47, 48, 49, 50, 51, 52, 53, 54, 55, 56, 57, 58, 59, 60, 61, 62, 63, 64, 65, 66, 67, 68, 69, 70, 71, 72, 73, 74, 75, 76, 77, 78, 79, 80, 81, 82, 83, 84, 85, 86, 87, 88, 89] (by decide +kernel) (by decide +kernel)
set_option maxRecDepth 20000 in
theorem gX8_count_X8_registersThat : GoodIn wsX8_count (wsV RX8 155 RX8 yX8_registersThat wsX8_registersThat) := goodIn_app (goodIn_of _ (by decide +kernel)) ggX8_count_X8_registersThat
theorem dX8_count_0 : decode cX8_count 0 = .ok (.iload_n 1, 1) := by decide +kernel
theorem dX8_count_1 : decode cX8_count 1 = .ok (.tableswitch 77 0 5 #[39, 47, 55, 61, 67, 72], 39) := by decide +kernel
theorem dX8_count_40 : decode cX8_count 40 = .ok (.aload_n 0, 1) := by decide +kernel
theorem dX8_count_41 : decode cX8_count 41 = .ok (.getfield 7, 3) := by decide +kernel
theorem dX8_count_44 : decode cX8_count 44 = .ok (.bipush 81, 2) := by decide +kernel
theorem dX8_count_46 : decode cX8_count 46 = .ok (.iaload, 1) := by decide +kernel
theorem dX8_count_47 : decode cX8_count 47 = .ok (.ireturn, 1) := by decide +kernel
theorem dX8_count_48 : decode cX8_count 48 = .ok (.aload_n 0, 1) := by decide +kernel
theorem dX8_count_49 : decode cX8_count 49 = .ok (.getfield 7, 3) := by decide +kernel
theorem dX8_count_52 : decode cX8_count 52 = .ok (.bipush 82, 2) := by decide +kernel
theorem dX8_count_54 : decode cX8_count 54 = .ok (.iaload, 1) := by decide +kernel
theorem dX8_count_55 : decode cX8_count 55 = .ok (.ireturn, 1) := by decide +kernel
theorem dX8_count_56 : decode cX8_count 56 = .ok (.aload_n 0, 1) := by decide +kernel
theorem dX8_count_57 : decode cX8_count 57 = .ok (.iconst 0, 1) := by decide +kernel
theorem dX8_count_58 : decode cX8_count 58 = .ok (.invokevirtual 155, 3) := by decide +kernel
theorem dX8_count_61 : decode cX8_count 61 = .ok (.ireturn, 1) := by decide +kernel
theorem dX8_count_62 : decode cX8_count 62 = .ok (.aload_n 0, 1) := by decide +kernel
theorem dX8_count_63 : decode cX8_count 63 = .ok (.iconst 1, 1) := by decide +kernel
theorem dX8_count_64 : decode cX8_count 64 = .ok (.invokevirtual 155, 3) := by decide +kernel
theorem dX8_count_67 : decode cX8_count 67 = .ok (.ireturn, 1) := by decide +kernel
theorem dX8_count_68 : decode cX8_count 68 = .ok (.aload_n 0, 1) := by decide +kernel
theorem dX8_count_69 : decode cX8_count 69 = .ok (.getfield 159, 3) := by decide +kernel
theorem dX8_count_72 : decode cX8_count 72 = .ok (.ireturn, 1) := by decide +kernel
theorem dX8_count_73 : decode cX8_count 73 = .ok (.aload_n 0, 1) := by decide +kernel
theorem dX8_count_74 : decode cX8_count 74 = .ok (.getfield 53, 3) := by decide +kernel
theorem dX8_count_77 : decode cX8_count 77 = .ok (.ireturn, 1) := by decide +kernel
theorem dX8_count_78 : decode cX8_count 78 = .ok (.bipush (-2), 2) := by decide +kernel
theorem dX8_count_80 : decode cX8_count 80 = .ok (.ireturn, 1) := by decide +kernel
set_option maxRecDepth 20000 in
theorem ggX8_areSame_X8_isRegister : GoodIn wsX8_areSame wsX8_isRegister := goodIn_r _ [4, 5, 6, 3, 7] (by decide +kernel) (by decide +kernel)
set_option maxRecDepth 20000 in
theorem gX8_areSame_X8_isRegister : GoodIn wsX8_areSame (va_wsS RX8 109 yX8_isRegister wsX8_isRegister) := goodIn_app (goodIn_of _ (by decide +kernel)) ggX8_areSame_X8_isRegister
set_option maxRecDepth 20000 in
theorem ggX8_areSame_X8_load : GoodIn wsX8_areSame wsX8_load := goodIn_r _ [11, 12, 13, 14, 15, 16, 3, 17, 18, 19, 20, 21, 22, 23, 24, 25, 26, 27, 28, 29, 30, 31, 32, 33, 34, 35, 36, 37, 38, 39, 40, 41, 46, 47, 48, 49, 50, 51, 52, 53, 54, 55, 56, 57, 58, 59, 60, 61, 62, 63, 64, 65] (by decide +kernel) (by decide +kernel)
set_option maxRecDepth 20000 in
theorem gX8_areSame_X8_load : GoodIn wsX8_areSame (wsV RX8 116 RX8 yX8_load wsX8_load) := goodIn_app (goodIn_of _ (by decide +kernel)) ggX8_areSame_X8_load
set_option maxRecDepth 20000 in
theorem ggX8_areSame_X8_areAlike : GoodIn wsX8_areSame wsX8_areAlike := goodIn_r _ [45, 12, 46, 47, 48, 49, 50, 51, 52, 53, 54, 55, 56, 57, 58, 59, 60, 61, 62, 63, 64, 65] (by decide +kernel) (by decide +kernel)
set_option maxRecDepth 20000 in
theorem gX8_areSame_X8_areAlike : GoodIn wsX8_areSame (wsV RX8 102 RX8 yX8_areAlike wsX8_areAlike) := goodIn_app (goodIn_of _ (by decide +kernel)) ggX8_areSame_X8_areAlike
theorem dX8_areSame_0 : decode cX8_areSame 0 = .ok (.iload_n 1, 1) := by decide +kernel
theorem dX8_areSame_1 : decode cX8_areSame 1 = .ok (.invokestatic 109, 3) := by decide +kernel
theorem dX8_areSame_4 : decode cX8_areSame 4 = .ok (.ifCond .eq 10, 3) := by decide +kernel
theorem dX8_areSame_7 : decode cX8_areSame 7 = .ok (.iload_n 2, 1) := by decide +kernel
theorem dX8_areSame_8 : decode cX8_areSame 8 = .ok (.invokestatic 109, 3) := by decide +kernel
theorem dX8_areSame_11 : decode cX8_areSame 11 = .ok (.ifCond .ne 5, 3) := by decide +kernel
theorem dX8_areSame_14 : decode cX8_areSame 14 = .ok (.iconst (-1), 1) := by decide +kernel
theorem dX8_areSame_15 : decode cX8_areSame 15 = .ok (.ireturn, 1) := by decide +kernel
theorem dX8_areSame_16 : decode cX8_areSame 16 = .ok (.aload_n 0, 1) := by decide +kernel
theorem dX8_areSame_17 : decode cX8_areSame 17 = .ok (.iload_n 1, 1) := by decide +kernel
theorem dX8_areSame_18 : decode cX8_areSame 18 = .ok (.iconst 0, 1) := by decide +kernel
theorem dX8_areSame_19 : decode cX8_areSame 19 = .ok (.invokevirtual 116, 3) := by decide +kernel
theorem dX8_areSame_22 : decode cX8_areSame 22 = .ok (.aload_n 0, 1) := by decide +kernel
theorem dX8_areSame_23 : decode cX8_areSame 23 = .ok (.iload_n 2, 1) := by decide +kernel
theorem dX8_areSame_24 : decode cX8_areSame 24 = .ok (.bipush 9, 2) := by decide +kernel
theorem dX8_areSame_26 : decode cX8_areSame 26 = .ok (.invokevirtual 116, 3) := by decide +kernel
theorem dX8_areSame_29 : decode cX8_areSame 29 = .ok (.aload_n 0, 1) := by decide +kernel
theorem dX8_areSame_30 : decode cX8_areSame 30 = .ok (.iconst 0, 1) := by decide +kernel
theorem dX8_areSame_31 : decode cX8_areSame 31 = .ok (.bipush 9, 2) := by decide +kernel
theorem dX8_areSame_33 : decode cX8_areSame 33 = .ok (.invokevirtual 102, 3) := by decide +kernel
theorem dX8_areSame_36 : decode cX8_areSame 36 = .ok (.ifCond .eq 7, 3) := by decide +kernel
theorem dX8_areSame_39 : decode cX8_areSame 39 = .ok (.iconst 1, 1) := by decide +kernel
theorem dX8_areSame_40 : decode cX8_areSame 40 = .ok (.goto 4, 3) := by decide +kernel
theorem dX8_areSame_43 : decode cX8_areSame 43 = .ok (.iconst 0, 1) := by decide +kernel
theorem dX8_areSame_44 : decode cX8_areSame 44 = .ok (.ireturn, 1) := by decide +kernel
set_option maxRecDepth 20000 in
theorem ggX8_power_X8_isRegister : GoodIn wsX8_power wsX8_isRegister := goodIn_r _ [5, 6, 7, 4, 8] (by decide +kernel) (by decide +kernel)
set_option maxRecDepth 20000 in
theorem gX8_power_X8_isRegister : GoodIn wsX8_power (va_wsS RX8 109 yX8_isRegister wsX8_isRegister) := goodIn_app (goodIn_of _ (by decide +kernel)) ggX8_power_X8_isRegister
set_option maxRecDepth 20000 in
theorem ggX8_power_X8_isCell : GoodIn wsX8_power wsX8_isCell := goodIn_r _ [12, 13, 6, 7, 4, 8, 66, 67, 68, 69, 70, 71, 72, 73, 74, 75, 76, 77, 78, 79, 80, 81, 82, 83, 84, 85] (by decide +kernel) (by decide +kernel)
set_option maxRecDepth 20000 in
theorem gX8_power_X8_isCell : GoodIn wsX8_power (wsV RX8 113 RX8 yX8_isCell wsX8_isCell) := goodIn_app (goodIn_of _ (by decide +kernel)) ggX8_power_X8_isCell
set_option maxRecDepth 20000 in
theorem ggX8_power_X8_in : GoodIn wsX8_power wsX8_in := goodIn_r _ [8] (by decide +kernel) (by decide +kernel)
set_option maxRecDepth 20000 in
theorem gX8_power_X8_in : GoodIn wsX8_power (va_wsS RX8 49 yX8_in wsX8_in) := goodIn_app (goodIn_of _ (by decide +kernel)) ggX8_power_X8_in
set_option maxRecDepth 20000 in
theorem ggX8_power_X8_load : GoodIn wsX8_power wsX8_load := goodIn_r _ [17, 1, 13, 18, 19, 20, 4, 21, 22, 23, 24, 25, 26, 27, 28, 29, 30, 31, 32, 33, 34, 35, 36, 37, 38, 39, 40, 41, 42, 43, 44, 45, 66, 67, 68, 69, 70, 71, 72, 73, 74, 75, 76, 77, 78, 79, 80, 81, 82, 83, 84, 85] (by decide +kernel) (by decide +kernel)
set_option maxRecDepth 20000 in
theorem gX8_power_X8_load : GoodIn wsX8_power (wsV RX8 116 RX8 yX8_load wsX8_load) := goodIn_app (goodIn_of _ (by decide +kernel)) ggX8_power_X8_load
set_option maxRecDepth 20000 in
theorem ggX8_power_X8_copy : GoodIn wsX8_power wsX8_copy := goodIn_r _ [49, 1, 66, 67, 68, 69, 70, 71, 72, 73, 74, 75, 76, 77, 78, 79, 80, 81, 82, 83, 84, 85] (by decide +kernel) (by decide +kernel)
set_option maxRecDepth 20000 in
theorem gX8_power_X8_copy : GoodIn wsX8_power (wsV RX8 96 RX8 yX8_copy wsX8_copy) := goodIn_app (goodIn_of _ (by decide +kernel)) ggX8_power_X8_copy
set_option maxRecDepth 20000 in
theorem ggX8_power_X8_product : GoodIn wsX8_power wsX8_product := goodIn_r _ [53, 54, 55, 56, 4, 57, 13, 1, 42, 43, 44, 45, 58, 59, 60, 61, 62, 63, 64, 65, 30, 31, 32, 33, 66, 67, 68, 69, 70, 71, 72, 73, 74, 75, 76, 77, 78, 79, 80, 81, 82, 83, 84, 85] (by decide +kernel) (by decide +kernel)
set_option maxRecDepth 20000 in
theorem gX8_power_X8_product : GoodIn wsX8_power (wsV RX8 99 RX8 yX8_product wsX8_product) := goodIn_app (goodIn_of _ (by decide +kernel)) ggX8_power_X8_product
theorem dX8_power_0 : decode cX8_power 0 = .ok (.iload_n 1, 1) := by decide +kernel
theorem dX8_power_1 : decode cX8_power 1 = .ok (.invokestatic 109, 3) := by decide +kernel
theorem dX8_power_4 : decode cX8_power 4 = .ok (.ifCond .eq 13, 3) := by decide +kernel
theorem dX8_power_7 : decode cX8_power 7 = .ok (.aload_n 0, 1) := by decide +kernel
theorem dX8_power_8 : decode cX8_power 8 = .ok (.iload_n 3, 1) := by decide +kernel
theorem dX8_power_9 : decode cX8_power 9 = .ok (.iload 4, 2) := by decide +kernel
theorem dX8_power_11 : decode cX8_power 11 = .ok (.invokevirtual 113, 3) := by decide +kernel
theorem dX8_power_14 : decode cX8_power 14 = .ok (.ifCond .ne 5, 3) := by decide +kernel
theorem dX8_power_17 : decode cX8_power 17 = .ok (.iconst (-1), 1) := by decide +kernel
theorem dX8_power_18 : decode cX8_power 18 = .ok (.ireturn, 1) := by decide +kernel
theorem dX8_power_19 : decode cX8_power 19 = .ok (.iload_n 2, 1) := by decide +kernel
theorem dX8_power_20 : decode cX8_power 20 = .ok (.iconst 0, 1) := by decide +kernel
theorem dX8_power_21 : decode cX8_power 21 = .ok (.sipush 2000, 3) := by decide +kernel
theorem dX8_power_24 : decode cX8_power 24 = .ok (.invokestatic 49, 3) := by decide +kernel
theorem dX8_power_27 : decode cX8_power 27 = .ok (.ifCond .ne 6, 3) := by decide +kernel
theorem dX8_power_30 : decode cX8_power 30 = .ok (.bipush (-2), 2) := by decide +kernel
theorem dX8_power_32 : decode cX8_power 32 = .ok (.ireturn, 1) := by decide +kernel
theorem dX8_power_33 : decode cX8_power 33 = .ok (.aload_n 0, 1) := by decide +kernel
theorem dX8_power_34 : decode cX8_power 34 = .ok (.iload_n 1, 1) := by decide +kernel
theorem dX8_power_35 : decode cX8_power 35 = .ok (.iconst 0, 1) := by decide +kernel
theorem dX8_power_36 : decode cX8_power 36 = .ok (.invokevirtual 116, 3) := by decide +kernel
theorem dX8_power_39 : decode cX8_power 39 = .ok (.aload_n 0, 1) := by decide +kernel
theorem dX8_power_40 : decode cX8_power 40 = .ok (.bipush 36, 2) := by decide +kernel
theorem dX8_power_42 : decode cX8_power 42 = .ok (.bipush 108, 2) := by decide +kernel
theorem dX8_power_44 : decode cX8_power 44 = .ok (.invokevirtual 96, 3) := by decide +kernel
theorem dX8_power_47 : decode cX8_power 47 = .ok (.iconst 0, 1) := by decide +kernel
theorem dX8_power_48 : decode cX8_power 48 = .ok (.istore 5, 2) := by decide +kernel
theorem dX8_power_50 : decode cX8_power 50 = .ok (.iload 5, 2) := by decide +kernel
theorem dX8_power_52 : decode cX8_power 52 = .ok (.iload_n 2, 1) := by decide +kernel
theorem dX8_power_53 : decode cX8_power 53 = .ok (.if_icmp .ge 18, 3) := by decide +kernel
theorem dX8_power_56 : decode cX8_power 56 = .ok (.aload_n 0, 1) := by decide +kernel
theorem dX8_power_57 : decode cX8_power 57 = .ok (.bipush 108, 2) := by decide +kernel
theorem dX8_power_59 : decode cX8_power 59 = .ok (.iconst 0, 1) := by decide +kernel
theorem dX8_power_60 : decode cX8_power 60 = .ok (.bipush 108, 2) := by decide +kernel
theorem dX8_power_62 : decode cX8_power 62 = .ok (.invokevirtual 99, 3) := by decide +kernel
theorem dX8_power_65 : decode cX8_power 65 = .ok (.iinc 5 1, 3) := by decide +kernel
theorem dX8_power_68 : decode cX8_power 68 = .ok (.goto (-18), 3) := by decide +kernel
theorem dX8_power_71 : decode cX8_power 71 = .ok (.aload_n 0, 1) := by decide +kernel
theorem dX8_power_72 : decode cX8_power 72 = .ok (.getfield 27, 3) := by decide +kernel
theorem dX8_power_75 : decode cX8_power 75 = .ok (.bipush 108, 2) := by decide +kernel
theorem dX8_power_77 : decode cX8_power 77 = .ok (.iconst 3, 1) := by decide +kernel
theorem dX8_power_78 : decode cX8_power 78 = .ok (.iload_n 3, 1) := by decide +kernel
theorem dX8_power_79 : decode cX8_power 79 = .ok (.imul, 1) := by decide +kernel
theorem dX8_power_80 : decode cX8_power 80 = .ok (.iadd, 1) := by decide +kernel
theorem dX8_power_81 : decode cX8_power 81 = .ok (.iload 4, 2) := by decide +kernel
theorem dX8_power_83 : decode cX8_power 83 = .ok (.iadd, 1) := by decide +kernel
theorem dX8_power_84 : decode cX8_power 84 = .ok (.iaload, 1) := by decide +kernel
theorem dX8_power_85 : decode cX8_power 85 = .ok (.ireturn, 1) := by decide +kernel
set_option maxRecDepth 20000 in
theorem ggX8_rule_X8_isRegister : GoodIn wsX8_rule wsX8_isRegister := goodIn_r _ [4, 5, 6, 3, 7] (by decide +kernel) (by decide +kernel)
set_option maxRecDepth 20000 in
theorem gX8_rule_X8_isRegister : GoodIn wsX8_rule (va_wsS RX8 109 yX8_isRegister wsX8_isRegister) := goodIn_app (goodIn_of _ (by decide +kernel)) ggX8_rule_X8_isRegister
set_option maxRecDepth 20000 in
theorem ggX8_rule_X8_in : GoodIn wsX8_rule wsX8_in := goodIn_r _ [7] (by decide +kernel) (by decide +kernel)
set_option maxRecDepth 20000 in
theorem gX8_rule_X8_in : GoodIn wsX8_rule (va_wsS RX8 49 yX8_in wsX8_in) := goodIn_app (goodIn_of _ (by decide +kernel)) ggX8_rule_X8_in
set_option maxRecDepth 20000 in
theorem ggX8_rule_X8_load : GoodIn wsX8_rule wsX8_load := goodIn_r _ [11, 12, 13, 14, 15, 16, 3, 17, 18, 19, 20, 21, 22, 23, 24, 25, 26, 27, 28, 29, 30, 31, 32, 33, 34, 35, 36, 37, 38, 39, 40, 41, 62, 63, 64, 65, 66, 67, 68, 69, 70, 71, 72, 73, 74, 75, 76, 77, 78, 79, 80, 81] (by decide +kernel) (by decide +kernel)
set_option maxRecDepth 20000 in
theorem gX8_rule_X8_load : GoodIn wsX8_rule (wsV RX8 116 RX8 yX8_load wsX8_load) := goodIn_app (goodIn_of _ (by decide +kernel)) ggX8_rule_X8_load
set_option maxRecDepth 20000 in
theorem ggX8_rule_X8_operator : GoodIn wsX8_rule wsX8_operator := goodIn_r _ [45, 46, 47, 48, 3, 49, 13, 12, 38, 39, 40, 41, 50, 51, 52, 53, 62, 63, 64, 65, 66, 67, 68, 69, 70, 71, 72, 73, 74, 75, 76, 77, 78, 79, 80, 81] (by decide +kernel) (by decide +kernel)
set_option maxRecDepth 20000 in
theorem gX8_rule_X8_operator : GoodIn wsX8_rule (wsV RX8 106 RX8 yX8_operator wsX8_operator) := goodIn_app (goodIn_of _ (by decide +kernel)) ggX8_rule_X8_operator
set_option maxRecDepth 20000 in
theorem ggX8_rule_X8_trace : GoodIn wsX8_rule wsX8_trace := goodIn_r _ [57, 12, 13, 62, 63, 64, 65, 66, 67, 68, 69, 70, 71, 72, 73, 74, 75, 76, 77, 78, 79, 80, 81] (by decide +kernel) (by decide +kernel)
set_option maxRecDepth 20000 in
theorem gX8_rule_X8_trace : GoodIn wsX8_rule (wsV RX8 140 RX8 yX8_trace wsX8_trace) := goodIn_app (goodIn_of _ (by decide +kernel)) ggX8_rule_X8_trace
set_option maxRecDepth 20000 in
theorem ggX8_rule_X8_areAlike : GoodIn wsX8_rule wsX8_areAlike := goodIn_r _ [61, 12, 62, 63, 64, 65, 66, 67, 68, 69, 70, 71, 72, 73, 74, 75, 76, 77, 78, 79, 80, 81] (by decide +kernel) (by decide +kernel)
set_option maxRecDepth 20000 in
theorem gX8_rule_X8_areAlike : GoodIn wsX8_rule (wsV RX8 102 RX8 yX8_areAlike wsX8_areAlike) := goodIn_app (goodIn_of _ (by decide +kernel)) ggX8_rule_X8_areAlike
theorem dX8_rule_0 : decode cX8_rule 0 = .ok (.iload_n 1, 1) := by decide +kernel
theorem dX8_rule_1 : decode cX8_rule 1 = .ok (.invokestatic 109, 3) := by decide +kernel
theorem dX8_rule_4 : decode cX8_rule 4 = .ok (.ifCond .eq 17, 3) := by decide +kernel
theorem dX8_rule_7 : decode cX8_rule 7 = .ok (.iload_n 2, 1) := by decide +kernel
theorem dX8_rule_8 : decode cX8_rule 8 = .ok (.invokestatic 109, 3) := by decide +kernel
theorem dX8_rule_11 : decode cX8_rule 11 = .ok (.ifCond .eq 10, 3) := by decide +kernel
theorem dX8_rule_14 : decode cX8_rule 14 = .ok (.iload_n 3, 1) := by decide +kernel
theorem dX8_rule_15 : decode cX8_rule 15 = .ok (.invokestatic 109, 3) := by decide +kernel
theorem dX8_rule_18 : decode cX8_rule 18 = .ok (.ifCond .ne 5, 3) := by decide +kernel
theorem dX8_rule_21 : decode cX8_rule 21 = .ok (.iconst (-1), 1) := by decide +kernel
theorem dX8_rule_22 : decode cX8_rule 22 = .ok (.ireturn, 1) := by decide +kernel
theorem dX8_rule_23 : decode cX8_rule 23 = .ok (.iload 4, 2) := by decide +kernel
theorem dX8_rule_25 : decode cX8_rule 25 = .ok (.iconst 0, 1) := by decide +kernel
theorem dX8_rule_26 : decode cX8_rule 26 = .ok (.iconst 1, 1) := by decide +kernel
theorem dX8_rule_27 : decode cX8_rule 27 = .ok (.invokestatic 49, 3) := by decide +kernel
theorem dX8_rule_30 : decode cX8_rule 30 = .ok (.ifCond .ne 6, 3) := by decide +kernel
theorem dX8_rule_33 : decode cX8_rule 33 = .ok (.bipush (-2), 2) := by decide +kernel
theorem dX8_rule_35 : decode cX8_rule 35 = .ok (.ireturn, 1) := by decide +kernel
theorem dX8_rule_36 : decode cX8_rule 36 = .ok (.aload_n 0, 1) := by decide +kernel
theorem dX8_rule_37 : decode cX8_rule 37 = .ok (.iload_n 1, 1) := by decide +kernel
theorem dX8_rule_38 : decode cX8_rule 38 = .ok (.iconst 0, 1) := by decide +kernel
theorem dX8_rule_39 : decode cX8_rule 39 = .ok (.invokevirtual 116, 3) := by decide +kernel
theorem dX8_rule_42 : decode cX8_rule 42 = .ok (.aload_n 0, 1) := by decide +kernel
theorem dX8_rule_43 : decode cX8_rule 43 = .ok (.iload_n 2, 1) := by decide +kernel
theorem dX8_rule_44 : decode cX8_rule 44 = .ok (.bipush 9, 2) := by decide +kernel
theorem dX8_rule_46 : decode cX8_rule 46 = .ok (.invokevirtual 116, 3) := by decide +kernel
theorem dX8_rule_49 : decode cX8_rule 49 = .ok (.aload_n 0, 1) := by decide +kernel
theorem dX8_rule_50 : decode cX8_rule 50 = .ok (.iload_n 3, 1) := by decide +kernel
theorem dX8_rule_51 : decode cX8_rule 51 = .ok (.bipush 18, 2) := by decide +kernel
theorem dX8_rule_53 : decode cX8_rule 53 = .ok (.invokevirtual 116, 3) := by decide +kernel
theorem dX8_rule_56 : decode cX8_rule 56 = .ok (.aload_n 0, 1) := by decide +kernel
theorem dX8_rule_57 : decode cX8_rule 57 = .ok (.iconst 0, 1) := by decide +kernel
theorem dX8_rule_58 : decode cX8_rule 58 = .ok (.bipush 9, 2) := by decide +kernel
theorem dX8_rule_60 : decode cX8_rule 60 = .ok (.bipush 90, 2) := by decide +kernel
theorem dX8_rule_62 : decode cX8_rule 62 = .ok (.invokevirtual 106, 3) := by decide +kernel
theorem dX8_rule_65 : decode cX8_rule 65 = .ok (.aload_n 0, 1) := by decide +kernel
theorem dX8_rule_66 : decode cX8_rule 66 = .ok (.bipush 90, 2) := by decide +kernel
theorem dX8_rule_68 : decode cX8_rule 68 = .ok (.bipush 18, 2) := by decide +kernel
theorem dX8_rule_70 : decode cX8_rule 70 = .ok (.bipush 81, 2) := by decide +kernel
theorem dX8_rule_72 : decode cX8_rule 72 = .ok (.invokevirtual 106, 3) := by decide +kernel
theorem dX8_rule_75 : decode cX8_rule 75 = .ok (.aload_n 0, 1) := by decide +kernel
theorem dX8_rule_76 : decode cX8_rule 76 = .ok (.iconst 0, 1) := by decide +kernel
theorem dX8_rule_77 : decode cX8_rule 77 = .ok (.bipush 18, 2) := by decide +kernel
theorem dX8_rule_79 : decode cX8_rule 79 = .ok (.bipush 99, 2) := by decide +kernel
theorem dX8_rule_81 : decode cX8_rule 81 = .ok (.invokevirtual 106, 3) := by decide +kernel
theorem dX8_rule_84 : decode cX8_rule 84 = .ok (.aload_n 0, 1) := by decide +kernel
theorem dX8_rule_85 : decode cX8_rule 85 = .ok (.bipush 9, 2) := by decide +kernel
theorem dX8_rule_87 : decode cX8_rule 87 = .ok (.bipush 99, 2) := by decide +kernel
theorem dX8_rule_89 : decode cX8_rule 89 = .ok (.bipush 99, 2) := by decide +kernel
theorem dX8_rule_91 : decode cX8_rule 91 = .ok (.invokevirtual 106, 3) := by decide +kernel
theorem dX8_rule_94 : decode cX8_rule 94 = .ok (.aload_n 0, 1) := by decide +kernel
theorem dX8_rule_95 : decode cX8_rule 95 = .ok (.iconst 0, 1) := by decide +kernel
theorem dX8_rule_96 : decode cX8_rule 96 = .ok (.bipush 99, 2) := by decide +kernel
theorem dX8_rule_98 : decode cX8_rule 98 = .ok (.bipush 99, 2) := by decide +kernel
theorem dX8_rule_100 : decode cX8_rule 100 = .ok (.invokevirtual 106, 3) := by decide +kernel
theorem dX8_rule_103 : decode cX8_rule 103 = .ok (.iload 4, 2) := by decide +kernel
theorem dX8_rule_105 : decode cX8_rule 105 = .ok (.iconst 1, 1) := by decide +kernel
theorem dX8_rule_106 : decode cX8_rule 106 = .ok (.if_icmp .ne 12, 3) := by decide +kernel
theorem dX8_rule_109 : decode cX8_rule 109 = .ok (.aload_n 0, 1) := by decide +kernel
theorem dX8_rule_110 : decode cX8_rule 110 = .ok (.bipush 81, 2) := by decide +kernel
theorem dX8_rule_112 : decode cX8_rule 112 = .ok (.invokevirtual 140, 3) := by decide +kernel
theorem dX8_rule_115 : decode cX8_rule 115 = .ok (.goto 19, 3) := by decide +kernel
theorem dX8_rule_118 : decode cX8_rule 118 = .ok (.aload_n 0, 1) := by decide +kernel
theorem dX8_rule_119 : decode cX8_rule 119 = .ok (.bipush 81, 2) := by decide +kernel
theorem dX8_rule_121 : decode cX8_rule 121 = .ok (.bipush 99, 2) := by decide +kernel
theorem dX8_rule_123 : decode cX8_rule 123 = .ok (.invokevirtual 102, 3) := by decide +kernel
theorem dX8_rule_126 : decode cX8_rule 126 = .ok (.ifCond .eq 7, 3) := by decide +kernel
theorem dX8_rule_129 : decode cX8_rule 129 = .ok (.iconst 1, 1) := by decide +kernel
theorem dX8_rule_130 : decode cX8_rule 130 = .ok (.goto 4, 3) := by decide +kernel
theorem dX8_rule_133 : decode cX8_rule 133 = .ok (.iconst 0, 1) := by decide +kernel
theorem dX8_rule_134 : decode cX8_rule 134 = .ok (.ireturn, 1) := by decide +kernel
set_option maxRecDepth 20000 in
theorem ggX8_partSize_X8_isRegister : GoodIn wsX8_partSize wsX8_isRegister := goodIn_r _ [7, 8, 9, 6, 10] (by decide +kernel) (by decide +kernel)
set_option maxRecDepth 20000 in
theorem gX8_partSize_X8_isRegister : GoodIn wsX8_partSize (va_wsS RX8 109 yX8_isRegister wsX8_isRegister) := goodIn_app (goodIn_of _ (by decide +kernel)) ggX8_partSize_X8_isRegister
set_option maxRecDepth 20000 in
theorem ggX8_partSize_X8_in : GoodIn wsX8_partSize wsX8_in := goodIn_r _ [10] (by decide +kernel) (by decide +kernel)
set_option maxRecDepth 20000 in
theorem gX8_partSize_X8_in : GoodIn wsX8_partSize (va_wsS RX8 49 yX8_in wsX8_in) := goodIn_app (goodIn_of _ (by decide +kernel)) ggX8_partSize_X8_in
set_option maxRecDepth 20000 in
theorem ggX8_partSize_X8_load : GoodIn wsX8_partSize wsX8_load := goodIn_r _ [14, 3, 2, 15, 16, 17, 6, 18, 19, 20, 21, 22, 23, 24, 25, 26, 27, 28, 29, 30, 31, 32, 33, 34, 35, 36, 37, 38, 39, 40, 41, 42, 88, 89, 90, 91, 92, 93, 94, 95, 96, 97, 98, 99, 100, 101, 102, 103, 104, 105, 106, 107] (by decide +kernel) (by decide +kernel)
set_option maxRecDepth 20000 in
theorem gX8_partSize_X8_load : GoodIn wsX8_partSize (wsV RX8 116 RX8 yX8_load wsX8_load) := goodIn_app (goodIn_of _ (by decide +kernel)) ggX8_partSize_X8_load
set_option maxRecDepth 20000 in
theorem ggX8_partSize_X8_isOwnSquare : GoodIn wsX8_partSize wsX8_isOwnSquare := goodIn_r _ [46, 47, 48, 49, 6, 50, 51, 52, 53, 54, 2, 3, 39, 40, 41, 42, 55, 56, 57, 58, 59, 60, 61, 62, 27, 28, 29, 30, 63, 64, 65, 66, 88, 89, 90, 91, 92, 93, 94, 95, 96, 97, 98, 99, 100, 101, 102, 103, 104, 105, 106, 107] (by decide +kernel) (by decide +kernel)
set_option maxRecDepth 20000 in
theorem gX8_partSize_X8_isOwnSquare : GoodIn wsX8_partSize (wsV RX8 119 RX8 yX8_isOwnSquare wsX8_isOwnSquare) := goodIn_app (goodIn_of _ (by decide +kernel)) ggX8_partSize_X8_isOwnSquare
set_option maxRecDepth 20000 in
theorem ggX8_partSize_X8_blank : GoodIn wsX8_partSize wsX8_blank := goodIn_r _ [42, 3, 88, 89, 90, 91, 92, 93, 94, 95, 96, 97, 98, 99, 100, 101, 102, 103, 104, 105, 106, 107] (by decide +kernel) (by decide +kernel)
set_option maxRecDepth 20000 in
theorem gX8_partSize_X8_blank : GoodIn wsX8_partSize (wsV RX8 60 RX8 yX8_blank wsX8_blank) := goodIn_app (goodIn_of _ (by decide +kernel)) ggX8_partSize_X8_blank
set_option maxRecDepth 20000 in
theorem ggX8_partSize_X8_part : GoodIn wsX8_partSize wsX8_part := goodIn_r _ [70, 59, 60, 61, 6, 62, 3, 27, 28, 29, 30, 2, 71, 72, 73, 74, 51, 52, 53, 54, 39, 40, 41, 42, 75, 76, 77, 78, 88, 89, 90, 91, 92, 93, 94, 95, 96, 97, 98, 99, 100, 101, 102, 103, 104, 105, 106, 107] (by decide +kernel) (by decide +kernel)
set_option maxRecDepth 20000 in
theorem gX8_partSize_X8_part : GoodIn wsX8_partSize (wsV RX8 122 RX8 yX8_part wsX8_part) := goodIn_app (goodIn_of _ (by decide +kernel)) ggX8_partSize_X8_part
set_option maxRecDepth 20000 in
theorem ggX8_partSize_X8_isNew : GoodIn wsX8_partSize wsX8_isNew := goodIn_r _ [82, 1, 83, 3, 2, 84, 85, 86, 6, 87, 35, 36, 37, 38, 27, 28, 29, 30, 88, 89, 90, 91, 92, 93, 94, 95, 96, 97, 98, 99, 100, 101, 102, 103, 104, 105, 106, 107] (by decide +kernel) (by decide +kernel)
set_option maxRecDepth 20000 in
theorem gX8_partSize_X8_isNew : GoodIn wsX8_partSize (wsV RX8 137 RX8 yX8_isNew wsX8_isNew) := goodIn_app (goodIn_of _ (by decide +kernel)) ggX8_partSize_X8_isNew
theorem dX8_partSize_0 : decode cX8_partSize 0 = .ok (.iload_n 1, 1) := by decide +kernel
theorem dX8_partSize_1 : decode cX8_partSize 1 = .ok (.invokestatic 109, 3) := by decide +kernel
theorem dX8_partSize_4 : decode cX8_partSize 4 = .ok (.ifCond .ne 5, 3) := by decide +kernel
theorem dX8_partSize_7 : decode cX8_partSize 7 = .ok (.iconst (-1), 1) := by decide +kernel
theorem dX8_partSize_8 : decode cX8_partSize 8 = .ok (.ireturn, 1) := by decide +kernel
theorem dX8_partSize_9 : decode cX8_partSize 9 = .ok (.iload_n 2, 1) := by decide +kernel
theorem dX8_partSize_10 : decode cX8_partSize 10 = .ok (.iconst 0, 1) := by decide +kernel
theorem dX8_partSize_11 : decode cX8_partSize 11 = .ok (.iconst 2, 1) := by decide +kernel
theorem dX8_partSize_12 : decode cX8_partSize 12 = .ok (.invokestatic 49, 3) := by decide +kernel
theorem dX8_partSize_15 : decode cX8_partSize 15 = .ok (.ifCond .ne 6, 3) := by decide +kernel
theorem dX8_partSize_18 : decode cX8_partSize 18 = .ok (.bipush (-2), 2) := by decide +kernel
theorem dX8_partSize_20 : decode cX8_partSize 20 = .ok (.ireturn, 1) := by decide +kernel
theorem dX8_partSize_21 : decode cX8_partSize 21 = .ok (.aload_n 0, 1) := by decide +kernel
theorem dX8_partSize_22 : decode cX8_partSize 22 = .ok (.iload_n 1, 1) := by decide +kernel
theorem dX8_partSize_23 : decode cX8_partSize 23 = .ok (.bipush 90, 2) := by decide +kernel
theorem dX8_partSize_25 : decode cX8_partSize 25 = .ok (.invokevirtual 116, 3) := by decide +kernel
theorem dX8_partSize_28 : decode cX8_partSize 28 = .ok (.aload_n 0, 1) := by decide +kernel
theorem dX8_partSize_29 : decode cX8_partSize 29 = .ok (.bipush 90, 2) := by decide +kernel
theorem dX8_partSize_31 : decode cX8_partSize 31 = .ok (.invokevirtual 119, 3) := by decide +kernel
theorem dX8_partSize_34 : decode cX8_partSize 34 = .ok (.ifCond .ne 6, 3) := by decide +kernel
theorem dX8_partSize_37 : decode cX8_partSize 37 = .ok (.bipush (-5), 2) := by decide +kernel
theorem dX8_partSize_39 : decode cX8_partSize 39 = .ok (.ireturn, 1) := by decide +kernel
theorem dX8_partSize_40 : decode cX8_partSize 40 = .ok (.aload_n 0, 1) := by decide +kernel
theorem dX8_partSize_41 : decode cX8_partSize 41 = .ok (.iconst 0, 1) := by decide +kernel
theorem dX8_partSize_42 : decode cX8_partSize 42 = .ok (.putfield 131, 3) := by decide +kernel
theorem dX8_partSize_45 : decode cX8_partSize 45 = .ok (.iconst 0, 1) := by decide +kernel
theorem dX8_partSize_46 : decode cX8_partSize 46 = .ok (.istore_n 3, 1) := by decide +kernel
theorem dX8_partSize_47 : decode cX8_partSize 47 = .ok (.iconst 0, 1) := by decide +kernel
theorem dX8_partSize_48 : decode cX8_partSize 48 = .ok (.istore 4, 2) := by decide +kernel
theorem dX8_partSize_50 : decode cX8_partSize 50 = .ok (.iload 4, 2) := by decide +kernel
theorem dX8_partSize_52 : decode cX8_partSize 52 = .ok (.aload_n 0, 1) := by decide +kernel
theorem dX8_partSize_53 : decode cX8_partSize 53 = .ok (.getfield 7, 3) := by decide +kernel
theorem dX8_partSize_56 : decode cX8_partSize 56 = .ok (.bipush 81, 2) := by decide +kernel
theorem dX8_partSize_58 : decode cX8_partSize 58 = .ok (.iaload, 1) := by decide +kernel
theorem dX8_partSize_59 : decode cX8_partSize 59 = .ok (.if_icmp .ge 91, 3) := by decide +kernel
theorem dX8_partSize_62 : decode cX8_partSize 62 = .ok (.iload 4, 2) := by decide +kernel
theorem dX8_partSize_64 : decode cX8_partSize 64 = .ok (.istore 5, 2) := by decide +kernel
theorem dX8_partSize_66 : decode cX8_partSize 66 = .ok (.iload 5, 2) := by decide +kernel
theorem dX8_partSize_68 : decode cX8_partSize 68 = .ok (.aload_n 0, 1) := by decide +kernel
theorem dX8_partSize_69 : decode cX8_partSize 69 = .ok (.getfield 7, 3) := by decide +kernel
theorem dX8_partSize_72 : decode cX8_partSize 72 = .ok (.bipush 81, 2) := by decide +kernel
theorem dX8_partSize_74 : decode cX8_partSize 74 = .ok (.iaload, 1) := by decide +kernel
theorem dX8_partSize_75 : decode cX8_partSize 75 = .ok (.if_icmp .ge 69, 3) := by decide +kernel
theorem dX8_partSize_78 : decode cX8_partSize 78 = .ok (.aload_n 0, 1) := by decide +kernel
theorem dX8_partSize_79 : decode cX8_partSize 79 = .ok (.bipush 9, 2) := by decide +kernel
theorem dX8_partSize_81 : decode cX8_partSize 81 = .ok (.invokevirtual 60, 3) := by decide +kernel
theorem dX8_partSize_84 : decode cX8_partSize 84 = .ok (.aload_n 0, 1) := by decide +kernel
theorem dX8_partSize_85 : decode cX8_partSize 85 = .ok (.getfield 27, 3) := by decide +kernel
theorem dX8_partSize_88 : decode cX8_partSize 88 = .ok (.bipush 9, 2) := by decide +kernel
theorem dX8_partSize_90 : decode cX8_partSize 90 = .ok (.iconst 3, 1) := by decide +kernel
theorem dX8_partSize_91 : decode cX8_partSize 91 = .ok (.iload 4, 2) := by decide +kernel
theorem dX8_partSize_93 : decode cX8_partSize 93 = .ok (.imul, 1) := by decide +kernel
theorem dX8_partSize_94 : decode cX8_partSize 94 = .ok (.iadd, 1) := by decide +kernel
theorem dX8_partSize_95 : decode cX8_partSize 95 = .ok (.iload 5, 2) := by decide +kernel
theorem dX8_partSize_97 : decode cX8_partSize 97 = .ok (.iadd, 1) := by decide +kernel
theorem dX8_partSize_98 : decode cX8_partSize 98 = .ok (.iconst 1, 1) := by decide +kernel
theorem dX8_partSize_99 : decode cX8_partSize 99 = .ok (.iastore, 1) := by decide +kernel
theorem dX8_partSize_100 : decode cX8_partSize 100 = .ok (.aload_n 0, 1) := by decide +kernel
theorem dX8_partSize_101 : decode cX8_partSize 101 = .ok (.getfield 27, 3) := by decide +kernel
theorem dX8_partSize_104 : decode cX8_partSize 104 = .ok (.bipush 9, 2) := by decide +kernel
theorem dX8_partSize_106 : decode cX8_partSize 106 = .ok (.iconst 3, 1) := by decide +kernel
theorem dX8_partSize_107 : decode cX8_partSize 107 = .ok (.iload 5, 2) := by decide +kernel
theorem dX8_partSize_109 : decode cX8_partSize 109 = .ok (.imul, 1) := by decide +kernel
theorem dX8_partSize_110 : decode cX8_partSize 110 = .ok (.iadd, 1) := by decide +kernel
theorem dX8_partSize_111 : decode cX8_partSize 111 = .ok (.iload 4, 2) := by decide +kernel
theorem dX8_partSize_113 : decode cX8_partSize 113 = .ok (.iadd, 1) := by decide +kernel
theorem dX8_partSize_114 : decode cX8_partSize 114 = .ok (.iconst 1, 1) := by decide +kernel
theorem dX8_partSize_115 : decode cX8_partSize 115 = .ok (.iastore, 1) := by decide +kernel
theorem dX8_partSize_116 : decode cX8_partSize 116 = .ok (.aload_n 0, 1) := by decide +kernel
theorem dX8_partSize_117 : decode cX8_partSize 117 = .ok (.iload_n 2, 1) := by decide +kernel
theorem dX8_partSize_118 : decode cX8_partSize 118 = .ok (.invokevirtual 122, 3) := by decide +kernel
theorem dX8_partSize_121 : decode cX8_partSize 121 = .ok (.iload_n 3, 1) := by decide +kernel
theorem dX8_partSize_122 : decode cX8_partSize 122 = .ok (.aload_n 0, 1) := by decide +kernel
theorem dX8_partSize_123 : decode cX8_partSize 123 = .ok (.bipush 81, 2) := by decide +kernel
theorem dX8_partSize_125 : decode cX8_partSize 125 = .ok (.invokevirtual 137, 3) := by decide +kernel
theorem dX8_partSize_128 : decode cX8_partSize 128 = .ok (.ifCond .eq 7, 3) := by decide +kernel
theorem dX8_partSize_131 : decode cX8_partSize 131 = .ok (.iconst 1, 1) := by decide +kernel
theorem dX8_partSize_132 : decode cX8_partSize 132 = .ok (.goto 4, 3) := by decide +kernel
theorem dX8_partSize_135 : decode cX8_partSize 135 = .ok (.iconst 0, 1) := by decide +kernel
theorem dX8_partSize_136 : decode cX8_partSize 136 = .ok (.iadd, 1) := by decide +kernel
theorem dX8_partSize_137 : decode cX8_partSize 137 = .ok (.istore_n 3, 1) := by decide +kernel
theorem dX8_partSize_138 : decode cX8_partSize 138 = .ok (.iinc 5 1, 3) := by decide +kernel
theorem dX8_partSize_141 : decode cX8_partSize 141 = .ok (.goto (-75), 3) := by decide +kernel
theorem dX8_partSize_144 : decode cX8_partSize 144 = .ok (.iinc 4 1, 3) := by decide +kernel
theorem dX8_partSize_147 : decode cX8_partSize 147 = .ok (.goto (-97), 3) := by decide +kernel
theorem dX8_partSize_150 : decode cX8_partSize 150 = .ok (.iload_n 3, 1) := by decide +kernel
theorem dX8_partSize_151 : decode cX8_partSize 151 = .ok (.ireturn, 1) := by decide +kernel
set_option maxRecDepth 20000 in
theorem ggX8_isOfKind_X8_isOwnSquare : GoodIn wsX8_isOfKind wsX8_isOwnSquare := goodIn_r _ [5, 6, 7, 8, 4, 9, 10, 11, 12, 13, 14, 15, 16, 17, 18, 19, 20, 21, 22, 23, 24, 25, 26, 27, 28, 29, 30, 31, 32, 33, 34, 35, 56, 57, 58, 59, 60, 61, 62, 63, 64, 65, 66, 67, 68, 69, 70, 71, 72, 73, 74, 75] (by decide +kernel) (by decide +kernel)
set_option maxRecDepth 20000 in
theorem gX8_isOfKind_X8_isOwnSquare : GoodIn wsX8_isOfKind (wsV RX8 119 RX8 yX8_isOwnSquare wsX8_isOwnSquare) := goodIn_app (goodIn_of _ (by decide +kernel)) ggX8_isOfKind_X8_isOwnSquare
set_option maxRecDepth 20000 in
theorem ggX8_isOfKind_X8_determinant : GoodIn wsX8_isOfKind wsX8_determinant := goodIn_r _ [39, 14, 15, 28, 29, 30, 4, 31, 40, 41, 42, 43, 56, 57, 58, 59, 60, 61, 62, 63, 64, 65, 66, 67, 68, 69, 70, 71, 72, 73, 74, 75] (by decide +kernel) (by decide +kernel)
set_option maxRecDepth 20000 in
theorem gX8_isOfKind_X8_determinant : GoodIn wsX8_isOfKind (wsV RX8 72 RX8 yX8_determinant wsX8_determinant) := goodIn_app (goodIn_of _ (by decide +kernel)) ggX8_isOfKind_X8_determinant
set_option maxRecDepth 20000 in
theorem ggX8_isOfKind_X8_endOf : GoodIn wsX8_isOfKind wsX8_endOf := goodIn_r _ [47, 48, 49, 50, 4, 51, 15, 52, 53, 54, 55, 6, 7, 8, 9, 10, 11, 12, 13, 14, 16, 17, 18, 19, 20, 21, 22, 23, 24, 25, 26, 27, 28, 29, 30, 31, 56, 57, 58, 59, 60, 61, 62, 63, 64, 65, 66, 67, 68, 69, 70, 71, 72, 73, 74, 75] (by decide +kernel) (by decide +kernel)
set_option maxRecDepth 20000 in
theorem gX8_isOfKind_X8_endOf : GoodIn wsX8_isOfKind (wsV RX8 152 RX8 yX8_endOf wsX8_endOf) := goodIn_app (goodIn_of _ (by decide +kernel)) ggX8_isOfKind_X8_endOf
set_option maxRecDepth 20000 in
theorem ggX8_isOfKind_X8_product : GoodIn wsX8_isOfKind wsX8_product := goodIn_r _ [9, 10, 11, 12, 4, 13, 14, 15, 16, 17, 18, 19, 20, 21, 22, 23, 24, 25, 26, 27, 28, 29, 30, 31, 56, 57, 58, 59, 60, 61, 62, 63, 64, 65, 66, 67, 68, 69, 70, 71, 72, 73, 74, 75] (by decide +kernel) (by decide +kernel)
set_option maxRecDepth 20000 in
theorem gX8_isOfKind_X8_product : GoodIn wsX8_isOfKind (wsV RX8 99 RX8 yX8_product wsX8_product) := goodIn_app (goodIn_of _ (by decide +kernel)) ggX8_isOfKind_X8_product
set_option maxRecDepth 20000 in
theorem ggX8_isOfKind_X8_areAlike : GoodIn wsX8_isOfKind wsX8_areAlike := goodIn_r _ [35, 15, 56, 57, 58, 59, 60, 61, 62, 63, 64, 65, 66, 67, 68, 69, 70, 71, 72, 73, 74, 75] (by decide +kernel) (by decide +kernel)
set_option maxRecDepth 20000 in
theorem gX8_isOfKind_X8_areAlike : GoodIn wsX8_isOfKind (wsV RX8 102 RX8 yX8_areAlike wsX8_areAlike) := goodIn_app (goodIn_of _ (by decide +kernel)) ggX8_isOfKind_X8_areAlike
theorem dX8_isOfKind_0 : decode cX8_isOfKind 0 = .ok (.iload_n 2, 1) := by decide +kernel
theorem dX8_isOfKind_1 : decode cX8_isOfKind 1 = .ok (.tableswitch 63 0 2 #[27, 33, 47], 27) := by decide +kernel
theorem dX8_isOfKind_28 : decode cX8_isOfKind 28 = .ok (.aload_n 0, 1) := by decide +kernel
theorem dX8_isOfKind_29 : decode cX8_isOfKind 29 = .ok (.iload_n 1, 1) := by decide +kernel
theorem dX8_isOfKind_30 : decode cX8_isOfKind 30 = .ok (.invokevirtual 119, 3) := by decide +kernel
theorem dX8_isOfKind_33 : decode cX8_isOfKind 33 = .ok (.ireturn, 1) := by decide +kernel
theorem dX8_isOfKind_34 : decode cX8_isOfKind 34 = .ok (.aload_n 0, 1) := by decide +kernel
theorem dX8_isOfKind_35 : decode cX8_isOfKind 35 = .ok (.iload_n 1, 1) := by decide +kernel
theorem dX8_isOfKind_36 : decode cX8_isOfKind 36 = .ok (.invokevirtual 72, 3) := by decide +kernel
theorem dX8_isOfKind_39 : decode cX8_isOfKind 39 = .ok (.ifCond .eq 7, 3) := by decide +kernel
theorem dX8_isOfKind_42 : decode cX8_isOfKind 42 = .ok (.iconst 1, 1) := by decide +kernel
theorem dX8_isOfKind_43 : decode cX8_isOfKind 43 = .ok (.goto 4, 3) := by decide +kernel
theorem dX8_isOfKind_46 : decode cX8_isOfKind 46 = .ok (.iconst 0, 1) := by decide +kernel
theorem dX8_isOfKind_47 : decode cX8_isOfKind 47 = .ok (.ireturn, 1) := by decide +kernel
theorem dX8_isOfKind_48 : decode cX8_isOfKind 48 = .ok (.aload_n 0, 1) := by decide +kernel
theorem dX8_isOfKind_49 : decode cX8_isOfKind 49 = .ok (.iload_n 1, 1) := by decide +kernel
theorem dX8_isOfKind_50 : decode cX8_isOfKind 50 = .ok (.invokevirtual 152, 3) := by decide +kernel
theorem dX8_isOfKind_53 : decode cX8_isOfKind 53 = .ok (.bipush (-6), 2) := by decide +kernel
theorem dX8_isOfKind_55 : decode cX8_isOfKind 55 = .ok (.if_icmp .eq 7, 3) := by decide +kernel
theorem dX8_isOfKind_58 : decode cX8_isOfKind 58 = .ok (.iconst 1, 1) := by decide +kernel
theorem dX8_isOfKind_59 : decode cX8_isOfKind 59 = .ok (.goto 4, 3) := by decide +kernel
theorem dX8_isOfKind_62 : decode cX8_isOfKind 62 = .ok (.iconst 0, 1) := by decide +kernel
theorem dX8_isOfKind_63 : decode cX8_isOfKind 63 = .ok (.ireturn, 1) := by decide +kernel
theorem dX8_isOfKind_64 : decode cX8_isOfKind 64 = .ok (.aload_n 0, 1) := by decide +kernel
theorem dX8_isOfKind_65 : decode cX8_isOfKind 65 = .ok (.iload_n 1, 1) := by decide +kernel
theorem dX8_isOfKind_66 : decode cX8_isOfKind 66 = .ok (.iload_n 1, 1) := by decide +kernel
theorem dX8_isOfKind_67 : decode cX8_isOfKind 67 = .ok (.bipush 81, 2) := by decide +kernel
theorem dX8_isOfKind_69 : decode cX8_isOfKind 69 = .ok (.invokevirtual 99, 3) := by decide +kernel
theorem dX8_isOfKind_72 : decode cX8_isOfKind 72 = .ok (.aload_n 0, 1) := by decide +kernel
theorem dX8_isOfKind_73 : decode cX8_isOfKind 73 = .ok (.bipush 81, 2) := by decide +kernel
theorem dX8_isOfKind_75 : decode cX8_isOfKind 75 = .ok (.bipush 36, 2) := by decide +kernel
theorem dX8_isOfKind_77 : decode cX8_isOfKind 77 = .ok (.invokevirtual 102, 3) := by decide +kernel
theorem dX8_isOfKind_80 : decode cX8_isOfKind 80 = .ok (.ireturn, 1) := by decide +kernel
set_option maxRecDepth 20000 in
theorem ggX8_howMany_X8_in : GoodIn wsX8_howMany wsX8_in := goodIn_r _ [6] (by decide +kernel) (by decide +kernel)
set_option maxRecDepth 20000 in
theorem gX8_howMany_X8_in : GoodIn wsX8_howMany (va_wsS RX8 49 yX8_in wsX8_in) := goodIn_app (goodIn_of _ (by decide +kernel)) ggX8_howMany_X8_in
set_option maxRecDepth 20000 in
theorem ggX8_howMany_X8_layBase : GoodIn wsX8_howMany wsX8_layBase := goodIn_r _ [10, 2, 1, 11, 12, 13, 5, 14, 15, 16, 17, 18, 19, 20, 21, 22, 23, 24, 25, 26, 27, 28, 29, 30, 31, 32, 33, 34, 75, 76, 77, 78, 79, 80, 81, 82, 83, 84, 85, 86, 87, 88, 89, 90, 91, 92, 93, 94] (by decide +kernel) (by decide +kernel)
set_option maxRecDepth 20000 in
theorem gX8_howMany_X8_layBase : GoodIn wsX8_howMany (wsV RX8 81 RX8 yX8_layBase wsX8_layBase) := goodIn_app (goodIn_of _ (by decide +kernel)) ggX8_howMany_X8_layBase
set_option maxRecDepth 20000 in
theorem ggX8_howMany_X8_blank : GoodIn wsX8_howMany wsX8_blank := goodIn_r _ [34, 2, 75, 76, 77, 78, 79, 80, 81, 82, 83, 84, 85, 86, 87, 88, 89, 90, 91, 92, 93, 94] (by decide +kernel) (by decide +kernel)
set_option maxRecDepth 20000 in
theorem gX8_howMany_X8_blank : GoodIn wsX8_howMany (wsV RX8 60 RX8 yX8_blank wsX8_blank) := goodIn_app (goodIn_of _ (by decide +kernel)) ggX8_howMany_X8_blank
set_option maxRecDepth 20000 in
theorem ggX8_howMany_X8_isOfKind : GoodIn wsX8_howMany wsX8_isOfKind := goodIn_r _ [38, 39, 40, 41, 5, 42, 43, 44, 45, 46, 47, 48, 49, 50, 1, 2, 31, 32, 33, 34, 51, 52, 53, 54, 55, 56, 57, 58, 19, 20, 21, 22, 59, 60, 61, 62, 15, 16, 17, 18, 23, 24, 25, 26, 63, 64, 65, 66, 67, 68, 69, 70, 71, 72, 73, 74, 75, 76, 77, 78, 79, 80, 81, 82, 83, 84, 85, 86, 87, 88, 89, 90, 91, 92, 93, 94] (by decide +kernel) (by decide +kernel)
set_option maxRecDepth 20000 in
theorem gX8_howMany_X8_isOfKind : GoodIn wsX8_howMany (wsV RX8 162 RX8 yX8_isOfKind wsX8_isOfKind) := goodIn_app (goodIn_of _ (by decide +kernel)) ggX8_howMany_X8_isOfKind
theorem dX8_howMany_0 : decode cX8_howMany 0 = .ok (.iload_n 1, 1) := by decide +kernel
theorem dX8_howMany_1 : decode cX8_howMany 1 = .ok (.iconst 0, 1) := by decide +kernel
theorem dX8_howMany_2 : decode cX8_howMany 2 = .ok (.iconst 3, 1) := by decide +kernel
theorem dX8_howMany_3 : decode cX8_howMany 3 = .ok (.invokestatic 49, 3) := by decide +kernel
theorem dX8_howMany_6 : decode cX8_howMany 6 = .ok (.ifCond .ne 6, 3) := by decide +kernel
theorem dX8_howMany_9 : decode cX8_howMany 9 = .ok (.bipush (-2), 2) := by decide +kernel
theorem dX8_howMany_11 : decode cX8_howMany 11 = .ok (.ireturn, 1) := by decide +kernel
theorem dX8_howMany_12 : decode cX8_howMany 12 = .ok (.aload_n 0, 1) := by decide +kernel
theorem dX8_howMany_13 : decode cX8_howMany 13 = .ok (.getfield 7, 3) := by decide +kernel
theorem dX8_howMany_16 : decode cX8_howMany 16 = .ok (.bipush 81, 2) := by decide +kernel
theorem dX8_howMany_18 : decode cX8_howMany 18 = .ok (.iaload, 1) := by decide +kernel
theorem dX8_howMany_19 : decode cX8_howMany 19 = .ok (.iconst 3, 1) := by decide +kernel
theorem dX8_howMany_20 : decode cX8_howMany 20 = .ok (.if_icmp .ne 6, 3) := by decide +kernel
theorem dX8_howMany_23 : decode cX8_howMany 23 = .ok (.bipush (-5), 2) := by decide +kernel
theorem dX8_howMany_25 : decode cX8_howMany 25 = .ok (.ireturn, 1) := by decide +kernel
theorem dX8_howMany_26 : decode cX8_howMany 26 = .ok (.aload_n 0, 1) := by decide +kernel
theorem dX8_howMany_27 : decode cX8_howMany 27 = .ok (.invokevirtual 81, 3) := by decide +kernel
theorem dX8_howMany_30 : decode cX8_howMany 30 = .ok (.aload_n 0, 1) := by decide +kernel
theorem dX8_howMany_31 : decode cX8_howMany 31 = .ok (.getfield 7, 3) := by decide +kernel
theorem dX8_howMany_34 : decode cX8_howMany 34 = .ok (.bipush 82, 2) := by decide +kernel
theorem dX8_howMany_36 : decode cX8_howMany 36 = .ok (.iaload, 1) := by decide +kernel
theorem dX8_howMany_37 : decode cX8_howMany 37 = .ok (.istore_n 2, 1) := by decide +kernel
theorem dX8_howMany_38 : decode cX8_howMany 38 = .ok (.iconst 0, 1) := by decide +kernel
theorem dX8_howMany_39 : decode cX8_howMany 39 = .ok (.istore_n 3, 1) := by decide +kernel
theorem dX8_howMany_40 : decode cX8_howMany 40 = .ok (.iconst 0, 1) := by decide +kernel
theorem dX8_howMany_41 : decode cX8_howMany 41 = .ok (.istore 4, 2) := by decide +kernel
theorem dX8_howMany_43 : decode cX8_howMany 43 = .ok (.iload 4, 2) := by decide +kernel
theorem dX8_howMany_45 : decode cX8_howMany 45 = .ok (.iload_n 2, 1) := by decide +kernel
theorem dX8_howMany_46 : decode cX8_howMany 46 = .ok (.iload_n 2, 1) := by decide +kernel
theorem dX8_howMany_47 : decode cX8_howMany 47 = .ok (.imul, 1) := by decide +kernel
theorem dX8_howMany_48 : decode cX8_howMany 48 = .ok (.iload_n 2, 1) := by decide +kernel
theorem dX8_howMany_49 : decode cX8_howMany 49 = .ok (.imul, 1) := by decide +kernel
theorem dX8_howMany_50 : decode cX8_howMany 50 = .ok (.if_icmp .ge 77, 3) := by decide +kernel
theorem dX8_howMany_53 : decode cX8_howMany 53 = .ok (.aload_n 0, 1) := by decide +kernel
theorem dX8_howMany_54 : decode cX8_howMany 54 = .ok (.iconst 0, 1) := by decide +kernel
theorem dX8_howMany_55 : decode cX8_howMany 55 = .ok (.invokevirtual 60, 3) := by decide +kernel
theorem dX8_howMany_58 : decode cX8_howMany 58 = .ok (.aload_n 0, 1) := by decide +kernel
theorem dX8_howMany_59 : decode cX8_howMany 59 = .ok (.getfield 27, 3) := by decide +kernel
theorem dX8_howMany_62 : decode cX8_howMany 62 = .ok (.iconst 0, 1) := by decide +kernel
theorem dX8_howMany_63 : decode cX8_howMany 63 = .ok (.iload 4, 2) := by decide +kernel
theorem dX8_howMany_65 : decode cX8_howMany 65 = .ok (.iload_n 2, 1) := by decide +kernel
theorem dX8_howMany_66 : decode cX8_howMany 66 = .ok (.irem, 1) := by decide +kernel
theorem dX8_howMany_67 : decode cX8_howMany 67 = .ok (.iastore, 1) := by decide +kernel
theorem dX8_howMany_68 : decode cX8_howMany 68 = .ok (.aload_n 0, 1) := by decide +kernel
theorem dX8_howMany_69 : decode cX8_howMany 69 = .ok (.getfield 27, 3) := by decide +kernel
theorem dX8_howMany_72 : decode cX8_howMany 72 = .ok (.iconst 1, 1) := by decide +kernel
theorem dX8_howMany_73 : decode cX8_howMany 73 = .ok (.iload 4, 2) := by decide +kernel
theorem dX8_howMany_75 : decode cX8_howMany 75 = .ok (.iload_n 2, 1) := by decide +kernel
theorem dX8_howMany_76 : decode cX8_howMany 76 = .ok (.idiv, 1) := by decide +kernel
theorem dX8_howMany_77 : decode cX8_howMany 77 = .ok (.iload_n 2, 1) := by decide +kernel
theorem dX8_howMany_78 : decode cX8_howMany 78 = .ok (.irem, 1) := by decide +kernel
theorem dX8_howMany_79 : decode cX8_howMany 79 = .ok (.iastore, 1) := by decide +kernel
theorem dX8_howMany_80 : decode cX8_howMany 80 = .ok (.aload_n 0, 1) := by decide +kernel
theorem dX8_howMany_81 : decode cX8_howMany 81 = .ok (.getfield 27, 3) := by decide +kernel
theorem dX8_howMany_84 : decode cX8_howMany 84 = .ok (.iconst 3, 1) := by decide +kernel
theorem dX8_howMany_85 : decode cX8_howMany 85 = .ok (.iload 4, 2) := by decide +kernel
theorem dX8_howMany_87 : decode cX8_howMany 87 = .ok (.iload_n 2, 1) := by decide +kernel
theorem dX8_howMany_88 : decode cX8_howMany 88 = .ok (.idiv, 1) := by decide +kernel
theorem dX8_howMany_89 : decode cX8_howMany 89 = .ok (.iload_n 2, 1) := by decide +kernel
theorem dX8_howMany_90 : decode cX8_howMany 90 = .ok (.irem, 1) := by decide +kernel
theorem dX8_howMany_91 : decode cX8_howMany 91 = .ok (.iastore, 1) := by decide +kernel
theorem dX8_howMany_92 : decode cX8_howMany 92 = .ok (.aload_n 0, 1) := by decide +kernel
theorem dX8_howMany_93 : decode cX8_howMany 93 = .ok (.getfield 27, 3) := by decide +kernel
theorem dX8_howMany_96 : decode cX8_howMany 96 = .ok (.iconst 4, 1) := by decide +kernel
theorem dX8_howMany_97 : decode cX8_howMany 97 = .ok (.iload 4, 2) := by decide +kernel
theorem dX8_howMany_99 : decode cX8_howMany 99 = .ok (.iload_n 2, 1) := by decide +kernel
theorem dX8_howMany_100 : decode cX8_howMany 100 = .ok (.idiv, 1) := by decide +kernel
theorem dX8_howMany_101 : decode cX8_howMany 101 = .ok (.iload_n 2, 1) := by decide +kernel
theorem dX8_howMany_102 : decode cX8_howMany 102 = .ok (.idiv, 1) := by decide +kernel
theorem dX8_howMany_103 : decode cX8_howMany 103 = .ok (.iastore, 1) := by decide +kernel
theorem dX8_howMany_104 : decode cX8_howMany 104 = .ok (.iload_n 3, 1) := by decide +kernel
theorem dX8_howMany_105 : decode cX8_howMany 105 = .ok (.aload_n 0, 1) := by decide +kernel
theorem dX8_howMany_106 : decode cX8_howMany 106 = .ok (.iconst 0, 1) := by decide +kernel
theorem dX8_howMany_107 : decode cX8_howMany 107 = .ok (.iload_n 1, 1) := by decide +kernel
theorem dX8_howMany_108 : decode cX8_howMany 108 = .ok (.invokevirtual 162, 3) := by decide +kernel
theorem dX8_howMany_111 : decode cX8_howMany 111 = .ok (.ifCond .eq 7, 3) := by decide +kernel
theorem dX8_howMany_114 : decode cX8_howMany 114 = .ok (.iconst 1, 1) := by decide +kernel
theorem dX8_howMany_115 : decode cX8_howMany 115 = .ok (.goto 4, 3) := by decide +kernel
theorem dX8_howMany_118 : decode cX8_howMany 118 = .ok (.iconst 0, 1) := by decide +kernel
theorem dX8_howMany_119 : decode cX8_howMany 119 = .ok (.iadd, 1) := by decide +kernel
theorem dX8_howMany_120 : decode cX8_howMany 120 = .ok (.istore_n 3, 1) := by decide +kernel
theorem dX8_howMany_121 : decode cX8_howMany 121 = .ok (.iinc 4 1, 3) := by decide +kernel
theorem dX8_howMany_124 : decode cX8_howMany 124 = .ok (.goto (-81), 3) := by decide +kernel
theorem dX8_howMany_127 : decode cX8_howMany 127 = .ok (.iload_n 3, 1) := by decide +kernel
theorem dX8_howMany_128 : decode cX8_howMany 128 = .ok (.ireturn, 1) := by decide +kernel
set_option maxRecDepth 20000 in
theorem ggX8_put_X8_in : GoodIn wsX8_put wsX8_in := goodIn_r _ [7] (by decide +kernel) (by decide +kernel)
set_option maxRecDepth 20000 in
theorem gX8_put_X8_in : GoodIn wsX8_put (va_wsS RX8 49 yX8_in wsX8_in) := goodIn_app (goodIn_of _ (by decide +kernel)) ggX8_put_X8_in
theorem dX8_put_0 : decode cX8_put 0 = .ok (.iconst 0, 1) := by decide +kernel
theorem dX8_put_1 : decode cX8_put 1 = .ok (.istore_n 3, 1) := by decide +kernel
theorem dX8_put_2 : decode cX8_put 2 = .ok (.lload_n 1, 1) := by decide +kernel
theorem dX8_put_3 : decode cX8_put 3 = .ok (.lstore 4, 2) := by decide +kernel
theorem dX8_put_5 : decode cX8_put 5 = .ok (.iconst 1, 1) := by decide +kernel
theorem dX8_put_6 : decode cX8_put 6 = .ok (.istore 6, 2) := by decide +kernel
theorem dX8_put_8 : decode cX8_put 8 = .ok (.lload 4, 2) := by decide +kernel
theorem dX8_put_10 : decode cX8_put 10 = .ok (.lconst 0, 1) := by decide +kernel
theorem dX8_put_11 : decode cX8_put 11 = .ok (.lcmp, 1) := by decide +kernel
theorem dX8_put_12 : decode cX8_put 12 = .ok (.ifCond .eq 37, 3) := by decide +kernel
theorem dX8_put_15 : decode cX8_put 15 = .ok (.iload 6, 2) := by decide +kernel
theorem dX8_put_17 : decode cX8_put 17 = .ok (.ifCond .eq 32, 3) := by decide +kernel
theorem dX8_put_20 : decode cX8_put 20 = .ok (.lload 4, 2) := by decide +kernel
theorem dX8_put_22 : decode cX8_put 22 = .ok (.ldc2_w 165, 3) := by decide +kernel
theorem dX8_put_25 : decode cX8_put 25 = .ok (.land, 1) := by decide +kernel
theorem dX8_put_26 : decode cX8_put 26 = .ok (.l2i, 1) := by decide +kernel
theorem dX8_put_27 : decode cX8_put 27 = .ok (.bipush 33, 2) := by decide +kernel
theorem dX8_put_29 : decode cX8_put 29 = .ok (.bipush 126, 2) := by decide +kernel
theorem dX8_put_31 : decode cX8_put 31 = .ok (.invokestatic 49, 3) := by decide +kernel
theorem dX8_put_34 : decode cX8_put 34 = .ok (.istore 6, 2) := by decide +kernel
theorem dX8_put_36 : decode cX8_put 36 = .ok (.lload 4, 2) := by decide +kernel
theorem dX8_put_38 : decode cX8_put 38 = .ok (.bipush 8, 2) := by decide +kernel
theorem dX8_put_40 : decode cX8_put 40 = .ok (.lushr, 1) := by decide +kernel
theorem dX8_put_41 : decode cX8_put 41 = .ok (.lstore 4, 2) := by decide +kernel
theorem dX8_put_43 : decode cX8_put 43 = .ok (.iinc 3 1, 3) := by decide +kernel
theorem dX8_put_46 : decode cX8_put 46 = .ok (.goto (-38), 3) := by decide +kernel
theorem dX8_put_49 : decode cX8_put 49 = .ok (.iload_n 3, 1) := by decide +kernel
theorem dX8_put_50 : decode cX8_put 50 = .ok (.ifCond .eq 8, 3) := by decide +kernel
theorem dX8_put_53 : decode cX8_put 53 = .ok (.iload 6, 2) := by decide +kernel
theorem dX8_put_55 : decode cX8_put 55 = .ok (.ifCond .ne 6, 3) := by decide +kernel
theorem dX8_put_58 : decode cX8_put 58 = .ok (.bipush (-2), 2) := by decide +kernel
theorem dX8_put_60 : decode cX8_put 60 = .ok (.ireturn, 1) := by decide +kernel
theorem dX8_put_61 : decode cX8_put 61 = .ok (.aload_n 0, 1) := by decide +kernel
theorem dX8_put_62 : decode cX8_put 62 = .ok (.getfield 159, 3) := by decide +kernel
theorem dX8_put_65 : decode cX8_put 65 = .ok (.iload_n 3, 1) := by decide +kernel
theorem dX8_put_66 : decode cX8_put 66 = .ok (.iadd, 1) := by decide +kernel
theorem dX8_put_67 : decode cX8_put 67 = .ok (.bipush 60, 2) := by decide +kernel
theorem dX8_put_69 : decode cX8_put 69 = .ok (.if_icmp .le 6, 3) := by decide +kernel
theorem dX8_put_72 : decode cX8_put 72 = .ok (.bipush (-4), 2) := by decide +kernel
theorem dX8_put_74 : decode cX8_put 74 = .ok (.ireturn, 1) := by decide +kernel
theorem dX8_put_75 : decode cX8_put 75 = .ok (.iload_n 3, 1) := by decide +kernel
theorem dX8_put_76 : decode cX8_put 76 = .ok (.iconst 1, 1) := by decide +kernel
theorem dX8_put_77 : decode cX8_put 77 = .ok (.isub, 1) := by decide +kernel
theorem dX8_put_78 : decode cX8_put 78 = .ok (.istore 7, 2) := by decide +kernel
theorem dX8_put_80 : decode cX8_put 80 = .ok (.iload 7, 2) := by decide +kernel
theorem dX8_put_82 : decode cX8_put 82 = .ok (.ifCond .lt 41, 3) := by decide +kernel
theorem dX8_put_85 : decode cX8_put 85 = .ok (.aload_n 0, 1) := by decide +kernel
theorem dX8_put_86 : decode cX8_put 86 = .ok (.getfield 23, 3) := by decide +kernel
theorem dX8_put_89 : decode cX8_put 89 = .ok (.aload_n 0, 1) := by decide +kernel
theorem dX8_put_90 : decode cX8_put 90 = .ok (.getfield 159, 3) := by decide +kernel
theorem dX8_put_93 : decode cX8_put 93 = .ok (.lload_n 1, 1) := by decide +kernel
theorem dX8_put_94 : decode cX8_put 94 = .ok (.bipush 8, 2) := by decide +kernel
theorem dX8_put_96 : decode cX8_put 96 = .ok (.iload 7, 2) := by decide +kernel
theorem dX8_put_98 : decode cX8_put 98 = .ok (.imul, 1) := by decide +kernel
theorem dX8_put_99 : decode cX8_put 99 = .ok (.lushr, 1) := by decide +kernel
theorem dX8_put_100 : decode cX8_put 100 = .ok (.ldc2_w 165, 3) := by decide +kernel
theorem dX8_put_103 : decode cX8_put 103 = .ok (.land, 1) := by decide +kernel
theorem dX8_put_104 : decode cX8_put 104 = .ok (.l2i, 1) := by decide +kernel
theorem dX8_put_105 : decode cX8_put 105 = .ok (.i2c, 1) := by decide +kernel
theorem dX8_put_106 : decode cX8_put 106 = .ok (.castore, 1) := by decide +kernel
theorem dX8_put_107 : decode cX8_put 107 = .ok (.aload_n 0, 1) := by decide +kernel
theorem dX8_put_108 : decode cX8_put 108 = .ok (.dup, 1) := by decide +kernel
theorem dX8_put_109 : decode cX8_put 109 = .ok (.getfield 159, 3) := by decide +kernel
theorem dX8_put_112 : decode cX8_put 112 = .ok (.iconst 1, 1) := by decide +kernel
theorem dX8_put_113 : decode cX8_put 113 = .ok (.iadd, 1) := by decide +kernel
theorem dX8_put_114 : decode cX8_put 114 = .ok (.putfield 159, 3) := by decide +kernel
theorem dX8_put_117 : decode cX8_put 117 = .ok (.iinc 7 (-1), 3) := by decide +kernel
theorem dX8_put_120 : decode cX8_put 120 = .ok (.goto (-40), 3) := by decide +kernel
theorem dX8_put_123 : decode cX8_put 123 = .ok (.aload_n 0, 1) := by decide +kernel
theorem dX8_put_124 : decode cX8_put 124 = .ok (.getfield 159, 3) := by decide +kernel
theorem dX8_put_127 : decode cX8_put 127 = .ok (.ireturn, 1) := by decide +kernel
theorem dX8_wipe_0 : decode cX8_wipe 0 = .ok (.aload_n 0, 1) := by decide +kernel
theorem dX8_wipe_1 : decode cX8_wipe 1 = .ok (.getfield 159, 3) := by decide +kernel
theorem dX8_wipe_4 : decode cX8_wipe 4 = .ok (.istore_n 1, 1) := by decide +kernel
theorem dX8_wipe_5 : decode cX8_wipe 5 = .ok (.aload_n 0, 1) := by decide +kernel
theorem dX8_wipe_6 : decode cX8_wipe 6 = .ok (.iconst 0, 1) := by decide +kernel
theorem dX8_wipe_7 : decode cX8_wipe 7 = .ok (.putfield 159, 3) := by decide +kernel
theorem dX8_wipe_10 : decode cX8_wipe 10 = .ok (.iload_n 1, 1) := by decide +kernel
theorem dX8_wipe_11 : decode cX8_wipe 11 = .ok (.ireturn, 1) := by decide +kernel
theorem dX8_isOne_0 : decode cX8_isOne 0 = .ok (.iload_n 0, 1) := by decide +kernel
theorem dX8_isOne_1 : decode cX8_isOne 1 = .ok (.bipush 65, 2) := by decide +kernel
theorem dX8_isOne_3 : decode cX8_isOne 3 = .ok (.if_icmp .lt 9, 3) := by decide +kernel
theorem dX8_isOne_6 : decode cX8_isOne 6 = .ok (.iload_n 0, 1) := by decide +kernel
theorem dX8_isOne_7 : decode cX8_isOne 7 = .ok (.bipush 72, 2) := by decide +kernel
theorem dX8_isOne_9 : decode cX8_isOne 9 = .ok (.if_icmp .le 9, 3) := by decide +kernel
theorem dX8_isOne_12 : decode cX8_isOne 12 = .ok (.iload_n 0, 1) := by decide +kernel
theorem dX8_isOne_13 : decode cX8_isOne 13 = .ok (.bipush 105, 2) := by decide +kernel
theorem dX8_isOne_15 : decode cX8_isOne 15 = .ok (.if_icmp .ne 7, 3) := by decide +kernel
theorem dX8_isOne_18 : decode cX8_isOne 18 = .ok (.iconst 1, 1) := by decide +kernel
theorem dX8_isOne_19 : decode cX8_isOne 19 = .ok (.goto 4, 3) := by decide +kernel
theorem dX8_isOne_22 : decode cX8_isOne 22 = .ok (.iconst 0, 1) := by decide +kernel
theorem dX8_isOne_23 : decode cX8_isOne 23 = .ok (.ireturn, 1) := by decide +kernel
theorem dX8_isLetter_0 : decode cX8_isLetter 0 = .ok (.iload_n 0, 1) := by decide +kernel
theorem dX8_isLetter_1 : decode cX8_isLetter 1 = .ok (.bipush 112, 2) := by decide +kernel
theorem dX8_isLetter_3 : decode cX8_isLetter 3 = .ok (.if_icmp .eq 21, 3) := by decide +kernel
theorem dX8_isLetter_6 : decode cX8_isLetter 6 = .ok (.iload_n 0, 1) := by decide +kernel
theorem dX8_isLetter_7 : decode cX8_isLetter 7 = .ok (.bipush 117, 2) := by decide +kernel
theorem dX8_isLetter_9 : decode cX8_isLetter 9 = .ok (.if_icmp .eq 15, 3) := by decide +kernel
theorem dX8_isLetter_12 : decode cX8_isLetter 12 = .ok (.iload_n 0, 1) := by decide +kernel
theorem dX8_isLetter_13 : decode cX8_isLetter 13 = .ok (.bipush 116, 2) := by decide +kernel
theorem dX8_isLetter_15 : decode cX8_isLetter 15 = .ok (.if_icmp .eq 9, 3) := by decide +kernel
theorem dX8_isLetter_18 : decode cX8_isLetter 18 = .ok (.iload_n 0, 1) := by decide +kernel
theorem dX8_isLetter_19 : decode cX8_isLetter 19 = .ok (.bipush 118, 2) := by decide +kernel
theorem dX8_isLetter_21 : decode cX8_isLetter 21 = .ok (.if_icmp .ne 7, 3) := by decide +kernel
theorem dX8_isLetter_24 : decode cX8_isLetter 24 = .ok (.iconst 1, 1) := by decide +kernel
theorem dX8_isLetter_25 : decode cX8_isLetter 25 = .ok (.goto 4, 3) := by decide +kernel
theorem dX8_isLetter_28 : decode cX8_isLetter 28 = .ok (.iconst 0, 1) := by decide +kernel
theorem dX8_isLetter_29 : decode cX8_isLetter 29 = .ok (.ireturn, 1) := by decide +kernel
theorem dX8_sumsOf_0 : decode cX8_sumsOf 0 = .ok (.iload_n 1, 1) := by decide +kernel
theorem dX8_sumsOf_1 : decode cX8_sumsOf 1 = .ok (.bipush 116, 2) := by decide +kernel
theorem dX8_sumsOf_3 : decode cX8_sumsOf 3 = .ok (.if_icmp .ne 7, 3) := by decide +kernel
theorem dX8_sumsOf_6 : decode cX8_sumsOf 6 = .ok (.iconst 3, 1) := by decide +kernel
theorem dX8_sumsOf_7 : decode cX8_sumsOf 7 = .ok (.goto 20, 3) := by decide +kernel
theorem dX8_sumsOf_10 : decode cX8_sumsOf 10 = .ok (.iload_n 1, 1) := by decide +kernel
theorem dX8_sumsOf_11 : decode cX8_sumsOf 11 = .ok (.bipush 112, 2) := by decide +kernel
theorem dX8_sumsOf_13 : decode cX8_sumsOf 13 = .ok (.if_icmp .eq 9, 3) := by decide +kernel
theorem dX8_sumsOf_16 : decode cX8_sumsOf 16 = .ok (.iload_n 1, 1) := by decide +kernel
theorem dX8_sumsOf_17 : decode cX8_sumsOf 17 = .ok (.bipush 117, 2) := by decide +kernel
theorem dX8_sumsOf_19 : decode cX8_sumsOf 19 = .ok (.if_icmp .ne 7, 3) := by decide +kernel
theorem dX8_sumsOf_22 : decode cX8_sumsOf 22 = .ok (.iconst 2, 1) := by decide +kernel
theorem dX8_sumsOf_23 : decode cX8_sumsOf 23 = .ok (.goto 4, 3) := by decide +kernel
theorem dX8_sumsOf_26 : decode cX8_sumsOf 26 = .ok (.iconst 1, 1) := by decide +kernel
theorem dX8_sumsOf_27 : decode cX8_sumsOf 27 = .ok (.ireturn, 1) := by decide +kernel
theorem dX8_pileOf_0 : decode cX8_pileOf 0 = .ok (.sipush 144, 3) := by decide +kernel
theorem dX8_pileOf_3 : decode cX8_pileOf 3 = .ok (.bipush 27, 2) := by decide +kernel
theorem dX8_pileOf_5 : decode cX8_pileOf 5 = .ok (.iload_n 1, 1) := by decide +kernel
theorem dX8_pileOf_6 : decode cX8_pileOf 6 = .ok (.imul, 1) := by decide +kernel
theorem dX8_pileOf_7 : decode cX8_pileOf 7 = .ok (.iadd, 1) := by decide +kernel
theorem dX8_pileOf_8 : decode cX8_pileOf 8 = .ok (.bipush 9, 2) := by decide +kernel
theorem dX8_pileOf_10 : decode cX8_pileOf 10 = .ok (.iload_n 2, 1) := by decide +kernel
theorem dX8_pileOf_11 : decode cX8_pileOf 11 = .ok (.imul, 1) := by decide +kernel
theorem dX8_pileOf_12 : decode cX8_pileOf 12 = .ok (.iadd, 1) := by decide +kernel
theorem dX8_pileOf_13 : decode cX8_pileOf 13 = .ok (.ireturn, 1) := by decide +kernel
set_option maxRecDepth 20000 in
theorem ggX8_opens_X8_pileOf : GoodIn wsX8_opens wsX8_pileOf := goodIn_r _ [10] (by decide +kernel) (by decide +kernel)
set_option maxRecDepth 20000 in
theorem gX8_opens_X8_pileOf : GoodIn wsX8_opens (wsV RX8 170 RX8 yX8_pileOf wsX8_pileOf) := goodIn_app (goodIn_of _ (by decide +kernel)) ggX8_opens_X8_pileOf
set_option maxRecDepth 20000 in
theorem ggX8_opens_X8_blank : GoodIn wsX8_opens wsX8_blank := goodIn_r _ [14, 15, 16, 17, 18, 19, 20, 21, 22, 23, 24, 25, 26, 27, 28, 29, 30, 31, 32, 33, 34, 35] (by decide +kernel) (by decide +kernel)
set_option maxRecDepth 20000 in
theorem gX8_opens_X8_blank : GoodIn wsX8_opens (wsV RX8 60 RX8 yX8_blank wsX8_blank) := goodIn_app (goodIn_of _ (by decide +kernel)) ggX8_opens_X8_blank
theorem dX8_opens_0 : decode cX8_opens 0 = .ok (.aload_n 0, 1) := by decide +kernel
theorem dX8_opens_1 : decode cX8_opens 1 = .ok (.dup, 1) := by decide +kernel
theorem dX8_opens_2 : decode cX8_opens 2 = .ok (.getfield 167, 3) := by decide +kernel
theorem dX8_opens_5 : decode cX8_opens 5 = .ok (.iconst 1, 1) := by decide +kernel
theorem dX8_opens_6 : decode cX8_opens 6 = .ok (.iadd, 1) := by decide +kernel
theorem dX8_opens_7 : decode cX8_opens 7 = .ok (.putfield 167, 3) := by decide +kernel
theorem dX8_opens_10 : decode cX8_opens 10 = .ok (.aload_n 0, 1) := by decide +kernel
theorem dX8_opens_11 : decode cX8_opens 11 = .ok (.getfield 33, 3) := by decide +kernel
theorem dX8_opens_14 : decode cX8_opens 14 = .ok (.aload_n 0, 1) := by decide +kernel
theorem dX8_opens_15 : decode cX8_opens 15 = .ok (.getfield 167, 3) := by decide +kernel
theorem dX8_opens_18 : decode cX8_opens 18 = .ok (.iload_n 1, 1) := by decide +kernel
theorem dX8_opens_19 : decode cX8_opens 19 = .ok (.iastore, 1) := by decide +kernel
theorem dX8_opens_20 : decode cX8_opens 20 = .ok (.aload_n 0, 1) := by decide +kernel
theorem dX8_opens_21 : decode cX8_opens 21 = .ok (.getfield 42, 3) := by decide +kernel
theorem dX8_opens_24 : decode cX8_opens 24 = .ok (.aload_n 0, 1) := by decide +kernel
theorem dX8_opens_25 : decode cX8_opens 25 = .ok (.getfield 167, 3) := by decide +kernel
theorem dX8_opens_28 : decode cX8_opens 28 = .ok (.iload_n 2, 1) := by decide +kernel
theorem dX8_opens_29 : decode cX8_opens 29 = .ok (.iastore, 1) := by decide +kernel
theorem dX8_opens_30 : decode cX8_opens 30 = .ok (.aload_n 0, 1) := by decide +kernel
theorem dX8_opens_31 : decode cX8_opens 31 = .ok (.getfield 36, 3) := by decide +kernel
theorem dX8_opens_34 : decode cX8_opens 34 = .ok (.aload_n 0, 1) := by decide +kernel
theorem dX8_opens_35 : decode cX8_opens 35 = .ok (.getfield 167, 3) := by decide +kernel
theorem dX8_opens_38 : decode cX8_opens 38 = .ok (.iconst 0, 1) := by decide +kernel
theorem dX8_opens_39 : decode cX8_opens 39 = .ok (.iastore, 1) := by decide +kernel
theorem dX8_opens_40 : decode cX8_opens 40 = .ok (.aload_n 0, 1) := by decide +kernel
theorem dX8_opens_41 : decode cX8_opens 41 = .ok (.getfield 39, 3) := by decide +kernel
theorem dX8_opens_44 : decode cX8_opens 44 = .ok (.aload_n 0, 1) := by decide +kernel
theorem dX8_opens_45 : decode cX8_opens 45 = .ok (.getfield 167, 3) := by decide +kernel
theorem dX8_opens_48 : decode cX8_opens 48 = .ok (.iconst 1, 1) := by decide +kernel
theorem dX8_opens_49 : decode cX8_opens 49 = .ok (.iastore, 1) := by decide +kernel
theorem dX8_opens_50 : decode cX8_opens 50 = .ok (.aload_n 0, 1) := by decide +kernel
theorem dX8_opens_51 : decode cX8_opens 51 = .ok (.aload_n 0, 1) := by decide +kernel
theorem dX8_opens_52 : decode cX8_opens 52 = .ok (.aload_n 0, 1) := by decide +kernel
theorem dX8_opens_53 : decode cX8_opens 53 = .ok (.getfield 167, 3) := by decide +kernel
theorem dX8_opens_56 : decode cX8_opens 56 = .ok (.iconst 0, 1) := by decide +kernel
theorem dX8_opens_57 : decode cX8_opens 57 = .ok (.invokevirtual 170, 3) := by decide +kernel
theorem dX8_opens_60 : decode cX8_opens 60 = .ok (.invokevirtual 60, 3) := by decide +kernel
theorem dX8_opens_63 : decode cX8_opens 63 = .ok (.return_, 1) := by decide +kernel
set_option maxRecDepth 20000 in
theorem ggX8_counts_X8_pileOf : GoodIn wsX8_counts wsX8_pileOf := goodIn_r _ [10] (by decide +kernel) (by decide +kernel)
set_option maxRecDepth 20000 in
theorem gX8_counts_X8_pileOf : GoodIn wsX8_counts (wsV RX8 170 RX8 yX8_pileOf wsX8_pileOf) := goodIn_app (goodIn_of _ (by decide +kernel)) ggX8_counts_X8_pileOf
set_option maxRecDepth 20000 in
theorem ggX8_counts_X8_add : GoodIn wsX8_counts wsX8_add := goodIn_r _ [14, 15, 16, 17, 18, 9, 19, 20, 21, 22, 23, 24, 25, 26, 27, 28, 29, 30, 31, 32, 33, 34, 35, 36, 37, 38, 39, 40] (by decide +kernel) (by decide +kernel)
set_option maxRecDepth 20000 in
theorem gX8_counts_X8_add : GoodIn wsX8_counts (wsV RX8 92 RX8 yX8_add wsX8_add) := goodIn_app (goodIn_of _ (by decide +kernel)) ggX8_counts_X8_add
theorem dX8_counts_0 : decode cX8_counts 0 = .ok (.aload_n 0, 1) := by decide +kernel
theorem dX8_counts_1 : decode cX8_counts 1 = .ok (.aload_n 0, 1) := by decide +kernel
theorem dX8_counts_2 : decode cX8_counts 2 = .ok (.getfield 167, 3) := by decide +kernel
theorem dX8_counts_5 : decode cX8_counts 5 = .ok (.aload_n 0, 1) := by decide +kernel
theorem dX8_counts_6 : decode cX8_counts 6 = .ok (.getfield 36, 3) := by decide +kernel
theorem dX8_counts_9 : decode cX8_counts 9 = .ok (.aload_n 0, 1) := by decide +kernel
theorem dX8_counts_10 : decode cX8_counts 10 = .ok (.getfield 167, 3) := by decide +kernel
theorem dX8_counts_13 : decode cX8_counts 13 = .ok (.iaload, 1) := by decide +kernel
theorem dX8_counts_14 : decode cX8_counts 14 = .ok (.invokevirtual 170, 3) := by decide +kernel
theorem dX8_counts_17 : decode cX8_counts 17 = .ok (.istore_n 2, 1) := by decide +kernel
theorem dX8_counts_18 : decode cX8_counts 18 = .ok (.aload_n 0, 1) := by decide +kernel
theorem dX8_counts_19 : decode cX8_counts 19 = .ok (.getfield 174, 3) := by decide +kernel
theorem dX8_counts_22 : decode cX8_counts 22 = .ok (.ifCond .eq 20, 3) := by decide +kernel
theorem dX8_counts_25 : decode cX8_counts 25 = .ok (.aload_n 0, 1) := by decide +kernel
theorem dX8_counts_26 : decode cX8_counts 26 = .ok (.iload_n 2, 1) := by decide +kernel
theorem dX8_counts_27 : decode cX8_counts 27 = .ok (.iconst 1, 1) := by decide +kernel
theorem dX8_counts_28 : decode cX8_counts 28 = .ok (.iload_n 1, 1) := by decide +kernel
theorem dX8_counts_29 : decode cX8_counts 29 = .ok (.aload_n 0, 1) := by decide +kernel
theorem dX8_counts_30 : decode cX8_counts 30 = .ok (.getfield 39, 3) := by decide +kernel
theorem dX8_counts_33 : decode cX8_counts 33 = .ok (.aload_n 0, 1) := by decide +kernel
theorem dX8_counts_34 : decode cX8_counts 34 = .ok (.getfield 167, 3) := by decide +kernel
theorem dX8_counts_37 : decode cX8_counts 37 = .ok (.iaload, 1) := by decide +kernel
theorem dX8_counts_38 : decode cX8_counts 38 = .ok (.iload_n 2, 1) := by decide +kernel
theorem dX8_counts_39 : decode cX8_counts 39 = .ok (.invokevirtual 92, 3) := by decide +kernel
theorem dX8_counts_42 : decode cX8_counts 42 = .ok (.aload_n 0, 1) := by decide +kernel
theorem dX8_counts_43 : decode cX8_counts 43 = .ok (.iconst 4, 1) := by decide +kernel
theorem dX8_counts_44 : decode cX8_counts 44 = .ok (.putfield 178, 3) := by decide +kernel
theorem dX8_counts_47 : decode cX8_counts 47 = .ok (.return_, 1) := by decide +kernel
set_option maxRecDepth 20000 in
theorem ggX8_closes_X8_pileOf : GoodIn wsX8_closes wsX8_pileOf := goodIn_r _ [11] (by decide +kernel) (by decide +kernel)
set_option maxRecDepth 20000 in
theorem gX8_closes_X8_pileOf : GoodIn wsX8_closes (wsV RX8 170 RX8 yX8_pileOf wsX8_pileOf) := goodIn_app (goodIn_of _ (by decide +kernel)) ggX8_closes_X8_pileOf
set_option maxRecDepth 20000 in
theorem ggX8_closes_X8_product : GoodIn wsX8_closes wsX8_product := goodIn_r _ [15, 16, 17, 18, 10, 19, 20, 21, 22, 23, 24, 25, 26, 27, 28, 29, 30, 31, 32, 33, 34, 35, 36, 37, 76, 77, 78, 79, 80, 81, 82, 83, 84, 85, 86, 87, 88, 89, 90, 91, 92, 93, 94, 95] (by decide +kernel) (by decide +kernel)
set_option maxRecDepth 20000 in
theorem gX8_closes_X8_product : GoodIn wsX8_closes (wsV RX8 99 RX8 yX8_product wsX8_product) := goodIn_app (goodIn_of _ (by decide +kernel)) ggX8_closes_X8_product
set_option maxRecDepth 20000 in
theorem ggX8_closes_X8_operator : GoodIn wsX8_closes wsX8_operator := goodIn_r _ [41, 16, 17, 18, 10, 19, 20, 21, 22, 23, 24, 25, 42, 43, 44, 45, 76, 77, 78, 79, 80, 81, 82, 83, 84, 85, 86, 87, 88, 89, 90, 91, 92, 93, 94, 95] (by decide +kernel) (by decide +kernel)
set_option maxRecDepth 20000 in
theorem gX8_closes_X8_operator : GoodIn wsX8_closes (wsV RX8 106 RX8 yX8_operator wsX8_operator) := goodIn_app (goodIn_of _ (by decide +kernel)) ggX8_closes_X8_operator
set_option maxRecDepth 20000 in
theorem ggX8_closes_X8_triple : GoodIn wsX8_closes wsX8_triple := goodIn_r _ [49, 16, 17, 18, 10, 19, 20, 21, 22, 23, 24, 25, 26, 27, 28, 29, 30, 31, 32, 33, 34, 35, 36, 37, 76, 77, 78, 79, 80, 81, 82, 83, 84, 85, 86, 87, 88, 89, 90, 91, 92, 93, 94, 95] (by decide +kernel) (by decide +kernel)
set_option maxRecDepth 20000 in
theorem gX8_closes_X8_triple : GoodIn wsX8_closes (wsV RX8 181 RX8 yX8_triple wsX8_triple) := goodIn_app (goodIn_of _ (by decide +kernel)) ggX8_closes_X8_triple
set_option maxRecDepth 20000 in
theorem ggX8_closes_X8_inverse : GoodIn wsX8_closes wsX8_inverse := goodIn_r _ [53, 54, 55, 56, 10, 57, 20, 21, 34, 35, 36, 37, 58, 59, 60, 61, 62, 63, 64, 65, 66, 67, 68, 69, 22, 23, 24, 25, 16, 17, 18, 19, 42, 43, 44, 45, 76, 77, 78, 79, 80, 81, 82, 83, 84, 85, 86, 87, 88, 89, 90, 91, 92, 93, 94, 95] (by decide +kernel) (by decide +kernel)
set_option maxRecDepth 20000 in
theorem gX8_closes_X8_inverse : GoodIn wsX8_closes (wsV RX8 185 RX8 yX8_inverse wsX8_inverse) := goodIn_app (goodIn_of _ (by decide +kernel)) ggX8_closes_X8_inverse
set_option maxRecDepth 20000 in
theorem ggX8_closes_X8_copy : GoodIn wsX8_closes wsX8_copy := goodIn_r _ [45, 21, 76, 77, 78, 79, 80, 81, 82, 83, 84, 85, 86, 87, 88, 89, 90, 91, 92, 93, 94, 95] (by decide +kernel) (by decide +kernel)
set_option maxRecDepth 20000 in
theorem gX8_closes_X8_copy : GoodIn wsX8_closes (wsV RX8 96 RX8 yX8_copy wsX8_copy) := goodIn_app (goodIn_of _ (by decide +kernel)) ggX8_closes_X8_copy
set_option maxRecDepth 20000 in
theorem ggX8_closes_X8_counts : GoodIn wsX8_closes wsX8_counts := goodIn_r _ [73, 1, 2, 3, 74, 75, 7, 8, 9, 10, 11, 30, 31, 32, 33, 21, 34, 35, 36, 37, 20, 76, 77, 78, 79, 80, 81, 82, 83, 84, 85, 86, 87, 88, 89, 90, 91, 92, 93, 94, 95] (by decide +kernel) (by decide +kernel)
set_option maxRecDepth 20000 in
theorem gX8_closes_X8_counts : GoodIn wsX8_closes (wsV RX8 191 RX8 yX8_counts wsX8_counts) := goodIn_app (goodIn_of _ (by decide +kernel)) ggX8_closes_X8_counts
theorem dX8_closes_0 : decode cX8_closes 0 = .ok (.aload_n 0, 1) := by decide +kernel
theorem dX8_closes_1 : decode cX8_closes 1 = .ok (.getfield 167, 3) := by decide +kernel
theorem dX8_closes_4 : decode cX8_closes 4 = .ok (.istore_n 1, 1) := by decide +kernel
theorem dX8_closes_5 : decode cX8_closes 5 = .ok (.aload_n 0, 1) := by decide +kernel
theorem dX8_closes_6 : decode cX8_closes 6 = .ok (.iload_n 1, 1) := by decide +kernel
theorem dX8_closes_7 : decode cX8_closes 7 = .ok (.aload_n 0, 1) := by decide +kernel
theorem dX8_closes_8 : decode cX8_closes 8 = .ok (.getfield 36, 3) := by decide +kernel
theorem dX8_closes_11 : decode cX8_closes 11 = .ok (.iload_n 1, 1) := by decide +kernel
theorem dX8_closes_12 : decode cX8_closes 12 = .ok (.iaload, 1) := by decide +kernel
theorem dX8_closes_13 : decode cX8_closes 13 = .ok (.invokevirtual 170, 3) := by decide +kernel
theorem dX8_closes_16 : decode cX8_closes 16 = .ok (.istore_n 2, 1) := by decide +kernel
theorem dX8_closes_17 : decode cX8_closes 17 = .ok (.aload_n 0, 1) := by decide +kernel
theorem dX8_closes_18 : decode cX8_closes 18 = .ok (.dup, 1) := by decide +kernel
theorem dX8_closes_19 : decode cX8_closes 19 = .ok (.getfield 167, 3) := by decide +kernel
theorem dX8_closes_22 : decode cX8_closes 22 = .ok (.iconst 1, 1) := by decide +kernel
theorem dX8_closes_23 : decode cX8_closes 23 = .ok (.isub, 1) := by decide +kernel
theorem dX8_closes_24 : decode cX8_closes 24 = .ok (.putfield 167, 3) := by decide +kernel
theorem dX8_closes_27 : decode cX8_closes 27 = .ok (.aload_n 0, 1) := by decide +kernel
theorem dX8_closes_28 : decode cX8_closes 28 = .ok (.getfield 174, 3) := by decide +kernel
theorem dX8_closes_31 : decode cX8_closes 31 = .ok (.ifCond .eq 141, 3) := by decide +kernel
theorem dX8_closes_34 : decode cX8_closes 34 = .ok (.aload_n 0, 1) := by decide +kernel
theorem dX8_closes_35 : decode cX8_closes 35 = .ok (.getfield 33, 3) := by decide +kernel
theorem dX8_closes_38 : decode cX8_closes 38 = .ok (.iload_n 1, 1) := by decide +kernel
theorem dX8_closes_39 : decode cX8_closes 39 = .ok (.iaload, 1) := by decide +kernel
theorem dX8_closes_40 : decode cX8_closes 40 = .ok (.bipush 112, 2) := by decide +kernel
theorem dX8_closes_42 : decode cX8_closes 42 = .ok (.if_icmp .ne 20, 3) := by decide +kernel
theorem dX8_closes_45 : decode cX8_closes 45 = .ok (.aload_n 0, 1) := by decide +kernel
theorem dX8_closes_46 : decode cX8_closes 46 = .ok (.aload_n 0, 1) := by decide +kernel
theorem dX8_closes_47 : decode cX8_closes 47 = .ok (.iload_n 1, 1) := by decide +kernel
theorem dX8_closes_48 : decode cX8_closes 48 = .ok (.iconst 0, 1) := by decide +kernel
theorem dX8_closes_49 : decode cX8_closes 49 = .ok (.invokevirtual 170, 3) := by decide +kernel
theorem dX8_closes_52 : decode cX8_closes 52 = .ok (.iload_n 2, 1) := by decide +kernel
theorem dX8_closes_53 : decode cX8_closes 53 = .ok (.sipush 135, 3) := by decide +kernel
theorem dX8_closes_56 : decode cX8_closes 56 = .ok (.invokevirtual 99, 3) := by decide +kernel
theorem dX8_closes_59 : decode cX8_closes 59 = .ok (.goto 113, 3) := by decide +kernel
theorem dX8_closes_62 : decode cX8_closes 62 = .ok (.aload_n 0, 1) := by decide +kernel
theorem dX8_closes_63 : decode cX8_closes 63 = .ok (.getfield 33, 3) := by decide +kernel
theorem dX8_closes_66 : decode cX8_closes 66 = .ok (.iload_n 1, 1) := by decide +kernel
theorem dX8_closes_67 : decode cX8_closes 67 = .ok (.iaload, 1) := by decide +kernel
theorem dX8_closes_68 : decode cX8_closes 68 = .ok (.bipush 117, 2) := by decide +kernel
theorem dX8_closes_70 : decode cX8_closes 70 = .ok (.if_icmp .ne 20, 3) := by decide +kernel
theorem dX8_closes_73 : decode cX8_closes 73 = .ok (.aload_n 0, 1) := by decide +kernel
theorem dX8_closes_74 : decode cX8_closes 74 = .ok (.aload_n 0, 1) := by decide +kernel
theorem dX8_closes_75 : decode cX8_closes 75 = .ok (.iload_n 1, 1) := by decide +kernel
theorem dX8_closes_76 : decode cX8_closes 76 = .ok (.iconst 0, 1) := by decide +kernel
theorem dX8_closes_77 : decode cX8_closes 77 = .ok (.invokevirtual 170, 3) := by decide +kernel
theorem dX8_closes_80 : decode cX8_closes 80 = .ok (.iload_n 2, 1) := by decide +kernel
theorem dX8_closes_81 : decode cX8_closes 81 = .ok (.sipush 135, 3) := by decide +kernel
theorem dX8_closes_84 : decode cX8_closes 84 = .ok (.invokevirtual 106, 3) := by decide +kernel
theorem dX8_closes_87 : decode cX8_closes 87 = .ok (.goto 85, 3) := by decide +kernel
theorem dX8_closes_90 : decode cX8_closes 90 = .ok (.aload_n 0, 1) := by decide +kernel
theorem dX8_closes_91 : decode cX8_closes 91 = .ok (.getfield 33, 3) := by decide +kernel
theorem dX8_closes_94 : decode cX8_closes 94 = .ok (.iload_n 1, 1) := by decide +kernel
theorem dX8_closes_95 : decode cX8_closes 95 = .ok (.iaload, 1) := by decide +kernel
theorem dX8_closes_96 : decode cX8_closes 96 = .ok (.bipush 116, 2) := by decide +kernel
theorem dX8_closes_98 : decode cX8_closes 98 = .ok (.if_icmp .ne 26, 3) := by decide +kernel
theorem dX8_closes_101 : decode cX8_closes 101 = .ok (.aload_n 0, 1) := by decide +kernel
theorem dX8_closes_102 : decode cX8_closes 102 = .ok (.aload_n 0, 1) := by decide +kernel
theorem dX8_closes_103 : decode cX8_closes 103 = .ok (.iload_n 1, 1) := by decide +kernel
theorem dX8_closes_104 : decode cX8_closes 104 = .ok (.iconst 0, 1) := by decide +kernel
theorem dX8_closes_105 : decode cX8_closes 105 = .ok (.invokevirtual 170, 3) := by decide +kernel
theorem dX8_closes_108 : decode cX8_closes 108 = .ok (.aload_n 0, 1) := by decide +kernel
theorem dX8_closes_109 : decode cX8_closes 109 = .ok (.iload_n 1, 1) := by decide +kernel
theorem dX8_closes_110 : decode cX8_closes 110 = .ok (.iconst 1, 1) := by decide +kernel
theorem dX8_closes_111 : decode cX8_closes 111 = .ok (.invokevirtual 170, 3) := by decide +kernel
theorem dX8_closes_114 : decode cX8_closes 114 = .ok (.iload_n 2, 1) := by decide +kernel
theorem dX8_closes_115 : decode cX8_closes 115 = .ok (.sipush 135, 3) := by decide +kernel
theorem dX8_closes_118 : decode cX8_closes 118 = .ok (.invokevirtual 181, 3) := by decide +kernel
theorem dX8_closes_121 : decode cX8_closes 121 = .ok (.goto 51, 3) := by decide +kernel
theorem dX8_closes_124 : decode cX8_closes 124 = .ok (.aload_n 0, 1) := by decide +kernel
theorem dX8_closes_125 : decode cX8_closes 125 = .ok (.getfield 33, 3) := by decide +kernel
theorem dX8_closes_128 : decode cX8_closes 128 = .ok (.iload_n 1, 1) := by decide +kernel
theorem dX8_closes_129 : decode cX8_closes 129 = .ok (.iaload, 1) := by decide +kernel
theorem dX8_closes_130 : decode cX8_closes 130 = .ok (.bipush 118, 2) := by decide +kernel
theorem dX8_closes_132 : decode cX8_closes 132 = .ok (.if_icmp .ne 32, 3) := by decide +kernel
theorem dX8_closes_135 : decode cX8_closes 135 = .ok (.aload_n 0, 1) := by decide +kernel
theorem dX8_closes_136 : decode cX8_closes 136 = .ok (.iload_n 2, 1) := by decide +kernel
theorem dX8_closes_137 : decode cX8_closes 137 = .ok (.sipush 135, 3) := by decide +kernel
theorem dX8_closes_140 : decode cX8_closes 140 = .ok (.invokevirtual 185, 3) := by decide +kernel
theorem dX8_closes_143 : decode cX8_closes 143 = .ok (.ifCond .ne 29, 3) := by decide +kernel
theorem dX8_closes_146 : decode cX8_closes 146 = .ok (.aload_n 0, 1) := by decide +kernel
theorem dX8_closes_147 : decode cX8_closes 147 = .ok (.aload_n 0, 1) := by decide +kernel
theorem dX8_closes_148 : decode cX8_closes 148 = .ok (.getfield 42, 3) := by decide +kernel
theorem dX8_closes_151 : decode cX8_closes 151 = .ok (.iload_n 1, 1) := by decide +kernel
theorem dX8_closes_152 : decode cX8_closes 152 = .ok (.iaload, 1) := by decide +kernel
theorem dX8_closes_153 : decode cX8_closes 153 = .ok (.putfield 188, 3) := by decide +kernel
theorem dX8_closes_156 : decode cX8_closes 156 = .ok (.aload_n 0, 1) := by decide +kernel
theorem dX8_closes_157 : decode cX8_closes 157 = .ok (.iconst 0, 1) := by decide +kernel
theorem dX8_closes_158 : decode cX8_closes 158 = .ok (.putfield 174, 3) := by decide +kernel
theorem dX8_closes_161 : decode cX8_closes 161 = .ok (.goto 11, 3) := by decide +kernel
theorem dX8_closes_164 : decode cX8_closes 164 = .ok (.aload_n 0, 1) := by decide +kernel
theorem dX8_closes_165 : decode cX8_closes 165 = .ok (.iload_n 2, 1) := by decide +kernel
theorem dX8_closes_166 : decode cX8_closes 166 = .ok (.sipush 135, 3) := by decide +kernel
theorem dX8_closes_169 : decode cX8_closes 169 = .ok (.invokevirtual 96, 3) := by decide +kernel
theorem dX8_closes_172 : decode cX8_closes 172 = .ok (.aload_n 0, 1) := by decide +kernel
theorem dX8_closes_173 : decode cX8_closes 173 = .ok (.sipush 135, 3) := by decide +kernel
theorem dX8_closes_176 : decode cX8_closes 176 = .ok (.invokevirtual 191, 3) := by decide +kernel
theorem dX8_closes_179 : decode cX8_closes 179 = .ok (.return_, 1) := by decide +kernel
set_option maxRecDepth 20000 in
theorem ggX8_factor_X8_isOne : GoodIn wsX8_factor wsX8_isOne := goodIn_r _ [5] (by decide +kernel) (by decide +kernel)
set_option maxRecDepth 20000 in
theorem gX8_factor_X8_isOne : GoodIn wsX8_factor (va_wsS RX8 194 yX8_isOne wsX8_isOne) := goodIn_app (goodIn_of _ (by decide +kernel)) ggX8_factor_X8_isOne
set_option maxRecDepth 20000 in
theorem ggX8_factor_X8_load : GoodIn wsX8_factor wsX8_load := goodIn_r _ [9, 10, 11, 12, 13, 14, 4, 15, 16, 17, 18, 19, 20, 21, 22, 23, 24, 25, 26, 27, 28, 29, 30, 31, 32, 33, 34, 35, 36, 37, 38, 39, 65, 66, 67, 68, 69, 70, 71, 72, 73, 74, 75, 76, 77, 78, 79, 80, 81, 82, 83, 84] (by decide +kernel) (by decide +kernel)
set_option maxRecDepth 20000 in
theorem gX8_factor_X8_load : GoodIn wsX8_factor (wsV RX8 116 RX8 yX8_load wsX8_load) := goodIn_app (goodIn_of _ (by decide +kernel)) ggX8_factor_X8_load
set_option maxRecDepth 20000 in
theorem ggX8_factor_X8_counts : GoodIn wsX8_factor wsX8_counts := goodIn_r _ [43, 44, 45, 46, 47, 1, 48, 49, 50, 4, 51, 52, 53, 54, 55, 10, 24, 25, 26, 27, 11, 65, 66, 67, 68, 69, 70, 71, 72, 73, 74, 75, 76, 77, 78, 79, 80, 81, 82, 83, 84] (by decide +kernel) (by decide +kernel)
set_option maxRecDepth 20000 in
theorem gX8_factor_X8_counts : GoodIn wsX8_factor (wsV RX8 191 RX8 yX8_counts wsX8_counts) := goodIn_app (goodIn_of _ (by decide +kernel)) ggX8_factor_X8_counts
set_option maxRecDepth 20000 in
theorem ggX8_factor_X8_isLetter : GoodIn wsX8_factor wsX8_isLetter := goodIn_r _ [58] (by decide +kernel) (by decide +kernel)
set_option maxRecDepth 20000 in
theorem gX8_factor_X8_isLetter : GoodIn wsX8_factor (va_wsS RX8 197 yX8_isLetter wsX8_isLetter) := goodIn_app (goodIn_of _ (by decide +kernel)) ggX8_factor_X8_isLetter
set_option maxRecDepth 20000 in
theorem ggX8_factor_X8_opens : GoodIn wsX8_factor wsX8_opens := goodIn_r _ [62, 44, 63, 64, 45, 47, 48, 49, 50, 4, 51, 36, 37, 38, 39, 10, 65, 66, 67, 68, 69, 70, 71, 72, 73, 74, 75, 76, 77, 78, 79, 80, 81, 82, 83, 84] (by decide +kernel) (by decide +kernel)
set_option maxRecDepth 20000 in
theorem gX8_factor_X8_opens : GoodIn wsX8_factor (wsV RX8 200 RX8 yX8_opens wsX8_opens) := goodIn_app (goodIn_of _ (by decide +kernel)) ggX8_factor_X8_opens
theorem dX8_factor_0 : decode cX8_factor 0 = .ok (.iload_n 1, 1) := by decide +kernel
theorem dX8_factor_1 : decode cX8_factor 1 = .ok (.invokestatic 194, 3) := by decide +kernel
theorem dX8_factor_4 : decode cX8_factor 4 = .ok (.ifCond .eq 34, 3) := by decide +kernel
theorem dX8_factor_7 : decode cX8_factor 7 = .ok (.aload_n 0, 1) := by decide +kernel
theorem dX8_factor_8 : decode cX8_factor 8 = .ok (.iload_n 1, 1) := by decide +kernel
theorem dX8_factor_9 : decode cX8_factor 9 = .ok (.bipush 105, 2) := by decide +kernel
theorem dX8_factor_11 : decode cX8_factor 11 = .ok (.if_icmp .ne 8, 3) := by decide +kernel
theorem dX8_factor_14 : decode cX8_factor 14 = .ok (.bipush 9, 2) := by decide +kernel
theorem dX8_factor_16 : decode cX8_factor 16 = .ok (.goto 7, 3) := by decide +kernel
theorem dX8_factor_19 : decode cX8_factor 19 = .ok (.iload_n 1, 1) := by decide +kernel
theorem dX8_factor_20 : decode cX8_factor 20 = .ok (.bipush 65, 2) := by decide +kernel
theorem dX8_factor_22 : decode cX8_factor 22 = .ok (.isub, 1) := by decide +kernel
theorem dX8_factor_23 : decode cX8_factor 23 = .ok (.sipush 135, 3) := by decide +kernel
theorem dX8_factor_26 : decode cX8_factor 26 = .ok (.invokevirtual 116, 3) := by decide +kernel
theorem dX8_factor_29 : decode cX8_factor 29 = .ok (.aload_n 0, 1) := by decide +kernel
theorem dX8_factor_30 : decode cX8_factor 30 = .ok (.sipush 135, 3) := by decide +kernel
theorem dX8_factor_33 : decode cX8_factor 33 = .ok (.invokevirtual 191, 3) := by decide +kernel
theorem dX8_factor_36 : decode cX8_factor 36 = .ok (.iconst 1, 1) := by decide +kernel
theorem dX8_factor_37 : decode cX8_factor 37 = .ok (.ireturn, 1) := by decide +kernel
theorem dX8_factor_38 : decode cX8_factor 38 = .ok (.iload_n 1, 1) := by decide +kernel
theorem dX8_factor_39 : decode cX8_factor 39 = .ok (.bipush 40, 2) := by decide +kernel
theorem dX8_factor_41 : decode cX8_factor 41 = .ok (.if_icmp .eq 10, 3) := by decide +kernel
theorem dX8_factor_44 : decode cX8_factor 44 = .ok (.iload_n 1, 1) := by decide +kernel
theorem dX8_factor_45 : decode cX8_factor 45 = .ok (.invokestatic 197, 3) := by decide +kernel
theorem dX8_factor_48 : decode cX8_factor 48 = .ok (.ifCond .eq 26, 3) := by decide +kernel
theorem dX8_factor_51 : decode cX8_factor 51 = .ok (.aload_n 0, 1) := by decide +kernel
theorem dX8_factor_52 : decode cX8_factor 52 = .ok (.iload_n 1, 1) := by decide +kernel
theorem dX8_factor_53 : decode cX8_factor 53 = .ok (.iload_n 2, 1) := by decide +kernel
theorem dX8_factor_54 : decode cX8_factor 54 = .ok (.invokevirtual 200, 3) := by decide +kernel
theorem dX8_factor_57 : decode cX8_factor 57 = .ok (.aload_n 0, 1) := by decide +kernel
theorem dX8_factor_58 : decode cX8_factor 58 = .ok (.iload_n 1, 1) := by decide +kernel
theorem dX8_factor_59 : decode cX8_factor 59 = .ok (.bipush 40, 2) := by decide +kernel
theorem dX8_factor_61 : decode cX8_factor 61 = .ok (.if_icmp .ne 7, 3) := by decide +kernel
theorem dX8_factor_64 : decode cX8_factor 64 = .ok (.iconst 0, 1) := by decide +kernel
theorem dX8_factor_65 : decode cX8_factor 65 = .ok (.goto 4, 3) := by decide +kernel
theorem dX8_factor_68 : decode cX8_factor 68 = .ok (.iconst 3, 1) := by decide +kernel
theorem dX8_factor_69 : decode cX8_factor 69 = .ok (.putfield 178, 3) := by decide +kernel
theorem dX8_factor_72 : decode cX8_factor 72 = .ok (.iconst 1, 1) := by decide +kernel
theorem dX8_factor_73 : decode cX8_factor 73 = .ok (.ireturn, 1) := by decide +kernel
theorem dX8_factor_74 : decode cX8_factor 74 = .ok (.iconst 0, 1) := by decide +kernel
theorem dX8_factor_75 : decode cX8_factor 75 = .ok (.ireturn, 1) := by decide +kernel
set_option maxRecDepth 20000 in
theorem ggX8_behind_X8_sumsOf : GoodIn wsX8_behind wsX8_sumsOf := goodIn_r _ [13] (by decide +kernel) (by decide +kernel)
set_option maxRecDepth 20000 in
theorem gX8_behind_X8_sumsOf : GoodIn wsX8_behind (wsV RX8 203 RX8 yX8_sumsOf wsX8_sumsOf) := goodIn_app (goodIn_of _ (by decide +kernel)) ggX8_behind_X8_sumsOf
set_option maxRecDepth 20000 in
theorem ggX8_behind_X8_pileOf : GoodIn wsX8_behind wsX8_pileOf := goodIn_r _ [17] (by decide +kernel) (by decide +kernel)
set_option maxRecDepth 20000 in
theorem gX8_behind_X8_pileOf : GoodIn wsX8_behind (wsV RX8 170 RX8 yX8_pileOf wsX8_pileOf) := goodIn_app (goodIn_of _ (by decide +kernel)) ggX8_behind_X8_pileOf
set_option maxRecDepth 20000 in
theorem ggX8_behind_X8_blank : GoodIn wsX8_behind wsX8_blank := goodIn_r _ [21, 22, 90, 91, 92, 93, 94, 95, 96, 97, 98, 99, 100, 101, 102, 103, 104, 105, 106, 107, 108, 109] (by decide +kernel) (by decide +kernel)
set_option maxRecDepth 20000 in
theorem gX8_behind_X8_blank : GoodIn wsX8_behind (wsV RX8 60 RX8 yX8_blank wsX8_blank) := goodIn_app (goodIn_of _ (by decide +kernel)) ggX8_behind_X8_blank
set_option maxRecDepth 20000 in
theorem ggX8_behind_X8_closes : GoodIn wsX8_behind wsX8_closes := goodIn_r _ [26, 1, 2, 27, 3, 28, 29, 14, 15, 16, 12, 17, 30, 31, 32, 33, 34, 35, 36, 37, 38, 22, 18, 19, 20, 21, 39, 40, 41, 42, 43, 44, 45, 46, 47, 48, 49, 50, 51, 52, 53, 54, 55, 56, 57, 58, 59, 60, 61, 62, 63, 64, 65, 66, 67, 68, 69, 70, 71, 72, 73, 74, 75, 76, 77, 78, 79, 80, 81, 82, 83, 84, 85, 86, 4, 5, 90, 91, 92, 93, 94, 95, 96, 97, 98, 99, 100, 101, 102, 103, 104, 105, 106, 107, 108, 109] (by decide +kernel) (by decide +kernel)
set_option maxRecDepth 20000 in
theorem gX8_behind_X8_closes : GoodIn wsX8_behind (wsV RX8 206 RX8 yX8_closes wsX8_closes) := goodIn_app (goodIn_of _ (by decide +kernel)) ggX8_behind_X8_closes
end
section
set_option maxRecDepth 20000 in
theorem ggX8_behind_X8_isOne : GoodIn wsX8_behind wsX8_isOne := goodIn_r _ [89] (by decide +kernel) (by decide +kernel)
set_option maxRecDepth 20000 in
theorem gX8_behind_X8_isOne : GoodIn wsX8_behind (va_wsS RX8 194 yX8_isOne wsX8_isOne) := goodIn_app (goodIn_of _ (by decide +kernel)) ggX8_behind_X8_isOne
set_option maxRecDepth 20000 in
theorem ggX8_behind_X8_copy : GoodIn wsX8_behind wsX8_copy := goodIn_r _ [58, 22, 90, 91, 92, 93, 94, 95, 96, 97, 98, 99, 100, 101, 102, 103, 104, 105, 106, 107, 108, 109] (by decide +kernel) (by decide +kernel)
set_option maxRecDepth 20000 in
theorem gX8_behind_X8_copy : GoodIn wsX8_behind (wsV RX8 96 RX8 yX8_copy wsX8_copy) := goodIn_app (goodIn_of _ (by decide +kernel)) ggX8_behind_X8_copy
theorem dX8_behind_0 : decode cX8_behind 0 = .ok (.aload_n 0, 1) := by decide +kernel
theorem dX8_behind_1 : decode cX8_behind 1 = .ok (.getfield 167, 3) := by decide +kernel
theorem dX8_behind_4 : decode cX8_behind 4 = .ok (.ifCond .ne 7, 3) := by decide +kernel
theorem dX8_behind_7 : decode cX8_behind 7 = .ok (.iconst 1, 1) := by decide +kernel
theorem dX8_behind_8 : decode cX8_behind 8 = .ok (.goto 4, 3) := by decide +kernel
theorem dX8_behind_11 : decode cX8_behind 11 = .ok (.iconst 0, 1) := by decide +kernel
theorem dX8_behind_12 : decode cX8_behind 12 = .ok (.istore_n 3, 1) := by decide +kernel
theorem dX8_behind_13 : decode cX8_behind 13 = .ok (.iload_n 3, 1) := by decide +kernel
theorem dX8_behind_14 : decode cX8_behind 14 = .ok (.ifCond .ne 34, 3) := by decide +kernel
theorem dX8_behind_17 : decode cX8_behind 17 = .ok (.aload_n 0, 1) := by decide +kernel
theorem dX8_behind_18 : decode cX8_behind 18 = .ok (.getfield 36, 3) := by decide +kernel
theorem dX8_behind_21 : decode cX8_behind 21 = .ok (.aload_n 0, 1) := by decide +kernel
theorem dX8_behind_22 : decode cX8_behind 22 = .ok (.getfield 167, 3) := by decide +kernel
theorem dX8_behind_25 : decode cX8_behind 25 = .ok (.iaload, 1) := by decide +kernel
theorem dX8_behind_26 : decode cX8_behind 26 = .ok (.iconst 1, 1) := by decide +kernel
theorem dX8_behind_27 : decode cX8_behind 27 = .ok (.iadd, 1) := by decide +kernel
theorem dX8_behind_28 : decode cX8_behind 28 = .ok (.aload_n 0, 1) := by decide +kernel
theorem dX8_behind_29 : decode cX8_behind 29 = .ok (.aload_n 0, 1) := by decide +kernel
theorem dX8_behind_30 : decode cX8_behind 30 = .ok (.getfield 33, 3) := by decide +kernel
theorem dX8_behind_33 : decode cX8_behind 33 = .ok (.aload_n 0, 1) := by decide +kernel
theorem dX8_behind_34 : decode cX8_behind 34 = .ok (.getfield 167, 3) := by decide +kernel
theorem dX8_behind_37 : decode cX8_behind 37 = .ok (.iaload, 1) := by decide +kernel
theorem dX8_behind_38 : decode cX8_behind 38 = .ok (.invokevirtual 203, 3) := by decide +kernel
theorem dX8_behind_41 : decode cX8_behind 41 = .ok (.if_icmp .ne 7, 3) := by decide +kernel
theorem dX8_behind_44 : decode cX8_behind 44 = .ok (.iconst 1, 1) := by decide +kernel
theorem dX8_behind_45 : decode cX8_behind 45 = .ok (.goto 4, 3) := by decide +kernel
theorem dX8_behind_48 : decode cX8_behind 48 = .ok (.iconst 0, 1) := by decide +kernel
theorem dX8_behind_49 : decode cX8_behind 49 = .ok (.istore 4, 2) := by decide +kernel
theorem dX8_behind_51 : decode cX8_behind 51 = .ok (.iload_n 1, 1) := by decide +kernel
theorem dX8_behind_52 : decode cX8_behind 52 = .ok (.bipush 43, 2) := by decide +kernel
theorem dX8_behind_54 : decode cX8_behind 54 = .ok (.if_icmp .eq 9, 3) := by decide +kernel
theorem dX8_behind_57 : decode cX8_behind 57 = .ok (.iload_n 1, 1) := by decide +kernel
theorem dX8_behind_58 : decode cX8_behind 58 = .ok (.bipush 45, 2) := by decide +kernel
theorem dX8_behind_60 : decode cX8_behind 60 = .ok (.if_icmp .ne 30, 3) := by decide +kernel
theorem dX8_behind_63 : decode cX8_behind 63 = .ok (.aload_n 0, 1) := by decide +kernel
theorem dX8_behind_64 : decode cX8_behind 64 = .ok (.getfield 39, 3) := by decide +kernel
theorem dX8_behind_67 : decode cX8_behind 67 = .ok (.aload_n 0, 1) := by decide +kernel
theorem dX8_behind_68 : decode cX8_behind 68 = .ok (.getfield 167, 3) := by decide +kernel
theorem dX8_behind_71 : decode cX8_behind 71 = .ok (.iload_n 1, 1) := by decide +kernel
theorem dX8_behind_72 : decode cX8_behind 72 = .ok (.bipush 43, 2) := by decide +kernel
theorem dX8_behind_74 : decode cX8_behind 74 = .ok (.if_icmp .ne 7, 3) := by decide +kernel
theorem dX8_behind_77 : decode cX8_behind 77 = .ok (.iconst 1, 1) := by decide +kernel
theorem dX8_behind_78 : decode cX8_behind 78 = .ok (.goto 4, 3) := by decide +kernel
theorem dX8_behind_81 : decode cX8_behind 81 = .ok (.iconst (-1), 1) := by decide +kernel
theorem dX8_behind_82 : decode cX8_behind 82 = .ok (.iastore, 1) := by decide +kernel
theorem dX8_behind_83 : decode cX8_behind 83 = .ok (.aload_n 0, 1) := by decide +kernel
theorem dX8_behind_84 : decode cX8_behind 84 = .ok (.iconst 0, 1) := by decide +kernel
theorem dX8_behind_85 : decode cX8_behind 85 = .ok (.putfield 178, 3) := by decide +kernel
theorem dX8_behind_88 : decode cX8_behind 88 = .ok (.iconst 1, 1) := by decide +kernel
theorem dX8_behind_89 : decode cX8_behind 89 = .ok (.ireturn, 1) := by decide +kernel
theorem dX8_behind_90 : decode cX8_behind 90 = .ok (.iload_n 1, 1) := by decide +kernel
theorem dX8_behind_91 : decode cX8_behind 91 = .ok (.bipush 44, 2) := by decide +kernel
theorem dX8_behind_93 : decode cX8_behind 93 = .ok (.if_icmp .ne 63, 3) := by decide +kernel
theorem dX8_behind_96 : decode cX8_behind 96 = .ok (.iload_n 3, 1) := by decide +kernel
theorem dX8_behind_97 : decode cX8_behind 97 = .ok (.ifCond .ne 59, 3) := by decide +kernel
theorem dX8_behind_100 : decode cX8_behind 100 = .ok (.iload 4, 2) := by decide +kernel
theorem dX8_behind_102 : decode cX8_behind 102 = .ok (.ifCond .ne 54, 3) := by decide +kernel
theorem dX8_behind_105 : decode cX8_behind 105 = .ok (.aload_n 0, 1) := by decide +kernel
theorem dX8_behind_106 : decode cX8_behind 106 = .ok (.getfield 36, 3) := by decide +kernel
theorem dX8_behind_109 : decode cX8_behind 109 = .ok (.aload_n 0, 1) := by decide +kernel
theorem dX8_behind_110 : decode cX8_behind 110 = .ok (.getfield 167, 3) := by decide +kernel
theorem dX8_behind_113 : decode cX8_behind 113 = .ok (.dup2, 1) := by decide +kernel
theorem dX8_behind_114 : decode cX8_behind 114 = .ok (.iaload, 1) := by decide +kernel
theorem dX8_behind_115 : decode cX8_behind 115 = .ok (.iconst 1, 1) := by decide +kernel
theorem dX8_behind_116 : decode cX8_behind 116 = .ok (.iadd, 1) := by decide +kernel
theorem dX8_behind_117 : decode cX8_behind 117 = .ok (.iastore, 1) := by decide +kernel
theorem dX8_behind_118 : decode cX8_behind 118 = .ok (.aload_n 0, 1) := by decide +kernel
theorem dX8_behind_119 : decode cX8_behind 119 = .ok (.aload_n 0, 1) := by decide +kernel
theorem dX8_behind_120 : decode cX8_behind 120 = .ok (.aload_n 0, 1) := by decide +kernel
theorem dX8_behind_121 : decode cX8_behind 121 = .ok (.getfield 167, 3) := by decide +kernel
theorem dX8_behind_124 : decode cX8_behind 124 = .ok (.aload_n 0, 1) := by decide +kernel
theorem dX8_behind_125 : decode cX8_behind 125 = .ok (.getfield 36, 3) := by decide +kernel
theorem dX8_behind_128 : decode cX8_behind 128 = .ok (.aload_n 0, 1) := by decide +kernel
theorem dX8_behind_129 : decode cX8_behind 129 = .ok (.getfield 167, 3) := by decide +kernel
theorem dX8_behind_132 : decode cX8_behind 132 = .ok (.iaload, 1) := by decide +kernel
theorem dX8_behind_133 : decode cX8_behind 133 = .ok (.invokevirtual 170, 3) := by decide +kernel
theorem dX8_behind_136 : decode cX8_behind 136 = .ok (.invokevirtual 60, 3) := by decide +kernel
theorem dX8_behind_139 : decode cX8_behind 139 = .ok (.aload_n 0, 1) := by decide +kernel
theorem dX8_behind_140 : decode cX8_behind 140 = .ok (.getfield 39, 3) := by decide +kernel
theorem dX8_behind_143 : decode cX8_behind 143 = .ok (.aload_n 0, 1) := by decide +kernel
theorem dX8_behind_144 : decode cX8_behind 144 = .ok (.getfield 167, 3) := by decide +kernel
theorem dX8_behind_147 : decode cX8_behind 147 = .ok (.iconst 1, 1) := by decide +kernel
theorem dX8_behind_148 : decode cX8_behind 148 = .ok (.iastore, 1) := by decide +kernel
theorem dX8_behind_149 : decode cX8_behind 149 = .ok (.aload_n 0, 1) := by decide +kernel
theorem dX8_behind_150 : decode cX8_behind 150 = .ok (.iconst 0, 1) := by decide +kernel
theorem dX8_behind_151 : decode cX8_behind 151 = .ok (.putfield 178, 3) := by decide +kernel
theorem dX8_behind_154 : decode cX8_behind 154 = .ok (.iconst 1, 1) := by decide +kernel
theorem dX8_behind_155 : decode cX8_behind 155 = .ok (.ireturn, 1) := by decide +kernel
theorem dX8_behind_156 : decode cX8_behind 156 = .ok (.iload_n 1, 1) := by decide +kernel
theorem dX8_behind_157 : decode cX8_behind 157 = .ok (.bipush 41, 2) := by decide +kernel
theorem dX8_behind_159 : decode cX8_behind 159 = .ok (.if_icmp .ne 14, 3) := by decide +kernel
theorem dX8_behind_162 : decode cX8_behind 162 = .ok (.iload 4, 2) := by decide +kernel
theorem dX8_behind_164 : decode cX8_behind 164 = .ok (.ifCond .eq 9, 3) := by decide +kernel
theorem dX8_behind_167 : decode cX8_behind 167 = .ok (.aload_n 0, 1) := by decide +kernel
theorem dX8_behind_168 : decode cX8_behind 168 = .ok (.invokevirtual 206, 3) := by decide +kernel
theorem dX8_behind_171 : decode cX8_behind 171 = .ok (.iconst 1, 1) := by decide +kernel
theorem dX8_behind_172 : decode cX8_behind 172 = .ok (.ireturn, 1) := by decide +kernel
theorem dX8_behind_173 : decode cX8_behind 173 = .ok (.iload_n 1, 1) := by decide +kernel
theorem dX8_behind_174 : decode cX8_behind 174 = .ok (.bipush 58, 2) := by decide +kernel
theorem dX8_behind_176 : decode cX8_behind 176 = .ok (.if_icmp .ne 35, 3) := by decide +kernel
theorem dX8_behind_179 : decode cX8_behind 179 = .ok (.iload_n 2, 1) := by decide +kernel
theorem dX8_behind_180 : decode cX8_behind 180 = .ok (.iconst 1, 1) := by decide +kernel
theorem dX8_behind_181 : decode cX8_behind 181 = .ok (.if_icmp .ne 30, 3) := by decide +kernel
theorem dX8_behind_184 : decode cX8_behind 184 = .ok (.aload_n 0, 1) := by decide +kernel
theorem dX8_behind_185 : decode cX8_behind 185 = .ok (.getfield 23, 3) := by decide +kernel
theorem dX8_behind_188 : decode cX8_behind 188 = .ok (.iconst 0, 1) := by decide +kernel
theorem dX8_behind_189 : decode cX8_behind 189 = .ok (.caload, 1) := by decide +kernel
theorem dX8_behind_190 : decode cX8_behind 190 = .ok (.bipush 105, 2) := by decide +kernel
theorem dX8_behind_192 : decode cX8_behind 192 = .ok (.if_icmp .eq 19, 3) := by decide +kernel
theorem dX8_behind_195 : decode cX8_behind 195 = .ok (.aload_n 0, 1) := by decide +kernel
theorem dX8_behind_196 : decode cX8_behind 196 = .ok (.getfield 23, 3) := by decide +kernel
theorem dX8_behind_199 : decode cX8_behind 199 = .ok (.iconst 0, 1) := by decide +kernel
theorem dX8_behind_200 : decode cX8_behind 200 = .ok (.caload, 1) := by decide +kernel
theorem dX8_behind_201 : decode cX8_behind 201 = .ok (.invokestatic 194, 3) := by decide +kernel
theorem dX8_behind_204 : decode cX8_behind 204 = .ok (.ifCond .eq 7, 3) := by decide +kernel
theorem dX8_behind_207 : decode cX8_behind 207 = .ok (.iconst 1, 1) := by decide +kernel
theorem dX8_behind_208 : decode cX8_behind 208 = .ok (.goto 4, 3) := by decide +kernel
theorem dX8_behind_211 : decode cX8_behind 211 = .ok (.iconst 0, 1) := by decide +kernel
theorem dX8_behind_212 : decode cX8_behind 212 = .ok (.istore 5, 2) := by decide +kernel
theorem dX8_behind_214 : decode cX8_behind 214 = .ok (.iload_n 1, 1) := by decide +kernel
theorem dX8_behind_215 : decode cX8_behind 215 = .ok (.bipush 61, 2) := by decide +kernel
theorem dX8_behind_217 : decode cX8_behind 217 = .ok (.if_icmp .ne 25, 3) := by decide +kernel
theorem dX8_behind_220 : decode cX8_behind 220 = .ok (.iload_n 3, 1) := by decide +kernel
theorem dX8_behind_221 : decode cX8_behind 221 = .ok (.ifCond .eq 21, 3) := by decide +kernel
theorem dX8_behind_224 : decode cX8_behind 224 = .ok (.aload_n 0, 1) := by decide +kernel
theorem dX8_behind_225 : decode cX8_behind 225 = .ok (.getfield 209, 3) := by decide +kernel
theorem dX8_behind_228 : decode cX8_behind 228 = .ok (.ifCond .ne 14, 3) := by decide +kernel
theorem dX8_behind_231 : decode cX8_behind 231 = .ok (.aload_n 0, 1) := by decide +kernel
theorem dX8_behind_232 : decode cX8_behind 232 = .ok (.getfield 212, 3) := by decide +kernel
theorem dX8_behind_235 : decode cX8_behind 235 = .ok (.ifCond .ne 7, 3) := by decide +kernel
theorem dX8_behind_238 : decode cX8_behind 238 = .ok (.iconst 1, 1) := by decide +kernel
theorem dX8_behind_239 : decode cX8_behind 239 = .ok (.goto 4, 3) := by decide +kernel
theorem dX8_behind_242 : decode cX8_behind 242 = .ok (.iconst 0, 1) := by decide +kernel
theorem dX8_behind_243 : decode cX8_behind 243 = .ok (.istore 6, 2) := by decide +kernel
theorem dX8_behind_245 : decode cX8_behind 245 = .ok (.iload 5, 2) := by decide +kernel
theorem dX8_behind_247 : decode cX8_behind 247 = .ok (.ifCond .ne 8, 3) := by decide +kernel
theorem dX8_behind_250 : decode cX8_behind 250 = .ok (.iload 6, 2) := by decide +kernel
theorem dX8_behind_252 : decode cX8_behind 252 = .ok (.ifCond .eq 49, 3) := by decide +kernel
theorem dX8_behind_255 : decode cX8_behind 255 = .ok (.aload_n 0, 1) := by decide +kernel
theorem dX8_behind_256 : decode cX8_behind 256 = .ok (.iload 5, 2) := by decide +kernel
theorem dX8_behind_258 : decode cX8_behind 258 = .ok (.putfield 209, 3) := by decide +kernel
theorem dX8_behind_261 : decode cX8_behind 261 = .ok (.aload_n 0, 1) := by decide +kernel
theorem dX8_behind_262 : decode cX8_behind 262 = .ok (.iload 6, 2) := by decide +kernel
theorem dX8_behind_264 : decode cX8_behind 264 = .ok (.putfield 212, 3) := by decide +kernel
theorem dX8_behind_267 : decode cX8_behind 267 = .ok (.aload_n 0, 1) := by decide +kernel
theorem dX8_behind_268 : decode cX8_behind 268 = .ok (.aload_n 0, 1) := by decide +kernel
theorem dX8_behind_269 : decode cX8_behind 269 = .ok (.iconst 0, 1) := by decide +kernel
theorem dX8_behind_270 : decode cX8_behind 270 = .ok (.iconst 0, 1) := by decide +kernel
theorem dX8_behind_271 : decode cX8_behind 271 = .ok (.invokevirtual 170, 3) := by decide +kernel
theorem dX8_behind_274 : decode cX8_behind 274 = .ok (.bipush 126, 2) := by decide +kernel
theorem dX8_behind_276 : decode cX8_behind 276 = .ok (.invokevirtual 96, 3) := by decide +kernel
theorem dX8_behind_279 : decode cX8_behind 279 = .ok (.aload_n 0, 1) := by decide +kernel
theorem dX8_behind_280 : decode cX8_behind 280 = .ok (.aload_n 0, 1) := by decide +kernel
theorem dX8_behind_281 : decode cX8_behind 281 = .ok (.iconst 0, 1) := by decide +kernel
theorem dX8_behind_282 : decode cX8_behind 282 = .ok (.iconst 0, 1) := by decide +kernel
theorem dX8_behind_283 : decode cX8_behind 283 = .ok (.invokevirtual 170, 3) := by decide +kernel
theorem dX8_behind_286 : decode cX8_behind 286 = .ok (.invokevirtual 60, 3) := by decide +kernel
theorem dX8_behind_289 : decode cX8_behind 289 = .ok (.aload_n 0, 1) := by decide +kernel
theorem dX8_behind_290 : decode cX8_behind 290 = .ok (.getfield 39, 3) := by decide +kernel
theorem dX8_behind_293 : decode cX8_behind 293 = .ok (.iconst 0, 1) := by decide +kernel
theorem dX8_behind_294 : decode cX8_behind 294 = .ok (.iconst 1, 1) := by decide +kernel
theorem dX8_behind_295 : decode cX8_behind 295 = .ok (.iastore, 1) := by decide +kernel
theorem dX8_behind_296 : decode cX8_behind 296 = .ok (.aload_n 0, 1) := by decide +kernel
theorem dX8_behind_297 : decode cX8_behind 297 = .ok (.iconst 0, 1) := by decide +kernel
theorem dX8_behind_298 : decode cX8_behind 298 = .ok (.putfield 178, 3) := by decide +kernel
theorem dX8_behind_301 : decode cX8_behind 301 = .ok (.iload 5, 2) := by decide +kernel
theorem dX8_behind_303 : decode cX8_behind 303 = .ok (.ifCond .ne 8, 3) := by decide +kernel
theorem dX8_behind_306 : decode cX8_behind 306 = .ok (.iload 6, 2) := by decide +kernel
theorem dX8_behind_308 : decode cX8_behind 308 = .ok (.ifCond .eq 7, 3) := by decide +kernel
theorem dX8_behind_311 : decode cX8_behind 311 = .ok (.iconst 1, 1) := by decide +kernel
theorem dX8_behind_312 : decode cX8_behind 312 = .ok (.goto 4, 3) := by decide +kernel
theorem dX8_behind_315 : decode cX8_behind 315 = .ok (.iconst 0, 1) := by decide +kernel
theorem dX8_behind_316 : decode cX8_behind 316 = .ok (.ireturn, 1) := by decide +kernel
set_option maxRecDepth 20000 in
theorem ggX8_stands_X8_factor : GoodIn wsX8_stands wsX8_factor := goodIn_r _ [8, 1, 9, 10, 7, 11, 12, 13, 14, 15, 16, 17, 18, 19, 20, 21, 22, 23, 24, 25, 26, 27, 28, 29, 30, 31, 32, 33, 34, 35, 36, 37, 38, 39, 40, 41, 42, 43, 44, 45, 46, 47, 48, 49, 3, 50, 51, 2, 52, 53, 54, 55, 56, 57, 58, 59, 60, 61, 62, 63, 64, 65, 66, 67, 68, 113, 114, 115, 116, 117, 118, 119, 120, 121, 122, 123, 124, 125, 126, 127, 128, 129, 130, 131, 132] (by decide +kernel) (by decide +kernel)
set_option maxRecDepth 20000 in
theorem gX8_stands_X8_factor : GoodIn wsX8_stands (wsV RX8 215 RX8 yX8_factor wsX8_factor) := goodIn_app (goodIn_of _ (by decide +kernel)) ggX8_stands_X8_factor
set_option maxRecDepth 20000 in
theorem ggX8_stands_X8_behind : GoodIn wsX8_stands wsX8_behind := goodIn_r _ [72, 3, 50, 67, 2, 1, 73, 74, 75, 76, 77, 78, 7, 79, 52, 53, 54, 55, 42, 43, 44, 45, 16, 80, 81, 82, 83, 51, 68, 84, 85, 86, 87, 88, 89, 90, 91, 92, 17, 93, 94, 95, 96, 56, 57, 58, 59, 30, 31, 32, 33, 97, 98, 99, 100, 101, 102, 103, 104, 105, 106, 107, 108, 109, 110, 111, 112, 26, 27, 28, 29, 34, 35, 36, 37, 22, 23, 24, 25, 38, 39, 40, 41, 46, 47, 48, 49, 9, 10, 11, 113, 114, 115, 116, 117, 118, 119, 120, 121, 122, 123, 124, 125, 126, 127, 128, 129, 130, 131, 132] (by decide +kernel) (by decide +kernel)
set_option maxRecDepth 20000 in
theorem gX8_stands_X8_behind : GoodIn wsX8_stands (wsV RX8 218 RX8 yX8_behind wsX8_behind) := goodIn_app (goodIn_of _ (by decide +kernel)) ggX8_stands_X8_behind
theorem dX8_stands_0 : decode cX8_stands 0 = .ok (.aload_n 0, 1) := by decide +kernel
theorem dX8_stands_1 : decode cX8_stands 1 = .ok (.getfield 178, 3) := by decide +kernel
theorem dX8_stands_4 : decode cX8_stands 4 = .ok (.tableswitch 115 0 3 #[32, 74, 91, 98], 32) := by decide +kernel
theorem dX8_stands_36 : decode cX8_stands 36 = .ok (.iload_n 1, 1) := by decide +kernel
theorem dX8_stands_37 : decode cX8_stands 37 = .ok (.bipush 48, 2) := by decide +kernel
theorem dX8_stands_39 : decode cX8_stands 39 = .ok (.if_icmp .lt 32, 3) := by decide +kernel
theorem dX8_stands_42 : decode cX8_stands 42 = .ok (.iload_n 1, 1) := by decide +kernel
theorem dX8_stands_43 : decode cX8_stands 43 = .ok (.bipush 57, 2) := by decide +kernel
theorem dX8_stands_45 : decode cX8_stands 45 = .ok (.if_icmp .gt 26, 3) := by decide +kernel
theorem dX8_stands_48 : decode cX8_stands 48 = .ok (.aload_n 0, 1) := by decide +kernel
theorem dX8_stands_49 : decode cX8_stands 49 = .ok (.getfield 39, 3) := by decide +kernel
theorem dX8_stands_52 : decode cX8_stands 52 = .ok (.aload_n 0, 1) := by decide +kernel
theorem dX8_stands_53 : decode cX8_stands 53 = .ok (.getfield 167, 3) := by decide +kernel
theorem dX8_stands_56 : decode cX8_stands 56 = .ok (.dup2, 1) := by decide +kernel
theorem dX8_stands_57 : decode cX8_stands 57 = .ok (.iaload, 1) := by decide +kernel
theorem dX8_stands_58 : decode cX8_stands 58 = .ok (.iload_n 1, 1) := by decide +kernel
theorem dX8_stands_59 : decode cX8_stands 59 = .ok (.bipush 48, 2) := by decide +kernel
theorem dX8_stands_61 : decode cX8_stands 61 = .ok (.isub, 1) := by decide +kernel
theorem dX8_stands_62 : decode cX8_stands 62 = .ok (.imul, 1) := by decide +kernel
theorem dX8_stands_63 : decode cX8_stands 63 = .ok (.iastore, 1) := by decide +kernel
theorem dX8_stands_64 : decode cX8_stands 64 = .ok (.aload_n 0, 1) := by decide +kernel
theorem dX8_stands_65 : decode cX8_stands 65 = .ok (.iconst 1, 1) := by decide +kernel
theorem dX8_stands_66 : decode cX8_stands 66 = .ok (.putfield 178, 3) := by decide +kernel
theorem dX8_stands_69 : decode cX8_stands 69 = .ok (.iconst 1, 1) := by decide +kernel
theorem dX8_stands_70 : decode cX8_stands 70 = .ok (.ireturn, 1) := by decide +kernel
theorem dX8_stands_71 : decode cX8_stands 71 = .ok (.aload_n 0, 1) := by decide +kernel
theorem dX8_stands_72 : decode cX8_stands 72 = .ok (.iload_n 1, 1) := by decide +kernel
theorem dX8_stands_73 : decode cX8_stands 73 = .ok (.iload_n 2, 1) := by decide +kernel
theorem dX8_stands_74 : decode cX8_stands 74 = .ok (.invokevirtual 215, 3) := by decide +kernel
theorem dX8_stands_77 : decode cX8_stands 77 = .ok (.ireturn, 1) := by decide +kernel
theorem dX8_stands_78 : decode cX8_stands 78 = .ok (.aload_n 0, 1) := by decide +kernel
theorem dX8_stands_79 : decode cX8_stands 79 = .ok (.iconst 2, 1) := by decide +kernel
theorem dX8_stands_80 : decode cX8_stands 80 = .ok (.putfield 178, 3) := by decide +kernel
theorem dX8_stands_83 : decode cX8_stands 83 = .ok (.iload_n 1, 1) := by decide +kernel
theorem dX8_stands_84 : decode cX8_stands 84 = .ok (.bipush 42, 2) := by decide +kernel
theorem dX8_stands_86 : decode cX8_stands 86 = .ok (.if_icmp .ne 7, 3) := by decide +kernel
theorem dX8_stands_89 : decode cX8_stands 89 = .ok (.iconst 1, 1) := by decide +kernel
theorem dX8_stands_90 : decode cX8_stands 90 = .ok (.goto 4, 3) := by decide +kernel
theorem dX8_stands_93 : decode cX8_stands 93 = .ok (.iconst 0, 1) := by decide +kernel
theorem dX8_stands_94 : decode cX8_stands 94 = .ok (.ireturn, 1) := by decide +kernel
theorem dX8_stands_95 : decode cX8_stands 95 = .ok (.aload_n 0, 1) := by decide +kernel
theorem dX8_stands_96 : decode cX8_stands 96 = .ok (.iload_n 1, 1) := by decide +kernel
theorem dX8_stands_97 : decode cX8_stands 97 = .ok (.iload_n 2, 1) := by decide +kernel
theorem dX8_stands_98 : decode cX8_stands 98 = .ok (.invokevirtual 215, 3) := by decide +kernel
theorem dX8_stands_101 : decode cX8_stands 101 = .ok (.ireturn, 1) := by decide +kernel
theorem dX8_stands_102 : decode cX8_stands 102 = .ok (.aload_n 0, 1) := by decide +kernel
theorem dX8_stands_103 : decode cX8_stands 103 = .ok (.iconst 0, 1) := by decide +kernel
theorem dX8_stands_104 : decode cX8_stands 104 = .ok (.putfield 178, 3) := by decide +kernel
theorem dX8_stands_107 : decode cX8_stands 107 = .ok (.iload_n 1, 1) := by decide +kernel
theorem dX8_stands_108 : decode cX8_stands 108 = .ok (.bipush 40, 2) := by decide +kernel
theorem dX8_stands_110 : decode cX8_stands 110 = .ok (.if_icmp .ne 7, 3) := by decide +kernel
theorem dX8_stands_113 : decode cX8_stands 113 = .ok (.iconst 1, 1) := by decide +kernel
theorem dX8_stands_114 : decode cX8_stands 114 = .ok (.goto 4, 3) := by decide +kernel
theorem dX8_stands_117 : decode cX8_stands 117 = .ok (.iconst 0, 1) := by decide +kernel
theorem dX8_stands_118 : decode cX8_stands 118 = .ok (.ireturn, 1) := by decide +kernel
theorem dX8_stands_119 : decode cX8_stands 119 = .ok (.aload_n 0, 1) := by decide +kernel
theorem dX8_stands_120 : decode cX8_stands 120 = .ok (.iload_n 1, 1) := by decide +kernel
theorem dX8_stands_121 : decode cX8_stands 121 = .ok (.iload_n 2, 1) := by decide +kernel
theorem dX8_stands_122 : decode cX8_stands 122 = .ok (.invokevirtual 218, 3) := by decide +kernel
theorem dX8_stands_125 : decode cX8_stands 125 = .ok (.ireturn, 1) := by decide +kernel
set_option maxRecDepth 20000 in
theorem ggX8_work_X8_pileOf : GoodIn wsX8_work wsX8_pileOf := goodIn_r _ [15] (by decide +kernel) (by decide +kernel)
set_option maxRecDepth 20000 in
theorem gX8_work_X8_pileOf : GoodIn wsX8_work (wsV RX8 170 RX8 yX8_pileOf wsX8_pileOf) := goodIn_app (goodIn_of _ (by decide +kernel)) ggX8_work_X8_pileOf
set_option maxRecDepth 20000 in
theorem ggX8_work_X8_blank : GoodIn wsX8_work wsX8_blank := goodIn_r _ [19, 20, 118, 119, 120, 121, 122, 123, 124, 125, 126, 127, 128, 129, 130, 131, 132, 133, 134, 135, 136, 137] (by decide +kernel) (by decide +kernel)
set_option maxRecDepth 20000 in
theorem gX8_work_X8_blank : GoodIn wsX8_work (wsV RX8 60 RX8 yX8_blank wsX8_blank) := goodIn_app (goodIn_of _ (by decide +kernel)) ggX8_work_X8_blank
set_option maxRecDepth 20000 in
theorem ggX8_work_X8_stands : GoodIn wsX8_work wsX8_stands := goodIn_r _ [24, 2, 8, 1, 25, 26, 27, 14, 28, 29, 30, 31, 32, 33, 34, 35, 20, 36, 37, 38, 39, 40, 41, 42, 43, 44, 45, 46, 47, 48, 49, 50, 51, 52, 53, 54, 55, 56, 57, 58, 59, 60, 16, 17, 18, 19, 61, 62, 63, 64, 7, 6, 11, 12, 13, 15, 65, 66, 67, 68, 69, 70, 71, 72, 73, 74, 75, 76, 77, 78, 79, 80, 81, 10, 3, 4, 82, 83, 84, 85, 86, 87, 88, 89, 5, 90, 91, 92, 93, 94, 95, 96, 97, 98, 99, 100, 101, 102, 103, 104, 105, 106, 107, 108, 109, 110, 111, 112, 113, 114, 115, 116, 117, 118, 119, 120, 121, 122, 123, 124, 125, 126, 127, 128, 129, 130, 131, 132, 133, 134, 135, 136, 137] (by decide +kernel) (by decide +kernel)
set_option maxRecDepth 20000 in
theorem gX8_work_X8_stands : GoodIn wsX8_work (wsV RX8 221 RX8 yX8_stands wsX8_stands) := goodIn_app (goodIn_of _ (by decide +kernel)) ggX8_work_X8_stands
theorem dX8_work_0 : decode cX8_work 0 = .ok (.aload_n 0, 1) := by decide +kernel
theorem dX8_work_1 : decode cX8_work 1 = .ok (.iconst 0, 1) := by decide +kernel
theorem dX8_work_2 : decode cX8_work 2 = .ok (.putfield 167, 3) := by decide +kernel
theorem dX8_work_5 : decode cX8_work 5 = .ok (.aload_n 0, 1) := by decide +kernel
theorem dX8_work_6 : decode cX8_work 6 = .ok (.iconst 0, 1) := by decide +kernel
theorem dX8_work_7 : decode cX8_work 7 = .ok (.putfield 178, 3) := by decide +kernel
theorem dX8_work_10 : decode cX8_work 10 = .ok (.aload_n 0, 1) := by decide +kernel
theorem dX8_work_11 : decode cX8_work 11 = .ok (.iconst 0, 1) := by decide +kernel
theorem dX8_work_12 : decode cX8_work 12 = .ok (.putfield 209, 3) := by decide +kernel
theorem dX8_work_15 : decode cX8_work 15 = .ok (.aload_n 0, 1) := by decide +kernel
theorem dX8_work_16 : decode cX8_work 16 = .ok (.iconst 0, 1) := by decide +kernel
theorem dX8_work_17 : decode cX8_work 17 = .ok (.putfield 212, 3) := by decide +kernel
theorem dX8_work_20 : decode cX8_work 20 = .ok (.aload_n 0, 1) := by decide +kernel
theorem dX8_work_21 : decode cX8_work 21 = .ok (.bipush (-6), 2) := by decide +kernel
theorem dX8_work_23 : decode cX8_work 23 = .ok (.putfield 188, 3) := by decide +kernel
theorem dX8_work_26 : decode cX8_work 26 = .ok (.aload_n 0, 1) := by decide +kernel
theorem dX8_work_27 : decode cX8_work 27 = .ok (.iconst 1, 1) := by decide +kernel
theorem dX8_work_28 : decode cX8_work 28 = .ok (.putfield 174, 3) := by decide +kernel
theorem dX8_work_31 : decode cX8_work 31 = .ok (.aload_n 0, 1) := by decide +kernel
theorem dX8_work_32 : decode cX8_work 32 = .ok (.getfield 36, 3) := by decide +kernel
theorem dX8_work_35 : decode cX8_work 35 = .ok (.iconst 0, 1) := by decide +kernel
theorem dX8_work_36 : decode cX8_work 36 = .ok (.iconst 0, 1) := by decide +kernel
theorem dX8_work_37 : decode cX8_work 37 = .ok (.iastore, 1) := by decide +kernel
theorem dX8_work_38 : decode cX8_work 38 = .ok (.aload_n 0, 1) := by decide +kernel
theorem dX8_work_39 : decode cX8_work 39 = .ok (.getfield 39, 3) := by decide +kernel
theorem dX8_work_42 : decode cX8_work 42 = .ok (.iconst 0, 1) := by decide +kernel
theorem dX8_work_43 : decode cX8_work 43 = .ok (.iconst 1, 1) := by decide +kernel
theorem dX8_work_44 : decode cX8_work 44 = .ok (.iastore, 1) := by decide +kernel
theorem dX8_work_45 : decode cX8_work 45 = .ok (.aload_n 0, 1) := by decide +kernel
theorem dX8_work_46 : decode cX8_work 46 = .ok (.aload_n 0, 1) := by decide +kernel
theorem dX8_work_47 : decode cX8_work 47 = .ok (.iconst 0, 1) := by decide +kernel
theorem dX8_work_48 : decode cX8_work 48 = .ok (.iconst 0, 1) := by decide +kernel
theorem dX8_work_49 : decode cX8_work 49 = .ok (.invokevirtual 170, 3) := by decide +kernel
theorem dX8_work_52 : decode cX8_work 52 = .ok (.invokevirtual 60, 3) := by decide +kernel
theorem dX8_work_55 : decode cX8_work 55 = .ok (.iconst 0, 1) := by decide +kernel
theorem dX8_work_56 : decode cX8_work 56 = .ok (.istore_n 1, 1) := by decide +kernel
theorem dX8_work_57 : decode cX8_work 57 = .ok (.iload_n 1, 1) := by decide +kernel
theorem dX8_work_58 : decode cX8_work 58 = .ok (.aload_n 0, 1) := by decide +kernel
theorem dX8_work_59 : decode cX8_work 59 = .ok (.getfield 159, 3) := by decide +kernel
theorem dX8_work_62 : decode cX8_work 62 = .ok (.if_icmp .ge 25, 3) := by decide +kernel
theorem dX8_work_65 : decode cX8_work 65 = .ok (.aload_n 0, 1) := by decide +kernel
theorem dX8_work_66 : decode cX8_work 66 = .ok (.aload_n 0, 1) := by decide +kernel
theorem dX8_work_67 : decode cX8_work 67 = .ok (.getfield 23, 3) := by decide +kernel
theorem dX8_work_70 : decode cX8_work 70 = .ok (.iload_n 1, 1) := by decide +kernel
theorem dX8_work_71 : decode cX8_work 71 = .ok (.caload, 1) := by decide +kernel
theorem dX8_work_72 : decode cX8_work 72 = .ok (.iload_n 1, 1) := by decide +kernel
theorem dX8_work_73 : decode cX8_work 73 = .ok (.invokevirtual 221, 3) := by decide +kernel
theorem dX8_work_76 : decode cX8_work 76 = .ok (.ifCond .ne 5, 3) := by decide +kernel
theorem dX8_work_79 : decode cX8_work 79 = .ok (.iload_n 1, 1) := by decide +kernel
theorem dX8_work_80 : decode cX8_work 80 = .ok (.ireturn, 1) := by decide +kernel
theorem dX8_work_81 : decode cX8_work 81 = .ok (.iinc 1 1, 3) := by decide +kernel
theorem dX8_work_84 : decode cX8_work 84 = .ok (.goto (-27), 3) := by decide +kernel
theorem dX8_work_87 : decode cX8_work 87 = .ok (.aload_n 0, 1) := by decide +kernel
theorem dX8_work_88 : decode cX8_work 88 = .ok (.getfield 178, 3) := by decide +kernel
theorem dX8_work_91 : decode cX8_work 91 = .ok (.iconst 4, 1) := by decide +kernel
theorem dX8_work_92 : decode cX8_work 92 = .ok (.if_icmp .ne 28, 3) := by decide +kernel
theorem dX8_work_95 : decode cX8_work 95 = .ok (.aload_n 0, 1) := by decide +kernel
theorem dX8_work_96 : decode cX8_work 96 = .ok (.getfield 167, 3) := by decide +kernel
theorem dX8_work_99 : decode cX8_work 99 = .ok (.ifCond .ne 21, 3) := by decide +kernel
theorem dX8_work_102 : decode cX8_work 102 = .ok (.aload_n 0, 1) := by decide +kernel
theorem dX8_work_103 : decode cX8_work 103 = .ok (.getfield 209, 3) := by decide +kernel
theorem dX8_work_106 : decode cX8_work 106 = .ok (.ifCond .ne 10, 3) := by decide +kernel
theorem dX8_work_109 : decode cX8_work 109 = .ok (.aload_n 0, 1) := by decide +kernel
theorem dX8_work_110 : decode cX8_work 110 = .ok (.getfield 212, 3) := by decide +kernel
theorem dX8_work_113 : decode cX8_work 113 = .ok (.ifCond .eq 7, 3) := by decide +kernel
theorem dX8_work_116 : decode cX8_work 116 = .ok (.iconst 1, 1) := by decide +kernel
theorem dX8_work_117 : decode cX8_work 117 = .ok (.goto 4, 3) := by decide +kernel
theorem dX8_work_120 : decode cX8_work 120 = .ok (.iconst 0, 1) := by decide +kernel
theorem dX8_work_121 : decode cX8_work 121 = .ok (.istore_n 1, 1) := by decide +kernel
theorem dX8_work_122 : decode cX8_work 122 = .ok (.iload_n 1, 1) := by decide +kernel
theorem dX8_work_123 : decode cX8_work 123 = .ok (.ifCond .eq 8, 3) := by decide +kernel
theorem dX8_work_126 : decode cX8_work 126 = .ok (.bipush (-6), 2) := by decide +kernel
theorem dX8_work_128 : decode cX8_work 128 = .ok (.goto 7, 3) := by decide +kernel
theorem dX8_work_131 : decode cX8_work 131 = .ok (.aload_n 0, 1) := by decide +kernel
theorem dX8_work_132 : decode cX8_work 132 = .ok (.getfield 159, 3) := by decide +kernel
theorem dX8_work_135 : decode cX8_work 135 = .ok (.ireturn, 1) := by decide +kernel
set_option maxRecDepth 20000 in
theorem ggX8_fault_X8_work : GoodIn wsX8_fault wsX8_work := goodIn_r _ [5, 6, 7, 8, 9, 10, 11, 12, 13, 14, 15, 16, 17, 18, 4, 19, 20, 21, 22, 23, 24, 25, 26, 27, 28, 29, 30, 31, 32, 33, 34, 35, 36, 37, 38, 39, 40, 41, 42, 43, 44, 45, 46, 47, 48, 49, 50, 51, 52, 53, 54, 55, 56, 57, 58, 59, 60, 61, 62, 63, 64, 65, 66, 67, 68, 69, 70, 71, 72, 73, 74, 75, 76, 77, 78, 79, 80, 81, 82, 83, 84, 85, 86, 87, 88, 89, 90, 91, 92, 93, 94, 95, 96, 97, 98, 99, 100, 101, 102, 103, 104, 105, 106, 107, 108, 109, 110, 111, 112, 113, 114, 115, 116, 117, 118, 119, 120, 121, 122, 123, 124, 125, 126, 127, 128, 129, 130, 131, 132, 133, 134, 135, 136, 137, 138, 139, 140, 141] (by decide +kernel) (by decide +kernel)
set_option maxRecDepth 20000 in
theorem gX8_fault_X8_work : GoodIn wsX8_fault (wsV RX8 224 RX8 yX8_work wsX8_work) := goodIn_app (goodIn_of _ (by decide +kernel)) ggX8_fault_X8_work
theorem dX8_fault_0 : decode cX8_fault 0 = .ok (.aload_n 0, 1) := by decide +kernel
theorem dX8_fault_1 : decode cX8_fault 1 = .ok (.invokevirtual 224, 3) := by decide +kernel
theorem dX8_fault_4 : decode cX8_fault 4 = .ok (.ireturn, 1) := by decide +kernel
set_option maxRecDepth 20000 in
theorem ggX8_run_X8_work : GoodIn wsX8_run wsX8_work := goodIn_r _ [9, 10, 11, 1, 12, 2, 13, 14, 15, 4, 3, 16, 17, 18, 8, 19, 20, 21, 22, 23, 24, 25, 26, 27, 28, 29, 30, 31, 32, 33, 34, 35, 36, 37, 38, 39, 40, 41, 42, 43, 44, 45, 46, 47, 48, 49, 50, 51, 52, 53, 54, 55, 56, 57, 58, 59, 60, 61, 62, 63, 64, 65, 66, 67, 68, 69, 70, 71, 72, 73, 74, 75, 76, 77, 78, 79, 80, 81, 82, 83, 84, 85, 86, 87, 88, 89, 90, 91, 92, 93, 94, 95, 96, 97, 98, 99, 100, 101, 102, 103, 104, 105, 106, 107, 108, 109, 110, 111, 112, 113, 114, 115, 116, 117, 118, 119, 120, 121, 132, 133, 134, 135, 136, 137, 138, 139, 140, 141, 142, 143, 144, 145, 146, 147, 148, 149, 150, 151] (by decide +kernel) (by decide +kernel)
set_option maxRecDepth 20000 in
theorem gX8_run_X8_work : GoodIn wsX8_run (wsV RX8 224 RX8 yX8_work wsX8_work) := goodIn_app (goodIn_of _ (by decide +kernel)) ggX8_run_X8_work
set_option maxRecDepth 20000 in
theorem ggX8_run_X8_record : GoodIn wsX8_run wsX8_record := goodIn_r _ [125, 126, 127, 40, 132, 133, 134, 135, 136, 137, 138, 139, 140, 141, 142, 143, 144, 145, 146, 147, 148, 149, 150, 151] (by decide +kernel) (by decide +kernel)
set_option maxRecDepth 20000 in
theorem gX8_run_X8_record : GoodIn wsX8_run (wsV RX8 57 RX8 yX8_record wsX8_record) := goodIn_app (goodIn_of _ (by decide +kernel)) ggX8_run_X8_record
set_option maxRecDepth 20000 in
theorem ggX8_run_X8_pileOf : GoodIn wsX8_run wsX8_pileOf := goodIn_r _ [19] (by decide +kernel) (by decide +kernel)
set_option maxRecDepth 20000 in
theorem gX8_run_X8_pileOf : GoodIn wsX8_run (wsV RX8 170 RX8 yX8_pileOf wsX8_pileOf) := goodIn_app (goodIn_of _ (by decide +kernel)) ggX8_run_X8_pileOf
set_option maxRecDepth 20000 in
theorem ggX8_run_X8_store : GoodIn wsX8_run wsX8_store := goodIn_r _ [131, 40, 24, 132, 133, 134, 135, 136, 137, 138, 139, 140, 141, 142, 143, 144, 145, 146, 147, 148, 149, 150, 151] (by decide +kernel) (by decide +kernel)
set_option maxRecDepth 20000 in
theorem gX8_run_X8_store : GoodIn wsX8_run (wsV RX8 125 RX8 yX8_store wsX8_store) := goodIn_app (goodIn_of _ (by decide +kernel)) ggX8_run_X8_store
theorem dX8_run_0 : decode cX8_run 0 = .ok (.aload_n 0, 1) := by decide +kernel
theorem dX8_run_1 : decode cX8_run 1 = .ok (.invokevirtual 224, 3) := by decide +kernel
theorem dX8_run_4 : decode cX8_run 4 = .ok (.bipush (-6), 2) := by decide +kernel
theorem dX8_run_6 : decode cX8_run 6 = .ok (.if_icmp .eq 6, 3) := by decide +kernel
theorem dX8_run_9 : decode cX8_run 9 = .ok (.bipush (-3), 2) := by decide +kernel
theorem dX8_run_11 : decode cX8_run 11 = .ok (.ireturn, 1) := by decide +kernel
theorem dX8_run_12 : decode cX8_run 12 = .ok (.aload_n 0, 1) := by decide +kernel
theorem dX8_run_13 : decode cX8_run 13 = .ok (.getfield 209, 3) := by decide +kernel
theorem dX8_run_16 : decode cX8_run 16 = .ok (.ifCond .eq 12, 3) := by decide +kernel
theorem dX8_run_19 : decode cX8_run 19 = .ok (.aload_n 0, 1) := by decide +kernel
theorem dX8_run_20 : decode cX8_run 20 = .ok (.getfield 188, 3) := by decide +kernel
theorem dX8_run_23 : decode cX8_run 23 = .ok (.bipush (-6), 2) := by decide +kernel
theorem dX8_run_25 : decode cX8_run 25 = .ok (.if_icmp .eq 6, 3) := by decide +kernel
theorem dX8_run_28 : decode cX8_run 28 = .ok (.bipush (-5), 2) := by decide +kernel
theorem dX8_run_30 : decode cX8_run 30 = .ok (.ireturn, 1) := by decide +kernel
theorem dX8_run_31 : decode cX8_run 31 = .ok (.aload_n 0, 1) := by decide +kernel
theorem dX8_run_32 : decode cX8_run 32 = .ok (.invokevirtual 57, 3) := by decide +kernel
theorem dX8_run_35 : decode cX8_run 35 = .ok (.aload_n 0, 1) := by decide +kernel
theorem dX8_run_36 : decode cX8_run 36 = .ok (.getfield 23, 3) := by decide +kernel
theorem dX8_run_39 : decode cX8_run 39 = .ok (.iconst 0, 1) := by decide +kernel
theorem dX8_run_40 : decode cX8_run 40 = .ok (.caload, 1) := by decide +kernel
theorem dX8_run_41 : decode cX8_run 41 = .ok (.bipush 65, 2) := by decide +kernel
theorem dX8_run_43 : decode cX8_run 43 = .ok (.isub, 1) := by decide +kernel
theorem dX8_run_44 : decode cX8_run 44 = .ok (.istore_n 1, 1) := by decide +kernel
theorem dX8_run_45 : decode cX8_run 45 = .ok (.aload_n 0, 1) := by decide +kernel
theorem dX8_run_46 : decode cX8_run 46 = .ok (.aload_n 0, 1) := by decide +kernel
theorem dX8_run_47 : decode cX8_run 47 = .ok (.iconst 0, 1) := by decide +kernel
theorem dX8_run_48 : decode cX8_run 48 = .ok (.iconst 0, 1) := by decide +kernel
theorem dX8_run_49 : decode cX8_run 49 = .ok (.invokevirtual 170, 3) := by decide +kernel
theorem dX8_run_52 : decode cX8_run 52 = .ok (.iload_n 1, 1) := by decide +kernel
theorem dX8_run_53 : decode cX8_run 53 = .ok (.invokevirtual 125, 3) := by decide +kernel
theorem dX8_run_56 : decode cX8_run 56 = .ok (.aload_n 0, 1) := by decide +kernel
theorem dX8_run_57 : decode cX8_run 57 = .ok (.iconst 0, 1) := by decide +kernel
theorem dX8_run_58 : decode cX8_run 58 = .ok (.putfield 159, 3) := by decide +kernel
theorem dX8_run_61 : decode cX8_run 61 = .ok (.iload_n 1, 1) := by decide +kernel
theorem dX8_run_62 : decode cX8_run 62 = .ok (.ireturn, 1) := by decide +kernel
set_option maxRecDepth 20000 in
theorem ggX8_holds_X8_work : GoodIn wsX8_holds wsX8_work := goodIn_r _ [7, 8, 9, 1, 10, 2, 11, 12, 13, 14, 15, 16, 17, 18, 6, 19, 20, 21, 22, 23, 24, 25, 26, 27, 28, 29, 30, 31, 32, 33, 34, 35, 36, 37, 38, 39, 40, 41, 42, 43, 44, 45, 46, 47, 48, 49, 50, 51, 52, 53, 54, 55, 56, 57, 58, 59, 60, 61, 62, 63, 64, 65, 66, 67, 68, 69, 70, 71, 72, 73, 74, 75, 76, 77, 78, 79, 80, 81, 82, 83, 84, 85, 86, 87, 88, 89, 90, 91, 92, 93, 94, 95, 96, 97, 98, 99, 100, 101, 102, 103, 104, 105, 106, 107, 108, 109, 110, 111, 112, 113, 114, 115, 116, 117, 118, 119, 120, 121, 126, 127, 128, 129, 130, 131, 132, 133, 134, 135, 136, 137, 138, 139, 140, 141, 142, 143, 144, 145] (by decide +kernel) (by decide +kernel)
set_option maxRecDepth 20000 in
theorem gX8_holds_X8_work : GoodIn wsX8_holds (wsV RX8 224 RX8 yX8_work wsX8_work) := goodIn_app (goodIn_of _ (by decide +kernel)) ggX8_holds_X8_work
set_option maxRecDepth 20000 in
theorem ggX8_holds_X8_pileOf : GoodIn wsX8_holds wsX8_pileOf := goodIn_r _ [19] (by decide +kernel) (by decide +kernel)
set_option maxRecDepth 20000 in
theorem gX8_holds_X8_pileOf : GoodIn wsX8_holds (wsV RX8 170 RX8 yX8_pileOf wsX8_pileOf) := goodIn_app (goodIn_of _ (by decide +kernel)) ggX8_holds_X8_pileOf
set_option maxRecDepth 20000 in
theorem ggX8_holds_X8_areAlike : GoodIn wsX8_holds wsX8_areAlike := goodIn_r _ [125, 24, 126, 127, 128, 129, 130, 131, 132, 133, 134, 135, 136, 137, 138, 139, 140, 141, 142, 143, 144, 145] (by decide +kernel) (by decide +kernel)
set_option maxRecDepth 20000 in
theorem gX8_holds_X8_areAlike : GoodIn wsX8_holds (wsV RX8 102 RX8 yX8_areAlike wsX8_areAlike) := goodIn_app (goodIn_of _ (by decide +kernel)) ggX8_holds_X8_areAlike
theorem dX8_holds_0 : decode cX8_holds 0 = .ok (.aload_n 0, 1) := by decide +kernel
theorem dX8_holds_1 : decode cX8_holds 1 = .ok (.invokevirtual 224, 3) := by decide +kernel
theorem dX8_holds_4 : decode cX8_holds 4 = .ok (.bipush (-6), 2) := by decide +kernel
theorem dX8_holds_6 : decode cX8_holds 6 = .ok (.if_icmp .eq 6, 3) := by decide +kernel
theorem dX8_holds_9 : decode cX8_holds 9 = .ok (.bipush (-3), 2) := by decide +kernel
theorem dX8_holds_11 : decode cX8_holds 11 = .ok (.ireturn, 1) := by decide +kernel
theorem dX8_holds_12 : decode cX8_holds 12 = .ok (.aload_n 0, 1) := by decide +kernel
theorem dX8_holds_13 : decode cX8_holds 13 = .ok (.getfield 209, 3) := by decide +kernel
theorem dX8_holds_16 : decode cX8_holds 16 = .ok (.ifCond .ne 12, 3) := by decide +kernel
theorem dX8_holds_19 : decode cX8_holds 19 = .ok (.aload_n 0, 1) := by decide +kernel
theorem dX8_holds_20 : decode cX8_holds 20 = .ok (.getfield 188, 3) := by decide +kernel
theorem dX8_holds_23 : decode cX8_holds 23 = .ok (.bipush (-6), 2) := by decide +kernel
theorem dX8_holds_25 : decode cX8_holds 25 = .ok (.if_icmp .eq 6, 3) := by decide +kernel
theorem dX8_holds_28 : decode cX8_holds 28 = .ok (.bipush (-5), 2) := by decide +kernel
theorem dX8_holds_30 : decode cX8_holds 30 = .ok (.ireturn, 1) := by decide +kernel
theorem dX8_holds_31 : decode cX8_holds 31 = .ok (.aload_n 0, 1) := by decide +kernel
theorem dX8_holds_32 : decode cX8_holds 32 = .ok (.bipush 126, 2) := by decide +kernel
theorem dX8_holds_34 : decode cX8_holds 34 = .ok (.aload_n 0, 1) := by decide +kernel
theorem dX8_holds_35 : decode cX8_holds 35 = .ok (.iconst 0, 1) := by decide +kernel
theorem dX8_holds_36 : decode cX8_holds 36 = .ok (.iconst 0, 1) := by decide +kernel
theorem dX8_holds_37 : decode cX8_holds 37 = .ok (.invokevirtual 170, 3) := by decide +kernel
theorem dX8_holds_40 : decode cX8_holds 40 = .ok (.invokevirtual 102, 3) := by decide +kernel
theorem dX8_holds_43 : decode cX8_holds 43 = .ok (.ifCond .eq 7, 3) := by decide +kernel
theorem dX8_holds_46 : decode cX8_holds 46 = .ok (.iconst 1, 1) := by decide +kernel
theorem dX8_holds_47 : decode cX8_holds 47 = .ok (.goto 4, 3) := by decide +kernel
theorem dX8_holds_50 : decode cX8_holds 50 = .ok (.iconst 0, 1) := by decide +kernel
theorem dX8_holds_51 : decode cX8_holds 51 = .ok (.ireturn, 1) := by decide +kernel
set_option maxRecDepth 20000 in
theorem ggX8_stops_X8_work : GoodIn wsX8_stops wsX8_work := goodIn_r _ [6, 7, 8, 9, 10, 1, 11, 12, 13, 14, 15, 16, 17, 18, 5, 19, 20, 21, 22, 23, 24, 25, 26, 27, 28, 29, 30, 31, 32, 33, 34, 35, 36, 37, 38, 39, 40, 41, 42, 43, 44, 45, 46, 47, 48, 49, 50, 51, 52, 53, 54, 55, 56, 57, 58, 59, 60, 61, 62, 63, 64, 65, 66, 67, 68, 69, 70, 71, 72, 73, 74, 75, 76, 77, 78, 79, 80, 81, 82, 83, 84, 85, 86, 87, 88, 89, 90, 91, 92, 93, 94, 95, 96, 97, 98, 99, 100, 101, 102, 103, 104, 105, 106, 107, 108, 109, 110, 111, 112, 113, 114, 115, 116, 117, 118, 119, 120, 121, 122, 123, 124, 125, 126, 127, 128, 129, 130, 131, 132, 133, 134, 135, 136, 137, 138, 139, 140, 141] (by decide +kernel) (by decide +kernel)
set_option maxRecDepth 20000 in
theorem gX8_stops_X8_work : GoodIn wsX8_stops (wsV RX8 224 RX8 yX8_work wsX8_work) := goodIn_app (goodIn_of _ (by decide +kernel)) ggX8_stops_X8_work
theorem dX8_stops_0 : decode cX8_stops 0 = .ok (.aload_n 0, 1) := by decide +kernel
theorem dX8_stops_1 : decode cX8_stops 1 = .ok (.invokevirtual 224, 3) := by decide +kernel
theorem dX8_stops_4 : decode cX8_stops 4 = .ok (.bipush (-6), 2) := by decide +kernel
theorem dX8_stops_6 : decode cX8_stops 6 = .ok (.if_icmp .eq 8, 3) := by decide +kernel
theorem dX8_stops_9 : decode cX8_stops 9 = .ok (.bipush (-3), 2) := by decide +kernel
theorem dX8_stops_11 : decode cX8_stops 11 = .ok (.goto 7, 3) := by decide +kernel
theorem dX8_stops_14 : decode cX8_stops 14 = .ok (.aload_n 0, 1) := by decide +kernel
theorem dX8_stops_15 : decode cX8_stops 15 = .ok (.getfield 188, 3) := by decide +kernel
theorem dX8_stops_18 : decode cX8_stops 18 = .ok (.ireturn, 1) := by decide +kernel
theorem dJ9_min_7cf53_0 : decode cJ9_min_7cf53 0 = .ok (.iload_n 0, 1) := by decide +kernel
theorem dJ9_min_7cf53_1 : decode cJ9_min_7cf53 1 = .ok (.iload_n 1, 1) := by decide +kernel
theorem dJ9_min_7cf53_2 : decode cJ9_min_7cf53 2 = .ok (.if_icmp .gt 7, 3) := by decide +kernel
theorem dJ9_min_7cf53_5 : decode cJ9_min_7cf53 5 = .ok (.iload_n 0, 1) := by decide +kernel
theorem dJ9_min_7cf53_6 : decode cJ9_min_7cf53 6 = .ok (.goto 4, 3) := by decide +kernel
theorem dJ9_min_7cf53_9 : decode cJ9_min_7cf53 9 = .ok (.iload_n 1, 1) := by decide +kernel
theorem dJ9_min_7cf53_10 : decode cJ9_min_7cf53 10 = .ok (.ireturn, 1) := by decide +kernel
end
section
theorem fX8_init_7 : Cond.fieldLink RX8 7 "PeirceDeskModel" "z" "[I" ∈ wsX8_init := by decide +kernel
theorem fX8_init_13 : Cond.fieldLink RX8 13 "PeirceDeskModel" "past" "[I" ∈ wsX8_init := by decide +kernel
theorem fX8_init_16 : Cond.fieldLink RX8 16 "PeirceDeskModel" "slots" "[I" ∈ wsX8_init := by decide +kernel
theorem fX8_init_19 : Cond.fieldLink RX8 19 "PeirceDeskModel" "isSaved" "[Z" ∈ wsX8_init := by decide +kernel
theorem fX8_init_23 : Cond.fieldLink RX8 23 "PeirceDeskModel" "pad" "[C" ∈ wsX8_init := by decide +kernel
theorem fX8_init_27 : Cond.fieldLink RX8 27 "PeirceDeskModel" "w" "[I" ∈ wsX8_init := by decide +kernel
theorem fX8_init_30 : Cond.fieldLink RX8 30 "PeirceDeskModel" "rows" "[I" ∈ wsX8_init := by decide +kernel
theorem fX8_init_33 : Cond.fieldLink RX8 33 "PeirceDeskModel" "letters" "[I" ∈ wsX8_init := by decide +kernel
theorem fX8_init_36 : Cond.fieldLink RX8 36 "PeirceDeskModel" "sums" "[I" ∈ wsX8_init := by decide +kernel
theorem fX8_init_39 : Cond.fieldLink RX8 39 "PeirceDeskModel" "often" "[I" ∈ wsX8_init := by decide +kernel
theorem fX8_init_42 : Cond.fieldLink RX8 42 "PeirceDeskModel" "places" "[I" ∈ wsX8_init := by decide +kernel
theorem nX8_init_8 : ∀ w ∈ wsX80, w ∈ wsX8_init := fun w h => List.mem_cons_of_mem _ (List.mem_append_right _ h)
theorem fX8_clear_7 : Cond.fieldLink RX8 7 "PeirceDeskModel" "z" "[I" ∈ wsX8_clear := by decide +kernel
theorem nX8_clear_8 : ∀ w ∈ wsX80, w ∈ wsX8_clear := fun w h => List.mem_cons_of_mem _ (List.mem_append_right _ h)
theorem fX8_record_7 : Cond.fieldLink RX8 7 "PeirceDeskModel" "z" "[I" ∈ wsX8_record := by decide +kernel
theorem fX8_record_13 : Cond.fieldLink RX8 13 "PeirceDeskModel" "past" "[I" ∈ wsX8_record := by decide +kernel
theorem fX8_record_53 : Cond.fieldLink RX8 53 "PeirceDeskModel" "pastMany" "I" ∈ wsX8_record := by decide +kernel
theorem nX8_record_8 : ∀ w ∈ wsX80, w ∈ wsX8_record := fun w h => List.mem_cons_of_mem _ (List.mem_append_right _ h)
theorem fX8_undo_7 : Cond.fieldLink RX8 7 "PeirceDeskModel" "z" "[I" ∈ wsX8_undo := by decide +kernel
theorem fX8_undo_13 : Cond.fieldLink RX8 13 "PeirceDeskModel" "past" "[I" ∈ wsX8_undo := by decide +kernel
theorem fX8_undo_53 : Cond.fieldLink RX8 53 "PeirceDeskModel" "pastMany" "I" ∈ wsX8_undo := by decide +kernel
theorem nX8_undo_8 : ∀ w ∈ wsX80, w ∈ wsX8_undo := fun w h => List.mem_cons_of_mem _ (List.mem_append_right _ h)
theorem fX8_save_7 : Cond.fieldLink RX8 7 "PeirceDeskModel" "z" "[I" ∈ wsX8_save := by decide +kernel
theorem fX8_save_16 : Cond.fieldLink RX8 16 "PeirceDeskModel" "slots" "[I" ∈ wsX8_save := by decide +kernel
theorem fX8_save_19 : Cond.fieldLink RX8 19 "PeirceDeskModel" "isSaved" "[Z" ∈ wsX8_save := by decide +kernel
theorem nX8_save_8 : ∀ w ∈ wsX80, w ∈ wsX8_save := fun w h => List.mem_cons_of_mem _ (List.mem_append_right _ h)
theorem fX8_restore_7 : Cond.fieldLink RX8 7 "PeirceDeskModel" "z" "[I" ∈ wsX8_restore := by decide +kernel
theorem fX8_restore_16 : Cond.fieldLink RX8 16 "PeirceDeskModel" "slots" "[I" ∈ wsX8_restore := by decide +kernel
theorem fX8_restore_19 : Cond.fieldLink RX8 19 "PeirceDeskModel" "isSaved" "[Z" ∈ wsX8_restore := by decide +kernel
theorem nX8_restore_8 : ∀ w ∈ wsX80, w ∈ wsX8_restore := fun w h => List.mem_cons_of_mem _ (List.mem_append_right _ h)
theorem fX8_half_7 : Cond.fieldLink RX8 7 "PeirceDeskModel" "z" "[I" ∈ wsX8_half := by decide +kernel
theorem nX8_half_8 : ∀ w ∈ wsX80, w ∈ wsX8_half := fun w h => List.mem_cons_of_mem _ (List.mem_append_right _ h)
theorem fX8_within_7 : Cond.fieldLink RX8 7 "PeirceDeskModel" "z" "[I" ∈ wsX8_within := by decide +kernel
theorem nX8_within_8 : ∀ w ∈ wsX80, w ∈ wsX8_within := fun w h => List.mem_cons_of_mem _ (List.mem_append_right _ h)
theorem fX8_over_7 : Cond.fieldLink RX8 7 "PeirceDeskModel" "z" "[I" ∈ wsX8_over := by decide +kernel
theorem nX8_over_8 : ∀ w ∈ wsX80, w ∈ wsX8_over := fun w h => List.mem_cons_of_mem _ (List.mem_append_right _ h)
theorem fX8_times_7 : Cond.fieldLink RX8 7 "PeirceDeskModel" "z" "[I" ∈ wsX8_times := by decide +kernel
theorem fX8_times_27 : Cond.fieldLink RX8 27 "PeirceDeskModel" "w" "[I" ∈ wsX8_times := by decide +kernel
theorem nX8_times_8 : ∀ w ∈ wsX80, w ∈ wsX8_times := fun w h => List.mem_cons_of_mem _ (List.mem_append_right _ h)
theorem fX8_copy_27 : Cond.fieldLink RX8 27 "PeirceDeskModel" "w" "[I" ∈ wsX8_copy := by decide +kernel
theorem nX8_copy_8 : ∀ w ∈ wsX80, w ∈ wsX8_copy := fun w h => List.mem_cons_of_mem _ (List.mem_append_right _ h)
theorem fX8_blank_27 : Cond.fieldLink RX8 27 "PeirceDeskModel" "w" "[I" ∈ wsX8_blank := by decide +kernel
theorem nX8_blank_8 : ∀ w ∈ wsX80, w ∈ wsX8_blank := fun w h => List.mem_cons_of_mem _ (List.mem_append_right _ h)
theorem fX8_add_27 : Cond.fieldLink RX8 27 "PeirceDeskModel" "w" "[I" ∈ wsX8_add := by decide +kernel
theorem nX8_add_8 : ∀ w ∈ wsX80, w ∈ wsX8_add := fun w h => List.mem_cons_of_mem _ (List.mem_append_right _ h)
theorem fX8_areAlike_27 : Cond.fieldLink RX8 27 "PeirceDeskModel" "w" "[I" ∈ wsX8_areAlike := by decide +kernel
theorem nX8_areAlike_8 : ∀ w ∈ wsX80, w ∈ wsX8_areAlike := fun w h => List.mem_cons_of_mem _ (List.mem_append_right _ h)
theorem fX8_isNothing_27 : Cond.fieldLink RX8 27 "PeirceDeskModel" "w" "[I" ∈ wsX8_isNothing := by decide +kernel
theorem nX8_isNothing_8 : ∀ w ∈ wsX80, w ∈ wsX8_isNothing := fun w h => List.mem_cons_of_mem _ (List.mem_append_right _ h)
theorem fX8_cellOf_27 : Cond.fieldLink RX8 27 "PeirceDeskModel" "w" "[I" ∈ wsX8_cellOf := by decide +kernel
theorem nX8_cellOf_8 : ∀ w ∈ wsX80, w ∈ wsX8_cellOf := fun w h => List.mem_cons_of_mem _ (List.mem_append_right _ h)
theorem fX8_determinant_7 : Cond.fieldLink RX8 7 "PeirceDeskModel" "z" "[I" ∈ wsX8_determinant := by decide +kernel
theorem fX8_determinant_27 : Cond.fieldLink RX8 27 "PeirceDeskModel" "w" "[I" ∈ wsX8_determinant := by decide +kernel
theorem nX8_determinant_8 : ∀ w ∈ wsX80, w ∈ wsX8_determinant := fun w h => List.mem_cons_of_mem _ (List.mem_append_right _ h)
theorem fX8_invert_7 : Cond.fieldLink RX8 7 "PeirceDeskModel" "z" "[I" ∈ wsX8_invert := by decide +kernel
theorem fX8_invert_27 : Cond.fieldLink RX8 27 "PeirceDeskModel" "w" "[I" ∈ wsX8_invert := by decide +kernel
theorem nX8_invert_8 : ∀ w ∈ wsX80, w ∈ wsX8_invert := fun w h => List.mem_cons_of_mem _ (List.mem_append_right _ h)
theorem fX8_layBase_7 : Cond.fieldLink RX8 7 "PeirceDeskModel" "z" "[I" ∈ wsX8_layBase := by decide +kernel
theorem fX8_layBase_27 : Cond.fieldLink RX8 27 "PeirceDeskModel" "w" "[I" ∈ wsX8_layBase := by decide +kernel
theorem nX8_layBase_8 : ∀ w ∈ wsX80, w ∈ wsX8_layBase := fun w h => List.mem_cons_of_mem _ (List.mem_append_right _ h)
theorem fX8_load_7 : Cond.fieldLink RX8 7 "PeirceDeskModel" "z" "[I" ∈ wsX8_load := by decide +kernel
theorem fX8_load_27 : Cond.fieldLink RX8 27 "PeirceDeskModel" "w" "[I" ∈ wsX8_load := by decide +kernel
theorem nX8_load_8 : ∀ w ∈ wsX80, w ∈ wsX8_load := fun w h => List.mem_cons_of_mem _ (List.mem_append_right _ h)
theorem fX8_store_7 : Cond.fieldLink RX8 7 "PeirceDeskModel" "z" "[I" ∈ wsX8_store := by decide +kernel
theorem fX8_store_27 : Cond.fieldLink RX8 27 "PeirceDeskModel" "w" "[I" ∈ wsX8_store := by decide +kernel
theorem nX8_store_8 : ∀ w ∈ wsX80, w ∈ wsX8_store := fun w h => List.mem_cons_of_mem _ (List.mem_append_right _ h)
theorem fX8_begin_7 : Cond.fieldLink RX8 7 "PeirceDeskModel" "z" "[I" ∈ wsX8_begin := by decide +kernel
theorem nX8_begin_8 : ∀ w ∈ wsX80, w ∈ wsX8_begin := fun w h => List.mem_cons_of_mem _ (List.mem_append_right _ h)
theorem fX8_isCell_7 : Cond.fieldLink RX8 7 "PeirceDeskModel" "z" "[I" ∈ wsX8_isCell := by decide +kernel
theorem nX8_isCell_8 : ∀ w ∈ wsX80, w ∈ wsX8_isCell := fun w h => List.mem_cons_of_mem _ (List.mem_append_right _ h)
theorem fX8_set_7 : Cond.fieldLink RX8 7 "PeirceDeskModel" "z" "[I" ∈ wsX8_set := by decide +kernel
theorem nX8_set_8 : ∀ w ∈ wsX80, w ∈ wsX8_set := fun w h => List.mem_cons_of_mem _ (List.mem_append_right _ h)
theorem fX8_base_7 : Cond.fieldLink RX8 7 "PeirceDeskModel" "z" "[I" ∈ wsX8_base := by decide +kernel
theorem fX8_base_27 : Cond.fieldLink RX8 27 "PeirceDeskModel" "w" "[I" ∈ wsX8_base := by decide +kernel
theorem nX8_base_8 : ∀ w ∈ wsX80, w ∈ wsX8_base := fun w h => List.mem_cons_of_mem _ (List.mem_append_right _ h)
theorem fX8_entry_27 : Cond.fieldLink RX8 27 "PeirceDeskModel" "w" "[I" ∈ wsX8_entry := by decide +kernel
theorem nX8_entry_8 : ∀ w ∈ wsX80, w ∈ wsX8_entry := fun w h => List.mem_cons_of_mem _ (List.mem_append_right _ h)
theorem fX8_isNew_7 : Cond.fieldLink RX8 7 "PeirceDeskModel" "z" "[I" ∈ wsX8_isNew := by decide +kernel
theorem fX8_isNew_27 : Cond.fieldLink RX8 27 "PeirceDeskModel" "w" "[I" ∈ wsX8_isNew := by decide +kernel
theorem fX8_isNew_30 : Cond.fieldLink RX8 30 "PeirceDeskModel" "rows" "[I" ∈ wsX8_isNew := by decide +kernel
theorem fX8_isNew_131 : Cond.fieldLink RX8 131 "PeirceDeskModel" "rowMany" "I" ∈ wsX8_isNew := by decide +kernel
theorem nX8_isNew_8 : ∀ w ∈ wsX80, w ∈ wsX8_isNew := fun w h => List.mem_cons_of_mem _ (List.mem_append_right _ h)
theorem fX8_leadOf_30 : Cond.fieldLink RX8 30 "PeirceDeskModel" "rows" "[I" ∈ wsX8_leadOf := by decide +kernel
theorem nX8_leadOf_8 : ∀ w ∈ wsX80, w ∈ wsX8_leadOf := fun w h => List.mem_cons_of_mem _ (List.mem_append_right _ h)
theorem fX8_rankOf_7 : Cond.fieldLink RX8 7 "PeirceDeskModel" "z" "[I" ∈ wsX8_rankOf := by decide +kernel
theorem fX8_rankOf_27 : Cond.fieldLink RX8 27 "PeirceDeskModel" "w" "[I" ∈ wsX8_rankOf := by decide +kernel
theorem fX8_rankOf_131 : Cond.fieldLink RX8 131 "PeirceDeskModel" "rowMany" "I" ∈ wsX8_rankOf := by decide +kernel
theorem nX8_rankOf_8 : ∀ w ∈ wsX80, w ∈ wsX8_rankOf := fun w h => List.mem_cons_of_mem _ (List.mem_append_right _ h)
theorem fX8_degreeOf_131 : Cond.fieldLink RX8 131 "PeirceDeskModel" "rowMany" "I" ∈ wsX8_degreeOf := by decide +kernel
theorem nX8_degreeOf_8 : ∀ w ∈ wsX80, w ∈ wsX8_degreeOf := fun w h => List.mem_cons_of_mem _ (List.mem_append_right _ h)
theorem fX8_trace_7 : Cond.fieldLink RX8 7 "PeirceDeskModel" "z" "[I" ∈ wsX8_trace := by decide +kernel
theorem fX8_trace_27 : Cond.fieldLink RX8 27 "PeirceDeskModel" "w" "[I" ∈ wsX8_trace := by decide +kernel
theorem nX8_trace_8 : ∀ w ∈ wsX80, w ∈ wsX8_trace := fun w h => List.mem_cons_of_mem _ (List.mem_append_right _ h)
theorem fX8_count_7 : Cond.fieldLink RX8 7 "PeirceDeskModel" "z" "[I" ∈ wsX8_count := by decide +kernel
theorem fX8_count_53 : Cond.fieldLink RX8 53 "PeirceDeskModel" "pastMany" "I" ∈ wsX8_count := by decide +kernel
theorem fX8_count_159 : Cond.fieldLink RX8 159 "PeirceDeskModel" "typed" "I" ∈ wsX8_count := by decide +kernel
theorem nX8_count_8 : ∀ w ∈ wsX80, w ∈ wsX8_count := fun w h => List.mem_cons_of_mem _ (List.mem_append_right _ h)
theorem fX8_power_27 : Cond.fieldLink RX8 27 "PeirceDeskModel" "w" "[I" ∈ wsX8_power := by decide +kernel
theorem nX8_power_8 : ∀ w ∈ wsX80, w ∈ wsX8_power := fun w h => List.mem_cons_of_mem _ (List.mem_append_right _ h)
theorem fX8_partSize_7 : Cond.fieldLink RX8 7 "PeirceDeskModel" "z" "[I" ∈ wsX8_partSize := by decide +kernel
theorem fX8_partSize_27 : Cond.fieldLink RX8 27 "PeirceDeskModel" "w" "[I" ∈ wsX8_partSize := by decide +kernel
theorem fX8_partSize_131 : Cond.fieldLink RX8 131 "PeirceDeskModel" "rowMany" "I" ∈ wsX8_partSize := by decide +kernel
theorem nX8_partSize_8 : ∀ w ∈ wsX80, w ∈ wsX8_partSize := fun w h => List.mem_cons_of_mem _ (List.mem_append_right _ h)
theorem fX8_howMany_7 : Cond.fieldLink RX8 7 "PeirceDeskModel" "z" "[I" ∈ wsX8_howMany := by decide +kernel
theorem fX8_howMany_27 : Cond.fieldLink RX8 27 "PeirceDeskModel" "w" "[I" ∈ wsX8_howMany := by decide +kernel
theorem nX8_howMany_8 : ∀ w ∈ wsX80, w ∈ wsX8_howMany := fun w h => List.mem_cons_of_mem _ (List.mem_append_right _ h)
theorem fX8_put_23 : Cond.fieldLink RX8 23 "PeirceDeskModel" "pad" "[C" ∈ wsX8_put := by decide +kernel
theorem fX8_put_159 : Cond.fieldLink RX8 159 "PeirceDeskModel" "typed" "I" ∈ wsX8_put := by decide +kernel
theorem nX8_put_8 : ∀ w ∈ wsX80, w ∈ wsX8_put := fun w h => List.mem_cons_of_mem _ (List.mem_append_right _ h)
theorem fX8_wipe_159 : Cond.fieldLink RX8 159 "PeirceDeskModel" "typed" "I" ∈ wsX8_wipe := by decide +kernel
theorem nX8_wipe_8 : ∀ w ∈ wsX80, w ∈ wsX8_wipe := fun w h => List.mem_cons_of_mem _ (List.mem_append_right _ h)
theorem fX8_opens_33 : Cond.fieldLink RX8 33 "PeirceDeskModel" "letters" "[I" ∈ wsX8_opens := by decide +kernel
theorem fX8_opens_36 : Cond.fieldLink RX8 36 "PeirceDeskModel" "sums" "[I" ∈ wsX8_opens := by decide +kernel
theorem fX8_opens_39 : Cond.fieldLink RX8 39 "PeirceDeskModel" "often" "[I" ∈ wsX8_opens := by decide +kernel
theorem fX8_opens_42 : Cond.fieldLink RX8 42 "PeirceDeskModel" "places" "[I" ∈ wsX8_opens := by decide +kernel
theorem fX8_opens_167 : Cond.fieldLink RX8 167 "PeirceDeskModel" "depth" "I" ∈ wsX8_opens := by decide +kernel
theorem nX8_opens_8 : ∀ w ∈ wsX80, w ∈ wsX8_opens := fun w h => List.mem_cons_of_mem _ (List.mem_append_right _ h)
theorem fX8_counts_36 : Cond.fieldLink RX8 36 "PeirceDeskModel" "sums" "[I" ∈ wsX8_counts := by decide +kernel
theorem fX8_counts_39 : Cond.fieldLink RX8 39 "PeirceDeskModel" "often" "[I" ∈ wsX8_counts := by decide +kernel
theorem fX8_counts_167 : Cond.fieldLink RX8 167 "PeirceDeskModel" "depth" "I" ∈ wsX8_counts := by decide +kernel
theorem fX8_counts_174 : Cond.fieldLink RX8 174 "PeirceDeskModel" "works" "Z" ∈ wsX8_counts := by decide +kernel
theorem fX8_counts_178 : Cond.fieldLink RX8 178 "PeirceDeskModel" "wants" "I" ∈ wsX8_counts := by decide +kernel
theorem nX8_counts_8 : ∀ w ∈ wsX80, w ∈ wsX8_counts := fun w h => List.mem_cons_of_mem _ (List.mem_append_right _ h)
theorem fX8_closes_33 : Cond.fieldLink RX8 33 "PeirceDeskModel" "letters" "[I" ∈ wsX8_closes := by decide +kernel
theorem fX8_closes_36 : Cond.fieldLink RX8 36 "PeirceDeskModel" "sums" "[I" ∈ wsX8_closes := by decide +kernel
theorem fX8_closes_42 : Cond.fieldLink RX8 42 "PeirceDeskModel" "places" "[I" ∈ wsX8_closes := by decide +kernel
theorem fX8_closes_167 : Cond.fieldLink RX8 167 "PeirceDeskModel" "depth" "I" ∈ wsX8_closes := by decide +kernel
theorem fX8_closes_174 : Cond.fieldLink RX8 174 "PeirceDeskModel" "works" "Z" ∈ wsX8_closes := by decide +kernel
theorem fX8_closes_188 : Cond.fieldLink RX8 188 "PeirceDeskModel" "stop" "I" ∈ wsX8_closes := by decide +kernel
theorem nX8_closes_8 : ∀ w ∈ wsX80, w ∈ wsX8_closes := fun w h => List.mem_cons_of_mem _ (List.mem_append_right _ h)
theorem fX8_factor_178 : Cond.fieldLink RX8 178 "PeirceDeskModel" "wants" "I" ∈ wsX8_factor := by decide +kernel
theorem nX8_factor_8 : ∀ w ∈ wsX80, w ∈ wsX8_factor := fun w h => List.mem_cons_of_mem _ (List.mem_append_right _ h)
theorem fX8_behind_23 : Cond.fieldLink RX8 23 "PeirceDeskModel" "pad" "[C" ∈ wsX8_behind := by decide +kernel
theorem fX8_behind_33 : Cond.fieldLink RX8 33 "PeirceDeskModel" "letters" "[I" ∈ wsX8_behind := by decide +kernel
theorem fX8_behind_36 : Cond.fieldLink RX8 36 "PeirceDeskModel" "sums" "[I" ∈ wsX8_behind := by decide +kernel
theorem fX8_behind_39 : Cond.fieldLink RX8 39 "PeirceDeskModel" "often" "[I" ∈ wsX8_behind := by decide +kernel
theorem fX8_behind_167 : Cond.fieldLink RX8 167 "PeirceDeskModel" "depth" "I" ∈ wsX8_behind := by decide +kernel
theorem fX8_behind_178 : Cond.fieldLink RX8 178 "PeirceDeskModel" "wants" "I" ∈ wsX8_behind := by decide +kernel
theorem fX8_behind_209 : Cond.fieldLink RX8 209 "PeirceDeskModel" "isFormula" "Z" ∈ wsX8_behind := by decide +kernel
theorem fX8_behind_212 : Cond.fieldLink RX8 212 "PeirceDeskModel" "isEquation" "Z" ∈ wsX8_behind := by decide +kernel
theorem nX8_behind_8 : ∀ w ∈ wsX80, w ∈ wsX8_behind := fun w h => List.mem_cons_of_mem _ (List.mem_append_right _ h)
theorem fX8_stands_39 : Cond.fieldLink RX8 39 "PeirceDeskModel" "often" "[I" ∈ wsX8_stands := by decide +kernel
theorem fX8_stands_167 : Cond.fieldLink RX8 167 "PeirceDeskModel" "depth" "I" ∈ wsX8_stands := by decide +kernel
theorem fX8_stands_178 : Cond.fieldLink RX8 178 "PeirceDeskModel" "wants" "I" ∈ wsX8_stands := by decide +kernel
theorem nX8_stands_8 : ∀ w ∈ wsX80, w ∈ wsX8_stands := fun w h => List.mem_cons_of_mem _ (List.mem_append_right _ h)
theorem fX8_work_23 : Cond.fieldLink RX8 23 "PeirceDeskModel" "pad" "[C" ∈ wsX8_work := by decide +kernel
theorem fX8_work_36 : Cond.fieldLink RX8 36 "PeirceDeskModel" "sums" "[I" ∈ wsX8_work := by decide +kernel
theorem fX8_work_39 : Cond.fieldLink RX8 39 "PeirceDeskModel" "often" "[I" ∈ wsX8_work := by decide +kernel
theorem fX8_work_159 : Cond.fieldLink RX8 159 "PeirceDeskModel" "typed" "I" ∈ wsX8_work := by decide +kernel
theorem fX8_work_167 : Cond.fieldLink RX8 167 "PeirceDeskModel" "depth" "I" ∈ wsX8_work := by decide +kernel
theorem fX8_work_174 : Cond.fieldLink RX8 174 "PeirceDeskModel" "works" "Z" ∈ wsX8_work := by decide +kernel
theorem fX8_work_178 : Cond.fieldLink RX8 178 "PeirceDeskModel" "wants" "I" ∈ wsX8_work := by decide +kernel
theorem fX8_work_188 : Cond.fieldLink RX8 188 "PeirceDeskModel" "stop" "I" ∈ wsX8_work := by decide +kernel
theorem fX8_work_209 : Cond.fieldLink RX8 209 "PeirceDeskModel" "isFormula" "Z" ∈ wsX8_work := by decide +kernel
theorem fX8_work_212 : Cond.fieldLink RX8 212 "PeirceDeskModel" "isEquation" "Z" ∈ wsX8_work := by decide +kernel
theorem nX8_work_8 : ∀ w ∈ wsX80, w ∈ wsX8_work := fun w h => List.mem_cons_of_mem _ (List.mem_append_right _ h)
theorem fX8_run_23 : Cond.fieldLink RX8 23 "PeirceDeskModel" "pad" "[C" ∈ wsX8_run := by decide +kernel
theorem fX8_run_159 : Cond.fieldLink RX8 159 "PeirceDeskModel" "typed" "I" ∈ wsX8_run := by decide +kernel
theorem fX8_run_188 : Cond.fieldLink RX8 188 "PeirceDeskModel" "stop" "I" ∈ wsX8_run := by decide +kernel
theorem fX8_run_209 : Cond.fieldLink RX8 209 "PeirceDeskModel" "isFormula" "Z" ∈ wsX8_run := by decide +kernel
theorem nX8_run_8 : ∀ w ∈ wsX80, w ∈ wsX8_run := fun w h => List.mem_cons_of_mem _ (List.mem_append_right _ h)
theorem fX8_holds_188 : Cond.fieldLink RX8 188 "PeirceDeskModel" "stop" "I" ∈ wsX8_holds := by decide +kernel
theorem fX8_holds_209 : Cond.fieldLink RX8 209 "PeirceDeskModel" "isFormula" "Z" ∈ wsX8_holds := by decide +kernel
theorem nX8_holds_8 : ∀ w ∈ wsX80, w ∈ wsX8_holds := fun w h => List.mem_cons_of_mem _ (List.mem_append_right _ h)
theorem fX8_stops_188 : Cond.fieldLink RX8 188 "PeirceDeskModel" "stop" "I" ∈ wsX8_stops := by decide +kernel
theorem nX8_stops_8 : ∀ w ∈ wsX80, w ∈ wsX8_stops := fun w h => List.mem_cons_of_mem _ (List.mem_append_right _ h)
end
section
/-! rows of nine numbers: elements, as functions that are 0 from 9 on -/
def mx_of (f : Nat → Int) (o : Nat) : Nat → Int := fun k => if k < 9 then f (o + k) else 0
def mx_ok (m : Int) (a : Nat → Int) : Prop := ∀ k, k < 9 → 0 ≤ a k ∧ a k < m
/-- sums of the usual product -/
def mx_ps (a b : Nat → Int) (r c : Nat) : Nat → Int
  | 0 => 0
  | k + 1 => mx_ps a b r c k + a (3 * r + k) * b (3 * k + c)
/-- the usual product -/
def mx_mul (n : Nat) (m : Int) (a b : Nat → Int) : Nat → Int := fun k => if k < 9 ∧ k / 3 < n ∧ k % 3 < n then mx_ps a b (k / 3) (k % 3) n % m else 0
def mx_lin (m : Int) (a : Nat → Int) (x : Int) (b : Nat → Int) (y : Int) : Nat → Int := fun k => if k < 9 then (a k * x + b k * y) % m else 0
theorem mx_of_at {f : Nat → Int} {o k : Nat} (h : k < 9) : mx_of f o k = f (o + k) := if_pos h
theorem mx_of_ext {f g : Nat → Int} {o q : Nat} (h : ∀ k, k < 9 → f (o + k) = g (q + k)) : mx_of f o = mx_of g q := by
  funext k
  unfold mx_of
  by_cases e : k < 9
  · rw [if_pos e, if_pos e, h k e]
  · rw [if_neg e, if_neg e]
theorem mx_pr {m x y : Int} (h : m ≤ 11) (hx : 0 ≤ x ∧ x < m) (hy : 0 ≤ y ∧ y < m) : 0 ≤ x * y ∧ x * y ≤ 100 := by
  refine ⟨Int.mul_nonneg hx.1 hy.1, ?_⟩
  have h1 : x * y ≤ 10 * y := Int.mul_le_mul_of_nonneg_right (by omega) hy.1
  omega
theorem mx_md {m : Int} (h : 3 ≤ m) (x : Int) : 0 ≤ x % m ∧ x % m < m := ⟨Int.emod_nonneg _ (by omega), Int.emod_lt_of_pos _ (by omega)⟩
theorem mx_psb {m : Int} (h : m ≤ 11) {a b : Nat → Int} (ha : mx_ok m a) (hb : mx_ok m b) {r c : Nat} (hr : r < 3) (hc : c < 3) : ∀ k, k ≤ 3 → 0 ≤ mx_ps a b r c k ∧ mx_ps a b r c k ≤ 100 * k
  | 0, _ => by simp [mx_ps]
  | k + 1, hk => by
    have h1 := mx_psb h ha hb hr hc k (by omega)
    have h2 := mx_pr h (ha (3 * r + k) (by omega)) (hb (3 * k + c) (by omega))
    show 0 ≤ mx_ps a b r c k + a (3 * r + k) * b (3 * k + c) ∧ mx_ps a b r c k + a (3 * r + k) * b (3 * k + c) ≤ 100 * ((k + 1 : Nat) : Int)
    omega
theorem mx_mul_ok {n : Nat} {m : Int} (h : 3 ≤ m) (a b : Nat → Int) : mx_ok m (mx_mul n m a b) := by
  intro k hk
  unfold mx_mul
  split
  · exact mx_md h _
  · omega
theorem mx_lin_ok {m : Int} (h : 3 ≤ m) (a b : Nat → Int) (x y : Int) : mx_ok m (mx_lin m a x b y) := by
  intro k hk
  unfold mx_lin
  rw [if_pos hk]
  exact mx_md h _
/-- a block of a cell's numbers written anew -/
def gx_blk (M : gx_M) (c o n : Nat) (f : Nat → Int) : gx_M := fun c' => if c' = c then (fun j => if o ≤ j ∧ j < o + n then f (j - o) else M c j) else M c'
theorem gx_blk_nc {M : gx_M} {c o n c' : Nat} {f : Nat → Int} (h : c' ≠ c) : gx_blk M c o n f c' = M c' := by simp [gx_blk, h]
theorem gx_blk_in {M : gx_M} {c o n k : Nat} {f : Nat → Int} (h : k < n) : gx_blk M c o n f c (o + k) = f k := by
  have : o ≤ o + k ∧ o + k < o + n := by omega
  simp [gx_blk, h]
theorem gx_blk_out {M : gx_M} {c o n j : Nat} {f : Nat → Int} (h : j < o ∨ o + n ≤ j) : gx_blk M c o n f c j = M c j := by
  have : ¬ (o ≤ j ∧ j < o + n) := by omega
  simp [gx_blk, this]
theorem gx_blk_0 {M : gx_M} {c o : Nat} {f : Nat → Int} : gx_blk M c o 0 f = M := by
  funext c' j
  unfold gx_blk
  by_cases e : c' = c
  · subst e
    rw [if_pos rfl]
    exact if_neg (by omega)
  · rw [if_neg e]
theorem gx_blk_s {M : gx_M} {c o n : Nat} {f : Nat → Int} {v : Int} (h : v = f n) : gx_u (gx_blk M c o n f) c (o + n) v = gx_blk M c o (n + 1) f := by
  subst h
  funext c' j
  rw [gx_u_at]
  unfold gx_blk
  by_cases e : c' = c
  · subst e
    by_cases e2 : j = o + n
    · subst e2
      simp
    · by_cases e3 : o ≤ j ∧ j < o + n
      · have : o ≤ j ∧ j < o + (n + 1) := by omega
        simp [e2, e3, this]
      · have : ¬ (o ≤ j ∧ j < o + (n + 1)) := by omega
        simp [e2, e3, this]
  · simp [e]
theorem gx_blk_f {M : gx_M} {c o n : Nat} {f g : Nat → Int} (h : ∀ k, k < n → f k = g k) : gx_blk M c o n f = gx_blk M c o n g := by
  funext c' j
  unfold gx_blk
  by_cases e : c' = c
  · subst e
    by_cases e3 : o ≤ j ∧ j < o + n
    · simp [e3, h (j - o) (by omega)]
    · simp [e3]
  · simp [e]
theorem gx_blk_u {M : gx_M} {c o n k : Nat} {f : Nat → Int} {v : Int} (h : k < n) : gx_u (gx_blk M c o n f) c (o + k) v = gx_blk M c o n (fun i => if i = k then v else f i) := by
  funext c' j
  rw [gx_u_at]
  unfold gx_blk
  by_cases e : c' = c
  · subst e
    by_cases e2 : j = o + k
    · subst e2
      have : o ≤ o + k ∧ o + k < o + n := by omega
      simp [h]
    · by_cases e3 : o ≤ j ∧ j < o + n
      · have : ¬ (j - o = k) := by omega
        simp [e2, e3, this]
      · simp [e2, e3]
  · simp [e]
theorem mx_of_blk {M : gx_M} {c o : Nat} {f : Nat → Int} : mx_of (gx_blk M c o 9 f c) o = fun k => if k < 9 then f k else 0 := by
  funext k
  unfold mx_of
  by_cases e : k < 9
  · rw [if_pos e, if_pos e, gx_blk_in e]
  · rw [if_neg e, if_neg e]
theorem mx_of_blo {M : gx_M} {c o q : Nat} {f : Nat → Int} (h : q + 9 ≤ o ∨ o + 9 ≤ q) : mx_of (gx_blk M c o 9 f c) q = mx_of (M c) q :=
  mx_of_ext (fun k hk => gx_blk_out (by omega))
theorem mx_cut {f : Nat → Int} (h : ∀ k, 9 ≤ k → f k = 0) : (fun k => if k < 9 then f k else 0) = f := by
  funext k
  by_cases e : k < 9
  · rw [if_pos e]
  · rw [if_neg e, h k (by omega)]
theorem mx_mul_9 {n : Nat} {m : Int} {a b : Nat → Int} : ∀ k, 9 ≤ k → mx_mul n m a b k = 0 := fun k hk => if_neg (by omega)
theorem mx_lin_9 {m : Int} {a b : Nat → Int} {x y : Int} : ∀ k, 9 ≤ k → mx_lin m a x b y k = 0 := fun k hk => if_neg (by omega)
/-- the reference's cells -/
def gm_L : List gx_K := [.inl (8, [some 1, some 2, some 3, some 4, none, some 5, none, some 6, some 7, none, some 8, some 9, some 10, some 11, none, none, none, none, none, none]), .inr (0, 83, 0, 0), .inr (0, 498, 0, 0), .inr (0, 166, 0, 0), .inr (2, 2, 0, 0), .inr (1, 60, 0, 0), .inr (0, 1926, 0, 0), .inr (0, 90, 0, 0), .inr (0, 64, 0, 0), .inr (0, 64, 0, 0), .inr (0, 64, 0, 0), .inr (0, 64, 0, 0)]
def gm_H (La : List gx_K) : Prop := ∀ c, c < 12 → La[c]? = gm_L[c]?
theorem gm_0 {La : List gx_K} (h : gm_H La) : La[0]? = some (.inl (8, [some 1, some 2, some 3, some 4, none, some 5, none, some 6, some 7, none, some 8, some 9, some 10, some 11, none, none, none, none, none, none])) := h 0 (by decide)
theorem gm_1 {La : List gx_K} (h : gm_H La) : La[1]? = some (.inr (0, 83, 0, 0)) := h 1 (by decide)
theorem gm_2 {La : List gx_K} (h : gm_H La) : La[2]? = some (.inr (0, 498, 0, 0)) := h 2 (by decide)
theorem gm_3 {La : List gx_K} (h : gm_H La) : La[3]? = some (.inr (0, 166, 0, 0)) := h 3 (by decide)
theorem gm_4 {La : List gx_K} (h : gm_H La) : La[4]? = some (.inr (2, 2, 0, 0)) := h 4 (by decide)
theorem gm_5 {La : List gx_K} (h : gm_H La) : La[5]? = some (.inr (1, 60, 0, 0)) := h 5 (by decide)
theorem gm_6 {La : List gx_K} (h : gm_H La) : La[6]? = some (.inr (0, 1926, 0, 0)) := h 6 (by decide)
theorem gm_7 {La : List gx_K} (h : gm_H La) : La[7]? = some (.inr (0, 90, 0, 0)) := h 7 (by decide)
theorem gm_8 {La : List gx_K} (h : gm_H La) : La[8]? = some (.inr (0, 64, 0, 0)) := h 8 (by decide)
theorem gm_9 {La : List gx_K} (h : gm_H La) : La[9]? = some (.inr (0, 64, 0, 0)) := h 9 (by decide)
theorem gm_10 {La : List gx_K} (h : gm_H La) : La[10]? = some (.inr (0, 64, 0, 0)) := h 10 (by decide)
theorem gm_11 {La : List gx_K} (h : gm_H La) : La[11]? = some (.inr (0, 64, 0, 0)) := h 11 (by decide)
/-- the reference's size and modulus -/
def gm_Z (M : gx_M) (n : Nat) (m : Int) : Prop := M 1 81 = n ∧ M 1 82 = m ∧ (n = 2 ∨ n = 3) ∧ (m = 3 ∨ m = 5 ∨ m = 7 ∨ m = 11)
theorem mx_sm {x y : Int} (hx : 0 ≤ x ∧ x ≤ 10) (hy : -10 ≤ y ∧ y ≤ 10) : -100 ≤ x * y ∧ x * y ≤ 100 := by
  have h1 : x * y ≤ x * 10 := Int.mul_le_mul_of_nonneg_left hy.2 hx.1
  have h2 : x * (-10) ≤ x * y := Int.mul_le_mul_of_nonneg_left hy.1 hx.1
  omega
theorem mx_all {P : Nat → Prop} {k : Nat} : (∀ j, j < k + 1 → P j) ↔ (∀ j, j < k → P j) ∧ P k :=
  ⟨fun h => ⟨fun j hj => h j (by omega), h k (by omega)⟩, fun h j hj => by
    rcases (show j < k ∨ j = k by omega) with q | q
    · exact h.1 j q
    · rw [q]; exact h.2⟩
theorem mx_9 {f g : Nat → Int} {a b : Nat} (h : ∀ j, j < 9 → mx_of f a j = mx_of g b j) : mx_of f a = mx_of g b := by
  funext k
  by_cases e : k < 9
  · exact h k e
  · unfold mx_of
    rw [if_neg e, if_neg e]
theorem mx_90 {f : Nat → Int} {a : Nat} (h : ∀ j, j < 9 → mx_of f a j = 0) : mx_of f a = fun _ => 0 := by
  funext k
  by_cases e : k < 9
  · exact h k e
  · unfold mx_of
    rw [if_neg e]
end
section
/-! THE REFERENCE: its small methods -/
theorem mx_wi {v m : Int} (h : 0 < m) : (v.tmod m + m).tmod m = v % m := by
  have h1 := Int.lt_tmod_of_pos v h
  rw [gx_tmod (by omega), Int.add_emod_right, Int.tmod_def, Int.sub_mul_emod_self_left]
theorem gm_rd {M : gx_M} {a j : Nat} {i : Int} (hi : i = ((a + j : Nat) : Int)) (hj : j < 9) : M 6 i.toNat = mx_of (M 6) a j := by
  rw [mx_of_at hj, hi]
  rfl
theorem gm_rdb {M : gx_M} {a j t n : Nat} {f : Nat → Int} {i : Int} (hd : a + 9 ≤ t ∨ t + n ≤ a) (hi : i = ((a + j : Nat) : Int)) (hj : j < 9) : gx_blk M 6 t n f 6 i.toNat = mx_of (M 6) a j := by
  rw [mx_of_at hj, hi]
  exact gx_blk_out (by show a + j < t ∨ _; omega)
theorem gm_sz {M : gx_M} {n : Nat} {m : Int} (h : gm_Z M n m) : gx_3 n ∧ gx_3 m := by
  obtain ⟨-, -, h1, h2⟩ := h
  unfold gx_3
  omega
set_option maxRecDepth 100000 in
set_option maxHeartbeats 4000000 in
theorem c_X8_in {La : List gx_K} {M : gx_M} {v lo hi : Int} (h1 : gx_3 v) (h2 : gx_3 lo) (h3 : gx_3 hi) : gx_Ci La yX8_in wsX8_in 0 [gx_I v, gx_I lo, gx_I hi] M (fun z M' => M' = M ∧ z = if lo ≤ v ∧ v ≤ hi then 1 else 0) := by
  refine gx_start_i (L := [gx_I v, gx_I lo, gx_I hi]) (by decide) rfl rfl (Nat.le_of_ble_eq_true rfl) rfl ?_
  intro _ _ _ _ _ _ _ _ _ _ _ _ C
  refine gx_iload_n C dX8_in_0 rfl ?_
  refine gx_iload_n C dX8_in_1 rfl ?_
  refine gx_icmp_lt C dX8_in_2 rfl h1 h2 (fun hb2 => ?_) (fun hb2 => ?_)
  · refine gx_iconst C dX8_in_14 ?_
    exact gx_zret C (by omega) dX8_in_15 ⟨rfl, by rw [if_neg (by omega)]⟩
  · refine gx_iload_n C dX8_in_5 rfl ?_
    refine gx_iload_n C dX8_in_6 rfl ?_
    refine gx_icmp_gt C dX8_in_7 rfl h1 h3 (fun hb7 => ?_) (fun hb7 => ?_)
    · refine gx_iconst C dX8_in_14 ?_
      exact gx_zret C (by omega) dX8_in_15 ⟨rfl, by rw [if_neg (by omega)]⟩
    · refine gx_iconst C dX8_in_10 ?_
      refine gx_goto C dX8_in_11 rfl ?_
      exact gx_zret C (by omega) dX8_in_15 ⟨rfl, by rw [if_pos (by omega)]⟩
set_option maxRecDepth 100000 in
set_option maxHeartbeats 4000000 in
theorem c_X8_isRegister {La : List gx_K} {M : gx_M} {v : Int} (h1 : gx_3 v) : gx_Ci La yX8_isRegister wsX8_isRegister 1 [gx_I v] M (fun z M' => M' = M ∧ z = if 0 ≤ v ∧ v ≤ 7 then 1 else 0) := by
  refine gx_start_i (L := [gx_I v]) (by decide) rfl rfl (Nat.le_of_ble_eq_true rfl) rfl ?_
  intro _ _ _ _ _ _ _ _ _ _ _ _ C
  refine gx_iload_n C dX8_isRegister_0 rfl ?_
  refine gx_iconst C dX8_isRegister_1 ?_
  refine gx_bipush C dX8_isRegister_2 rfl ?_
  refine gx_statI C (c_X8_in h1 (by unfold gx_3; omega) (by unfold gx_3; omega)) (cwS 3 (gx_hts C) gX8_isRegister_X8_in rfl rfl rfl (by decide +kernel) ⟨Nat.le_of_ble_eq_true rfl, Nat.le_of_ble_eq_true rfl⟩) rfl rfl (Nat.le_of_ble_eq_true rfl) ⟨Nat.le_refl _, Nat.le_refl _⟩ dX8_isRegister_4 (fun z M1 hz => ?_)
  obtain ⟨rfl, rfl⟩ := hz
  exact gx_zret C (by split <;> simp) dX8_isRegister_7 ⟨rfl, rfl⟩
set_option maxRecDepth 100000 in
set_option maxHeartbeats 4000000 in
theorem c_X8_half {La : List gx_K} (hM : gm_H La) {M : gx_M} {n : Nat} {m : Int} (hz : gm_Z M n m) : gx_Ci La yX8_half wsX8_half 0 [gx_R 0] M (fun z M' => M' = M ∧ z = (m + 1) / 2) := by
  obtain ⟨hz1, hz2, hz3, hz4⟩ := hz
  refine gx_start_i (L := [gx_R 0]) (by decide) rfl rfl (Nat.le_of_ble_eq_true rfl) rfl ?_
  intro _ _ _ _ _ _ _ _ _ _ _ _ C
  refine gx_aload_n C dX8_half_0 rfl ?_
  refine gx_getR C 8 _ 0 rfl (gm_0 hM) rfl (by decide) nX8_half_8 (gx_hts C _ fX8_half_7) dX8_half_1 ?_
  refine gx_bipush C dX8_half_4 rfl ?_
  refine gx_iaload C (gm_1 hM) (by omega) dX8_half_6 hz2 ?_
  refine gx_iconst C dX8_half_7 ?_
  refine gx_iadd C dX8_half_8 ?_
  refine gx_iconst C dX8_half_9 ?_
  refine gx_idiv C dX8_half_10 (by unfold gx_3; omega) (by unfold gx_3; omega) (by omega) (gx_tdiv (by omega)) ?_
  exact gx_iret C dX8_half_11 ⟨rfl, rfl⟩
set_option maxRecDepth 100000 in
set_option maxHeartbeats 4000000 in
theorem c_X8_within {La : List gx_K} (hM : gm_H La) {M : gx_M} {n : Nat} {m : Int} (hz : gm_Z M n m) {v : Int} (hv : -1000000000 ≤ v ∧ v ≤ 1000000000) : gx_Ci La yX8_within wsX8_within 0 [gx_R 0, gx_I v] M (fun z M' => M' = M ∧ z = v % m) := by
  obtain ⟨hz1, hz2, hz3, hz4⟩ := hz
  have h1 := Int.lt_tmod_of_pos v (show 0 < m by omega)
  have h2 := Int.tmod_lt_of_pos v (show 0 < m by omega)
  refine gx_start_i (L := [gx_R 0, gx_I v, gx_U]) (by decide) rfl rfl (Nat.le_of_ble_eq_true rfl) rfl ?_
  intro _ _ _ _ _ _ _ _ _ _ _ _ C
  refine gx_aload_n C dX8_within_0 rfl ?_
  refine gx_getR C 8 _ 0 rfl (gm_0 hM) rfl (by decide) nX8_within_8 (gx_hts C _ fX8_within_7) dX8_within_1 ?_
  refine gx_bipush C dX8_within_4 rfl ?_
  refine gx_iaload C (gm_1 hM) (by omega) dX8_within_6 hz2 ?_
  refine gx_istore_n C dX8_within_7 (by decide) rfl ?_
  refine gx_iload_n C dX8_within_8 rfl ?_
  refine gx_iload_n C dX8_within_9 rfl ?_
  refine gx_irem C dX8_within_10 (by unfold gx_3; omega) (by unfold gx_3; omega) (by omega) rfl ?_
  refine gx_iload_n C dX8_within_11 rfl ?_
  refine gx_iadd C dX8_within_12 ?_
  refine gx_iload_n C dX8_within_13 rfl ?_
  refine gx_irem C dX8_within_14 (by unfold gx_3; omega) (by unfold gx_3; omega) (by omega) (mx_wi (by omega)) ?_
  exact gx_iret C dX8_within_15 ⟨rfl, rfl⟩
/-- the greatest number below k that gives 1 with v, 1 if there is none -/
def mx_ov (v m : Int) : Nat → Int
  | 0 => 1
  | k + 1 => if v * (k + 1 : Nat) % m = 1 then ((k + 1 : Nat) : Int) else mx_ov v m k
theorem mx_ovb {v m : Int} : ∀ k, 1 ≤ mx_ov v m k ∧ (mx_ov v m k ≤ k ∨ mx_ov v m k = 1)
  | 0 => by simp [mx_ov]
  | k + 1 => by
    have := mx_ovb (v := v) (m := m) k
    unfold mx_ov
    split <;> omega
set_option maxRecDepth 100000 in
set_option maxHeartbeats 4000000 in
theorem c_X8_over {La : List gx_K} (hM : gm_H La) {M : gx_M} {n : Nat} {m : Int} (hz : gm_Z M n m) {v : Int} (hv : 0 ≤ v ∧ v < m) : gx_Ci La yX8_over wsX8_over 0 [gx_R 0, gx_I v] M (fun z M' => M' = M ∧ z = mx_ov v m (m.toNat - 1)) := by
  obtain ⟨hz1, hz2, hz3, hz4⟩ := hz
  refine gx_start_i (L := [gx_R 0, gx_I v, gx_U, gx_U]) (by decide) rfl rfl (Nat.le_of_ble_eq_true rfl) rfl ?_
  intro _ _ _ _ _ _ _ _ _ _ _ _ C
  refine gx_iconst C dX8_over_0 ?_
  refine gx_istore_n C dX8_over_1 (by decide) rfl ?_
  refine gx_iconst C dX8_over_2 ?_
  refine gx_istore_n C dX8_over_3 (by decide) rfl ?_
  refine gx_for (m.toNat - 1) (fun k (f : Int) => [gx_R 0, gx_I v, gx_I f, gx_I ((k + 1 : Nat) : Int)]) (fun _ => M) (fun k f => f = mx_ov v m k) 0 1 (by omega) rfl (fun k f hk hI ih => ?_) (fun f hI => ?_)
  · have hb := mx_ovb (v := v) (m := m) k
    have hp := mx_pr (m := 11) (x := v) (y := ((k + 1 : Nat) : Int)) (by omega) (by omega) (by omega)
    have hr := mx_md (m := m) (by omega) (v * ((k + 1 : Nat) : Int))
    subst hI
    refine gx_iload_n C dX8_over_4 rfl ?_
    refine gx_aload_n C dX8_over_5 rfl ?_
    refine gx_getR C 8 _ 0 rfl (gm_0 hM) rfl (by decide) nX8_over_8 (gx_hts C _ fX8_over_7) dX8_over_6 ?_
    refine gx_bipush C dX8_over_9 rfl ?_
    refine gx_iaload C (gm_1 hM) (by omega) dX8_over_11 hz2 ?_
    refine gx_icmp_ge C dX8_over_12 rfl (by unfold gx_3; omega) (by unfold gx_3; omega) (fun hb12 => absurd hb12 (by omega)) (fun hb12 => ?_)
    refine gx_iload_n C dX8_over_15 rfl ?_
    refine gx_iload_n C dX8_over_16 rfl ?_
    refine gx_imul C dX8_over_17 ?_
    refine gx_aload_n C dX8_over_18 rfl ?_
    refine gx_getR C 8 _ 0 rfl (gm_0 hM) rfl (by decide) nX8_over_8 (gx_hts C _ fX8_over_7) dX8_over_19 ?_
    refine gx_bipush C dX8_over_22 rfl ?_
    refine gx_iaload C (gm_1 hM) (by omega) dX8_over_24 hz2 ?_
    refine gx_irem C dX8_over_25 (by unfold gx_3; omega) (by unfold gx_3; omega) (by omega) (gx_tmod (by omega)) ?_
    refine gx_iconst C dX8_over_26 ?_
    refine gx_icmp_ne C dX8_over_27 rfl (by unfold gx_3; omega) (by unfold gx_3; omega) (fun hb27 => ?_) (fun hb27 => ?_)
    · refine gx_iload_n C dX8_over_34 rfl ?_
      refine gx_istore_n C dX8_over_35 (by decide) rfl ?_
      refine gx_iinc C dX8_over_36 (by decide) rfl rfl ?_
      refine gx_goto C dX8_over_39 rfl ?_
      exact ih _ ((if_neg hb27).symm)
    · refine gx_iload_n C dX8_over_30 rfl ?_
      refine gx_goto C dX8_over_31 rfl ?_
      refine gx_istore_n C dX8_over_35 (by decide) rfl ?_
      refine gx_iinc C dX8_over_36 (by decide) rfl rfl ?_
      refine gx_goto C dX8_over_39 rfl ?_
      exact ih _ ((if_pos (by omega)).symm)
  · subst hI
    refine gx_iload_n C dX8_over_4 rfl ?_
    refine gx_aload_n C dX8_over_5 rfl ?_
    refine gx_getR C 8 _ 0 rfl (gm_0 hM) rfl (by decide) nX8_over_8 (gx_hts C _ fX8_over_7) dX8_over_6 ?_
    refine gx_bipush C dX8_over_9 rfl ?_
    refine gx_iaload C (gm_1 hM) (by omega) dX8_over_11 hz2 ?_
    refine gx_icmp_ge C dX8_over_12 rfl (by unfold gx_3; omega) (by unfold gx_3; omega) (fun hb12 => ?_) (fun hb12 => absurd (by omega) hb12)
    refine gx_iload_n C dX8_over_42 rfl ?_
    exact gx_iret C dX8_over_43 ⟨rfl, rfl⟩
set_option maxRecDepth 100000 in
set_option maxHeartbeats 4000000 in
theorem c_X8_blank {La : List gx_K} (hM : gm_H La) {M : gx_M} {t : Nat} (ht : t + 9 ≤ 1926) : gx_Cv La yX8_blank wsX8_blank 0 [gx_R 0, gx_I t] M (fun M' => M' = gx_blk M 6 t 9 (fun _ => 0)) := by
  refine gx_start_v (L := [gx_R 0, gx_I t, gx_U]) (by decide) rfl rfl (Nat.le_of_ble_eq_true rfl) rfl ?_
  intro _ _ _ _ _ _ _ _ _ _ _ _ C
  refine gx_iconst C dX8_blank_0 ?_
  refine gx_istore_n C dX8_blank_1 (by decide) rfl ?_
  refine gx_for 9 (fun k (M' : gx_M) => [gx_R 0, gx_I t, gx_I (k : Int)]) (fun M' => M') (fun k M' => M' = gx_blk M 6 t k (fun _ => 0)) 0 M (by omega) gx_blk_0.symm (fun k M' hk hI ih => ?_) (fun M' hI => ?_)
  · subst hI
    refine gx_iload_n C dX8_blank_2 rfl ?_
    refine gx_bipush C dX8_blank_3 rfl ?_
    refine gx_icmp_ge C dX8_blank_5 rfl (by unfold gx_3; omega) (by unfold gx_3; omega) (fun hb5 => absurd hb5 (by omega)) (fun hb5 => ?_)
    refine gx_aload_n C dX8_blank_8 rfl ?_
    refine gx_getR C 8 _ 7 rfl (gm_0 hM) rfl (by decide) nX8_blank_8 (gx_hts C _ fX8_blank_27) dX8_blank_9 ?_
    refine gx_iload_n C dX8_blank_12 rfl ?_
    refine gx_iload_n C dX8_blank_13 rfl ?_
    refine gx_iadd C dX8_blank_14 ?_
    refine gx_iconst C dX8_blank_15 ?_
    refine gx_iastore C (gm_6 hM) (by omega) dX8_blank_16 (show _ = t + k by omega) ?_
    refine gx_iinc C dX8_blank_17 (by decide) rfl rfl ?_
    refine gx_goto C dX8_blank_20 rfl ?_
    exact ih _ (gx_blk_s rfl)
  · subst hI
    refine gx_iload_n C dX8_blank_2 rfl ?_
    refine gx_bipush C dX8_blank_3 rfl ?_
    refine gx_icmp_ge C dX8_blank_5 rfl (by unfold gx_3; omega) (by unfold gx_3; omega) (fun hb5 => ?_) (fun hb5 => absurd (by omega) hb5)
    exact gx_vret C dX8_blank_23 rfl
set_option maxRecDepth 100000 in
set_option maxHeartbeats 4000000 in
theorem c_X8_copy {La : List gx_K} (hM : gm_H La) {M : gx_M} {a t : Nat} (ha : a + 9 ≤ 1926) (ht : t + 9 ≤ 1926) (hd : a + 9 ≤ t ∨ t + 9 ≤ a ∨ a = t) : gx_Cv La yX8_copy wsX8_copy 0 [gx_R 0, gx_I a, gx_I t] M (fun M' => M' = gx_blk M 6 t 9 (mx_of (M 6) a)) := by
  refine gx_start_v (L := [gx_R 0, gx_I a, gx_I t, gx_U]) (by decide) rfl rfl (Nat.le_of_ble_eq_true rfl) rfl ?_
  intro _ _ _ _ _ _ _ _ _ _ _ _ C
  refine gx_iconst C dX8_copy_0 ?_
  refine gx_istore_n C dX8_copy_1 (by decide) rfl ?_
  refine gx_for 9 (fun k (M' : gx_M) => [gx_R 0, gx_I a, gx_I t, gx_I (k : Int)]) (fun M' => M') (fun k M' => M' = gx_blk M 6 t k (mx_of (M 6) a)) 0 M (by omega) gx_blk_0.symm (fun k M' hk hI ih => ?_) (fun M' hI => ?_)
  · have hr : M' 6 (((a : Int) + (k : Int)).toNat) = mx_of (M 6) a k := by
      rw [show ((a : Int) + (k : Int)).toNat = a + k by omega, mx_of_at hk, hI]
      exact gx_blk_out (by omega)
    refine gx_iload_n C dX8_copy_2 rfl ?_
    refine gx_bipush C dX8_copy_3 rfl ?_
    refine gx_icmp_ge C dX8_copy_5 rfl (by unfold gx_3; omega) (by unfold gx_3; omega) (fun hb5 => absurd hb5 (by omega)) (fun hb5 => ?_)
    refine gx_aload_n C dX8_copy_8 rfl ?_
    refine gx_getR C 8 _ 7 rfl (gm_0 hM) rfl (by decide) nX8_copy_8 (gx_hts C _ fX8_copy_27) dX8_copy_9 ?_
    refine gx_iload_n C dX8_copy_12 rfl ?_
    refine gx_iload_n C dX8_copy_13 rfl ?_
    refine gx_iadd C dX8_copy_14 ?_
    refine gx_aload_n C dX8_copy_15 rfl ?_
    refine gx_getR C 8 _ 7 rfl (gm_0 hM) rfl (by decide) nX8_copy_8 (gx_hts C _ fX8_copy_27) dX8_copy_16 ?_
    refine gx_iload_n C dX8_copy_19 rfl ?_
    refine gx_iload_n C dX8_copy_20 rfl ?_
    refine gx_iadd C dX8_copy_21 ?_
    refine gx_iaload C (gm_6 hM) (by omega) dX8_copy_22 hr ?_
    refine gx_iastore C (gm_6 hM) (by omega) dX8_copy_23 (show _ = t + k by omega) ?_
    refine gx_iinc C dX8_copy_24 (by decide) rfl rfl ?_
    refine gx_goto C dX8_copy_27 rfl ?_
    exact ih _ (by rw [hI]; exact gx_blk_s rfl)
  · subst hI
    refine gx_iload_n C dX8_copy_2 rfl ?_
    refine gx_bipush C dX8_copy_3 rfl ?_
    refine gx_icmp_ge C dX8_copy_5 rfl (by unfold gx_3; omega) (by unfold gx_3; omega) (fun hb5 => ?_) (fun hb5 => absurd (by omega) hb5)
    exact gx_vret C dX8_copy_30 rfl
set_option maxRecDepth 100000 in
set_option maxHeartbeats 4000000 in
theorem c_X8_add {La : List gx_K} (hM : gm_H La) {M : gx_M} {n : Nat} {m : Int} (hz : gm_Z M n m) {a b t : Nat} {x y : Int} (ha : a + 9 ≤ 1926) (hb : b + 9 ≤ 1926) (ht : t + 9 ≤ 1926) (hat : a + 9 ≤ t ∨ t + 9 ≤ a ∨ a = t) (hbt : b + 9 ≤ t ∨ t + 9 ≤ b ∨ b = t) (oa : mx_ok m (mx_of (M 6) a)) (ob : mx_ok m (mx_of (M 6) b)) (hx : -10 ≤ x ∧ x ≤ 10) (hy : -10 ≤ y ∧ y ≤ 10) : gx_Cv La yX8_add wsX8_add 1 [gx_R 0, gx_I a, gx_I x, gx_I b, gx_I y, gx_I t] M (fun M' => M' = gx_blk M 6 t 9 (mx_lin m (mx_of (M 6) a) x (mx_of (M 6) b) y)) := by
  have hz0 := hz
  obtain ⟨hz1, hz2, hz3, hz4⟩ := hz
  refine gx_start_v (L := [gx_R 0, gx_I a, gx_I x, gx_I b, gx_I y, gx_I t, gx_U]) (by decide) rfl rfl (Nat.le_of_ble_eq_true rfl) rfl ?_
  intro _ _ _ _ _ _ _ _ _ _ _ _ C
  refine gx_iconst C dX8_add_0 ?_
  refine gx_istore C dX8_add_1 (by decide) rfl ?_
  refine gx_for 9 (fun k (M' : gx_M) => [gx_R 0, gx_I a, gx_I x, gx_I b, gx_I y, gx_I t, gx_I (k : Int)]) (fun M' => M') (fun k M' => M' = gx_blk M 6 t k (mx_lin m (mx_of (M 6) a) x (mx_of (M 6) b) y)) 0 M (by omega) gx_blk_0.symm (fun k M' hk hI ih => ?_) (fun M' hI => ?_)
  · have hra : M' 6 (((a : Int) + (k : Int)).toNat) = mx_of (M 6) a k := by
      rw [show ((a : Int) + (k : Int)).toNat = a + k by omega, mx_of_at hk, hI]
      exact gx_blk_out (by omega)
    have hrb : M' 6 (((b : Int) + (k : Int)).toNat) = mx_of (M 6) b k := by
      rw [show ((b : Int) + (k : Int)).toNat = b + k by omega, mx_of_at hk, hI]
      exact gx_blk_out (by omega)
    have hz' : gm_Z M' n m := by rw [hI]; exact ⟨by rw [gx_blk_nc (by decide)]; exact hz1, by rw [gx_blk_nc (by decide)]; exact hz2, hz3, hz4⟩
    have h1 := oa k hk
    have h2 := ob k hk
    have h3 : -100 ≤ mx_of (M 6) a k * x ∧ mx_of (M 6) a k * x ≤ 100 := mx_sm (by omega) hx
    have h4 : -100 ≤ mx_of (M 6) b k * y ∧ mx_of (M 6) b k * y ≤ 100 := mx_sm (by omega) hy
    refine gx_iload C dX8_add_3 rfl ?_
    refine gx_bipush C dX8_add_5 rfl ?_
    refine gx_icmp_ge C dX8_add_7 rfl (by unfold gx_3; omega) (by unfold gx_3; omega) (fun hb7 => absurd hb7 (by omega)) (fun hb7 => ?_)
    refine gx_aload_n C dX8_add_10 rfl ?_
    refine gx_getR C 8 _ 7 rfl (gm_0 hM) rfl (by decide) nX8_add_8 (gx_hts C _ fX8_add_27) dX8_add_11 ?_
    refine gx_iload C dX8_add_14 rfl ?_
    refine gx_iload C dX8_add_16 rfl ?_
    refine gx_iadd C dX8_add_18 ?_
    refine gx_aload_n C dX8_add_19 rfl ?_
    refine gx_aload_n C dX8_add_20 rfl ?_
    refine gx_getR C 8 _ 7 rfl (gm_0 hM) rfl (by decide) nX8_add_8 (gx_hts C _ fX8_add_27) dX8_add_21 ?_
    refine gx_iload_n C dX8_add_24 rfl ?_
    refine gx_iload C dX8_add_25 rfl ?_
    refine gx_iadd C dX8_add_27 ?_
    refine gx_iaload C (gm_6 hM) (by omega) dX8_add_28 hra ?_
    refine gx_iload_n C dX8_add_29 rfl ?_
    refine gx_imul C dX8_add_30 ?_
    refine gx_aload_n C dX8_add_31 rfl ?_
    refine gx_getR C 8 _ 7 rfl (gm_0 hM) rfl (by decide) nX8_add_8 (gx_hts C _ fX8_add_27) dX8_add_32 ?_
    refine gx_iload_n C dX8_add_35 rfl ?_
    refine gx_iload C dX8_add_36 rfl ?_
    refine gx_iadd C dX8_add_38 ?_
    refine gx_iaload C (gm_6 hM) (by omega) dX8_add_39 hrb ?_
    refine gx_iload C dX8_add_40 rfl ?_
    refine gx_imul C dX8_add_42 ?_
    refine gx_iadd C dX8_add_43 ?_
    refine gx_callI C 8 rfl (gm_0 hM) (c_X8_within hM hz' (by omega)) (cwV 1 (gx_hts C) gX8_add_X8_within rfl rfl rfl (by decide +kernel) ⟨Nat.le_of_ble_eq_true rfl, Nat.le_of_ble_eq_true rfl⟩) rfl rfl (Nat.le_of_ble_eq_true rfl) ⟨Nat.le_refl _, Nat.le_refl _⟩ dX8_add_44 (fun z M1 hq => ?_)
    obtain ⟨rfl, rfl⟩ := hq
    refine gx_iastore C (gm_6 hM) (by omega) dX8_add_47 (show _ = t + k by omega) ?_
    refine gx_iinc C dX8_add_48 (by decide) rfl rfl ?_
    refine gx_goto C dX8_add_51 rfl ?_
    exact ih _ (by rw [hI]; exact gx_blk_s (by unfold mx_lin; rw [if_pos hk]))
  · subst hI
    refine gx_iload C dX8_add_3 rfl ?_
    refine gx_bipush C dX8_add_5 rfl ?_
    refine gx_icmp_ge C dX8_add_7 rfl (by unfold gx_3; omega) (by unfold gx_3; omega) (fun hb7 => ?_) (fun hb7 => absurd (by omega) hb7)
    exact gx_vret C dX8_add_54 rfl
set_option maxRecDepth 100000 in
set_option maxHeartbeats 4000000 in
theorem c_X8_areAlike {La : List gx_K} (hM : gm_H La) {M : gx_M} {m : Int} (hm : m ≤ 11) {a b : Nat} (ha : a + 9 ≤ 1926) (hb : b + 9 ≤ 1926) (oa : mx_ok m (mx_of (M 6) a)) (ob : mx_ok m (mx_of (M 6) b)) : gx_Ci La yX8_areAlike wsX8_areAlike 0 [gx_R 0, gx_I a, gx_I b] M (fun z M' => M' = M ∧ (z = 0 ∨ z = 1) ∧ (z = 1 ↔ mx_of (M 6) a = mx_of (M 6) b)) := by
  refine gx_start_i (L := [gx_R 0, gx_I a, gx_I b, gx_U, gx_U]) (by decide) rfl rfl (Nat.le_of_ble_eq_true rfl) rfl ?_
  intro _ _ _ _ _ _ _ _ _ _ _ _ C
  refine gx_iconst C dX8_areAlike_0 ?_
  refine gx_istore_n C dX8_areAlike_1 (by decide) rfl ?_
  refine gx_iconst C dX8_areAlike_2 ?_
  refine gx_istore C dX8_areAlike_3 (by decide) rfl ?_
  refine gx_for 9 (fun k (f : Int) => [gx_R 0, gx_I a, gx_I b, gx_I f, gx_I (k : Int)]) (fun _ => M) (fun k f => (f = 0 ∨ f = 1) ∧ (f = 1 ↔ ∀ j, j < k → mx_of (M 6) a j = mx_of (M 6) b j)) 0 1 (by omega) ⟨Or.inr rfl, by simp⟩ (fun k f hk hI ih => ?_) (fun f hI => ?_)
  · have hra : M 6 (((a : Int) + (k : Int)).toNat) = mx_of (M 6) a k := gm_rd (by omega) hk
    have hrb : M 6 (((b : Int) + (k : Int)).toNat) = mx_of (M 6) b k := gm_rd (by omega) hk
    have h1 := oa k hk
    have h2 := ob k hk
    have hs : (∀ j, j < k + 1 → mx_of (M 6) a j = mx_of (M 6) b j) ↔ (∀ j, j < k → mx_of (M 6) a j = mx_of (M 6) b j) ∧ mx_of (M 6) a k = mx_of (M 6) b k := mx_all
    refine gx_iload C dX8_areAlike_5 rfl ?_
    refine gx_bipush C dX8_areAlike_7 rfl ?_
    refine gx_icmp_ge C dX8_areAlike_9 rfl (by unfold gx_3; omega) (by unfold gx_3; omega) (fun hb9 => absurd hb9 (by omega)) (fun hb9 => ?_)
    refine gx_iload_n C dX8_areAlike_12 rfl ?_
    refine gx_if_eq C dX8_areAlike_13 rfl (by unfold gx_3; omega) (fun hb13 => ?_) (fun hb13 => ?_)
    · refine gx_iconst C dX8_areAlike_41 ?_
      refine gx_istore_n C dX8_areAlike_42 (by decide) rfl ?_
      refine gx_iinc C dX8_areAlike_43 (by decide) rfl rfl ?_
      refine gx_goto C dX8_areAlike_46 rfl ?_
      exact ih _ ⟨Or.inl rfl, by rw [hs, ← hI.2]; omega⟩
    · refine gx_aload_n C dX8_areAlike_16 rfl ?_
      refine gx_getR C 8 _ 7 rfl (gm_0 hM) rfl (by decide) nX8_areAlike_8 (gx_hts C _ fX8_areAlike_27) dX8_areAlike_17 ?_
      refine gx_iload_n C dX8_areAlike_20 rfl ?_
      refine gx_iload C dX8_areAlike_21 rfl ?_
      refine gx_iadd C dX8_areAlike_23 ?_
      refine gx_iaload C (gm_6 hM) (by omega) dX8_areAlike_24 hra ?_
      refine gx_aload_n C dX8_areAlike_25 rfl ?_
      refine gx_getR C 8 _ 7 rfl (gm_0 hM) rfl (by decide) nX8_areAlike_8 (gx_hts C _ fX8_areAlike_27) dX8_areAlike_26 ?_
      refine gx_iload_n C dX8_areAlike_29 rfl ?_
      refine gx_iload C dX8_areAlike_30 rfl ?_
      refine gx_iadd C dX8_areAlike_32 ?_
      refine gx_iaload C (gm_6 hM) (by omega) dX8_areAlike_33 hrb ?_
      refine gx_icmp_ne C dX8_areAlike_34 rfl (by unfold gx_3; omega) (by unfold gx_3; omega) (fun hb34 => ?_) (fun hb34 => ?_)
      · refine gx_iconst C dX8_areAlike_41 ?_
        refine gx_istore_n C dX8_areAlike_42 (by decide) rfl ?_
        refine gx_iinc C dX8_areAlike_43 (by decide) rfl rfl ?_
        refine gx_goto C dX8_areAlike_46 rfl ?_
        exact ih _ ⟨Or.inl rfl, by rw [hs, ← hI.2]; omega⟩
      · refine gx_iconst C dX8_areAlike_37 ?_
        refine gx_goto C dX8_areAlike_38 rfl ?_
        refine gx_istore_n C dX8_areAlike_42 (by decide) rfl ?_
        refine gx_iinc C dX8_areAlike_43 (by decide) rfl rfl ?_
        refine gx_goto C dX8_areAlike_46 rfl ?_
        exact ih _ ⟨Or.inr rfl, by rw [hs, ← hI.2]; omega⟩
  · refine gx_iload C dX8_areAlike_5 rfl ?_
    refine gx_bipush C dX8_areAlike_7 rfl ?_
    refine gx_icmp_ge C dX8_areAlike_9 rfl (by unfold gx_3; omega) (by unfold gx_3; omega) (fun hb9 => ?_) (fun hb9 => absurd (by omega) hb9)
    refine gx_iload_n C dX8_areAlike_49 rfl ?_
    exact gx_zret C hI.1 dX8_areAlike_50 ⟨rfl, hI.1, hI.2.trans ⟨fun h => mx_9 h, fun h j _ => by rw [h]⟩⟩
set_option maxRecDepth 100000 in
set_option maxHeartbeats 4000000 in
theorem c_X8_isNothing {La : List gx_K} (hM : gm_H La) {M : gx_M} {m : Int} (hm : m ≤ 11) {a : Nat} (ha : a + 9 ≤ 1926) (oa : mx_ok m (mx_of (M 6) a)) : gx_Ci La yX8_isNothing wsX8_isNothing 0 [gx_R 0, gx_I a] M (fun z M' => M' = M ∧ (z = 0 ∨ z = 1) ∧ (z = 1 ↔ mx_of (M 6) a = fun _ => 0)) := by
  refine gx_start_i (L := [gx_R 0, gx_I a, gx_U, gx_U]) (by decide) rfl rfl (Nat.le_of_ble_eq_true rfl) rfl ?_
  intro _ _ _ _ _ _ _ _ _ _ _ _ C
  refine gx_iconst C dX8_isNothing_0 ?_
  refine gx_istore_n C dX8_isNothing_1 (by decide) rfl ?_
  refine gx_iconst C dX8_isNothing_2 ?_
  refine gx_istore_n C dX8_isNothing_3 (by decide) rfl ?_
  refine gx_for 9 (fun k (f : Int) => [gx_R 0, gx_I a, gx_I f, gx_I (k : Int)]) (fun _ => M) (fun k f => (f = 0 ∨ f = 1) ∧ (f = 1 ↔ ∀ j, j < k → mx_of (M 6) a j = 0)) 0 1 (by omega) ⟨Or.inr rfl, by simp⟩ (fun k f hk hI ih => ?_) (fun f hI => ?_)
  · have hra : M 6 (((a : Int) + (k : Int)).toNat) = mx_of (M 6) a k := gm_rd (by omega) hk
    have h1 := oa k hk
    have hs : (∀ j, j < k + 1 → mx_of (M 6) a j = 0) ↔ (∀ j, j < k → mx_of (M 6) a j = 0) ∧ mx_of (M 6) a k = 0 := mx_all
    refine gx_iload_n C dX8_isNothing_4 rfl ?_
    refine gx_bipush C dX8_isNothing_5 rfl ?_
    refine gx_icmp_ge C dX8_isNothing_7 rfl (by unfold gx_3; omega) (by unfold gx_3; omega) (fun hb7 => absurd hb7 (by omega)) (fun hb7 => ?_)
    refine gx_iload_n C dX8_isNothing_10 rfl ?_
    refine gx_if_eq C dX8_isNothing_11 rfl (by unfold gx_3; omega) (fun hb11 => ?_) (fun hb11 => ?_)
    · refine gx_iconst C dX8_isNothing_29 ?_
      refine gx_istore_n C dX8_isNothing_30 (by decide) rfl ?_
      refine gx_iinc C dX8_isNothing_31 (by decide) rfl rfl ?_
      refine gx_goto C dX8_isNothing_34 rfl ?_
      exact ih _ ⟨Or.inl rfl, by rw [hs, ← hI.2]; omega⟩
    · refine gx_aload_n C dX8_isNothing_14 rfl ?_
      refine gx_getR C 8 _ 7 rfl (gm_0 hM) rfl (by decide) nX8_isNothing_8 (gx_hts C _ fX8_isNothing_27) dX8_isNothing_15 ?_
      refine gx_iload_n C dX8_isNothing_18 rfl ?_
      refine gx_iload_n C dX8_isNothing_19 rfl ?_
      refine gx_iadd C dX8_isNothing_20 ?_
      refine gx_iaload C (gm_6 hM) (by omega) dX8_isNothing_21 hra ?_
      refine gx_if_ne C dX8_isNothing_22 rfl (by unfold gx_3; omega) (fun hb22 => ?_) (fun hb22 => ?_)
      · refine gx_iconst C dX8_isNothing_29 ?_
        refine gx_istore_n C dX8_isNothing_30 (by decide) rfl ?_
        refine gx_iinc C dX8_isNothing_31 (by decide) rfl rfl ?_
        refine gx_goto C dX8_isNothing_34 rfl ?_
        exact ih _ ⟨Or.inl rfl, by rw [hs, ← hI.2]; omega⟩
      · refine gx_iconst C dX8_isNothing_25 ?_
        refine gx_goto C dX8_isNothing_26 rfl ?_
        refine gx_istore_n C dX8_isNothing_30 (by decide) rfl ?_
        refine gx_iinc C dX8_isNothing_31 (by decide) rfl rfl ?_
        refine gx_goto C dX8_isNothing_34 rfl ?_
        exact ih _ ⟨Or.inr rfl, by rw [hs, ← hI.2]; omega⟩
  · refine gx_iload_n C dX8_isNothing_4 rfl ?_
    refine gx_bipush C dX8_isNothing_5 rfl ?_
    refine gx_icmp_ge C dX8_isNothing_7 rfl (by unfold gx_3; omega) (by unfold gx_3; omega) (fun hb7 => ?_) (fun hb7 => absurd (by omega) hb7)
    refine gx_iload_n C dX8_isNothing_37 rfl ?_
    exact gx_zret C hI.1 dX8_isNothing_38 ⟨rfl, hI.1, hI.2.trans ⟨fun h => mx_90 h, fun h j _ => by rw [h]⟩⟩
end
section
theorem gm_Zb {M : gx_M} {n : Nat} {m : Int} {t k : Nat} {f : Nat → Int} (h : gm_Z M n m) : gm_Z (gx_blk M 6 t k f) n m := ⟨by rw [gx_blk_nc (by decide)]; exact h.1, by rw [gx_blk_nc (by decide)]; exact h.2.1, h.2.2⟩
theorem gm_Zm {M : gx_M} {n : Nat} {m : Int} (h : gm_Z M n m) : 3 ≤ m ∧ m ≤ 11 ∧ n ≤ 3 ∧ 2 ≤ n := by
  obtain ⟨-, -, h1, h2⟩ := h
  omega
theorem mx_of_mul {M : gx_M} {t n : Nat} {m : Int} {a b : Nat → Int} : mx_of (gx_blk M 6 t 9 (mx_mul n m a b) 6) t = mx_mul n m a b := by rw [mx_of_blk, mx_cut mx_mul_9]
theorem mx_of_lin {M : gx_M} {t : Nat} {m x y : Int} {a b : Nat → Int} : mx_of (gx_blk M 6 t 9 (mx_lin m a x b y) 6) t = mx_lin m a x b y := by rw [mx_of_blk, mx_cut mx_lin_9]
theorem mx_of_of {M : gx_M} {t q : Nat} {f : Nat → Int} : mx_of (gx_blk M 6 t 9 (mx_of f q) 6) t = mx_of f q := by rw [mx_of_blk, mx_cut (f := mx_of f q) (fun k hk => if_neg (by omega))]
set_option maxRecDepth 100000 in
set_option maxHeartbeats 4000000 in
theorem c_X8_times {La : List gx_K} (hM : gm_H La) {M : gx_M} {n : Nat} {m : Int} (hz : gm_Z M n m) {a b t : Nat} (ha : a + 9 ≤ 1926) (hb : b + 9 ≤ 1926) (ht : t + 9 ≤ 1926) (hat : a + 9 ≤ t ∨ t + 9 ≤ a) (hbt : b + 9 ≤ t ∨ t + 9 ≤ b) (oa : mx_ok m (mx_of (M 6) a)) (ob : mx_ok m (mx_of (M 6) b)) : gx_Cv La yX8_times wsX8_times 1 [gx_R 0, gx_I a, gx_I b, gx_I t] M (fun M' => M' = gx_blk M 6 t 9 (mx_mul n m (mx_of (M 6) a) (mx_of (M 6) b))) := by
  have hzm := gm_Zm hz
  generalize hP : mx_mul n m (mx_of (M 6) a) (mx_of (M 6) b) = P
  have hP0 : ∀ k, k < 9 → ¬ (k / 3 < n ∧ k % 3 < n) → P k = 0 := fun k hk h => by
    rw [← hP]
    exact if_neg (by omega)
  have hP1 : ∀ r c, r < n → c < n → P (3 * r + c) = mx_ps (mx_of (M 6) a) (mx_of (M 6) b) r c n % m := fun r c hr hc => by
    rw [← hP]
    unfold mx_mul
    rw [if_pos (by omega), show (3 * r + c) / 3 = r by omega, show (3 * r + c) % 3 = c by omega]
  refine gx_start_v (L := [gx_R 0, gx_I a, gx_I b, gx_I t, gx_U, gx_U, gx_U, gx_U]) (by decide) rfl rfl (Nat.le_of_ble_eq_true rfl) rfl ?_
  intro _ _ _ _ _ _ _ _ _ _ _ _ C
  refine gx_aload_n C dX8_times_0 rfl ?_
  refine gx_iload_n C dX8_times_1 rfl ?_
  refine gx_callV C 8 rfl (gm_0 hM) (c_X8_blank hM ht) (cwV 1 (gx_hts C) gX8_times_X8_blank rfl rfl rfl (by decide +kernel) ⟨Nat.le_of_ble_eq_true rfl, Nat.le_of_ble_eq_true rfl⟩) rfl rfl (Nat.le_of_ble_eq_true rfl) ⟨Nat.le_refl _, Nat.le_refl _⟩ dX8_times_2 (fun M1 h1 => ?_)
  subst h1
  refine gx_iconst C dX8_times_5 ?_
  refine gx_istore C dX8_times_6 (by decide) rfl ?_
  refine gx_for n (fun r (M' : gx_M) => [gx_R 0, gx_I a, gx_I b, gx_I t, gx_I (r : Int), gx_U, gx_U, gx_U]) (fun M' => M') (fun r M' => M' = gx_blk M 6 t 9 (fun k => if k < 3 * r then P k else 0)) 0 _ (by omega) rfl (fun r M' hr hI ih => ?_) (fun M' hI => ?_)
  · have hz' : gm_Z M' n m := by rw [hI]; exact gm_Zb hz
    refine gx_iload C dX8_times_8 rfl ?_
    refine gx_aload_n C dX8_times_10 rfl ?_
    refine gx_getR C 8 _ 0 rfl (gm_0 hM) rfl (by decide) nX8_times_8 (gx_hts C _ fX8_times_7) dX8_times_11 ?_
    refine gx_bipush C dX8_times_14 rfl ?_
    refine gx_iaload C (gm_1 hM) (by omega) dX8_times_16 hz'.1 ?_
    refine gx_icmp_ge C dX8_times_17 rfl (by unfold gx_3; omega) (by unfold gx_3; omega) (fun hb17 => absurd hb17 (by omega)) (fun hb17 => ?_)
    refine gx_iconst C dX8_times_20 ?_
    refine gx_istore C dX8_times_21 (by decide) rfl ?_
    refine gx_for n (fun c (M' : gx_M) => [gx_R 0, gx_I a, gx_I b, gx_I t, gx_I (r : Int), gx_I (c : Int), gx_U, gx_U]) (fun M' => M') (fun c M' => M' = gx_blk M 6 t 9 (fun k => if k < 3 * r + c then P k else 0)) 0 _ (by omega) hI (fun c M' hc hI ih2 => ?_) (fun M' hI => ?_)
    · have hz' : gm_Z M' n m := by rw [hI]; exact gm_Zb hz
      refine gx_iload C dX8_times_23 rfl ?_
      refine gx_aload_n C dX8_times_25 rfl ?_
      refine gx_getR C 8 _ 0 rfl (gm_0 hM) rfl (by decide) nX8_times_8 (gx_hts C _ fX8_times_7) dX8_times_26 ?_
      refine gx_bipush C dX8_times_29 rfl ?_
      refine gx_iaload C (gm_1 hM) (by omega) dX8_times_31 hz'.1 ?_
      refine gx_icmp_ge C dX8_times_32 rfl (by unfold gx_3; omega) (by unfold gx_3; omega) (fun hb32 => absurd hb32 (by omega)) (fun hb32 => ?_)
      refine gx_iconst C dX8_times_35 ?_
      refine gx_istore C dX8_times_36 (by decide) rfl ?_
      refine gx_iconst C dX8_times_38 ?_
      refine gx_istore C dX8_times_39 (by decide) rfl ?_
      refine gx_for n (fun k (x : Int) => [gx_R 0, gx_I a, gx_I b, gx_I t, gx_I (r : Int), gx_I (c : Int), gx_I x, gx_I (k : Int)]) (fun _ => M') (fun k x => x = mx_ps (mx_of (M 6) a) (mx_of (M 6) b) r c k) 0 0 (by omega) rfl (fun k x hk hx ih3 => ?_) (fun x hx => ?_)
      · have e1 : M' 6 (((a : Int) + 3 * (r : Int) + (k : Int)).toNat) = mx_of (M 6) a (3 * r + k) := by rw [hI]; exact gm_rdb (by omega) (by omega) (by omega)
        have e2 : M' 6 (((b : Int) + 3 * (k : Int) + (c : Int)).toNat) = mx_of (M 6) b (3 * k + c) := by rw [hI]; exact gm_rdb (by omega) (by omega) (by omega)
        refine gx_iload C dX8_times_41 rfl ?_
        refine gx_aload_n C dX8_times_43 rfl ?_
        refine gx_getR C 8 _ 0 rfl (gm_0 hM) rfl (by decide) nX8_times_8 (gx_hts C _ fX8_times_7) dX8_times_44 ?_
        refine gx_bipush C dX8_times_47 rfl ?_
        refine gx_iaload C (gm_1 hM) (by omega) dX8_times_49 hz'.1 ?_
        refine gx_icmp_ge C dX8_times_50 rfl (by unfold gx_3; omega) (by unfold gx_3; omega) (fun hb50 => absurd hb50 (by omega)) (fun hb50 => ?_)
        refine gx_iload C dX8_times_53 rfl ?_
        refine gx_aload_n C dX8_times_55 rfl ?_
        refine gx_getR C 8 _ 7 rfl (gm_0 hM) rfl (by decide) nX8_times_8 (gx_hts C _ fX8_times_27) dX8_times_56 ?_
        refine gx_iload_n C dX8_times_59 rfl ?_
        refine gx_iconst C dX8_times_60 ?_
        refine gx_iload C dX8_times_61 rfl ?_
        refine gx_imul C dX8_times_63 ?_
        refine gx_iadd C dX8_times_64 ?_
        refine gx_iload C dX8_times_65 rfl ?_
        refine gx_iadd C dX8_times_67 ?_
        refine gx_iaload C (gm_6 hM) (by omega) dX8_times_68 e1 ?_
        refine gx_aload_n C dX8_times_69 rfl ?_
        refine gx_getR C 8 _ 7 rfl (gm_0 hM) rfl (by decide) nX8_times_8 (gx_hts C _ fX8_times_27) dX8_times_70 ?_
        refine gx_iload_n C dX8_times_73 rfl ?_
        refine gx_iconst C dX8_times_74 ?_
        refine gx_iload C dX8_times_75 rfl ?_
        refine gx_imul C dX8_times_77 ?_
        refine gx_iadd C dX8_times_78 ?_
        refine gx_iload C dX8_times_79 rfl ?_
        refine gx_iadd C dX8_times_81 ?_
        refine gx_iaload C (gm_6 hM) (by omega) dX8_times_82 e2 ?_
        refine gx_imul C dX8_times_83 ?_
        refine gx_iadd C dX8_times_84 ?_
        refine gx_istore C dX8_times_85 (by decide) rfl ?_
        refine gx_iinc C dX8_times_87 (by decide) rfl rfl ?_
        refine gx_goto C dX8_times_90 rfl ?_
        exact ih3 _ (by rw [hx]; rfl)
      · have hb3 := mx_psb (by omega) oa ob (r := r) (c := c) (by omega) (by omega) n (by omega)
        refine gx_iload C dX8_times_41 rfl ?_
        refine gx_aload_n C dX8_times_43 rfl ?_
        refine gx_getR C 8 _ 0 rfl (gm_0 hM) rfl (by decide) nX8_times_8 (gx_hts C _ fX8_times_7) dX8_times_44 ?_
        refine gx_bipush C dX8_times_47 rfl ?_
        refine gx_iaload C (gm_1 hM) (by omega) dX8_times_49 hz'.1 ?_
        refine gx_icmp_ge C dX8_times_50 rfl (by unfold gx_3; omega) (by unfold gx_3; omega) (fun hb50 => ?_) (fun hb50 => absurd (by omega) hb50)
        subst hx
        refine gx_aload_n C dX8_times_93 rfl ?_
        refine gx_getR C 8 _ 7 rfl (gm_0 hM) rfl (by decide) nX8_times_8 (gx_hts C _ fX8_times_27) dX8_times_94 ?_
        refine gx_iload_n C dX8_times_97 rfl ?_
        refine gx_iconst C dX8_times_98 ?_
        refine gx_iload C dX8_times_99 rfl ?_
        refine gx_imul C dX8_times_101 ?_
        refine gx_iadd C dX8_times_102 ?_
        refine gx_iload C dX8_times_103 rfl ?_
        refine gx_iadd C dX8_times_105 ?_
        refine gx_iload C dX8_times_106 rfl ?_
        refine gx_aload_n C dX8_times_108 rfl ?_
        refine gx_getR C 8 _ 0 rfl (gm_0 hM) rfl (by decide) nX8_times_8 (gx_hts C _ fX8_times_7) dX8_times_109 ?_
        refine gx_bipush C dX8_times_112 rfl ?_
        refine gx_iaload C (gm_1 hM) (by omega) dX8_times_114 hz'.2.1 ?_
        refine gx_irem C dX8_times_115 (by unfold gx_3; omega) (by unfold gx_3; omega) (by omega) (gx_tmod (by omega)) ?_
        refine gx_iastore C (gm_6 hM) (by omega) dX8_times_116 (show _ = t + (3 * r + c) by omega) ?_
        refine gx_iinc C dX8_times_117 (by decide) rfl rfl ?_
        refine gx_goto C dX8_times_120 rfl ?_
        refine gx_weak (L' := [gx_R 0, gx_I a, gx_I b, gx_I t, gx_I (r : Int), gx_I ((c + 1 : Nat) : Int), gx_U, gx_U]) ⟨Or.inr rfl, Or.inr rfl, Or.inr rfl, Or.inr rfl, Or.inr rfl, Or.inr rfl, Or.inl rfl, Or.inl rfl, trivial⟩ (ih2 _ ?_)
        rw [hI, gx_blk_u (by omega)]
        refine gx_blk_f (fun k hk => ?_)
        rw [← hP1 r c hr hc]
        by_cases e : k = 3 * r + c
        · rw [if_pos e, if_pos (by omega), e]
        · rw [if_neg e]
          by_cases e2 : k < 3 * r + c
          · rw [if_pos e2, if_pos (by omega)]
          · rw [if_neg e2, if_neg (by omega)]
    · have hz' : gm_Z M' n m := by rw [hI]; exact gm_Zb hz
      refine gx_iload C dX8_times_23 rfl ?_
      refine gx_aload_n C dX8_times_25 rfl ?_
      refine gx_getR C 8 _ 0 rfl (gm_0 hM) rfl (by decide) nX8_times_8 (gx_hts C _ fX8_times_7) dX8_times_26 ?_
      refine gx_bipush C dX8_times_29 rfl ?_
      refine gx_iaload C (gm_1 hM) (by omega) dX8_times_31 hz'.1 ?_
      refine gx_icmp_ge C dX8_times_32 rfl (by unfold gx_3; omega) (by unfold gx_3; omega) (fun hb32 => ?_) (fun hb32 => absurd (by omega) hb32)
      refine gx_iinc C dX8_times_123 (by decide) rfl rfl ?_
      refine gx_goto C dX8_times_126 rfl ?_
      refine gx_weak (L' := [gx_R 0, gx_I a, gx_I b, gx_I t, gx_I ((r + 1 : Nat) : Int), gx_U, gx_U, gx_U]) ⟨Or.inr rfl, Or.inr rfl, Or.inr rfl, Or.inr rfl, Or.inr rfl, Or.inl rfl, Or.inl rfl, Or.inl rfl, trivial⟩ (ih _ ?_)
      rw [hI]
      refine gx_blk_f (fun k hk => ?_)
      by_cases e : k < 3 * r + n
      · rw [if_pos e, if_pos (by omega)]
      · rw [if_neg e]
        by_cases e2 : k < 3 * (r + 1)
        · rw [if_pos e2, hP0 k hk (by omega)]
        · rw [if_neg e2]
  · have hz' : gm_Z M' n m := by rw [hI]; exact gm_Zb hz
    refine gx_iload C dX8_times_8 rfl ?_
    refine gx_aload_n C dX8_times_10 rfl ?_
    refine gx_getR C 8 _ 0 rfl (gm_0 hM) rfl (by decide) nX8_times_8 (gx_hts C _ fX8_times_7) dX8_times_11 ?_
    refine gx_bipush C dX8_times_14 rfl ?_
    refine gx_iaload C (gm_1 hM) (by omega) dX8_times_16 hz'.1 ?_
    refine gx_icmp_ge C dX8_times_17 rfl (by unfold gx_3; omega) (by unfold gx_3; omega) (fun hb17 => ?_) (fun hb17 => absurd (by omega) hb17)
    have hf : M' = gx_blk M 6 t 9 P := by
      rw [hI]
      refine gx_blk_f (fun k hk => ?_)
      by_cases e : k < 3 * n
      · rw [if_pos e]
      · rw [if_neg e, hP0 k hk (by omega)]
    exact gx_vret C dX8_times_129 hf
/-! determinants and inverses, as the reference has them -/
def mx_at (a : Nat → Int) (r c : Nat) : Int := a (3 * (r % 3) + c % 3)
def mx_d3s (a : Nat → Int) : Nat → Int
  | 0 => 0
  | k + 1 => mx_d3s a k + mx_at a 0 k * (mx_at a 1 (k + 1) * mx_at a 2 (k + 2) - mx_at a 1 (k + 2) * mx_at a 2 (k + 1))
def mx_det (n : Nat) (m : Int) (a : Nat → Int) : Int := (if n = 2 then a 0 * a 4 - a 1 * a 3 else mx_d3s a 3) % m
def mx_min (a : Nat → Int) (k : Nat) : Int := mx_at a (k % 3 + 1) (k / 3 + 1) * mx_at a (k % 3 + 2) (k / 3 + 2) - mx_at a (k % 3 + 1) (k / 3 + 2) * mx_at a (k % 3 + 2) (k / 3 + 1)
def mx_inv (n : Nat) (m : Int) (a : Nat → Int) : Nat → Int := fun k =>
  if n = 2 then (if k = 0 then a 4 * mx_ov (mx_det n m a) m (m.toNat - 1) % m else if k = 1 then -a 1 * mx_ov (mx_det n m a) m (m.toNat - 1) % m else if k = 3 then -a 3 * mx_ov (mx_det n m a) m (m.toNat - 1) % m else if k = 4 then a 0 * mx_ov (mx_det n m a) m (m.toNat - 1) % m else 0)
  else if k < 9 then mx_min a k % m * mx_ov (mx_det n m a) m (m.toNat - 1) % m else 0
theorem mx_inv_9 {n : Nat} {m : Int} {a : Nat → Int} : ∀ k, 9 ≤ k → mx_inv n m a k = 0 := fun k hk => by
  unfold mx_inv
  split
  · rw [if_neg (by omega), if_neg (by omega), if_neg (by omega), if_neg (by omega)]
  · rw [if_neg (by omega)]
theorem mx_inv_ok {n : Nat} {m : Int} (h : 3 ≤ m) (a : Nat → Int) : mx_ok m (mx_inv n m a) := by
  intro k hk
  have h1 := mx_md h
  unfold mx_inv
  split
  · split
    · exact h1 _
    · split
      · exact h1 _
      · split
        · exact h1 _
        · split
          · exact h1 _
          · omega
  · exact h1 _
theorem mx_det_b {n : Nat} {m : Int} (h : 3 ≤ m) (a : Nat → Int) : 0 ≤ mx_det n m a ∧ mx_det n m a < m := mx_md h _
theorem mx_of_inv {M : gx_M} {t n : Nat} {m : Int} {a : Nat → Int} : mx_of (gx_blk M 6 t 9 (mx_inv n m a) 6) t = mx_inv n m a := by rw [mx_of_blk, mx_cut mx_inv_9]
theorem mx_pr2 {x y : Int} (hx : -100 ≤ x ∧ x ≤ 100) (hy : 0 ≤ y ∧ y ≤ 100) : -10000 ≤ x * y ∧ x * y ≤ 10000 := by
  have h1 : x * y ≤ 100 * y := Int.mul_le_mul_of_nonneg_right hx.2 hy.1
  have h2 : (-100) * y ≤ x * y := Int.mul_le_mul_of_nonneg_right hx.1 hy.1
  omega
theorem mx_mb {a : Nat → Int} {m : Int} (hm : m ≤ 11) (oa : mx_ok m a) (r c r' c' s d s' d' : Nat) : -100 ≤ mx_at a r c * mx_at a r' c' - mx_at a s d * mx_at a s' d' ∧ mx_at a r c * mx_at a r' c' - mx_at a s d * mx_at a s' d' ≤ 100 := by
  have h1 := mx_pr hm (oa (3 * (r % 3) + c % 3) (by omega)) (oa (3 * (r' % 3) + c' % 3) (by omega))
  have h2 := mx_pr hm (oa (3 * (s % 3) + d % 3) (by omega)) (oa (3 * (s' % 3) + d' % 3) (by omega))
  unfold mx_at
  omega
theorem mx_d3b {a : Nat → Int} {m : Int} (hm : m ≤ 11) (oa : mx_ok m a) : ∀ k, k ≤ 3 → -10000 * k ≤ mx_d3s a k ∧ mx_d3s a k ≤ 10000 * k
  | 0, _ => by simp [mx_d3s]
  | k + 1, hk => by
    have h1 := mx_d3b hm oa k (by omega)
    have h2 := mx_mb hm oa 1 (k + 1) 2 (k + 2) 1 (k + 2) 2 (k + 1)
    have h3 := oa (3 * (0 % 3) + k % 3) (by omega)
    have h4 := mx_pr2 h2 (y := mx_at a 0 k) (by unfold mx_at; omega)
    rw [Int.mul_comm] at h4
    show _ ≤ mx_d3s a k + mx_at a 0 k * (mx_at a 1 (k + 1) * mx_at a 2 (k + 2) - mx_at a 1 (k + 2) * mx_at a 2 (k + 1)) ∧ mx_d3s a k + mx_at a 0 k * (mx_at a 1 (k + 1) * mx_at a 2 (k + 2) - mx_at a 1 (k + 2) * mx_at a 2 (k + 1)) ≤ _
    omega
theorem mx_3 (k : Nat) : ((k : Int)).tmod 3 = ((k % 3 : Nat) : Int) := by
  rw [gx_tmod (by omega)]
  omega
set_option maxRecDepth 100000 in
set_option maxHeartbeats 4000000 in
theorem c_X8_cellOf {La : List gx_K} (hM : gm_H La) {M : gx_M} {a r c : Nat} {x y : Int} (ha : a + 9 ≤ 1926) (hr : r < 1000) (hc : c < 1000) (hx : x = r) (hy : y = c) : gx_Ci La yX8_cellOf wsX8_cellOf 0 [gx_R 0, gx_I a, gx_I x, gx_I y] M (fun z M' => M' = M ∧ z = mx_at (mx_of (M 6) a) r c) := by
  subst hx hy
  refine gx_start_i (L := [gx_R 0, gx_I a, gx_I (r : Int), gx_I (c : Int)]) (by decide) rfl rfl (Nat.le_of_ble_eq_true rfl) rfl ?_
  intro _ _ _ _ _ _ _ _ _ _ _ _ C
  refine gx_aload_n C dX8_cellOf_0 rfl ?_
  refine gx_getR C 8 _ 7 rfl (gm_0 hM) rfl (by decide) nX8_cellOf_8 (gx_hts C _ fX8_cellOf_27) dX8_cellOf_1 ?_
  refine gx_iload_n C dX8_cellOf_4 rfl ?_
  refine gx_iconst C dX8_cellOf_5 ?_
  refine gx_iload_n C dX8_cellOf_6 rfl ?_
  refine gx_iconst C dX8_cellOf_7 ?_
  refine gx_irem C dX8_cellOf_8 (by unfold gx_3; omega) (by unfold gx_3; omega) (by omega) (mx_3 r) ?_
  refine gx_imul C dX8_cellOf_9 ?_
  refine gx_iadd C dX8_cellOf_10 ?_
  refine gx_iload_n C dX8_cellOf_11 rfl ?_
  refine gx_iconst C dX8_cellOf_12 ?_
  refine gx_irem C dX8_cellOf_13 (by unfold gx_3; omega) (by unfold gx_3; omega) (by omega) (mx_3 c) ?_
  refine gx_iadd C dX8_cellOf_14 ?_
  refine gx_iaload C (gm_6 hM) (by omega) dX8_cellOf_15 (gm_rd (a := a) (j := 3 * (r % 3) + c % 3) (by omega) (by omega)) ?_
  exact gx_iret C dX8_cellOf_16 ⟨rfl, rfl⟩
set_option maxRecDepth 100000 in
set_option maxHeartbeats 4000000 in
theorem c_X8_determinant {La : List gx_K} (hM : gm_H La) {M : gx_M} {n : Nat} {m : Int} (hz : gm_Z M n m) {a : Nat} (ha : a + 9 ≤ 1926) (oa : mx_ok m (mx_of (M 6) a)) : gx_Ci La yX8_determinant wsX8_determinant 1 [gx_R 0, gx_I a] M (fun z M' => M' = M ∧ z = mx_det n m (mx_of (M 6) a)) := by
  have hzm := gm_Zm hz
  refine gx_start_i (L := [gx_R 0, gx_I a, gx_U, gx_U]) (by decide) rfl rfl (Nat.le_of_ble_eq_true rfl) rfl ?_
  intro _ _ _ _ _ _ _ _ _ _ _ _ C
  refine gx_aload_n C dX8_determinant_0 rfl ?_
  refine gx_getR C 8 _ 0 rfl (gm_0 hM) rfl (by decide) nX8_determinant_8 (gx_hts C _ fX8_determinant_7) dX8_determinant_1 ?_
  refine gx_bipush C dX8_determinant_4 rfl ?_
  refine gx_iaload C (gm_1 hM) (by omega) dX8_determinant_6 hz.1 ?_
  refine gx_iconst C dX8_determinant_7 ?_
  refine gx_icmp_ne C dX8_determinant_8 rfl (by unfold gx_3; omega) (by unfold gx_3; omega) (fun hb8 => ?_) (fun hb8 => ?_)
  · refine gx_iconst C dX8_determinant_49 ?_
    refine gx_istore_n C dX8_determinant_50 (by decide) rfl ?_
    refine gx_iconst C dX8_determinant_51 ?_
    refine gx_istore_n C dX8_determinant_52 (by decide) rfl ?_
    refine gx_for 3 (fun k (x : Int) => [gx_R 0, gx_I a, gx_I x, gx_I (k : Int)]) (fun _ => M) (fun k x => x = mx_d3s (mx_of (M 6) a) k) 0 0 (by omega) rfl (fun k x hk hx ih => ?_) (fun x hx => ?_)
    · refine gx_iload_n C dX8_determinant_53 rfl ?_
      refine gx_iconst C dX8_determinant_54 ?_
      refine gx_icmp_ge C dX8_determinant_55 rfl (by unfold gx_3; omega) (by unfold gx_3; omega) (fun hb55 => absurd hb55 (by omega)) (fun hb55 => ?_)
      refine gx_iload_n C dX8_determinant_58 rfl ?_
      refine gx_aload_n C dX8_determinant_59 rfl ?_
      refine gx_iload_n C dX8_determinant_60 rfl ?_
      refine gx_iconst C dX8_determinant_61 ?_
      refine gx_iload_n C dX8_determinant_62 rfl ?_
      refine gx_callI C 8 rfl (gm_0 hM) (c_X8_cellOf hM (r := 0) (c := k) ha (by omega) (by omega) (by omega) (by omega)) (cwV 3 (gx_hts C) gX8_determinant_X8_cellOf rfl rfl rfl (by decide +kernel) ⟨Nat.le_of_ble_eq_true rfl, Nat.le_of_ble_eq_true rfl⟩) rfl rfl (Nat.le_of_ble_eq_true rfl) ⟨Nat.le_refl _, Nat.le_refl _⟩ dX8_determinant_63 (fun z M1 h1 => ?_)
      obtain ⟨rfl, rfl⟩ := h1
      refine gx_aload_n C dX8_determinant_66 rfl ?_
      refine gx_iload_n C dX8_determinant_67 rfl ?_
      refine gx_iconst C dX8_determinant_68 ?_
      refine gx_iload_n C dX8_determinant_69 rfl ?_
      refine gx_iconst C dX8_determinant_70 ?_
      refine gx_iadd C dX8_determinant_71 ?_
      refine gx_callI C 8 rfl (gm_0 hM) (c_X8_cellOf hM (r := 1) (c := k + 1) ha (by omega) (by omega) (by omega) (by omega)) (cwV 3 (gx_hts C) gX8_determinant_X8_cellOf rfl rfl rfl (by decide +kernel) ⟨Nat.le_of_ble_eq_true rfl, Nat.le_of_ble_eq_true rfl⟩) rfl rfl (Nat.le_of_ble_eq_true rfl) ⟨Nat.le_refl _, Nat.le_refl _⟩ dX8_determinant_72 (fun z M1 h1 => ?_)
      obtain ⟨rfl, rfl⟩ := h1
      refine gx_aload_n C dX8_determinant_75 rfl ?_
      refine gx_iload_n C dX8_determinant_76 rfl ?_
      refine gx_iconst C dX8_determinant_77 ?_
      refine gx_iload_n C dX8_determinant_78 rfl ?_
      refine gx_iconst C dX8_determinant_79 ?_
      refine gx_iadd C dX8_determinant_80 ?_
      refine gx_callI C 8 rfl (gm_0 hM) (c_X8_cellOf hM (r := 2) (c := k + 2) ha (by omega) (by omega) (by omega) (by omega)) (cwV 3 (gx_hts C) gX8_determinant_X8_cellOf rfl rfl rfl (by decide +kernel) ⟨Nat.le_of_ble_eq_true rfl, Nat.le_of_ble_eq_true rfl⟩) rfl rfl (Nat.le_of_ble_eq_true rfl) ⟨Nat.le_refl _, Nat.le_refl _⟩ dX8_determinant_81 (fun z M1 h1 => ?_)
      obtain ⟨rfl, rfl⟩ := h1
      refine gx_imul C dX8_determinant_84 ?_
      refine gx_aload_n C dX8_determinant_85 rfl ?_
      refine gx_iload_n C dX8_determinant_86 rfl ?_
      refine gx_iconst C dX8_determinant_87 ?_
      refine gx_iload_n C dX8_determinant_88 rfl ?_
      refine gx_iconst C dX8_determinant_89 ?_
      refine gx_iadd C dX8_determinant_90 ?_
      refine gx_callI C 8 rfl (gm_0 hM) (c_X8_cellOf hM (r := 1) (c := k + 2) ha (by omega) (by omega) (by omega) (by omega)) (cwV 3 (gx_hts C) gX8_determinant_X8_cellOf rfl rfl rfl (by decide +kernel) ⟨Nat.le_of_ble_eq_true rfl, Nat.le_of_ble_eq_true rfl⟩) rfl rfl (Nat.le_of_ble_eq_true rfl) ⟨Nat.le_refl _, Nat.le_refl _⟩ dX8_determinant_91 (fun z M1 h1 => ?_)
      obtain ⟨rfl, rfl⟩ := h1
      refine gx_aload_n C dX8_determinant_94 rfl ?_
      refine gx_iload_n C dX8_determinant_95 rfl ?_
      refine gx_iconst C dX8_determinant_96 ?_
      refine gx_iload_n C dX8_determinant_97 rfl ?_
      refine gx_iconst C dX8_determinant_98 ?_
      refine gx_iadd C dX8_determinant_99 ?_
      refine gx_callI C 8 rfl (gm_0 hM) (c_X8_cellOf hM (r := 2) (c := k + 1) ha (by omega) (by omega) (by omega) (by omega)) (cwV 3 (gx_hts C) gX8_determinant_X8_cellOf rfl rfl rfl (by decide +kernel) ⟨Nat.le_of_ble_eq_true rfl, Nat.le_of_ble_eq_true rfl⟩) rfl rfl (Nat.le_of_ble_eq_true rfl) ⟨Nat.le_refl _, Nat.le_refl _⟩ dX8_determinant_100 (fun z M1 h1 => ?_)
      obtain ⟨rfl, rfl⟩ := h1
      refine gx_imul C dX8_determinant_103 ?_
      refine gx_isub C dX8_determinant_104 ?_
      refine gx_imul C dX8_determinant_105 ?_
      refine gx_iadd C dX8_determinant_106 ?_
      refine gx_istore_n C dX8_determinant_107 (by decide) rfl ?_
      refine gx_iinc C dX8_determinant_108 (by decide) rfl rfl ?_
      refine gx_goto C dX8_determinant_111 rfl ?_
      exact ih _ (by rw [hx]; rfl)
    · have hd := mx_d3b (by omega) oa 3 (by omega)
      subst hx
      refine gx_iload_n C dX8_determinant_53 rfl ?_
      refine gx_iconst C dX8_determinant_54 ?_
      refine gx_icmp_ge C dX8_determinant_55 rfl (by unfold gx_3; omega) (by unfold gx_3; omega) (fun hb55 => ?_) (fun hb55 => absurd (by omega) hb55)
      refine gx_aload_n C dX8_determinant_114 rfl ?_
      refine gx_iload_n C dX8_determinant_115 rfl ?_
      refine gx_callI C 8 rfl (gm_0 hM) (c_X8_within hM hz (by omega)) (cwV 1 (gx_hts C) gX8_determinant_X8_within rfl rfl rfl (by decide +kernel) ⟨Nat.le_of_ble_eq_true rfl, Nat.le_of_ble_eq_true rfl⟩) rfl rfl (Nat.le_of_ble_eq_true rfl) ⟨Nat.le_refl _, Nat.le_refl _⟩ dX8_determinant_116 (fun z M1 h1 => ?_)
      obtain ⟨rfl, rfl⟩ := h1
      exact gx_iret C dX8_determinant_119 ⟨rfl, by unfold mx_det; rw [if_neg (by omega)]⟩
  · have h1 := mx_pr (by omega) (oa 0 (by omega)) (oa 4 (by omega))
    have h2 := mx_pr (by omega) (oa 1 (by omega)) (oa 3 (by omega))
    have e0 : M 6 ((a : Int).toNat) = mx_of (M 6) a 0 := gm_rd (by omega) (by omega)
    refine gx_aload_n C dX8_determinant_11 rfl ?_
    refine gx_aload_n C dX8_determinant_12 rfl ?_
    refine gx_getR C 8 _ 7 rfl (gm_0 hM) rfl (by decide) nX8_determinant_8 (gx_hts C _ fX8_determinant_27) dX8_determinant_13 ?_
    refine gx_iload_n C dX8_determinant_16 rfl ?_
    refine gx_iaload C (gm_6 hM) (by omega) dX8_determinant_17 e0 ?_
    refine gx_aload_n C dX8_determinant_18 rfl ?_
    refine gx_getR C 8 _ 7 rfl (gm_0 hM) rfl (by decide) nX8_determinant_8 (gx_hts C _ fX8_determinant_27) dX8_determinant_19 ?_
    refine gx_iload_n C dX8_determinant_22 rfl ?_
    refine gx_iconst C dX8_determinant_23 ?_
    refine gx_iadd C dX8_determinant_24 ?_
    refine gx_iaload C (gm_6 hM) (by omega) dX8_determinant_25 (gm_rd (a := a) (j := 4) (by omega) (by omega)) ?_
    refine gx_imul C dX8_determinant_26 ?_
    refine gx_aload_n C dX8_determinant_27 rfl ?_
    refine gx_getR C 8 _ 7 rfl (gm_0 hM) rfl (by decide) nX8_determinant_8 (gx_hts C _ fX8_determinant_27) dX8_determinant_28 ?_
    refine gx_iload_n C dX8_determinant_31 rfl ?_
    refine gx_iconst C dX8_determinant_32 ?_
    refine gx_iadd C dX8_determinant_33 ?_
    refine gx_iaload C (gm_6 hM) (by omega) dX8_determinant_34 (gm_rd (a := a) (j := 1) (by omega) (by omega)) ?_
    refine gx_aload_n C dX8_determinant_35 rfl ?_
    refine gx_getR C 8 _ 7 rfl (gm_0 hM) rfl (by decide) nX8_determinant_8 (gx_hts C _ fX8_determinant_27) dX8_determinant_36 ?_
    refine gx_iload_n C dX8_determinant_39 rfl ?_
    refine gx_iconst C dX8_determinant_40 ?_
    refine gx_iadd C dX8_determinant_41 ?_
    refine gx_iaload C (gm_6 hM) (by omega) dX8_determinant_42 (gm_rd (a := a) (j := 3) (by omega) (by omega)) ?_
    refine gx_imul C dX8_determinant_43 ?_
    refine gx_isub C dX8_determinant_44 ?_
    refine gx_callI C 8 rfl (gm_0 hM) (c_X8_within hM hz (by omega)) (cwV 1 (gx_hts C) gX8_determinant_X8_within rfl rfl rfl (by decide +kernel) ⟨Nat.le_of_ble_eq_true rfl, Nat.le_of_ble_eq_true rfl⟩) rfl rfl (Nat.le_of_ble_eq_true rfl) ⟨Nat.le_refl _, Nat.le_refl _⟩ dX8_determinant_45 (fun z M1 h1 => ?_)
    obtain ⟨rfl, rfl⟩ := h1
    exact gx_iret C dX8_determinant_48 ⟨rfl, by unfold mx_det; rw [if_pos (by omega)]⟩
end
section
theorem mx_ok_of {m : Int} {f g : Nat → Int} (h : mx_ok m f) (e : g = f) : mx_ok m g := by rw [e]; exact h
theorem gx_blk_v {M : gx_M} {c o : Nat} {f g : Nat → Int} (h : ∀ k, k < 9 → f k = g k) : gx_blk M c o 9 f = gx_blk M c o 9 g := gx_blk_f h
set_option maxRecDepth 100000 in
set_option maxHeartbeats 4000000 in
theorem c_X8_invert {La : List gx_K} (hM : gm_H La) {M : gx_M} {n : Nat} {m : Int} (hz : gm_Z M n m) {a t : Nat} (ha : a + 9 ≤ 1926) (ht : t + 9 ≤ 1926) (hat : a + 9 ≤ t ∨ t + 9 ≤ a) (oa : mx_ok m (mx_of (M 6) a)) : gx_Cv La yX8_invert wsX8_invert 2 [gx_R 0, gx_I a, gx_I t] M (fun M' => M' = gx_blk M 6 t 9 (mx_inv n m (mx_of (M 6) a))) := by
  have hzm := gm_Zm hz
  refine gx_start_v (L := [gx_R 0, gx_I a, gx_I t, gx_U, gx_U, gx_U, gx_U]) (by decide) rfl rfl (Nat.le_of_ble_eq_true rfl) rfl ?_
  intro _ _ _ _ _ _ _ _ _ _ _ _ C
  refine gx_aload_n C dX8_invert_0 rfl ?_
  refine gx_aload_n C dX8_invert_1 rfl ?_
  refine gx_iload_n C dX8_invert_2 rfl ?_
  refine gx_callI C 8 rfl (gm_0 hM) (c_X8_determinant hM hz ha oa) (cwV 1 (gx_hts C) gX8_invert_X8_determinant rfl rfl rfl (by decide +kernel) ⟨Nat.le_of_ble_eq_true rfl, Nat.le_of_ble_eq_true rfl⟩) rfl rfl (Nat.le_of_ble_eq_true rfl) ⟨Nat.le_refl _, Nat.le_refl _⟩ dX8_invert_3 (fun z M1 h1 => ?_)
  obtain ⟨rfl, rfl⟩ := h1
  have hdb := mx_det_b (n := n) (m := m) (by omega) (mx_of (M1 6) a)
  refine gx_callI C 8 rfl (gm_0 hM) (c_X8_over hM hz hdb) (cwV 1 (gx_hts C) gX8_invert_X8_over rfl rfl rfl (by decide +kernel) ⟨Nat.le_of_ble_eq_true rfl, Nat.le_of_ble_eq_true rfl⟩) rfl rfl (Nat.le_of_ble_eq_true rfl) ⟨Nat.le_refl _, Nat.le_refl _⟩ dX8_invert_6 (fun z M2 h1 => ?_)
  obtain ⟨rfl, hz1⟩ := h1
  have hob := mx_ovb (v := mx_det n m (mx_of (M2 6) a)) (m := m) (m.toNat - 1)
  rw [← hz1] at hob
  have hob : 0 ≤ z ∧ z ≤ 10 := by omega
  have hinv : ∀ k, mx_inv n m (mx_of (M2 6) a) k = if n = 2 then (if k = 0 then mx_of (M2 6) a 4 * z % m else if k = 1 then -mx_of (M2 6) a 1 * z % m else if k = 3 then -mx_of (M2 6) a 3 * z % m else if k = 4 then mx_of (M2 6) a 0 * z % m else 0) else if k < 9 then mx_min (mx_of (M2 6) a) k % m * z % m else 0 := fun k => by rw [hz1]; rfl
  refine gx_istore_n C dX8_invert_9 (by decide) rfl ?_
  refine gx_aload_n C dX8_invert_10 rfl ?_
  refine gx_getR C 8 _ 0 rfl (gm_0 hM) rfl (by decide) nX8_invert_8 (gx_hts C _ fX8_invert_7) dX8_invert_11 ?_
  refine gx_bipush C dX8_invert_14 rfl ?_
  refine gx_iaload C (gm_1 hM) (by omega) dX8_invert_16 hz.1 ?_
  refine gx_iconst C dX8_invert_17 ?_
  refine gx_icmp_ne C dX8_invert_18 rfl (by unfold gx_3; omega) (by unfold gx_3; omega) (fun hb18 => ?_) (fun hb18 => ?_)
  · refine gx_iconst C dX8_invert_113 ?_
    refine gx_istore C dX8_invert_114 (by decide) rfl ?_
    refine gx_for 3 (fun r (M' : gx_M) => [gx_R 0, gx_I a, gx_I t, gx_I z, gx_I (r : Int), gx_U, gx_U]) (fun M' => M') (fun r M' => M' = gx_blk M2 6 t (3 * r) (mx_inv n m (mx_of (M2 6) a))) 0 _ (by omega) (by rw [gx_blk_0]) (fun r M' hr hI ih => ?_) (fun M' hI => ?_)
    · refine gx_iload C dX8_invert_116 rfl ?_
      refine gx_iconst C dX8_invert_118 ?_
      refine gx_icmp_ge C dX8_invert_119 rfl (by unfold gx_3; omega) (by unfold gx_3; omega) (fun hb119 => absurd hb119 (by omega)) (fun hb119 => ?_)
      refine gx_iconst C dX8_invert_122 ?_
      refine gx_istore C dX8_invert_123 (by decide) rfl ?_
      refine gx_for 3 (fun c (M' : gx_M) => [gx_R 0, gx_I a, gx_I t, gx_I z, gx_I (r : Int), gx_I (c : Int), gx_U]) (fun M' => M') (fun c M' => M' = gx_blk M2 6 t (3 * r + c) (mx_inv n m (mx_of (M2 6) a))) 0 _ (by omega) hI (fun c M' hc hI ih2 => ?_) (fun M' hI => ?_)
      · have hz' : gm_Z M' n m := by rw [hI]; exact gm_Zb hz
        have he : mx_of (M' 6) a = mx_of (M2 6) a := by rw [hI]; exact mx_of_ext (fun k hk => gx_blk_out (by omega))
        refine gx_iload C dX8_invert_125 rfl ?_
        refine gx_iconst C dX8_invert_127 ?_
        refine gx_icmp_ge C dX8_invert_128 rfl (by unfold gx_3; omega) (by unfold gx_3; omega) (fun hb128 => absurd hb128 (by omega)) (fun hb128 => ?_)
        refine gx_aload_n C dX8_invert_131 rfl ?_
        refine gx_iload_n C dX8_invert_132 rfl ?_
        refine gx_iload C dX8_invert_133 rfl ?_
        refine gx_iconst C dX8_invert_135 ?_
        refine gx_iadd C dX8_invert_136 ?_
        refine gx_iload C dX8_invert_137 rfl ?_
        refine gx_iconst C dX8_invert_139 ?_
        refine gx_iadd C dX8_invert_140 ?_
        refine gx_callI C 8 rfl (gm_0 hM) (c_X8_cellOf hM (r := c + 1) (c := r + 1) ha (by omega) (by omega) (by omega) (by omega)) (cwV 3 (gx_hts C) gX8_invert_X8_cellOf rfl rfl rfl (by decide +kernel) ⟨Nat.le_of_ble_eq_true rfl, Nat.le_of_ble_eq_true rfl⟩) rfl rfl (Nat.le_of_ble_eq_true rfl) ⟨Nat.le_refl _, Nat.le_refl _⟩ dX8_invert_141 (fun x1 M3 h1 => ?_)
        obtain ⟨rfl, rfl⟩ := h1
        refine gx_aload_n C dX8_invert_144 rfl ?_
        refine gx_iload_n C dX8_invert_145 rfl ?_
        refine gx_iload C dX8_invert_146 rfl ?_
        refine gx_iconst C dX8_invert_148 ?_
        refine gx_iadd C dX8_invert_149 ?_
        refine gx_iload C dX8_invert_150 rfl ?_
        refine gx_iconst C dX8_invert_152 ?_
        refine gx_iadd C dX8_invert_153 ?_
        refine gx_callI C 8 rfl (gm_0 hM) (c_X8_cellOf hM (r := c + 2) (c := r + 2) ha (by omega) (by omega) (by omega) (by omega)) (cwV 3 (gx_hts C) gX8_invert_X8_cellOf rfl rfl rfl (by decide +kernel) ⟨Nat.le_of_ble_eq_true rfl, Nat.le_of_ble_eq_true rfl⟩) rfl rfl (Nat.le_of_ble_eq_true rfl) ⟨Nat.le_refl _, Nat.le_refl _⟩ dX8_invert_154 (fun x1 M3 h1 => ?_)
        obtain ⟨rfl, rfl⟩ := h1
        refine gx_imul C dX8_invert_157 ?_
        refine gx_aload_n C dX8_invert_158 rfl ?_
        refine gx_iload_n C dX8_invert_159 rfl ?_
        refine gx_iload C dX8_invert_160 rfl ?_
        refine gx_iconst C dX8_invert_162 ?_
        refine gx_iadd C dX8_invert_163 ?_
        refine gx_iload C dX8_invert_164 rfl ?_
        refine gx_iconst C dX8_invert_166 ?_
        refine gx_iadd C dX8_invert_167 ?_
        refine gx_callI C 8 rfl (gm_0 hM) (c_X8_cellOf hM (r := c + 1) (c := r + 2) ha (by omega) (by omega) (by omega) (by omega)) (cwV 3 (gx_hts C) gX8_invert_X8_cellOf rfl rfl rfl (by decide +kernel) ⟨Nat.le_of_ble_eq_true rfl, Nat.le_of_ble_eq_true rfl⟩) rfl rfl (Nat.le_of_ble_eq_true rfl) ⟨Nat.le_refl _, Nat.le_refl _⟩ dX8_invert_168 (fun x1 M3 h1 => ?_)
        obtain ⟨rfl, rfl⟩ := h1
        refine gx_aload_n C dX8_invert_171 rfl ?_
        refine gx_iload_n C dX8_invert_172 rfl ?_
        refine gx_iload C dX8_invert_173 rfl ?_
        refine gx_iconst C dX8_invert_175 ?_
        refine gx_iadd C dX8_invert_176 ?_
        refine gx_iload C dX8_invert_177 rfl ?_
        refine gx_iconst C dX8_invert_179 ?_
        refine gx_iadd C dX8_invert_180 ?_
        refine gx_callI C 8 rfl (gm_0 hM) (c_X8_cellOf hM (r := c + 2) (c := r + 1) ha (by omega) (by omega) (by omega) (by omega)) (cwV 3 (gx_hts C) gX8_invert_X8_cellOf rfl rfl rfl (by decide +kernel) ⟨Nat.le_of_ble_eq_true rfl, Nat.le_of_ble_eq_true rfl⟩) rfl rfl (Nat.le_of_ble_eq_true rfl) ⟨Nat.le_refl _, Nat.le_refl _⟩ dX8_invert_181 (fun x1 M3 h1 => ?_)
        obtain ⟨rfl, rfl⟩ := h1
        rw [he]
        have hmb := mx_mb (by omega) oa (c + 1) (r + 1) (c + 2) (r + 2) (c + 1) (r + 2) (c + 2) (r + 1)
        refine gx_imul C dX8_invert_184 ?_
        refine gx_isub C dX8_invert_185 ?_
        refine gx_istore C dX8_invert_186 (by decide) rfl ?_
        refine gx_aload_n C dX8_invert_188 rfl ?_
        refine gx_getR C 8 _ 7 rfl (gm_0 hM) rfl (by decide) nX8_invert_8 (gx_hts C _ fX8_invert_27) dX8_invert_189 ?_
        refine gx_iload_n C dX8_invert_192 rfl ?_
        refine gx_iconst C dX8_invert_193 ?_
        refine gx_iload C dX8_invert_194 rfl ?_
        refine gx_imul C dX8_invert_196 ?_
        refine gx_iadd C dX8_invert_197 ?_
        refine gx_iload C dX8_invert_198 rfl ?_
        refine gx_iadd C dX8_invert_200 ?_
        refine gx_aload_n C dX8_invert_201 rfl ?_
        refine gx_aload_n C dX8_invert_202 rfl ?_
        refine gx_iload C dX8_invert_203 rfl ?_
        refine gx_callI C 8 rfl (gm_0 hM) (c_X8_within hM hz' (by omega)) (cwV 1 (gx_hts C) gX8_invert_X8_within rfl rfl rfl (by decide +kernel) ⟨Nat.le_of_ble_eq_true rfl, Nat.le_of_ble_eq_true rfl⟩) rfl rfl (Nat.le_of_ble_eq_true rfl) ⟨Nat.le_refl _, Nat.le_refl _⟩ dX8_invert_205 (fun x1 M4 h1 => ?_)
        obtain ⟨rfl, rfl⟩ := h1
        have hw1 := mx_md (m := m) (by omega) (mx_at (mx_of (M2 6) a) (c + 1) (r + 1) * mx_at (mx_of (M2 6) a) (c + 2) (r + 2) - mx_at (mx_of (M2 6) a) (c + 1) (r + 2) * mx_at (mx_of (M2 6) a) (c + 2) (r + 1))
        have hw2 := mx_pr (m := 11) (by omega) (x := (mx_at (mx_of (M2 6) a) (c + 1) (r + 1) * mx_at (mx_of (M2 6) a) (c + 2) (r + 2) - mx_at (mx_of (M2 6) a) (c + 1) (r + 2) * mx_at (mx_of (M2 6) a) (c + 2) (r + 1)) % m) (y := z) (by omega) (by omega)
        refine gx_iload_n C dX8_invert_208 rfl ?_
        refine gx_imul C dX8_invert_209 ?_
        refine gx_callI C 8 rfl (gm_0 hM) (c_X8_within hM hz' (by omega)) (cwV 1 (gx_hts C) gX8_invert_X8_within rfl rfl rfl (by decide +kernel) ⟨Nat.le_of_ble_eq_true rfl, Nat.le_of_ble_eq_true rfl⟩) rfl rfl (Nat.le_of_ble_eq_true rfl) ⟨Nat.le_refl _, Nat.le_refl _⟩ dX8_invert_210 (fun x1 M5 h1 => ?_)
        obtain ⟨rfl, rfl⟩ := h1
        refine gx_iastore C (gm_6 hM) (by omega) dX8_invert_213 (show _ = t + (3 * r + c) by omega) ?_
        refine gx_iinc C dX8_invert_214 (by decide) rfl rfl ?_
        refine gx_goto C dX8_invert_217 rfl ?_
        refine gx_weak (L' := [gx_R 0, gx_I a, gx_I t, gx_I z, gx_I (r : Int), gx_I ((c + 1 : Nat) : Int), gx_U]) ⟨Or.inr rfl, Or.inr rfl, Or.inr rfl, Or.inr rfl, Or.inr rfl, Or.inr rfl, Or.inl rfl, trivial⟩ (ih2 _ ?_)
        rw [hI]
        refine gx_blk_s ?_
        rw [hinv, if_neg (by omega), if_pos (by omega)]
        unfold mx_min
        rw [show (3 * r + c) / 3 = r by omega, show (3 * r + c) % 3 = c by omega]
      · refine gx_iload C dX8_invert_125 rfl ?_
        refine gx_iconst C dX8_invert_127 ?_
        refine gx_icmp_ge C dX8_invert_128 rfl (by unfold gx_3; omega) (by unfold gx_3; omega) (fun hb128 => ?_) (fun hb128 => absurd (by omega) hb128)
        refine gx_iinc C dX8_invert_220 (by decide) rfl rfl ?_
        refine gx_goto C dX8_invert_223 rfl ?_
        exact gx_weak (L' := [gx_R 0, gx_I a, gx_I t, gx_I z, gx_I ((r + 1 : Nat) : Int), gx_U, gx_U]) ⟨Or.inr rfl, Or.inr rfl, Or.inr rfl, Or.inr rfl, Or.inr rfl, Or.inl rfl, Or.inl rfl, trivial⟩ (ih _ (by rw [hI, show 3 * (r + 1) = 3 * r + 3 by omega]))
    · refine gx_iload C dX8_invert_116 rfl ?_
      refine gx_iconst C dX8_invert_118 ?_
      refine gx_icmp_ge C dX8_invert_119 rfl (by unfold gx_3; omega) (by unfold gx_3; omega) (fun hb119 => ?_) (fun hb119 => absurd (by omega) hb119)
      exact gx_vret C dX8_invert_226 hI
  · have h0 := oa 0 (by omega)
    have h1 := oa 1 (by omega)
    have h3 := oa 3 (by omega)
    have h4 := oa 4 (by omega)
    have b0 : -100 ≤ mx_of (M2 6) a 0 * z ∧ mx_of (M2 6) a 0 * z ≤ 100 := mx_sm (by omega) (by omega)
    have b1 : -100 ≤ mx_of (M2 6) a 1 * z ∧ mx_of (M2 6) a 1 * z ≤ 100 := mx_sm (by omega) (by omega)
    have b3 : -100 ≤ mx_of (M2 6) a 3 * z ∧ mx_of (M2 6) a 3 * z ≤ 100 := mx_sm (by omega) (by omega)
    have b4 : -100 ≤ mx_of (M2 6) a 4 * z ∧ mx_of (M2 6) a 4 * z ≤ 100 := mx_sm (by omega) (by omega)
    have n1 : -mx_of (M2 6) a 1 * z = -(mx_of (M2 6) a 1 * z) := Int.neg_mul _ _
    have n3 : -mx_of (M2 6) a 3 * z = -(mx_of (M2 6) a 3 * z) := Int.neg_mul _ _
    refine gx_aload_n C dX8_invert_21 rfl ?_
    refine gx_iload_n C dX8_invert_22 rfl ?_
    refine gx_callV C 8 rfl (gm_0 hM) (c_X8_blank hM ht) (cwV 1 (gx_hts C) gX8_invert_X8_blank rfl rfl rfl (by decide +kernel) ⟨Nat.le_of_ble_eq_true rfl, Nat.le_of_ble_eq_true rfl⟩) rfl rfl (Nat.le_of_ble_eq_true rfl) ⟨Nat.le_refl _, Nat.le_refl _⟩ dX8_invert_23 (fun M3 hq => ?_)
    subst hq
    have e0 : gx_blk M2 6 t 9 (fun _ => 0) 6 ((a : Int).toNat) = mx_of (M2 6) a 0 := gm_rdb (by omega) (by omega) (by omega)
    refine gx_aload_n C dX8_invert_26 rfl ?_
    refine gx_getR C 8 _ 7 rfl (gm_0 hM) rfl (by decide) nX8_invert_8 (gx_hts C _ fX8_invert_27) dX8_invert_27 ?_
    refine gx_iload_n C dX8_invert_30 rfl ?_
    refine gx_aload_n C dX8_invert_31 rfl ?_
    refine gx_aload_n C dX8_invert_32 rfl ?_
    refine gx_getR C 8 _ 7 rfl (gm_0 hM) rfl (by decide) nX8_invert_8 (gx_hts C _ fX8_invert_27) dX8_invert_33 ?_
    refine gx_iload_n C dX8_invert_36 rfl ?_
    refine gx_iconst C dX8_invert_37 ?_
    refine gx_iadd C dX8_invert_38 ?_
    refine gx_iaload C (gm_6 hM) (by omega) dX8_invert_39 (gm_rdb (a := a) (j := 4) (by omega) (by omega) (by omega)) ?_
    refine gx_iload_n C dX8_invert_40 rfl ?_
    refine gx_imul C dX8_invert_41 ?_
    refine gx_callI C 8 rfl (gm_0 hM) (c_X8_within hM (gm_Zb hz) (by omega)) (cwV 1 (gx_hts C) gX8_invert_X8_within rfl rfl rfl (by decide +kernel) ⟨Nat.le_of_ble_eq_true rfl, Nat.le_of_ble_eq_true rfl⟩) rfl rfl (Nat.le_of_ble_eq_true rfl) ⟨Nat.le_refl _, Nat.le_refl _⟩ dX8_invert_42 (fun x1 M4 hq => ?_)
    obtain ⟨rfl, rfl⟩ := hq
    refine gx_iastore C (gm_6 hM) (by omega) dX8_invert_45 (show _ = t + 0 by omega) ?_
    rw [gx_blk_u (by omega)]
    refine gx_aload_n C dX8_invert_46 rfl ?_
    refine gx_getR C 8 _ 7 rfl (gm_0 hM) rfl (by decide) nX8_invert_8 (gx_hts C _ fX8_invert_27) dX8_invert_47 ?_
    refine gx_iload_n C dX8_invert_50 rfl ?_
    refine gx_iconst C dX8_invert_51 ?_
    refine gx_iadd C dX8_invert_52 ?_
    refine gx_aload_n C dX8_invert_53 rfl ?_
    refine gx_aload_n C dX8_invert_54 rfl ?_
    refine gx_getR C 8 _ 7 rfl (gm_0 hM) rfl (by decide) nX8_invert_8 (gx_hts C _ fX8_invert_27) dX8_invert_55 ?_
    refine gx_iload_n C dX8_invert_58 rfl ?_
    refine gx_iconst C dX8_invert_59 ?_
    refine gx_iadd C dX8_invert_60 ?_
    refine gx_iaload C (gm_6 hM) (by omega) dX8_invert_61 (gm_rdb (a := a) (j := 1) (by omega) (by omega) (by omega)) ?_
    refine gx_ineg C dX8_invert_62 ?_
    refine gx_iload_n C dX8_invert_63 rfl ?_
    refine gx_imul C dX8_invert_64 ?_
    refine gx_callI C 8 rfl (gm_0 hM) (c_X8_within hM (gm_Zb hz) (by omega)) (cwV 1 (gx_hts C) gX8_invert_X8_within rfl rfl rfl (by decide +kernel) ⟨Nat.le_of_ble_eq_true rfl, Nat.le_of_ble_eq_true rfl⟩) rfl rfl (Nat.le_of_ble_eq_true rfl) ⟨Nat.le_refl _, Nat.le_refl _⟩ dX8_invert_65 (fun x1 M4 hq => ?_)
    obtain ⟨rfl, rfl⟩ := hq
    refine gx_iastore C (gm_6 hM) (by omega) dX8_invert_68 (show _ = t + 1 by omega) ?_
    rw [gx_blk_u (by omega)]
    refine gx_aload_n C dX8_invert_69 rfl ?_
    refine gx_getR C 8 _ 7 rfl (gm_0 hM) rfl (by decide) nX8_invert_8 (gx_hts C _ fX8_invert_27) dX8_invert_70 ?_
    refine gx_iload_n C dX8_invert_73 rfl ?_
    refine gx_iconst C dX8_invert_74 ?_
    refine gx_iadd C dX8_invert_75 ?_
    refine gx_aload_n C dX8_invert_76 rfl ?_
    refine gx_aload_n C dX8_invert_77 rfl ?_
    refine gx_getR C 8 _ 7 rfl (gm_0 hM) rfl (by decide) nX8_invert_8 (gx_hts C _ fX8_invert_27) dX8_invert_78 ?_
    refine gx_iload_n C dX8_invert_81 rfl ?_
    refine gx_iconst C dX8_invert_82 ?_
    refine gx_iadd C dX8_invert_83 ?_
    refine gx_iaload C (gm_6 hM) (by omega) dX8_invert_84 (gm_rdb (a := a) (j := 3) (by omega) (by omega) (by omega)) ?_
    refine gx_ineg C dX8_invert_85 ?_
    refine gx_iload_n C dX8_invert_86 rfl ?_
    refine gx_imul C dX8_invert_87 ?_
    refine gx_callI C 8 rfl (gm_0 hM) (c_X8_within hM (gm_Zb hz) (by omega)) (cwV 1 (gx_hts C) gX8_invert_X8_within rfl rfl rfl (by decide +kernel) ⟨Nat.le_of_ble_eq_true rfl, Nat.le_of_ble_eq_true rfl⟩) rfl rfl (Nat.le_of_ble_eq_true rfl) ⟨Nat.le_refl _, Nat.le_refl _⟩ dX8_invert_88 (fun x1 M4 hq => ?_)
    obtain ⟨rfl, rfl⟩ := hq
    refine gx_iastore C (gm_6 hM) (by omega) dX8_invert_91 (show _ = t + 3 by omega) ?_
    rw [gx_blk_u (by omega)]
    refine gx_aload_n C dX8_invert_92 rfl ?_
    refine gx_getR C 8 _ 7 rfl (gm_0 hM) rfl (by decide) nX8_invert_8 (gx_hts C _ fX8_invert_27) dX8_invert_93 ?_
    refine gx_iload_n C dX8_invert_96 rfl ?_
    refine gx_iconst C dX8_invert_97 ?_
    refine gx_iadd C dX8_invert_98 ?_
    refine gx_aload_n C dX8_invert_99 rfl ?_
    refine gx_aload_n C dX8_invert_100 rfl ?_
    refine gx_getR C 8 _ 7 rfl (gm_0 hM) rfl (by decide) nX8_invert_8 (gx_hts C _ fX8_invert_27) dX8_invert_101 ?_
    refine gx_iload_n C dX8_invert_104 rfl ?_
    refine gx_iaload C (gm_6 hM) (by omega) dX8_invert_105 (gm_rdb (a := a) (j := 0) (by omega) (by omega) (by omega)) ?_
    refine gx_iload_n C dX8_invert_106 rfl ?_
    refine gx_imul C dX8_invert_107 ?_
    refine gx_callI C 8 rfl (gm_0 hM) (c_X8_within hM (gm_Zb hz) (by omega)) (cwV 1 (gx_hts C) gX8_invert_X8_within rfl rfl rfl (by decide +kernel) ⟨Nat.le_of_ble_eq_true rfl, Nat.le_of_ble_eq_true rfl⟩) rfl rfl (Nat.le_of_ble_eq_true rfl) ⟨Nat.le_refl _, Nat.le_refl _⟩ dX8_invert_108 (fun x1 M4 hq => ?_)
    obtain ⟨rfl, rfl⟩ := hq
    refine gx_iastore C (gm_6 hM) (by omega) dX8_invert_111 (show _ = t + 4 by omega) ?_
    rw [gx_blk_u (by omega)]
    have hf : gx_blk M2 6 t 9 (fun k => if k = 4 then mx_of (M2 6) a 0 * z % m else if k = 3 then -mx_of (M2 6) a 3 * z % m else if k = 1 then -mx_of (M2 6) a 1 * z % m else if k = 0 then mx_of (M2 6) a 4 * z % m else 0) = gx_blk M2 6 t 9 (mx_inv n m (mx_of (M2 6) a)) := by
      refine gx_blk_f (fun k hk => ?_)
      have hn2 : n = 2 := by omega
      rw [hinv]
      simp only [if_pos hn2]
      rcases (show k = 0 ∨ k = 1 ∨ k = 3 ∨ k = 4 ∨ (k ≠ 0 ∧ k ≠ 1 ∧ k ≠ 3 ∧ k ≠ 4) by omega) with rfl | rfl | rfl | rfl | ⟨q0, q1, q3, q4⟩
      · rfl
      · rfl
      · rfl
      · rfl
      · simp only [if_neg q0, if_neg q1, if_neg q3, if_neg q4]
    exact gx_vret C dX8_invert_112 hf
set_option maxRecDepth 100000 in
set_option maxHeartbeats 4000000 in
theorem c_X8_layBase {La : List gx_K} (hM : gm_H La) {M : gx_M} {n : Nat} {m : Int} (hz : gm_Z M n m) (ou : mx_ok m (mx_of (M 1) 72)) : gx_Cv La yX8_layBase wsX8_layBase 3 [gx_R 0] M (fun M' => M' = gx_blk (gx_blk M 6 27 9 (mx_of (M 1) 72)) 6 36 9 (mx_inv n m (mx_of (M 1) 72))) := by
  refine gx_start_v (L := [gx_R 0, gx_U]) (by decide) rfl rfl (Nat.le_of_ble_eq_true rfl) rfl ?_
  intro _ _ _ _ _ _ _ _ _ _ _ _ C
  refine gx_iconst C dX8_layBase_0 ?_
  refine gx_istore_n C dX8_layBase_1 (by decide) rfl ?_
  refine gx_for 9 (fun k (M' : gx_M) => [gx_R 0, gx_I (k : Int)]) (fun M' => M') (fun k M' => M' = gx_blk M 6 27 k (mx_of (M 1) 72)) 0 M (by omega) gx_blk_0.symm (fun k M' hk hI ih => ?_) (fun M' hI => ?_)
  · have e1 : M' 1 ((72 + (k : Int)).toNat) = mx_of (M 1) 72 k := by
      rw [hI, gx_blk_nc (by decide), mx_of_at hk, show (72 + (k : Int)).toNat = 72 + k by omega]
    refine gx_iload_n C dX8_layBase_2 rfl ?_
    refine gx_bipush C dX8_layBase_3 rfl ?_
    refine gx_icmp_ge C dX8_layBase_5 rfl (by unfold gx_3; omega) (by unfold gx_3; omega) (fun hb5 => absurd hb5 (by omega)) (fun hb5 => ?_)
    refine gx_aload_n C dX8_layBase_8 rfl ?_
    refine gx_getR C 8 _ 7 rfl (gm_0 hM) rfl (by decide) nX8_layBase_8 (gx_hts C _ fX8_layBase_27) dX8_layBase_9 ?_
    refine gx_bipush C dX8_layBase_12 rfl ?_
    refine gx_iload_n C dX8_layBase_14 rfl ?_
    refine gx_iadd C dX8_layBase_15 ?_
    refine gx_aload_n C dX8_layBase_16 rfl ?_
    refine gx_getR C 8 _ 0 rfl (gm_0 hM) rfl (by decide) nX8_layBase_8 (gx_hts C _ fX8_layBase_7) dX8_layBase_17 ?_
    refine gx_bipush C dX8_layBase_20 rfl ?_
    refine gx_iload_n C dX8_layBase_22 rfl ?_
    refine gx_iadd C dX8_layBase_23 ?_
    refine gx_iaload C (gm_1 hM) (by omega) dX8_layBase_24 e1 ?_
    refine gx_iastore C (gm_6 hM) (by omega) dX8_layBase_25 (show _ = 27 + k by omega) ?_
    refine gx_iinc C dX8_layBase_26 (by decide) rfl rfl ?_
    refine gx_goto C dX8_layBase_29 rfl ?_
    exact ih _ (by rw [hI]; exact gx_blk_s rfl)
  · subst hI
    refine gx_iload_n C dX8_layBase_2 rfl ?_
    refine gx_bipush C dX8_layBase_3 rfl ?_
    refine gx_icmp_ge C dX8_layBase_5 rfl (by unfold gx_3; omega) (by unfold gx_3; omega) (fun hb5 => ?_) (fun hb5 => absurd (by omega) hb5)
    refine gx_aload_n C dX8_layBase_32 rfl ?_
    refine gx_bipush C dX8_layBase_33 rfl ?_
    refine gx_bipush C dX8_layBase_35 rfl ?_
    have e2 : mx_of (gx_blk M 6 27 9 (mx_of (M 1) 72) 6) 27 = mx_of (M 1) 72 := mx_of_of
    refine gx_callV C 8 rfl (gm_0 hM) (c_X8_invert hM (gm_Zb hz) (a := 27) (t := 36) (by omega) (by omega) (by omega) (by rw [e2]; exact ou)) (cwV 2 (gx_hts C) gX8_layBase_X8_invert rfl rfl rfl (by decide +kernel) ⟨Nat.le_of_ble_eq_true rfl, Nat.le_of_ble_eq_true rfl⟩) rfl rfl (Nat.le_of_ble_eq_true rfl) ⟨Nat.le_refl _, Nat.le_refl _⟩ dX8_layBase_37 (fun M1 h1 => ?_)
    subst h1
    rw [e2]
    exact gx_vret C dX8_layBase_40 rfl
/-- register, base or unit -/
def gm_el (M : gx_M) (n : Nat) (m : Int) (r : Nat) : Nat → Int := if r < 8 then mx_of (M 1) (9 * r) else if r = 8 then mx_of (M 1) 72 else mx_inv n m (mx_of (M 1) 72)
theorem gm_el_9 {M : gx_M} {n : Nat} {m : Int} {r : Nat} : ∀ k, 9 ≤ k → gm_el M n m r k = 0 := fun k hk => by
  unfold gm_el
  split
  · exact if_neg (by omega)
  · split
    · exact if_neg (by omega)
    · exact mx_inv_9 k hk
theorem mx_of_el {M M0 : gx_M} {t n r : Nat} {m : Int} : mx_of (gx_blk M 6 t 9 (gm_el M0 n m r) 6) t = gm_el M0 n m r := by rw [mx_of_blk, mx_cut gm_el_9]
set_option maxRecDepth 100000 in
set_option maxHeartbeats 4000000 in
theorem c_X8_load {La : List gx_K} (hM : gm_H La) {M : gx_M} {n : Nat} {m : Int} (hz : gm_Z M n m) (ou : mx_ok m (mx_of (M 1) 72)) {r t : Nat} {x : Int} (hx : x = r) (hr : r < 10) (ht : t + 9 ≤ 1926) (hd : t + 9 ≤ 27 ∨ 45 ≤ t) : gx_Cv La yX8_load wsX8_load 4 [gx_R 0, gx_I x, gx_I t] M (fun M' => M' = gx_blk (gx_blk (gx_blk M 6 27 9 (mx_of (M 1) 72)) 6 36 9 (mx_inv n m (mx_of (M 1) 72))) 6 t 9 (gm_el M n m r)) := by
  subst hx
  refine gx_start_v (L := [gx_R 0, gx_I (r : Int), gx_I t, gx_U]) (by decide) rfl rfl (Nat.le_of_ble_eq_true rfl) rfl ?_
  intro _ _ _ _ _ _ _ _ _ _ _ _ C
  refine gx_aload_n C dX8_load_0 rfl ?_
  refine gx_callV C 8 rfl (gm_0 hM) (c_X8_layBase hM hz ou) (cwV 0 (gx_hts C) gX8_load_X8_layBase rfl rfl rfl (by decide +kernel) ⟨Nat.le_of_ble_eq_true rfl, Nat.le_of_ble_eq_true rfl⟩) rfl rfl (Nat.le_of_ble_eq_true rfl) ⟨Nat.le_refl _, Nat.le_refl _⟩ dX8_load_1 (fun M1 h1 => ?_)
  have eU : mx_of (M1 6) 27 = mx_of (M 1) 72 := by rw [h1, mx_of_blo (by omega)]; exact mx_of_of
  have eV : mx_of (M1 6) 36 = mx_inv n m (mx_of (M 1) 72) := by rw [h1]; exact mx_of_inv
  have e1 : M1 1 = M 1 := by rw [h1, gx_blk_nc (by decide), gx_blk_nc (by decide)]
  rw [← h1]
  refine gx_iconst C dX8_load_4 ?_
  refine gx_istore_n C dX8_load_5 (by decide) rfl ?_
  refine gx_for 9 (fun k (M' : gx_M) => [gx_R 0, gx_I (r : Int), gx_I t, gx_I (k : Int)]) (fun M' => M') (fun k M' => M' = gx_blk M1 6 t k (gm_el M n m r)) 0 M1 (by omega) gx_blk_0.symm (fun k M' hk hI ih => ?_) (fun M' hI => ?_)
  · refine gx_iload_n C dX8_load_6 rfl ?_
    refine gx_bipush C dX8_load_7 rfl ?_
    refine gx_icmp_ge C dX8_load_9 rfl (by unfold gx_3; omega) (by unfold gx_3; omega) (fun hb9 => absurd hb9 (by omega)) (fun hb9 => ?_)
    refine gx_aload_n C dX8_load_12 rfl ?_
    refine gx_getR C 8 _ 7 rfl (gm_0 hM) rfl (by decide) nX8_load_8 (gx_hts C _ fX8_load_27) dX8_load_13 ?_
    refine gx_iload_n C dX8_load_16 rfl ?_
    refine gx_iload_n C dX8_load_17 rfl ?_
    refine gx_iadd C dX8_load_18 ?_
    refine gx_iload_n C dX8_load_19 rfl ?_
    refine gx_bipush C dX8_load_20 rfl ?_
    refine gx_icmp_ge C dX8_load_22 rfl (by unfold gx_3; omega) (by unfold gx_3; omega) (fun hb22 => ?_) (fun hb22 => ?_)
    · refine gx_aload_n C dX8_load_39 rfl ?_
      refine gx_getR C 8 _ 7 rfl (gm_0 hM) rfl (by decide) nX8_load_8 (gx_hts C _ fX8_load_27) dX8_load_40 ?_
      refine gx_iload_n C dX8_load_43 rfl ?_
      refine gx_bipush C dX8_load_44 rfl ?_
      refine gx_icmp_ne C dX8_load_46 rfl (by unfold gx_3; omega) (by unfold gx_3; omega) (fun hb46 => ?_) (fun hb46 => ?_)
      · refine gx_bipush C dX8_load_54 rfl ?_
        refine gx_iload_n C dX8_load_56 rfl ?_
        refine gx_iadd C dX8_load_57 ?_
        refine gx_iaload C (gm_6 hM) (by omega) dX8_load_58 (show _ = gm_el M n m r k by rw [hI]; unfold gm_el; rw [if_neg (by omega), if_neg (by omega), ← eV]; exact gm_rdb (by omega) (by omega) hk) ?_
        refine gx_iastore C (gm_6 hM) (by omega) dX8_load_59 (show _ = t + k by omega) ?_
        refine gx_iinc C dX8_load_60 (by decide) rfl rfl ?_
        refine gx_goto C dX8_load_63 rfl ?_
        exact ih _ (by rw [hI]; exact gx_blk_s rfl)
      · refine gx_bipush C dX8_load_49 rfl ?_
        refine gx_goto C dX8_load_51 rfl ?_
        refine gx_iload_n C dX8_load_56 rfl ?_
        refine gx_iadd C dX8_load_57 ?_
        refine gx_iaload C (gm_6 hM) (by omega) dX8_load_58 (show _ = gm_el M n m r k by rw [hI]; unfold gm_el; rw [if_neg (by omega), if_pos (by omega), ← eU]; exact gm_rdb (by omega) (by omega) hk) ?_
        refine gx_iastore C (gm_6 hM) (by omega) dX8_load_59 (show _ = t + k by omega) ?_
        refine gx_iinc C dX8_load_60 (by decide) rfl rfl ?_
        refine gx_goto C dX8_load_63 rfl ?_
        exact ih _ (by rw [hI]; exact gx_blk_s rfl)
    · have e3 : M' 1 ((9 * (r : Int) + (k : Int)).toNat) = gm_el M n m r k := by
        rw [hI, gx_blk_nc (by decide), e1]
        unfold gm_el
        rw [if_pos (by omega), mx_of_at hk, show (9 * (r : Int) + (k : Int)).toNat = 9 * r + k by omega]
      refine gx_aload_n C dX8_load_25 rfl ?_
      refine gx_getR C 8 _ 0 rfl (gm_0 hM) rfl (by decide) nX8_load_8 (gx_hts C _ fX8_load_7) dX8_load_26 ?_
      refine gx_bipush C dX8_load_29 rfl ?_
      refine gx_iload_n C dX8_load_31 rfl ?_
      refine gx_imul C dX8_load_32 ?_
      refine gx_iload_n C dX8_load_33 rfl ?_
      refine gx_iadd C dX8_load_34 ?_
      refine gx_iaload C (gm_1 hM) (by omega) dX8_load_35 e3 ?_
      refine gx_goto C dX8_load_36 rfl ?_
      refine gx_iastore C (gm_6 hM) (by omega) dX8_load_59 (show _ = t + k by omega) ?_
      refine gx_iinc C dX8_load_60 (by decide) rfl rfl ?_
      refine gx_goto C dX8_load_63 rfl ?_
      exact ih _ (by rw [hI]; exact gx_blk_s rfl)
  · refine gx_iload_n C dX8_load_6 rfl ?_
    refine gx_bipush C dX8_load_7 rfl ?_
    refine gx_icmp_ge C dX8_load_9 rfl (by unfold gx_3; omega) (by unfold gx_3; omega) (fun hb9 => ?_) (fun hb9 => absurd (by omega) hb9)
    exact gx_vret C dX8_load_66 hI
set_option maxRecDepth 100000 in
set_option maxHeartbeats 4000000 in
theorem c_X8_store {La : List gx_K} (hM : gm_H La) {M : gx_M} {r a : Nat} {x : Int} (hx : x = r) (hr : r < 8) (ha : a + 9 ≤ 1926) : gx_Cv La yX8_store wsX8_store 0 [gx_R 0, gx_I a, gx_I x] M (fun M' => M' = gx_blk M 1 (9 * r) 9 (mx_of (M 6) a)) := by
  subst hx
  refine gx_start_v (L := [gx_R 0, gx_I a, gx_I (r : Int), gx_U]) (by decide) rfl rfl (Nat.le_of_ble_eq_true rfl) rfl ?_
  intro _ _ _ _ _ _ _ _ _ _ _ _ C
  refine gx_iconst C dX8_store_0 ?_
  refine gx_istore_n C dX8_store_1 (by decide) rfl ?_
  refine gx_for 9 (fun k (M' : gx_M) => [gx_R 0, gx_I a, gx_I (r : Int), gx_I (k : Int)]) (fun M' => M') (fun k M' => M' = gx_blk M 1 (9 * r) k (mx_of (M 6) a)) 0 M (by omega) gx_blk_0.symm (fun k M' hk hI ih => ?_) (fun M' hI => ?_)
  · have e1 : M' 6 (((a : Int) + (k : Int)).toNat) = mx_of (M 6) a k := by
      rw [hI, gx_blk_nc (by decide)]
      exact gm_rd (by omega) hk
    refine gx_iload_n C dX8_store_2 rfl ?_
    refine gx_bipush C dX8_store_3 rfl ?_
    refine gx_icmp_ge C dX8_store_5 rfl (by unfold gx_3; omega) (by unfold gx_3; omega) (fun hb5 => absurd hb5 (by omega)) (fun hb5 => ?_)
    refine gx_aload_n C dX8_store_8 rfl ?_
    refine gx_getR C 8 _ 0 rfl (gm_0 hM) rfl (by decide) nX8_store_8 (gx_hts C _ fX8_store_7) dX8_store_9 ?_
    refine gx_bipush C dX8_store_12 rfl ?_
    refine gx_iload_n C dX8_store_14 rfl ?_
    refine gx_imul C dX8_store_15 ?_
    refine gx_iload_n C dX8_store_16 rfl ?_
    refine gx_iadd C dX8_store_17 ?_
    refine gx_aload_n C dX8_store_18 rfl ?_
    refine gx_getR C 8 _ 7 rfl (gm_0 hM) rfl (by decide) nX8_store_8 (gx_hts C _ fX8_store_27) dX8_store_19 ?_
    refine gx_iload_n C dX8_store_22 rfl ?_
    refine gx_iload_n C dX8_store_23 rfl ?_
    refine gx_iadd C dX8_store_24 ?_
    refine gx_iaload C (gm_6 hM) (by omega) dX8_store_25 e1 ?_
    refine gx_iastore C (gm_1 hM) (by omega) dX8_store_26 (show _ = 9 * r + k by omega) ?_
    refine gx_iinc C dX8_store_27 (by decide) rfl rfl ?_
    refine gx_goto C dX8_store_30 rfl ?_
    exact ih _ (by rw [hI]; exact gx_blk_s rfl)
  · refine gx_iload_n C dX8_store_2 rfl ?_
    refine gx_bipush C dX8_store_3 rfl ?_
    refine gx_icmp_ge C dX8_store_5 rfl (by unfold gx_3; omega) (by unfold gx_3; omega) (fun hb5 => ?_) (fun hb5 => absurd (by omega) hb5)
    exact gx_vret C dX8_store_33 hI
end
section
/-- only numbers of the work row have changed, and of these only such -/
def gm_E (S : Nat → Prop) (M M' : gx_M) : Prop := (∀ c, c ≠ 6 → M' c = M c) ∧ ∀ j, ¬ S j → M' 6 j = M 6 j
theorem gm_Er (S : Nat → Prop) (M : gx_M) : gm_E S M M := ⟨fun _ _ => rfl, fun _ _ => rfl⟩
theorem gm_Et {S : Nat → Prop} {M M1 M2 : gx_M} (h1 : gm_E S M M1) (h2 : gm_E S M1 M2) : gm_E S M M2 := ⟨fun c hc => (h2.1 c hc).trans (h1.1 c hc), fun j hj => (h2.2 j hj).trans (h1.2 j hj)⟩
theorem gm_Ew {S S' : Nat → Prop} {M M1 : gx_M} (h1 : gm_E S M M1) (h : ∀ j, S j → S' j) : gm_E S' M M1 := ⟨h1.1, fun j hj => h1.2 j (fun q => hj (h j q))⟩
theorem gm_Eb {S : Nat → Prop} {M : gx_M} {t n : Nat} {f : Nat → Int} (h : ∀ j, t ≤ j → j < t + n → S j) : gm_E S M (gx_blk M 6 t n f) := ⟨fun c hc => gx_blk_nc hc, fun j hj => gx_blk_out (by
  by_cases h1 : t ≤ j
  · by_cases h2 : j < t + n
    · exact absurd (h j h1 h2) hj
    · omega
  · omega)⟩
theorem gm_Eo {S : Nat → Prop} {M M1 : gx_M} {a : Nat} (h : gm_E S M M1) (ha : ∀ j, a ≤ j → j < a + 9 → ¬ S j) : mx_of (M1 6) a = mx_of (M 6) a := mx_of_ext (fun k hk => h.2 _ (ha _ (by omega) (by omega)))
theorem gm_Ez {S : Nat → Prop} {M M1 : gx_M} {n : Nat} {m : Int} (h : gm_E S M M1) (hz : gm_Z M n m) : gm_Z M1 n m := by
  unfold gm_Z
  rw [h.1 1 (by decide)]
  exact hz
/-- the operations, as the reference has them -/
def mx_prod (n : Nat) (m : Int) (u a b : Nat → Int) : Nat → Int := mx_lin m (mx_mul n m (mx_mul n m a u) b) ((m + 1) / 2) (mx_mul n m (mx_mul n m b u) a) ((m + 1) / 2)
def mx_oper (n : Nat) (m : Int) (u a b : Nat → Int) : Nat → Int := mx_mul n m (mx_mul n m (mx_mul n m (mx_mul n m a u) b) u) a
def mx_trip (n : Nat) (m : Int) (u a b c : Nat → Int) : Nat → Int := mx_lin m (mx_mul n m (mx_mul n m (mx_mul n m (mx_mul n m a u) b) u) c) ((m + 1) / 2) (mx_mul n m (mx_mul n m (mx_mul n m (mx_mul n m c u) b) u) a) ((m + 1) / 2)
def gm_S (t : Nat) : Nat → Prop := fun j => (45 ≤ j ∧ j < 81) ∨ (t ≤ j ∧ j < t + 9)
theorem mx_half {m : Int} (h : 3 ≤ m ∧ m ≤ 11) : -10 ≤ (m + 1) / 2 ∧ (m + 1) / 2 ≤ 10 := by omega
set_option maxRecDepth 100000 in
set_option maxHeartbeats 4000000 in
theorem c_X8_product {La : List gx_K} (hM : gm_H La) {M : gx_M} {n : Nat} {m : Int} (hz : gm_Z M n m) {a b t : Nat} (ha : a + 9 ≤ 45 ∨ 81 ≤ a) (ha2 : a + 9 ≤ 1926) (hb : b + 9 ≤ 45 ∨ 81 ≤ b) (hb2 : b + 9 ≤ 1926) (ht : t + 9 ≤ 45 ∨ 81 ≤ t) (ht2 : t + 9 ≤ 1926) (oa : mx_ok m (mx_of (M 6) a)) (ob : mx_ok m (mx_of (M 6) b)) (ou : mx_ok m (mx_of (M 6) 27)) : gx_Cv La yX8_product wsX8_product 2 [gx_R 0, gx_I a, gx_I b, gx_I t] M (fun M' => mx_of (M' 6) t = mx_prod n m (mx_of (M 6) 27) (mx_of (M 6) a) (mx_of (M 6) b) ∧ gm_E (gm_S t) M M') := by
  have hzm := gm_Zm hz
  have hh := mx_half (m := m) (by omega)
  generalize hA : mx_of (M 6) a = A at oa ⊢
  generalize hB : mx_of (M 6) b = B at ob ⊢
  generalize hU : mx_of (M 6) 27 = U at ou ⊢
  refine gx_start_v (L := [gx_R 0, gx_I a, gx_I b, gx_I t]) (by decide) rfl rfl (Nat.le_of_ble_eq_true rfl) rfl ?_
  intro _ _ _ _ _ _ _ _ _ _ _ _ C
  refine gx_aload_n C dX8_product_0 rfl ?_
  refine gx_iload_n C dX8_product_1 rfl ?_
  refine gx_bipush C dX8_product_2 rfl ?_
  refine gx_bipush C dX8_product_4 rfl ?_
  refine gx_callV C 8 rfl (gm_0 hM) (c_X8_times hM hz (a := a) (b := 27) (t := 45) (by omega) (by omega) (by omega) (by omega) (by omega) (by rw [hA]; exact oa) (by rw [hU]; exact ou)) (cwV 3 (gx_hts C) gX8_product_X8_times rfl rfl rfl (by decide +kernel) ⟨Nat.le_of_ble_eq_true rfl, Nat.le_of_ble_eq_true rfl⟩) rfl rfl (Nat.le_of_ble_eq_true rfl) ⟨Nat.le_refl _, Nat.le_refl _⟩ dX8_product_6 (fun M1 h1 => ?_)
  rw [hA, hU] at h1
  have z1 : gm_Z M1 n m := by rw [h1]; exact gm_Zb hz
  have a1 : mx_of (M1 6) a = A := by rw [h1, mx_of_blo (by omega), hA]
  have b1 : mx_of (M1 6) b = B := by rw [h1, mx_of_blo (by omega), hB]
  have u1 : mx_of (M1 6) 27 = U := by rw [h1, mx_of_blo (by omega), hU]
  have t1 : mx_of (M1 6) 45 = mx_mul n m A U := by rw [h1]; exact mx_of_mul
  have E1 : gm_E (gm_S t) M M1 := by rw [h1]; exact gm_Eb (fun j h1 h2 => Or.inl (by omega))
  clear h1
  refine gx_aload_n C dX8_product_9 rfl ?_
  refine gx_bipush C dX8_product_10 rfl ?_
  refine gx_iload_n C dX8_product_12 rfl ?_
  refine gx_bipush C dX8_product_13 rfl ?_
  refine gx_callV C 8 rfl (gm_0 hM) (c_X8_times hM z1 (a := 45) (b := b) (t := 54) (by omega) (by omega) (by omega) (by omega) (by omega) (by rw [t1]; exact mx_mul_ok hzm.1 _ _) (by rw [b1]; exact ob)) (cwV 3 (gx_hts C) gX8_product_X8_times rfl rfl rfl (by decide +kernel) ⟨Nat.le_of_ble_eq_true rfl, Nat.le_of_ble_eq_true rfl⟩) rfl rfl (Nat.le_of_ble_eq_true rfl) ⟨Nat.le_refl _, Nat.le_refl _⟩ dX8_product_15 (fun M2 h1 => ?_)
  rw [t1, b1] at h1
  have z2 : gm_Z M2 n m := by rw [h1]; exact gm_Zb z1
  have a2 : mx_of (M2 6) a = A := by rw [h1, mx_of_blo (by omega), a1]
  have b2 : mx_of (M2 6) b = B := by rw [h1, mx_of_blo (by omega), b1]
  have u2 : mx_of (M2 6) 27 = U := by rw [h1, mx_of_blo (by omega), u1]
  have t2 : mx_of (M2 6) 54 = mx_mul n m (mx_mul n m A U) B := by rw [h1]; exact mx_of_mul
  have E2 : gm_E (gm_S t) M M2 := gm_Et E1 (by rw [h1]; exact gm_Eb (fun j h1 h2 => Or.inl (by omega)))
  clear h1
  refine gx_aload_n C dX8_product_18 rfl ?_
  refine gx_iload_n C dX8_product_19 rfl ?_
  refine gx_bipush C dX8_product_20 rfl ?_
  refine gx_bipush C dX8_product_22 rfl ?_
  refine gx_callV C 8 rfl (gm_0 hM) (c_X8_times hM z2 (a := b) (b := 27) (t := 45) (by omega) (by omega) (by omega) (by omega) (by omega) (by rw [b2]; exact ob) (by rw [u2]; exact ou)) (cwV 3 (gx_hts C) gX8_product_X8_times rfl rfl rfl (by decide +kernel) ⟨Nat.le_of_ble_eq_true rfl, Nat.le_of_ble_eq_true rfl⟩) rfl rfl (Nat.le_of_ble_eq_true rfl) ⟨Nat.le_refl _, Nat.le_refl _⟩ dX8_product_24 (fun M3 h1 => ?_)
  rw [b2, u2] at h1
  have z3 : gm_Z M3 n m := by rw [h1]; exact gm_Zb z2
  have a3 : mx_of (M3 6) a = A := by rw [h1, mx_of_blo (by omega), a2]
  have v3 : mx_of (M3 6) 54 = mx_mul n m (mx_mul n m A U) B := by rw [h1, mx_of_blo (by omega), t2]
  have t3 : mx_of (M3 6) 45 = mx_mul n m B U := by rw [h1]; exact mx_of_mul
  have E3 : gm_E (gm_S t) M M3 := gm_Et E2 (by rw [h1]; exact gm_Eb (fun j h1 h2 => Or.inl (by omega)))
  clear h1
  refine gx_aload_n C dX8_product_27 rfl ?_
  refine gx_bipush C dX8_product_28 rfl ?_
  refine gx_iload_n C dX8_product_30 rfl ?_
  refine gx_bipush C dX8_product_31 rfl ?_
  refine gx_callV C 8 rfl (gm_0 hM) (c_X8_times hM z3 (a := 45) (b := a) (t := 63) (by omega) (by omega) (by omega) (by omega) (by omega) (by rw [t3]; exact mx_mul_ok hzm.1 _ _) (by rw [a3]; exact oa)) (cwV 3 (gx_hts C) gX8_product_X8_times rfl rfl rfl (by decide +kernel) ⟨Nat.le_of_ble_eq_true rfl, Nat.le_of_ble_eq_true rfl⟩) rfl rfl (Nat.le_of_ble_eq_true rfl) ⟨Nat.le_refl _, Nat.le_refl _⟩ dX8_product_33 (fun M4 h1 => ?_)
  rw [t3, a3] at h1
  have z4 : gm_Z M4 n m := by rw [h1]; exact gm_Zb z3
  have v4 : mx_of (M4 6) 54 = mx_mul n m (mx_mul n m A U) B := by rw [h1, mx_of_blo (by omega), v3]
  have t4 : mx_of (M4 6) 63 = mx_mul n m (mx_mul n m B U) A := by rw [h1]; exact mx_of_mul
  have E4 : gm_E (gm_S t) M M4 := gm_Et E3 (by rw [h1]; exact gm_Eb (fun j h1 h2 => Or.inl (by omega)))
  clear h1
  refine gx_aload_n C dX8_product_36 rfl ?_
  refine gx_bipush C dX8_product_37 rfl ?_
  refine gx_aload_n C dX8_product_39 rfl ?_
  refine gx_callI C 8 rfl (gm_0 hM) (c_X8_half hM z4) (cwV 0 (gx_hts C) gX8_product_X8_half rfl rfl rfl (by decide +kernel) ⟨Nat.le_of_ble_eq_true rfl, Nat.le_of_ble_eq_true rfl⟩) rfl rfl (Nat.le_of_ble_eq_true rfl) ⟨Nat.le_refl _, Nat.le_refl _⟩ dX8_product_40 (fun z M5 h1 => ?_)
  obtain ⟨rfl, rfl⟩ := h1
  refine gx_bipush C dX8_product_43 rfl ?_
  refine gx_aload_n C dX8_product_45 rfl ?_
  refine gx_callI C 8 rfl (gm_0 hM) (c_X8_half hM z4) (cwV 0 (gx_hts C) gX8_product_X8_half rfl rfl rfl (by decide +kernel) ⟨Nat.le_of_ble_eq_true rfl, Nat.le_of_ble_eq_true rfl⟩) rfl rfl (Nat.le_of_ble_eq_true rfl) ⟨Nat.le_refl _, Nat.le_refl _⟩ dX8_product_46 (fun z M6 h1 => ?_)
  obtain ⟨rfl, rfl⟩ := h1
  refine gx_iload_n C dX8_product_49 rfl ?_
  refine gx_callV C 8 rfl (gm_0 hM) (c_X8_add hM z4 (a := 54) (b := 63) (t := t) (by omega) (by omega) (by omega) (by omega) (by omega) (by rw [v4]; exact mx_mul_ok hzm.1 _ _) (by rw [t4]; exact mx_mul_ok hzm.1 _ _) hh hh) (cwV 5 (gx_hts C) gX8_product_X8_add rfl rfl rfl (by decide +kernel) ⟨Nat.le_of_ble_eq_true rfl, Nat.le_of_ble_eq_true rfl⟩) rfl rfl (Nat.le_of_ble_eq_true rfl) ⟨Nat.le_refl _, Nat.le_refl _⟩ dX8_product_50 (fun M7 h1 => ?_)
  rw [v4, t4] at h1
  have hq : mx_of (M7 6) t = mx_prod n m U A B ∧ gm_E (gm_S t) M M7 := ⟨by rw [h1]; exact mx_of_lin, gm_Et E4 (by rw [h1]; exact gm_Eb (fun j h1 h2 => Or.inr (by omega)))⟩
  exact gx_vret C dX8_product_53 hq
set_option maxRecDepth 100000 in
set_option maxHeartbeats 4000000 in
theorem c_X8_operator {La : List gx_K} (hM : gm_H La) {M : gx_M} {n : Nat} {m : Int} (hz : gm_Z M n m) {a b t : Nat} (ha : a + 9 ≤ 45 ∨ 81 ≤ a) (ha2 : a + 9 ≤ 1926) (hb : b + 9 ≤ 45 ∨ 81 ≤ b) (hb2 : b + 9 ≤ 1926) (ht : t + 9 ≤ 45 ∨ 81 ≤ t) (ht2 : t + 9 ≤ 1926) (oa : mx_ok m (mx_of (M 6) a)) (ob : mx_ok m (mx_of (M 6) b)) (ou : mx_ok m (mx_of (M 6) 27)) : gx_Cv La yX8_operator wsX8_operator 2 [gx_R 0, gx_I a, gx_I b, gx_I t] M (fun M' => mx_of (M' 6) t = mx_oper n m (mx_of (M 6) 27) (mx_of (M 6) a) (mx_of (M 6) b) ∧ gm_E (gm_S t) M M') := by
  have hzm := gm_Zm hz
  generalize hA : mx_of (M 6) a = A at oa ⊢
  generalize hB : mx_of (M 6) b = B at ob ⊢
  generalize hU : mx_of (M 6) 27 = U at ou ⊢
  refine gx_start_v (L := [gx_R 0, gx_I a, gx_I b, gx_I t]) (by decide) rfl rfl (Nat.le_of_ble_eq_true rfl) rfl ?_
  intro _ _ _ _ _ _ _ _ _ _ _ _ C
  refine gx_aload_n C dX8_operator_0 rfl ?_
  refine gx_iload_n C dX8_operator_1 rfl ?_
  refine gx_bipush C dX8_operator_2 rfl ?_
  refine gx_bipush C dX8_operator_4 rfl ?_
  refine gx_callV C 8 rfl (gm_0 hM) (c_X8_times hM hz (a := a) (b := 27) (t := 45) (by omega) (by omega) (by omega) (by omega) (by omega) (by rw [hA]; exact oa) (by rw [hU]; exact ou)) (cwV 3 (gx_hts C) gX8_operator_X8_times rfl rfl rfl (by decide +kernel) ⟨Nat.le_of_ble_eq_true rfl, Nat.le_of_ble_eq_true rfl⟩) rfl rfl (Nat.le_of_ble_eq_true rfl) ⟨Nat.le_refl _, Nat.le_refl _⟩ dX8_operator_6 (fun M1 h1 => ?_)
  rw [hA, hU] at h1
  have z1 : gm_Z M1 n m := by rw [h1]; exact gm_Zb hz
  have a1 : mx_of (M1 6) a = A := by rw [h1, mx_of_blo (by omega), hA]
  have b1 : mx_of (M1 6) b = B := by rw [h1, mx_of_blo (by omega), hB]
  have u1 : mx_of (M1 6) 27 = U := by rw [h1, mx_of_blo (by omega), hU]
  have t1 : mx_of (M1 6) 45 = mx_mul n m A U := by rw [h1]; exact mx_of_mul
  have E1 : gm_E (gm_S t) M M1 := by rw [h1]; exact gm_Eb (fun j h1 h2 => Or.inl (by omega))
  clear h1
  refine gx_aload_n C dX8_operator_9 rfl ?_
  refine gx_bipush C dX8_operator_10 rfl ?_
  refine gx_iload_n C dX8_operator_12 rfl ?_
  refine gx_bipush C dX8_operator_13 rfl ?_
  refine gx_callV C 8 rfl (gm_0 hM) (c_X8_times hM z1 (a := 45) (b := b) (t := 54) (by omega) (by omega) (by omega) (by omega) (by omega) (by rw [t1]; exact mx_mul_ok hzm.1 _ _) (by rw [b1]; exact ob)) (cwV 3 (gx_hts C) gX8_operator_X8_times rfl rfl rfl (by decide +kernel) ⟨Nat.le_of_ble_eq_true rfl, Nat.le_of_ble_eq_true rfl⟩) rfl rfl (Nat.le_of_ble_eq_true rfl) ⟨Nat.le_refl _, Nat.le_refl _⟩ dX8_operator_15 (fun M2 h1 => ?_)
  rw [t1, b1] at h1
  have z2 : gm_Z M2 n m := by rw [h1]; exact gm_Zb z1
  have a2 : mx_of (M2 6) a = A := by rw [h1, mx_of_blo (by omega), a1]
  have u2 : mx_of (M2 6) 27 = U := by rw [h1, mx_of_blo (by omega), u1]
  have t2 : mx_of (M2 6) 54 = mx_mul n m (mx_mul n m A U) B := by rw [h1]; exact mx_of_mul
  have E2 : gm_E (gm_S t) M M2 := gm_Et E1 (by rw [h1]; exact gm_Eb (fun j h1 h2 => Or.inl (by omega)))
  clear h1
  refine gx_aload_n C dX8_operator_18 rfl ?_
  refine gx_bipush C dX8_operator_19 rfl ?_
  refine gx_bipush C dX8_operator_21 rfl ?_
  refine gx_bipush C dX8_operator_23 rfl ?_
  refine gx_callV C 8 rfl (gm_0 hM) (c_X8_times hM z2 (a := 54) (b := 27) (t := 45) (by omega) (by omega) (by omega) (by omega) (by omega) (by rw [t2]; exact mx_mul_ok hzm.1 _ _) (by rw [u2]; exact ou)) (cwV 3 (gx_hts C) gX8_operator_X8_times rfl rfl rfl (by decide +kernel) ⟨Nat.le_of_ble_eq_true rfl, Nat.le_of_ble_eq_true rfl⟩) rfl rfl (Nat.le_of_ble_eq_true rfl) ⟨Nat.le_refl _, Nat.le_refl _⟩ dX8_operator_25 (fun M3 h1 => ?_)
  rw [t2, u2] at h1
  have z3 : gm_Z M3 n m := by rw [h1]; exact gm_Zb z2
  have a3 : mx_of (M3 6) a = A := by rw [h1, mx_of_blo (by omega), a2]
  have t3 : mx_of (M3 6) 45 = mx_mul n m (mx_mul n m (mx_mul n m A U) B) U := by rw [h1]; exact mx_of_mul
  have E3 : gm_E (gm_S t) M M3 := gm_Et E2 (by rw [h1]; exact gm_Eb (fun j h1 h2 => Or.inl (by omega)))
  clear h1
  refine gx_aload_n C dX8_operator_28 rfl ?_
  refine gx_bipush C dX8_operator_29 rfl ?_
  refine gx_iload_n C dX8_operator_31 rfl ?_
  refine gx_bipush C dX8_operator_32 rfl ?_
  refine gx_callV C 8 rfl (gm_0 hM) (c_X8_times hM z3 (a := 45) (b := a) (t := 63) (by omega) (by omega) (by omega) (by omega) (by omega) (by rw [t3]; exact mx_mul_ok hzm.1 _ _) (by rw [a3]; exact oa)) (cwV 3 (gx_hts C) gX8_operator_X8_times rfl rfl rfl (by decide +kernel) ⟨Nat.le_of_ble_eq_true rfl, Nat.le_of_ble_eq_true rfl⟩) rfl rfl (Nat.le_of_ble_eq_true rfl) ⟨Nat.le_refl _, Nat.le_refl _⟩ dX8_operator_34 (fun M4 h1 => ?_)
  rw [t3, a3] at h1
  have t4 : mx_of (M4 6) 63 = mx_oper n m U A B := by rw [h1]; exact mx_of_mul
  have E4 : gm_E (gm_S t) M M4 := gm_Et E3 (by rw [h1]; exact gm_Eb (fun j h1 h2 => Or.inl (by omega)))
  clear h1
  refine gx_aload_n C dX8_operator_37 rfl ?_
  refine gx_bipush C dX8_operator_38 rfl ?_
  refine gx_iload_n C dX8_operator_40 rfl ?_
  refine gx_callV C 8 rfl (gm_0 hM) (c_X8_copy hM (a := 63) (t := t) (by omega) (by omega) (by omega)) (cwV 2 (gx_hts C) gX8_operator_X8_copy rfl rfl rfl (by decide +kernel) ⟨Nat.le_of_ble_eq_true rfl, Nat.le_of_ble_eq_true rfl⟩) rfl rfl (Nat.le_of_ble_eq_true rfl) ⟨Nat.le_refl _, Nat.le_refl _⟩ dX8_operator_41 (fun M5 h1 => ?_)
  have hq : mx_of (M5 6) t = mx_oper n m U A B ∧ gm_E (gm_S t) M M5 := ⟨by rw [h1, ← t4]; exact mx_of_of, gm_Et E4 (by rw [h1]; exact gm_Eb (fun j h1 h2 => Or.inr (by omega)))⟩
  exact gx_vret C dX8_operator_44 hq
set_option maxRecDepth 100000 in
set_option maxHeartbeats 4000000 in
theorem c_X8_triple {La : List gx_K} (hM : gm_H La) {M : gx_M} {n : Nat} {m : Int} (hz : gm_Z M n m) {a b c t : Nat} (ha : a + 9 ≤ 45 ∨ 81 ≤ a) (ha2 : a + 9 ≤ 1926) (hb : b + 9 ≤ 45 ∨ 81 ≤ b) (hb2 : b + 9 ≤ 1926) (hc : c + 9 ≤ 45 ∨ 81 ≤ c) (hc2 : c + 9 ≤ 1926) (ht : t + 9 ≤ 45 ∨ 81 ≤ t) (ht2 : t + 9 ≤ 1926) (oa : mx_ok m (mx_of (M 6) a)) (ob : mx_ok m (mx_of (M 6) b)) (oc : mx_ok m (mx_of (M 6) c)) (ou : mx_ok m (mx_of (M 6) 27)) : gx_Cv La yX8_triple wsX8_triple 2 [gx_R 0, gx_I a, gx_I b, gx_I c, gx_I t] M (fun M' => mx_of (M' 6) t = mx_trip n m (mx_of (M 6) 27) (mx_of (M 6) a) (mx_of (M 6) b) (mx_of (M 6) c) ∧ gm_E (gm_S t) M M') := by
  have hzm := gm_Zm hz
  have hh := mx_half (m := m) (by omega)
  generalize hA : mx_of (M 6) a = A at oa ⊢
  generalize hB : mx_of (M 6) b = B at ob ⊢
  generalize hCC : mx_of (M 6) c = G at oc ⊢
  generalize hU : mx_of (M 6) 27 = U at ou ⊢
  refine gx_start_v (L := [gx_R 0, gx_I a, gx_I b, gx_I c, gx_I t]) (by decide) rfl rfl (Nat.le_of_ble_eq_true rfl) rfl ?_
  intro _ _ _ _ _ _ _ _ _ _ _ _ C
  refine gx_aload_n C dX8_triple_0 rfl ?_
  refine gx_iload_n C dX8_triple_1 rfl ?_
  refine gx_bipush C dX8_triple_2 rfl ?_
  refine gx_bipush C dX8_triple_4 rfl ?_
  refine gx_callV C 8 rfl (gm_0 hM) (c_X8_times hM hz (a := a) (b := 27) (t := 45) (by omega) (by omega) (by omega) (by omega) (by omega) (by rw [hA]; exact oa) (by rw [hU]; exact ou)) (cwV 3 (gx_hts C) gX8_triple_X8_times rfl rfl rfl (by decide +kernel) ⟨Nat.le_of_ble_eq_true rfl, Nat.le_of_ble_eq_true rfl⟩) rfl rfl (Nat.le_of_ble_eq_true rfl) ⟨Nat.le_refl _, Nat.le_refl _⟩ dX8_triple_6 (fun M1 h1 => ?_)
  rw [hA, hU] at h1
  have z1 : gm_Z M1 n m := by rw [h1]; exact gm_Zb hz
  have a1 : mx_of (M1 6) a = A := by rw [h1, mx_of_blo (by omega), hA]
  have b1 : mx_of (M1 6) b = B := by rw [h1, mx_of_blo (by omega), hB]
  have c1 : mx_of (M1 6) c = G := by rw [h1, mx_of_blo (by omega), hCC]
  have u1 : mx_of (M1 6) 27 = U := by rw [h1, mx_of_blo (by omega), hU]
  have t1 : mx_of (M1 6) 45 = mx_mul n m A U := by rw [h1]; exact mx_of_mul
  have E1 : gm_E (gm_S t) M M1 := by rw [h1]; exact gm_Eb (fun j h1 h2 => Or.inl (by omega))
  clear h1
  refine gx_aload_n C dX8_triple_9 rfl ?_
  refine gx_bipush C dX8_triple_10 rfl ?_
  refine gx_iload_n C dX8_triple_12 rfl ?_
  refine gx_bipush C dX8_triple_13 rfl ?_
  refine gx_callV C 8 rfl (gm_0 hM) (c_X8_times hM z1 (a := 45) (b := b) (t := 54) (by omega) (by omega) (by omega) (by omega) (by omega) (by rw [t1]; exact mx_mul_ok hzm.1 _ _) (by rw [b1]; exact ob)) (cwV 3 (gx_hts C) gX8_triple_X8_times rfl rfl rfl (by decide +kernel) ⟨Nat.le_of_ble_eq_true rfl, Nat.le_of_ble_eq_true rfl⟩) rfl rfl (Nat.le_of_ble_eq_true rfl) ⟨Nat.le_refl _, Nat.le_refl _⟩ dX8_triple_15 (fun M2 h1 => ?_)
  rw [t1, b1] at h1
  have z2 : gm_Z M2 n m := by rw [h1]; exact gm_Zb z1
  have a2 : mx_of (M2 6) a = A := by rw [h1, mx_of_blo (by omega), a1]
  have b2 : mx_of (M2 6) b = B := by rw [h1, mx_of_blo (by omega), b1]
  have c2 : mx_of (M2 6) c = G := by rw [h1, mx_of_blo (by omega), c1]
  have u2 : mx_of (M2 6) 27 = U := by rw [h1, mx_of_blo (by omega), u1]
  have t2 : mx_of (M2 6) 54 = mx_mul n m (mx_mul n m A U) B := by rw [h1]; exact mx_of_mul
  have E2 : gm_E (gm_S t) M M2 := gm_Et E1 (by rw [h1]; exact gm_Eb (fun j h1 h2 => Or.inl (by omega)))
  clear h1
  refine gx_aload_n C dX8_triple_18 rfl ?_
  refine gx_bipush C dX8_triple_19 rfl ?_
  refine gx_bipush C dX8_triple_21 rfl ?_
  refine gx_bipush C dX8_triple_23 rfl ?_
  refine gx_callV C 8 rfl (gm_0 hM) (c_X8_times hM z2 (a := 54) (b := 27) (t := 45) (by omega) (by omega) (by omega) (by omega) (by omega) (by rw [t2]; exact mx_mul_ok hzm.1 _ _) (by rw [u2]; exact ou)) (cwV 3 (gx_hts C) gX8_triple_X8_times rfl rfl rfl (by decide +kernel) ⟨Nat.le_of_ble_eq_true rfl, Nat.le_of_ble_eq_true rfl⟩) rfl rfl (Nat.le_of_ble_eq_true rfl) ⟨Nat.le_refl _, Nat.le_refl _⟩ dX8_triple_25 (fun M3 h1 => ?_)
  rw [t2, u2] at h1
  have z3 : gm_Z M3 n m := by rw [h1]; exact gm_Zb z2
  have a3 : mx_of (M3 6) a = A := by rw [h1, mx_of_blo (by omega), a2]
  have b3 : mx_of (M3 6) b = B := by rw [h1, mx_of_blo (by omega), b2]
  have c3 : mx_of (M3 6) c = G := by rw [h1, mx_of_blo (by omega), c2]
  have u3 : mx_of (M3 6) 27 = U := by rw [h1, mx_of_blo (by omega), u2]
  have t3 : mx_of (M3 6) 45 = mx_mul n m (mx_mul n m (mx_mul n m A U) B) U := by rw [h1]; exact mx_of_mul
  have E3 : gm_E (gm_S t) M M3 := gm_Et E2 (by rw [h1]; exact gm_Eb (fun j h1 h2 => Or.inl (by omega)))
  clear h1
  refine gx_aload_n C dX8_triple_28 rfl ?_
  refine gx_bipush C dX8_triple_29 rfl ?_
  refine gx_iload_n C dX8_triple_31 rfl ?_
  refine gx_bipush C dX8_triple_32 rfl ?_
  refine gx_callV C 8 rfl (gm_0 hM) (c_X8_times hM z3 (a := 45) (b := c) (t := 63) (by omega) (by omega) (by omega) (by omega) (by omega) (by rw [t3]; exact mx_mul_ok hzm.1 _ _) (by rw [c3]; exact oc)) (cwV 3 (gx_hts C) gX8_triple_X8_times rfl rfl rfl (by decide +kernel) ⟨Nat.le_of_ble_eq_true rfl, Nat.le_of_ble_eq_true rfl⟩) rfl rfl (Nat.le_of_ble_eq_true rfl) ⟨Nat.le_refl _, Nat.le_refl _⟩ dX8_triple_34 (fun M4 h1 => ?_)
  rw [t3, c3] at h1
  have z4 : gm_Z M4 n m := by rw [h1]; exact gm_Zb z3
  have a4 : mx_of (M4 6) a = A := by rw [h1, mx_of_blo (by omega), a3]
  have b4 : mx_of (M4 6) b = B := by rw [h1, mx_of_blo (by omega), b3]
  have c4 : mx_of (M4 6) c = G := by rw [h1, mx_of_blo (by omega), c3]
  have u4 : mx_of (M4 6) 27 = U := by rw [h1, mx_of_blo (by omega), u3]
  have t4 : mx_of (M4 6) 63 = mx_mul n m (mx_mul n m (mx_mul n m (mx_mul n m A U) B) U) G := by rw [h1]; exact mx_of_mul
  have E4 : gm_E (gm_S t) M M4 := gm_Et E3 (by rw [h1]; exact gm_Eb (fun j h1 h2 => Or.inl (by omega)))
  clear h1
  refine gx_aload_n C dX8_triple_37 rfl ?_
  refine gx_iload_n C dX8_triple_38 rfl ?_
  refine gx_bipush C dX8_triple_39 rfl ?_
  refine gx_bipush C dX8_triple_41 rfl ?_
  refine gx_callV C 8 rfl (gm_0 hM) (c_X8_times hM z4 (a := c) (b := 27) (t := 45) (by omega) (by omega) (by omega) (by omega) (by omega) (by rw [c4]; exact oc) (by rw [u4]; exact ou)) (cwV 3 (gx_hts C) gX8_triple_X8_times rfl rfl rfl (by decide +kernel) ⟨Nat.le_of_ble_eq_true rfl, Nat.le_of_ble_eq_true rfl⟩) rfl rfl (Nat.le_of_ble_eq_true rfl) ⟨Nat.le_refl _, Nat.le_refl _⟩ dX8_triple_43 (fun M5 h1 => ?_)
  rw [c4, u4] at h1
  have z5 : gm_Z M5 n m := by rw [h1]; exact gm_Zb z4
  have a5 : mx_of (M5 6) a = A := by rw [h1, mx_of_blo (by omega), a4]
  have b5 : mx_of (M5 6) b = B := by rw [h1, mx_of_blo (by omega), b4]
  have u5 : mx_of (M5 6) 27 = U := by rw [h1, mx_of_blo (by omega), u4]
  have v5 : mx_of (M5 6) 63 = mx_mul n m (mx_mul n m (mx_mul n m (mx_mul n m A U) B) U) G := by rw [h1, mx_of_blo (by omega), t4]
  have t5 : mx_of (M5 6) 45 = mx_mul n m G U := by rw [h1]; exact mx_of_mul
  have E5 : gm_E (gm_S t) M M5 := gm_Et E4 (by rw [h1]; exact gm_Eb (fun j h1 h2 => Or.inl (by omega)))
  clear h1
  refine gx_aload_n C dX8_triple_46 rfl ?_
  refine gx_bipush C dX8_triple_47 rfl ?_
  refine gx_iload_n C dX8_triple_49 rfl ?_
  refine gx_bipush C dX8_triple_50 rfl ?_
  refine gx_callV C 8 rfl (gm_0 hM) (c_X8_times hM z5 (a := 45) (b := b) (t := 54) (by omega) (by omega) (by omega) (by omega) (by omega) (by rw [t5]; exact mx_mul_ok hzm.1 _ _) (by rw [b5]; exact ob)) (cwV 3 (gx_hts C) gX8_triple_X8_times rfl rfl rfl (by decide +kernel) ⟨Nat.le_of_ble_eq_true rfl, Nat.le_of_ble_eq_true rfl⟩) rfl rfl (Nat.le_of_ble_eq_true rfl) ⟨Nat.le_refl _, Nat.le_refl _⟩ dX8_triple_52 (fun M6 h1 => ?_)
  rw [t5, b5] at h1
  have z6 : gm_Z M6 n m := by rw [h1]; exact gm_Zb z5
  have a6 : mx_of (M6 6) a = A := by rw [h1, mx_of_blo (by omega), a5]
  have u6 : mx_of (M6 6) 27 = U := by rw [h1, mx_of_blo (by omega), u5]
  have v6 : mx_of (M6 6) 63 = mx_mul n m (mx_mul n m (mx_mul n m (mx_mul n m A U) B) U) G := by rw [h1, mx_of_blo (by omega), v5]
  have t6 : mx_of (M6 6) 54 = mx_mul n m (mx_mul n m G U) B := by rw [h1]; exact mx_of_mul
  have E6 : gm_E (gm_S t) M M6 := gm_Et E5 (by rw [h1]; exact gm_Eb (fun j h1 h2 => Or.inl (by omega)))
  clear h1
  refine gx_aload_n C dX8_triple_55 rfl ?_
  refine gx_bipush C dX8_triple_56 rfl ?_
  refine gx_bipush C dX8_triple_58 rfl ?_
  refine gx_bipush C dX8_triple_60 rfl ?_
  refine gx_callV C 8 rfl (gm_0 hM) (c_X8_times hM z6 (a := 54) (b := 27) (t := 45) (by omega) (by omega) (by omega) (by omega) (by omega) (by rw [t6]; exact mx_mul_ok hzm.1 _ _) (by rw [u6]; exact ou)) (cwV 3 (gx_hts C) gX8_triple_X8_times rfl rfl rfl (by decide +kernel) ⟨Nat.le_of_ble_eq_true rfl, Nat.le_of_ble_eq_true rfl⟩) rfl rfl (Nat.le_of_ble_eq_true rfl) ⟨Nat.le_refl _, Nat.le_refl _⟩ dX8_triple_62 (fun M7 h1 => ?_)
  rw [t6, u6] at h1
  have z7 : gm_Z M7 n m := by rw [h1]; exact gm_Zb z6
  have a7 : mx_of (M7 6) a = A := by rw [h1, mx_of_blo (by omega), a6]
  have v7 : mx_of (M7 6) 63 = mx_mul n m (mx_mul n m (mx_mul n m (mx_mul n m A U) B) U) G := by rw [h1, mx_of_blo (by omega), v6]
  have t7 : mx_of (M7 6) 45 = mx_mul n m (mx_mul n m (mx_mul n m G U) B) U := by rw [h1]; exact mx_of_mul
  have E7 : gm_E (gm_S t) M M7 := gm_Et E6 (by rw [h1]; exact gm_Eb (fun j h1 h2 => Or.inl (by omega)))
  clear h1
  refine gx_aload_n C dX8_triple_65 rfl ?_
  refine gx_bipush C dX8_triple_66 rfl ?_
  refine gx_iload_n C dX8_triple_68 rfl ?_
  refine gx_bipush C dX8_triple_69 rfl ?_
  refine gx_callV C 8 rfl (gm_0 hM) (c_X8_times hM z7 (a := 45) (b := a) (t := 72) (by omega) (by omega) (by omega) (by omega) (by omega) (by rw [t7]; exact mx_mul_ok hzm.1 _ _) (by rw [a7]; exact oa)) (cwV 3 (gx_hts C) gX8_triple_X8_times rfl rfl rfl (by decide +kernel) ⟨Nat.le_of_ble_eq_true rfl, Nat.le_of_ble_eq_true rfl⟩) rfl rfl (Nat.le_of_ble_eq_true rfl) ⟨Nat.le_refl _, Nat.le_refl _⟩ dX8_triple_71 (fun M8 h1 => ?_)
  rw [t7, a7] at h1
  have z8 : gm_Z M8 n m := by rw [h1]; exact gm_Zb z7
  have v8 : mx_of (M8 6) 63 = mx_mul n m (mx_mul n m (mx_mul n m (mx_mul n m A U) B) U) G := by rw [h1, mx_of_blo (by omega), v7]
  have t8 : mx_of (M8 6) 72 = mx_mul n m (mx_mul n m (mx_mul n m (mx_mul n m G U) B) U) A := by rw [h1]; exact mx_of_mul
  have E8 : gm_E (gm_S t) M M8 := gm_Et E7 (by rw [h1]; exact gm_Eb (fun j h1 h2 => Or.inl (by omega)))
  clear h1
  refine gx_aload_n C dX8_triple_74 rfl ?_
  refine gx_bipush C dX8_triple_75 rfl ?_
  refine gx_aload_n C dX8_triple_77 rfl ?_
  refine gx_callI C 8 rfl (gm_0 hM) (c_X8_half hM z8) (cwV 0 (gx_hts C) gX8_triple_X8_half rfl rfl rfl (by decide +kernel) ⟨Nat.le_of_ble_eq_true rfl, Nat.le_of_ble_eq_true rfl⟩) rfl rfl (Nat.le_of_ble_eq_true rfl) ⟨Nat.le_refl _, Nat.le_refl _⟩ dX8_triple_78 (fun z M9 h1 => ?_)
  obtain ⟨rfl, rfl⟩ := h1
  refine gx_bipush C dX8_triple_81 rfl ?_
  refine gx_aload_n C dX8_triple_83 rfl ?_
  refine gx_callI C 8 rfl (gm_0 hM) (c_X8_half hM z8) (cwV 0 (gx_hts C) gX8_triple_X8_half rfl rfl rfl (by decide +kernel) ⟨Nat.le_of_ble_eq_true rfl, Nat.le_of_ble_eq_true rfl⟩) rfl rfl (Nat.le_of_ble_eq_true rfl) ⟨Nat.le_refl _, Nat.le_refl _⟩ dX8_triple_84 (fun z M9 h1 => ?_)
  obtain ⟨rfl, rfl⟩ := h1
  refine gx_iload C dX8_triple_87 rfl ?_
  refine gx_callV C 8 rfl (gm_0 hM) (c_X8_add hM z8 (a := 63) (b := 72) (t := t) (by omega) (by omega) (by omega) (by omega) (by omega) (by rw [v8]; exact mx_mul_ok hzm.1 _ _) (by rw [t8]; exact mx_mul_ok hzm.1 _ _) hh hh) (cwV 5 (gx_hts C) gX8_triple_X8_add rfl rfl rfl (by decide +kernel) ⟨Nat.le_of_ble_eq_true rfl, Nat.le_of_ble_eq_true rfl⟩) rfl rfl (Nat.le_of_ble_eq_true rfl) ⟨Nat.le_refl _, Nat.le_refl _⟩ dX8_triple_89 (fun M10 h1 => ?_)
  rw [v8, t8] at h1
  have hq : mx_of (M10 6) t = mx_trip n m U A B G ∧ gm_E (gm_S t) M M10 := ⟨by rw [h1]; exact mx_of_lin, gm_Et E8 (by rw [h1]; exact gm_Eb (fun j h1 h2 => Or.inr (by omega)))⟩
  exact gx_vret C dX8_triple_92 hq
set_option maxRecDepth 100000 in
set_option maxHeartbeats 4000000 in
theorem c_X8_inverse {La : List gx_K} (hM : gm_H La) {M : gx_M} {n : Nat} {m : Int} (hz : gm_Z M n m) {a t : Nat} (ha : a + 9 ≤ 36 ∨ 81 ≤ a) (ha2 : a + 9 ≤ 1926) (ht : t + 9 ≤ 36 ∨ 81 ≤ t) (ht2 : t + 9 ≤ 1926) (oa : mx_ok m (mx_of (M 6) a)) (ov : mx_ok m (mx_of (M 6) 36)) : gx_Ci La yX8_inverse wsX8_inverse 3 [gx_R 0, gx_I a, gx_I t] M (fun z M' => (z = 0 ∨ z = 1) ∧ (z = 0 ↔ mx_det n m (mx_of (M 6) a) = 0) ∧ (z = 1 → mx_of (M' 6) t = mx_mul n m (mx_mul n m (mx_of (M 6) 36) (mx_inv n m (mx_of (M 6) a))) (mx_of (M 6) 36)) ∧ gm_E (gm_S t) M M') := by
  have hzm := gm_Zm hz
  generalize hA : mx_of (M 6) a = A at oa ⊢
  generalize hV : mx_of (M 6) 36 = V at ov ⊢
  have hdb := mx_det_b (n := n) (m := m) hzm.1 A
  refine gx_start_i (L := [gx_R 0, gx_I a, gx_I t]) (by decide) rfl rfl (Nat.le_of_ble_eq_true rfl) rfl ?_
  intro _ _ _ _ _ _ _ _ _ _ _ _ C
  refine gx_aload_n C dX8_inverse_0 rfl ?_
  refine gx_iload_n C dX8_inverse_1 rfl ?_
  refine gx_callI C 8 rfl (gm_0 hM) (c_X8_determinant hM hz ha2 (by rw [hA]; exact oa)) (cwV 1 (gx_hts C) gX8_inverse_X8_determinant rfl rfl rfl (by decide +kernel) ⟨Nat.le_of_ble_eq_true rfl, Nat.le_of_ble_eq_true rfl⟩) rfl rfl (Nat.le_of_ble_eq_true rfl) ⟨Nat.le_refl _, Nat.le_refl _⟩ dX8_inverse_2 (fun z M1 h1 => ?_)
  obtain ⟨rfl, h1⟩ := h1
  rw [hA] at h1
  subst h1
  refine gx_if_ne C dX8_inverse_5 rfl (by unfold gx_3; omega) (fun hb5 => ?_) (fun hb5 => ?_)
  · refine gx_aload_n C dX8_inverse_10 rfl ?_
    refine gx_iload_n C dX8_inverse_11 rfl ?_
    refine gx_bipush C dX8_inverse_12 rfl ?_
    refine gx_callV C 8 rfl (gm_0 hM) (c_X8_invert hM hz (a := a) (t := 45) (by omega) (by omega) (by omega) (by rw [hA]; exact oa)) (cwV 2 (gx_hts C) gX8_inverse_X8_invert rfl rfl rfl (by decide +kernel) ⟨Nat.le_of_ble_eq_true rfl, Nat.le_of_ble_eq_true rfl⟩) rfl rfl (Nat.le_of_ble_eq_true rfl) ⟨Nat.le_refl _, Nat.le_refl _⟩ dX8_inverse_14 (fun M2 h1 => ?_)
    rw [hA] at h1
    have z2 : gm_Z M2 n m := by rw [h1]; exact gm_Zb hz
    have v2 : mx_of (M2 6) 36 = V := by rw [h1, mx_of_blo (by omega), hV]
    have t2 : mx_of (M2 6) 45 = mx_inv n m A := by rw [h1]; exact mx_of_inv
    have E2 : gm_E (gm_S t) M1 M2 := by rw [h1]; exact gm_Eb (fun j h1 h2 => Or.inl (by omega))
    clear h1
    refine gx_aload_n C dX8_inverse_17 rfl ?_
    refine gx_bipush C dX8_inverse_18 rfl ?_
    refine gx_bipush C dX8_inverse_20 rfl ?_
    refine gx_bipush C dX8_inverse_22 rfl ?_
    refine gx_callV C 8 rfl (gm_0 hM) (c_X8_times hM z2 (a := 36) (b := 45) (t := 54) (by omega) (by omega) (by omega) (by omega) (by omega) (by rw [v2]; exact ov) (by rw [t2]; exact mx_inv_ok hzm.1 _)) (cwV 3 (gx_hts C) gX8_inverse_X8_times rfl rfl rfl (by decide +kernel) ⟨Nat.le_of_ble_eq_true rfl, Nat.le_of_ble_eq_true rfl⟩) rfl rfl (Nat.le_of_ble_eq_true rfl) ⟨Nat.le_refl _, Nat.le_refl _⟩ dX8_inverse_24 (fun M3 h1 => ?_)
    rw [v2, t2] at h1
    have z3 : gm_Z M3 n m := by rw [h1]; exact gm_Zb z2
    have v3 : mx_of (M3 6) 36 = V := by rw [h1, mx_of_blo (by omega), v2]
    have t3 : mx_of (M3 6) 54 = mx_mul n m V (mx_inv n m A) := by rw [h1]; exact mx_of_mul
    have E3 : gm_E (gm_S t) M1 M3 := gm_Et E2 (by rw [h1]; exact gm_Eb (fun j h1 h2 => Or.inl (by omega)))
    clear h1
    refine gx_aload_n C dX8_inverse_27 rfl ?_
    refine gx_bipush C dX8_inverse_28 rfl ?_
    refine gx_bipush C dX8_inverse_30 rfl ?_
    refine gx_bipush C dX8_inverse_32 rfl ?_
    refine gx_callV C 8 rfl (gm_0 hM) (c_X8_times hM z3 (a := 54) (b := 36) (t := 63) (by omega) (by omega) (by omega) (by omega) (by omega) (by rw [t3]; exact mx_mul_ok hzm.1 _ _) (by rw [v3]; exact ov)) (cwV 3 (gx_hts C) gX8_inverse_X8_times rfl rfl rfl (by decide +kernel) ⟨Nat.le_of_ble_eq_true rfl, Nat.le_of_ble_eq_true rfl⟩) rfl rfl (Nat.le_of_ble_eq_true rfl) ⟨Nat.le_refl _, Nat.le_refl _⟩ dX8_inverse_34 (fun M4 h1 => ?_)
    rw [v3, t3] at h1
    have t4 : mx_of (M4 6) 63 = mx_mul n m (mx_mul n m V (mx_inv n m A)) V := by rw [h1]; exact mx_of_mul
    have E4 : gm_E (gm_S t) M1 M4 := gm_Et E3 (by rw [h1]; exact gm_Eb (fun j h1 h2 => Or.inl (by omega)))
    clear h1
    refine gx_aload_n C dX8_inverse_37 rfl ?_
    refine gx_bipush C dX8_inverse_38 rfl ?_
    refine gx_iload_n C dX8_inverse_40 rfl ?_
    refine gx_callV C 8 rfl (gm_0 hM) (c_X8_copy hM (a := 63) (t := t) (by omega) (by omega) (by omega)) (cwV 2 (gx_hts C) gX8_inverse_X8_copy rfl rfl rfl (by decide +kernel) ⟨Nat.le_of_ble_eq_true rfl, Nat.le_of_ble_eq_true rfl⟩) rfl rfl (Nat.le_of_ble_eq_true rfl) ⟨Nat.le_refl _, Nat.le_refl _⟩ dX8_inverse_41 (fun M5 h1 => ?_)
    refine gx_iconst C dX8_inverse_44 ?_
    have hq : (1 : Int) = 1 → mx_of (M5 6) t = mx_mul n m (mx_mul n m V (mx_inv n m A)) V := fun _ => by rw [h1, ← t4]; exact mx_of_of
    have hE : gm_E (gm_S t) M1 M5 := gm_Et E4 (by rw [h1]; exact gm_Eb (fun j h1 h2 => Or.inr (by omega)))
    exact gx_zret C (by omega) dX8_inverse_45 ⟨by omega, by omega, hq, hE⟩
  · refine gx_iconst C dX8_inverse_8 ?_
    exact gx_zret C (by omega) dX8_inverse_9 ⟨by omega, by omega, by omega, gm_Er _ _⟩
set_option maxRecDepth 100000 in
set_option maxHeartbeats 4000000 in
theorem c_X8_isOwnSquare {La : List gx_K} (hM : gm_H La) {M : gx_M} {n : Nat} {m : Int} (hz : gm_Z M n m) {a : Nat} (ha : a + 9 ≤ 45 ∨ 90 ≤ a) (ha2 : a + 9 ≤ 1926) (oa : mx_ok m (mx_of (M 6) a)) (ou : mx_ok m (mx_of (M 6) 27)) : gx_Ci La yX8_isOwnSquare wsX8_isOwnSquare 3 [gx_R 0, gx_I a] M (fun z M' => (z = 0 ∨ z = 1) ∧ (z = 1 ↔ mx_prod n m (mx_of (M 6) 27) (mx_of (M 6) a) (mx_of (M 6) a) = mx_of (M 6) a) ∧ gm_E (gm_S 81) M M') := by
  have hzm := gm_Zm hz
  refine gx_start_i (L := [gx_R 0, gx_I a]) (by decide) rfl rfl (Nat.le_of_ble_eq_true rfl) rfl ?_
  intro _ _ _ _ _ _ _ _ _ _ _ _ C
  refine gx_aload_n C dX8_isOwnSquare_0 rfl ?_
  refine gx_iload_n C dX8_isOwnSquare_1 rfl ?_
  refine gx_iload_n C dX8_isOwnSquare_2 rfl ?_
  refine gx_bipush C dX8_isOwnSquare_3 rfl ?_
  refine gx_callV C 8 rfl (gm_0 hM) (c_X8_product hM hz (a := a) (b := a) (t := 81) (by omega) (by omega) (by omega) (by omega) (by omega) (by omega) oa oa ou) (cwV 3 (gx_hts C) gX8_isOwnSquare_X8_product rfl rfl rfl (by decide +kernel) ⟨Nat.le_of_ble_eq_true rfl, Nat.le_of_ble_eq_true rfl⟩) rfl rfl (Nat.le_of_ble_eq_true rfl) ⟨Nat.le_refl _, Nat.le_refl _⟩ dX8_isOwnSquare_5 (fun M1 h1 => ?_)
  obtain ⟨h1, h2⟩ := h1
  have a1 : mx_of (M1 6) a = mx_of (M 6) a := gm_Eo h2 (fun j h1 h2 => by unfold gm_S; omega)
  refine gx_aload_n C dX8_isOwnSquare_8 rfl ?_
  refine gx_iload_n C dX8_isOwnSquare_9 rfl ?_
  refine gx_bipush C dX8_isOwnSquare_10 rfl ?_
  refine gx_callI C 8 rfl (gm_0 hM) (c_X8_areAlike hM (m := m) (by omega) (a := a) (b := 81) (by omega) (by omega) (by rw [a1]; exact oa) (by rw [h1]; exact mx_lin_ok hzm.1 _ _ _ _)) (cwV 2 (gx_hts C) gX8_isOwnSquare_X8_areAlike rfl rfl rfl (by decide +kernel) ⟨Nat.le_of_ble_eq_true rfl, Nat.le_of_ble_eq_true rfl⟩) rfl rfl (Nat.le_of_ble_eq_true rfl) ⟨Nat.le_refl _, Nat.le_refl _⟩ dX8_isOwnSquare_12 (fun z M2 h3 => ?_)
  obtain ⟨rfl, h4, h5⟩ := h3
  rw [a1, h1] at h5
  exact gx_zret C h4 dX8_isOwnSquare_15 ⟨h4, h5.trans eq_comm, h2⟩
end
section
/-- the first place that is not 0, 9 if there is none -/
def mx_lda (x : Nat → Int) : Nat → Nat → Nat
  | 0, k => k
  | f + 1, k => if x k = 0 then mx_lda x f (k + 1) else k
def mx_ld (x : Nat → Int) : Nat := mx_lda x 9 0
theorem mx_lda_s {x : Nat → Int} : ∀ f k, k ≤ mx_lda x f k ∧ mx_lda x f k ≤ k + f ∧ (∀ j, k ≤ j → j < mx_lda x f k → x j = 0) ∧ (mx_lda x f k < k + f → x (mx_lda x f k) ≠ 0)
  | 0, k => ⟨Nat.le_refl _, Nat.le_refl _, fun j h1 h2 => by simp only [mx_lda] at h2; omega, fun h => by simp only [mx_lda] at h; omega⟩
  | f + 1, k => by
    by_cases e : x k = 0
    · have h := mx_lda_s (x := x) f (k + 1)
      have he : mx_lda x (f + 1) k = mx_lda x f (k + 1) := if_pos e
      rw [he]
      refine ⟨by omega, by omega, fun j h1 h2 => ?_, fun q => h.2.2.2 (by omega)⟩
      by_cases e2 : j = k
      · rw [e2]; exact e
      · exact h.2.2.1 j (by omega) h2
    · have he : mx_lda x (f + 1) k = k := if_neg e
      rw [he]
      exact ⟨Nat.le_refl _, by omega, fun j h1 h2 => absurd h2 (by omega), fun _ => e⟩
theorem mx_ld_s (x : Nat → Int) : mx_ld x ≤ 9 ∧ (∀ j, j < mx_ld x → x j = 0) ∧ (mx_ld x < 9 → x (mx_ld x) ≠ 0) := by
  have h := mx_lda_s (x := x) 9 0
  exact ⟨by unfold mx_ld; omega, fun j hj => h.2.2.1 j (by omega) hj, fun q => h.2.2.2 (by unfold mx_ld at q; omega)⟩
theorem mx_ld_u {x : Nat → Int} {k : Nat} (h1 : k ≤ 9) (h2 : ∀ j, j < k → x j = 0) (h3 : k < 9 → x k ≠ 0) : k = mx_ld x := by
  obtain ⟨g1, g2, g3⟩ := mx_ld_s x
  rcases Nat.lt_trichotomy k (mx_ld x) with h | h | h
  · exact absurd (g2 k h) (h3 (by omega))
  · exact h
  · exact absurd (h2 _ h) (g3 (by omega))
/-- a row less multiples of the rows that are there -/
def mx_red (m : Int) (R : Nat → Nat → Int) (x : Nat → Int) : Nat → Nat → Int
  | 0 => x
  | k + 1 => fun j => if j < 9 then (mx_red m R x k j - mx_red m R x k (mx_ld (R k)) * mx_ov (R k (mx_ld (R k))) m (m.toNat - 1) % m * R k j) % m else 0
/-- rows that are there, and another one comes -/
def mx_nw (m : Int) (s : Nat × (Nat → Nat → Int)) (x : Nat → Int) : Nat × (Nat → Nat → Int) :=
  (if mx_ld (mx_red m s.2 x s.1) < 9 then s.1 + 1 else s.1, fun i => if i = s.1 then mx_red m s.2 x s.1 else s.2 i)
theorem mx_red_ok {m : Int} (h : 3 ≤ m) {R : Nat → Nat → Int} {x : Nat → Int} (ox : mx_ok m x) : ∀ k, mx_ok m (mx_red m R x k)
  | 0 => ox
  | k + 1 => fun j hj => by
    show 0 ≤ (if j < 9 then _ else _) ∧ (if j < 9 then _ else _) < m
    rw [if_pos hj]
    exact mx_md h _
theorem mx_red_f {m : Int} {R R' : Nat → Nat → Int} {x : Nat → Int} : ∀ k, (∀ i, i < k → R i = R' i) → mx_red m R x k = mx_red m R' x k
  | 0, _ => rfl
  | k + 1, h => by
    show (fun j => if j < 9 then _ else _) = (fun j => if j < 9 then _ else _)
    rw [mx_red_f k (fun i hi => h i (by omega)), h k (by omega)]
theorem mx_red_9 {m : Int} {R : Nat → Nat → Int} {x : Nat → Int} (hx : ∀ j, 9 ≤ j → x j = 0) : ∀ k j, 9 ≤ j → mx_red m R x k j = 0
  | 0, j, hj => hx j hj
  | k + 1, j, hj => if_neg (by omega)
/-- the reference's rows -/
def gm_W (M : gx_M) (m : Int) (s : Nat × (Nat → Nat → Int)) : Prop := M 0 9 = s.1 ∧ ∀ i, i < s.1 → mx_of (M 7) (9 * i) = s.2 i ∧ mx_ok m (s.2 i) ∧ mx_ld (s.2 i) < 9
/-- only what is worked with has changed -/
def gm_Y (M M' : gx_M) : Prop := (∀ c, c ≠ 0 → c ≠ 6 → c ≠ 7 → M' c = M c) ∧ ∀ j, j ≠ 9 → M' 0 j = M 0 j
theorem gm_Yt {M M1 M2 : gx_M} (h1 : gm_Y M M1) (h2 : gm_Y M1 M2) : gm_Y M M2 := ⟨fun c a b d => (h2.1 c a b d).trans (h1.1 c a b d), fun j hj => (h2.2 j hj).trans (h1.2 j hj)⟩
theorem gm_Yr (M : gx_M) : gm_Y M M := ⟨fun _ _ _ _ => rfl, fun _ _ => rfl⟩
theorem gm_YE {S : Nat → Prop} {M M' : gx_M} (h : gm_E S M M') : gm_Y M M' := ⟨fun c _ h6 _ => h.1 c h6, fun j _ => by rw [h.1 0 (by decide)]⟩
theorem gm_Yz {M M1 : gx_M} {n : Nat} {m : Int} (h : gm_Y M M1) (hz : gm_Z M n m) : gm_Z M1 n m := by
  unfold gm_Z
  rw [h.1 1 (by decide) (by decide) (by decide)]
  exact hz
set_option maxRecDepth 100000 in
set_option maxHeartbeats 4000000 in
theorem c_X8_leadOf {La : List gx_K} (hM : gm_H La) {M : gx_M} {m : Int} (hm : m ≤ 11) {a : Nat} (ha : a + 9 ≤ 90) (oa : mx_ok m (mx_of (M 7) a)) : gx_Ci La yX8_leadOf wsX8_leadOf 0 [gx_R 0, gx_I a] M (fun z M' => M' = M ∧ z = mx_ld (mx_of (M 7) a)) := by
  refine gx_start_i (L := [gx_R 0, gx_I a, gx_U]) (by decide) rfl rfl (Nat.le_of_ble_eq_true rfl) rfl ?_
  intro _ _ _ _ _ _ _ _ _ _ _ _ C
  refine gx_iconst C dX8_leadOf_0 ?_
  refine gx_istore_n C dX8_leadOf_1 (by decide) rfl ?_
  refine gx_for 9 (fun k (_ : Unit) => [gx_R 0, gx_I a, gx_I (k : Int)]) (fun _ => M) (fun k _ => ∀ j, j < k → mx_of (M 7) a j = 0) 0 () (by omega) (fun j hj => absurd hj (by omega)) (fun k _ hk hI ih => ?_) (fun _ hI => ?_)
  · have e1 : M 7 (((a : Int) + (k : Int)).toNat) = mx_of (M 7) a k := by rw [mx_of_at hk, show ((a : Int) + (k : Int)).toNat = a + k by omega]
    have h1 := oa k hk
    refine gx_iload_n C dX8_leadOf_2 rfl ?_
    refine gx_bipush C dX8_leadOf_3 rfl ?_
    refine gx_icmp_ge C dX8_leadOf_5 rfl (by unfold gx_3; omega) (by unfold gx_3; omega) (fun hb5 => absurd hb5 (by omega)) (fun hb5 => ?_)
    refine gx_aload_n C dX8_leadOf_8 rfl ?_
    refine gx_getR C 8 _ 8 rfl (gm_0 hM) rfl (by decide) nX8_leadOf_8 (gx_hts C _ fX8_leadOf_30) dX8_leadOf_9 ?_
    refine gx_iload_n C dX8_leadOf_12 rfl ?_
    refine gx_iload_n C dX8_leadOf_13 rfl ?_
    refine gx_iadd C dX8_leadOf_14 ?_
    refine gx_iaload C (gm_7 hM) (by omega) dX8_leadOf_15 e1 ?_
    refine gx_if_ne C dX8_leadOf_16 rfl (by unfold gx_3; omega) (fun hb16 => ?_) (fun hb16 => ?_)
    · refine gx_iload_n C dX8_leadOf_25 rfl ?_
      exact gx_iret C dX8_leadOf_26 ⟨rfl, by rw [← mx_ld_u (by omega) hI (fun _ => hb16)]⟩
    · refine gx_iinc C dX8_leadOf_19 (by decide) rfl rfl ?_
      refine gx_goto C dX8_leadOf_22 rfl ?_
      exact ih () (mx_all.mpr ⟨hI, by omega⟩)
  · refine gx_iload_n C dX8_leadOf_2 rfl ?_
    refine gx_bipush C dX8_leadOf_3 rfl ?_
    refine gx_icmp_ge C dX8_leadOf_5 rfl (by unfold gx_3; omega) (by unfold gx_3; omega) (fun hb5 => ?_) (fun hb5 => absurd (by omega) hb5)
    refine gx_iload_n C dX8_leadOf_25 rfl ?_
    exact gx_iret C dX8_leadOf_26 ⟨rfl, by rw [← mx_ld_u (k := 9) (by omega) hI (by omega)]⟩
theorem gm_7b {M : gx_M} {o : Nat} {f : Nat → Int} {q j : Nat} (h : q + 9 ≤ o ∨ o + 9 ≤ q) (hj : j < 9) : gx_blk M 7 o 9 f 7 (q + j) = mx_of (M 7) q j := by
  rw [mx_of_at hj]
  exact gx_blk_out (by omega)
set_option maxRecDepth 100000 in
set_option maxHeartbeats 4000000 in
theorem c_X8_isNew {La : List gx_K} (hM : gm_H La) {M : gx_M} {n : Nat} {m : Int} (hz : gm_Z M n m) {s : Nat × (Nat → Nat → Int)} (hs : gm_W M m s) (hs9 : s.1 ≤ 9) {a : Nat} (ha : a + 9 ≤ 1926) (oa : mx_ok m (mx_of (M 6) a)) : gx_Ci La yX8_isNew wsX8_isNew 1 [gx_R 0, gx_I a] M (fun z M' => (z = 0 ∨ z = 1) ∧ ((mx_nw m s (mx_of (M 6) a)).1 : Int) = s.1 + z ∧ gm_W M' m (mx_nw m s (mx_of (M 6) a)) ∧ M' 6 = M 6 ∧ gm_Y M M') := by
  have hzm := gm_Zm hz
  obtain ⟨hp, hR⟩ := hs
  obtain ⟨p, R⟩ := s
  generalize hx : mx_of (M 6) a = x at oa ⊢
  have hx9 : ∀ j, 9 ≤ j → x j = 0 := fun j hj => by rw [← hx]; exact if_neg (by omega)
  simp only at hp hR hs9
  refine gx_start_i (L := [gx_R 0, gx_I a, gx_U, gx_U, gx_U, gx_U, gx_U]) (by decide) rfl rfl (Nat.le_of_ble_eq_true rfl) rfl ?_
  intro _ _ _ _ _ _ _ _ _ _ _ _ C
  refine gx_bipush C dX8_isNew_0 rfl ?_
  refine gx_aload_n C dX8_isNew_2 rfl ?_
  refine gx_getI C 8 _ 9 rfl (gm_0 hM) rfl (by decide) nX8_isNew_8 (gx_hts C _ fX8_isNew_131) dX8_isNew_3 hp ?_
  refine gx_imul C dX8_isNew_6 ?_
  refine gx_istore_n C dX8_isNew_7 (by decide) rfl ?_
  refine gx_iconst C dX8_isNew_8 ?_
  refine gx_istore_n C dX8_isNew_9 (by decide) rfl ?_
  refine gx_for 9 (fun k (M' : gx_M) => [gx_R 0, gx_I a, gx_I (9 * (p : Int)), gx_I (k : Int), gx_U, gx_U, gx_U]) (fun M' => M') (fun k M' => M' = gx_blk M 7 (9 * p) k x) 0 M (by omega) gx_blk_0.symm (fun k M' hk hI ih => ?_) (fun M' hI => ?_)
  · have e1 : M' 6 (((a : Int) + (k : Int)).toNat) = x k := by
      rw [hI, gx_blk_nc (by decide), ← hx]
      exact gm_rd (by omega) hk
    refine gx_iload_n C dX8_isNew_10 rfl ?_
    refine gx_bipush C dX8_isNew_11 rfl ?_
    refine gx_icmp_ge C dX8_isNew_13 rfl (by unfold gx_3; omega) (by unfold gx_3; omega) (fun hb13 => absurd hb13 (by omega)) (fun hb13 => ?_)
    refine gx_aload_n C dX8_isNew_16 rfl ?_
    refine gx_getR C 8 _ 8 rfl (gm_0 hM) rfl (by decide) nX8_isNew_8 (gx_hts C _ fX8_isNew_30) dX8_isNew_17 ?_
    refine gx_iload_n C dX8_isNew_20 rfl ?_
    refine gx_iload_n C dX8_isNew_21 rfl ?_
    refine gx_iadd C dX8_isNew_22 ?_
    refine gx_aload_n C dX8_isNew_23 rfl ?_
    refine gx_getR C 8 _ 7 rfl (gm_0 hM) rfl (by decide) nX8_isNew_8 (gx_hts C _ fX8_isNew_27) dX8_isNew_24 ?_
    refine gx_iload_n C dX8_isNew_27 rfl ?_
    refine gx_iload_n C dX8_isNew_28 rfl ?_
    refine gx_iadd C dX8_isNew_29 ?_
    refine gx_iaload C (gm_6 hM) (by omega) dX8_isNew_30 e1 ?_
    refine gx_iastore C (gm_7 hM) (by omega) dX8_isNew_31 (show _ = 9 * p + k by omega) ?_
    refine gx_iinc C dX8_isNew_32 (by decide) rfl rfl ?_
    refine gx_goto C dX8_isNew_35 rfl ?_
    exact ih _ (by rw [hI]; exact gx_blk_s rfl)
  · refine gx_iload_n C dX8_isNew_10 rfl ?_
    refine gx_bipush C dX8_isNew_11 rfl ?_
    refine gx_icmp_ge C dX8_isNew_13 rfl (by unfold gx_3; omega) (by unfold gx_3; omega) (fun hb13 => ?_) (fun hb13 => absurd (by omega) hb13)
    refine gx_iconst C dX8_isNew_38 ?_
    refine gx_istore_n C dX8_isNew_39 (by decide) rfl ?_
    refine gx_weak (L' := [gx_R 0, gx_I a, gx_I (9 * (p : Int)), gx_I ((0 : Nat) : Int), gx_U, gx_U, gx_U]) ⟨Or.inr rfl, Or.inr rfl, Or.inr rfl, Or.inr rfl, Or.inl rfl, Or.inl rfl, Or.inl rfl, trivial⟩ ?_
    refine gx_for p (fun r (M' : gx_M) => [gx_R 0, gx_I a, gx_I (9 * (p : Int)), gx_I (r : Int), gx_U, gx_U, gx_U]) (fun M' => M') (fun r M' => M' = gx_blk M 7 (9 * p) 9 (mx_red m R x r)) 0 M' (by omega) hI (fun r M' hr hI ih => ?_) (fun M' hI => ?_)
    · have hz' : gm_Z M' n m := by rw [hI]; exact ⟨by rw [gx_blk_nc (by decide)]; exact hz.1, by rw [gx_blk_nc (by decide)]; exact hz.2.1, hz.2.2⟩
      have p' : M' 0 9 = p := by rw [hI, gx_blk_nc (by decide)]; exact hp
      obtain ⟨hR1, hR2, hR3⟩ := hR r hr
      have oy := mx_red_ok (R := R) hzm.1 oa r
      have er : mx_of (M' 7) (9 * r) = R r := by rw [hI, mx_of_blo (by omega), hR1]
      refine gx_iload_n C dX8_isNew_40 rfl ?_
      refine gx_aload_n C dX8_isNew_41 rfl ?_
      refine gx_getI C 8 _ 9 rfl (gm_0 hM) rfl (by decide) nX8_isNew_8 (gx_hts C _ fX8_isNew_131) dX8_isNew_42 p' ?_
      refine gx_icmp_ge C dX8_isNew_45 rfl (by unfold gx_3; omega) (by unfold gx_3; omega) (fun hb45 => absurd hb45 (by omega)) (fun hb45 => ?_)
      refine gx_aload_n C dX8_isNew_48 rfl ?_
      refine gx_bipush C dX8_isNew_49 rfl ?_
      refine gx_iload_n C dX8_isNew_51 rfl ?_
      refine gx_imul C dX8_isNew_52 ?_
      refine gx_callI C 8 rfl (gm_0 hM) (c_X8_leadOf hM (m := m) (a := 9 * r) hzm.2.1 (by omega) (by rw [er]; exact hR2)) (cwV 1 (gx_hts C) gX8_isNew_X8_leadOf rfl rfl rfl (by decide +kernel) ⟨Nat.le_of_ble_eq_true rfl, Nat.le_of_ble_eq_true rfl⟩) rfl rfl (Nat.le_of_ble_eq_true rfl) ⟨Nat.le_refl _, Nat.le_refl _⟩ dX8_isNew_53 (fun z M1 h1 => ?_)
      obtain ⟨rfl, rfl⟩ := h1
      rw [er]
      have ey : M1 7 ((9 * (p : Int) + ((mx_ld (R r) : Nat) : Int)).toNat) = mx_red m R x r (mx_ld (R r)) := by
        rw [hI, show (9 * (p : Int) + ((mx_ld (R r) : Nat) : Int)).toNat = 9 * p + mx_ld (R r) by omega]
        exact gx_blk_in hR3
      have el : M1 7 ((9 * (r : Int) + ((mx_ld (R r) : Nat) : Int)).toNat) = R r (mx_ld (R r)) := by
        rw [← er, mx_of_at (by rw [er]; exact hR3), er, show (9 * (r : Int) + ((mx_ld (R r) : Nat) : Int)).toNat = 9 * r + mx_ld (R r) by omega]
      refine gx_istore C dX8_isNew_56 (by decide) rfl ?_
      refine gx_aload_n C dX8_isNew_58 rfl ?_
      refine gx_getR C 8 _ 8 rfl (gm_0 hM) rfl (by decide) nX8_isNew_8 (gx_hts C _ fX8_isNew_30) dX8_isNew_59 ?_
      refine gx_iload_n C dX8_isNew_62 rfl ?_
      refine gx_iload C dX8_isNew_63 rfl ?_
      refine gx_iadd C dX8_isNew_65 ?_
      refine gx_iaload C (gm_7 hM) (by omega) dX8_isNew_66 ey ?_
      refine gx_aload_n C dX8_isNew_67 rfl ?_
      refine gx_aload_n C dX8_isNew_68 rfl ?_
      refine gx_getR C 8 _ 8 rfl (gm_0 hM) rfl (by decide) nX8_isNew_8 (gx_hts C _ fX8_isNew_30) dX8_isNew_69 ?_
      refine gx_bipush C dX8_isNew_72 rfl ?_
      refine gx_iload_n C dX8_isNew_74 rfl ?_
      refine gx_imul C dX8_isNew_75 ?_
      refine gx_iload C dX8_isNew_76 rfl ?_
      refine gx_iadd C dX8_isNew_78 ?_
      refine gx_iaload C (gm_7 hM) (by omega) dX8_isNew_79 el ?_
      refine gx_callI C 8 rfl (gm_0 hM) (c_X8_over hM hz' (hR2 _ hR3)) (cwV 1 (gx_hts C) gX8_isNew_X8_over rfl rfl rfl (by decide +kernel) ⟨Nat.le_of_ble_eq_true rfl, Nat.le_of_ble_eq_true rfl⟩) rfl rfl (Nat.le_of_ble_eq_true rfl) ⟨Nat.le_refl _, Nat.le_refl _⟩ dX8_isNew_80 (fun z M2 h1 => ?_)
      obtain ⟨rfl, hzo⟩ := h1
      have hob := mx_ovb (v := R r (mx_ld (R r))) (m := m) (m.toNat - 1)
      rw [← hzo] at hob
      have hyl := oy _ hR3
      have hq := mx_pr (m := 11) (x := mx_red m R x r (mx_ld (R r))) (y := z) (by omega) (by omega) (by omega)
      have hf := mx_md (m := m) (by omega) (mx_red m R x r (mx_ld (R r)) * z)
      refine gx_imul C dX8_isNew_83 ?_
      refine gx_aload_n C dX8_isNew_84 rfl ?_
      refine gx_getR C 8 _ 0 rfl (gm_0 hM) rfl (by decide) nX8_isNew_8 (gx_hts C _ fX8_isNew_7) dX8_isNew_85 ?_
      refine gx_bipush C dX8_isNew_88 rfl ?_
      refine gx_iaload C (gm_1 hM) (by omega) dX8_isNew_90 hz'.2.1 ?_
      refine gx_irem C dX8_isNew_91 (by unfold gx_3; omega) (by unfold gx_3; omega) (by omega) (gx_tmod (by omega)) ?_
      refine gx_istore C dX8_isNew_92 (by decide) rfl ?_
      refine gx_iconst C dX8_isNew_94 ?_
      refine gx_istore C dX8_isNew_95 (by decide) rfl ?_
      refine gx_for 9 (fun j (M' : gx_M) => [gx_R 0, gx_I a, gx_I (9 * (p : Int)), gx_I (r : Int), gx_I ((mx_ld (R r) : Nat) : Int), gx_I (mx_red m R x r (mx_ld (R r)) * z % m), gx_I (j : Int)]) (fun M' => M') (fun j M' => M' = gx_blk M 7 (9 * p) 9 (fun i => if i < j then mx_red m R x (r + 1) i else mx_red m R x r i)) 0 _ (by omega) hI (fun j M' hj hI ih2 => ?_) (fun M' hI => ?_)
      · have hz' : gm_Z M' n m := by rw [hI]; exact ⟨by rw [gx_blk_nc (by decide)]; exact hz.1, by rw [gx_blk_nc (by decide)]; exact hz.2.1, hz.2.2⟩
        have e1 : M' 7 ((9 * (p : Int) + (j : Int)).toNat) = mx_red m R x r j := by
          rw [hI, show (9 * (p : Int) + (j : Int)).toNat = 9 * p + j by omega, gx_blk_in hj, if_neg (by omega)]
        have e2 : M' 7 ((9 * (r : Int) + (j : Int)).toNat) = R r j := by
          rw [hI, show (9 * (r : Int) + (j : Int)).toNat = 9 * r + j by omega, gm_7b (by omega) hj, hR1]
        have b1 := oy j hj
        have b2 := hR2 j hj
        have b3 := mx_pr (m := 11) (x := mx_red m R x r (mx_ld (R r)) * z % m) (y := R r j) (by omega) (by omega) (by omega)
        refine gx_iload C dX8_isNew_97 rfl ?_
        refine gx_bipush C dX8_isNew_99 rfl ?_
        refine gx_icmp_ge C dX8_isNew_101 rfl (by unfold gx_3; omega) (by unfold gx_3; omega) (fun hb101 => absurd hb101 (by omega)) (fun hb101 => ?_)
        refine gx_aload_n C dX8_isNew_104 rfl ?_
        refine gx_getR C 8 _ 8 rfl (gm_0 hM) rfl (by decide) nX8_isNew_8 (gx_hts C _ fX8_isNew_30) dX8_isNew_105 ?_
        refine gx_iload_n C dX8_isNew_108 rfl ?_
        refine gx_iload C dX8_isNew_109 rfl ?_
        refine gx_iadd C dX8_isNew_111 ?_
        refine gx_aload_n C dX8_isNew_112 rfl ?_
        refine gx_aload_n C dX8_isNew_113 rfl ?_
        refine gx_getR C 8 _ 8 rfl (gm_0 hM) rfl (by decide) nX8_isNew_8 (gx_hts C _ fX8_isNew_30) dX8_isNew_114 ?_
        refine gx_iload_n C dX8_isNew_117 rfl ?_
        refine gx_iload C dX8_isNew_118 rfl ?_
        refine gx_iadd C dX8_isNew_120 ?_
        refine gx_iaload C (gm_7 hM) (by omega) dX8_isNew_121 e1 ?_
        refine gx_iload C dX8_isNew_122 rfl ?_
        refine gx_aload_n C dX8_isNew_124 rfl ?_
        refine gx_getR C 8 _ 8 rfl (gm_0 hM) rfl (by decide) nX8_isNew_8 (gx_hts C _ fX8_isNew_30) dX8_isNew_125 ?_
        refine gx_bipush C dX8_isNew_128 rfl ?_
        refine gx_iload_n C dX8_isNew_130 rfl ?_
        refine gx_imul C dX8_isNew_131 ?_
        refine gx_iload C dX8_isNew_132 rfl ?_
        refine gx_iadd C dX8_isNew_134 ?_
        refine gx_iaload C (gm_7 hM) (by omega) dX8_isNew_135 e2 ?_
        refine gx_imul C dX8_isNew_136 ?_
        refine gx_isub C dX8_isNew_137 ?_
        refine gx_callI C 8 rfl (gm_0 hM) (c_X8_within hM hz' (by omega)) (cwV 1 (gx_hts C) gX8_isNew_X8_within rfl rfl rfl (by decide +kernel) ⟨Nat.le_of_ble_eq_true rfl, Nat.le_of_ble_eq_true rfl⟩) rfl rfl (Nat.le_of_ble_eq_true rfl) ⟨Nat.le_refl _, Nat.le_refl _⟩ dX8_isNew_138 (fun x1 M3 h1 => ?_)
        obtain ⟨rfl, rfl⟩ := h1
        refine gx_iastore C (gm_7 hM) (by omega) dX8_isNew_141 (show _ = 9 * p + j by omega) ?_
        refine gx_iinc C dX8_isNew_142 (by decide) rfl rfl ?_
        refine gx_goto C dX8_isNew_145 rfl ?_
        refine ih2 _ ?_
        rw [hI, gx_blk_u hj]
        refine gx_blk_f (fun i hi => ?_)
        by_cases e : i = j
        · rw [if_pos e, if_pos (by omega), e, hzo]
          exact (if_pos hj).symm
        · rw [if_neg e]
          by_cases e4 : i < j
          · rw [if_pos e4, if_pos (by omega)]
          · rw [if_neg e4, if_neg (by omega)]
      · refine gx_iload C dX8_isNew_97 rfl ?_
        refine gx_bipush C dX8_isNew_99 rfl ?_
        refine gx_icmp_ge C dX8_isNew_101 rfl (by unfold gx_3; omega) (by unfold gx_3; omega) (fun hb101 => ?_) (fun hb101 => absurd (by omega) hb101)
        refine gx_iinc C dX8_isNew_148 (by decide) rfl rfl ?_
        refine gx_goto C dX8_isNew_151 rfl ?_
        refine gx_weak (L' := [gx_R 0, gx_I a, gx_I (9 * (p : Int)), gx_I ((r + 1 : Nat) : Int), gx_U, gx_U, gx_U]) ⟨Or.inr rfl, Or.inr rfl, Or.inr rfl, Or.inr rfl, Or.inl rfl, Or.inl rfl, Or.inl rfl, trivial⟩ (ih _ ?_)
        rw [hI]
        exact gx_blk_f (fun i hi => if_pos hi)
    · have p' : M' 0 9 = p := by rw [hI, gx_blk_nc (by decide)]; exact hp
      have oy := mx_red_ok (R := R) hzm.1 oa p
      have ey : mx_of (M' 7) (9 * p) = mx_red m R x p := by rw [hI, mx_of_blk, mx_cut (mx_red_9 hx9 p)]
      refine gx_iload_n C dX8_isNew_40 rfl ?_
      refine gx_aload_n C dX8_isNew_41 rfl ?_
      refine gx_getI C 8 _ 9 rfl (gm_0 hM) rfl (by decide) nX8_isNew_8 (gx_hts C _ fX8_isNew_131) dX8_isNew_42 p' ?_
      refine gx_icmp_ge C dX8_isNew_45 rfl (by unfold gx_3; omega) (by unfold gx_3; omega) (fun hb45 => ?_) (fun hb45 => absurd (by omega) hb45)
      refine gx_aload_n C dX8_isNew_154 rfl ?_
      refine gx_iload_n C dX8_isNew_155 rfl ?_
      refine gx_callI C 8 rfl (gm_0 hM) (c_X8_leadOf hM (m := m) (a := 9 * p) hzm.2.1 (by omega) (by rw [ey]; exact oy)) (cwV 1 (gx_hts C) gX8_isNew_X8_leadOf rfl rfl rfl (by decide +kernel) ⟨Nat.le_of_ble_eq_true rfl, Nat.le_of_ble_eq_true rfl⟩) rfl rfl (Nat.le_of_ble_eq_true rfl) ⟨Nat.le_refl _, Nat.le_refl _⟩ dX8_isNew_156 (fun z M1 h1 => ?_)
      obtain ⟨rfl, rfl⟩ := h1
      rw [ey]
      have hl9 := (mx_ld_s (mx_red m R x p)).1
      have hfin : ∀ b : Nat, (b = 0 ∨ b = 1) → (b = 1 ↔ mx_ld (mx_red m R x p) < 9) → ∀ M2 : gx_M, M2 = gx_u M1 0 9 ((p : Int) + (b : Int)) → (((b : Int) = 0 ∨ (b : Int) = 1) ∧ ((mx_nw m (p, R) x).1 : Int) = p + (b : Int) ∧ gm_W M2 m (mx_nw m (p, R) x) ∧ M2 6 = M 6 ∧ gm_Y M M2) := by
        intro b hb hbi M2 hM2
        have hn1 : (mx_nw m (p, R) x).1 = p + b := by
          show (if mx_ld (mx_red m R x p) < 9 then p + 1 else p) = p + b
          split <;> omega
        refine ⟨by omega, by rw [hn1]; omega, ⟨by rw [hM2, gx_u_eq, hn1]; omega, fun i hi => ?_⟩, by rw [hM2, gx_u_nc (by decide), hI, gx_blk_nc (by decide)], ⟨fun c h0 h6 h7 => by rw [hM2, gx_u_nc h0, hI, gx_blk_nc h7], fun j hj => by rw [hM2, gx_u_ne (by omega), hI, gx_blk_nc (by decide)]⟩⟩
        rw [hn1] at hi
        have e7 : M2 7 = M1 7 := by rw [hM2, gx_u_nc (by decide)]
        rw [e7]
        by_cases e : i = p
        · subst e
          have e8 : (mx_nw m (i, R) x).2 i = mx_red m R x i := if_pos rfl
          rw [e8]
          exact ⟨ey, oy, hbi.mp (by omega)⟩
        · have e8 : (mx_nw m (p, R) x).2 i = R i := if_neg e
          rw [e8]
          obtain ⟨g1, g2, g3⟩ := hR i (by omega)
          exact ⟨by rw [hI, mx_of_blo (by omega), g1], g2, g3⟩
      refine gx_bipush C dX8_isNew_159 rfl ?_
      refine gx_icmp_ge C dX8_isNew_161 rfl (by unfold gx_3; omega) (by unfold gx_3; omega) (fun hb161 => ?_) (fun hb161 => ?_)
      · refine gx_iconst C dX8_isNew_168 ?_
        refine gx_istore_n C dX8_isNew_169 (by decide) rfl ?_
        refine gx_aload_n C dX8_isNew_170 rfl ?_
        refine gx_dup C dX8_isNew_171 rfl ?_
        refine gx_getI C 8 _ 9 rfl (gm_0 hM) rfl (by decide) nX8_isNew_8 (gx_hts C _ fX8_isNew_131) dX8_isNew_172 p' ?_
        refine gx_iload_n C dX8_isNew_175 rfl ?_
        refine gx_if_eq C dX8_isNew_176 rfl (by unfold gx_3; omega) (fun hb176 => ?_) (fun hb176 => absurd (by omega) hb176)
        refine gx_iconst C dX8_isNew_183 ?_
        refine gx_iadd C dX8_isNew_184 ?_
        refine gx_putI C 8 _ 9 rfl (gm_0 hM) rfl (by decide) nX8_isNew_8 tyX8 tyX8_ok nmX8 (gx_hts C _ fX8_isNew_131) rfl rfl dX8_isNew_185 ?_
        refine gx_iload_n C dX8_isNew_188 rfl ?_
        exact gx_zret C (by omega) dX8_isNew_189 (hfin 0 (by omega) (by omega) _ rfl)
      · refine gx_iconst C dX8_isNew_164 ?_
        refine gx_goto C dX8_isNew_165 rfl ?_
        refine gx_istore_n C dX8_isNew_169 (by decide) rfl ?_
        refine gx_aload_n C dX8_isNew_170 rfl ?_
        refine gx_dup C dX8_isNew_171 rfl ?_
        refine gx_getI C 8 _ 9 rfl (gm_0 hM) rfl (by decide) nX8_isNew_8 (gx_hts C _ fX8_isNew_131) dX8_isNew_172 p' ?_
        refine gx_iload_n C dX8_isNew_175 rfl ?_
        refine gx_if_eq C dX8_isNew_176 rfl (by unfold gx_3; omega) (fun hb176 => absurd hb176 (by omega)) (fun hb176 => ?_)
        refine gx_iconst C dX8_isNew_179 ?_
        refine gx_goto C dX8_isNew_180 rfl ?_
        refine gx_iadd C dX8_isNew_184 ?_
        refine gx_putI C 8 _ 9 rfl (gm_0 hM) rfl (by decide) nX8_isNew_8 tyX8 tyX8_ok nmX8 (gx_hts C _ fX8_isNew_131) rfl rfl dX8_isNew_185 ?_
        refine gx_iload_n C dX8_isNew_188 rfl ?_
        exact gx_zret C (by omega) dX8_isNew_189 (hfin 1 (by omega) (by omega) _ rfl)
end
section
/-- the rows of an element -/
def mx_rws (n : Nat) (a : Nat → Int) (r : Nat) : Nat → Int := fun c => if c < n then a (3 * r + c) else 0
def mx_rst (n : Nat) (m : Int) (a : Nat → Int) : Nat → Nat × (Nat → Nat → Int)
  | 0 => (0, fun _ _ => 0)
  | r + 1 => mx_nw m (mx_rst n m a r) (mx_rws n a r)
theorem mx_nw1 (m : Int) (s : Nat × (Nat → Nat → Int)) (x : Nat → Int) : s.1 ≤ (mx_nw m s x).1 ∧ (mx_nw m s x).1 ≤ s.1 + 1 := by
  unfold mx_nw
  simp only
  split <;> omega
theorem mx_rst1 {n : Nat} {m : Int} {a : Nat → Int} : ∀ r, (mx_rst n m a r).1 ≤ r
  | 0 => Nat.le_refl _
  | r + 1 => by
    have h1 := mx_rst1 (n := n) (m := m) (a := a) r
    have h2 := mx_nw1 m (mx_rst n m a r) (mx_rws n a r)
    show (mx_nw m (mx_rst n m a r) (mx_rws n a r)).1 ≤ r + 1
    omega
def mx_rank (n : Nat) (m : Int) (a : Nat → Int) : Nat := (mx_rst n m a n).1
theorem gm_Y6 {M : gx_M} {t n : Nat} {f : Nat → Int} : gm_Y M (gx_blk M 6 t n f) := ⟨fun c _ h6 _ => gx_blk_nc h6, fun j _ => by rw [gx_blk_nc (by decide)]⟩
theorem gm_Wb {M : gx_M} {m : Int} {s : Nat × (Nat → Nat → Int)} {t n : Nat} {f : Nat → Int} (h : gm_W M m s) : gm_W (gx_blk M 6 t n f) m s := ⟨by rw [gx_blk_nc (by decide)]; exact h.1, fun i hi => by rw [gx_blk_nc (by decide)]; exact h.2 i hi⟩
theorem gm_WE {S : Nat → Prop} {M M' : gx_M} {m : Int} {s : Nat × (Nat → Nat → Int)} (h : gm_W M m s) (hE : gm_E S M M') : gm_W M' m s := ⟨by rw [hE.1 0 (by decide)]; exact h.1, fun i hi => by rw [hE.1 7 (by decide)]; exact h.2 i hi⟩
theorem gm_W0 {M : gx_M} {m : Int} {R : Nat → Nat → Int} (h : M 0 9 = 0) : gm_W M m (0, R) := ⟨by rw [h]; rfl, fun i hi => absurd hi (by simp)⟩
theorem gm_Yu {M : gx_M} {v : Int} : gm_Y M (gx_u M 0 9 v) := ⟨fun c h0 _ _ => gx_u_nc h0, fun j hj => gx_u_ne (by omega)⟩
set_option maxRecDepth 100000 in
set_option maxHeartbeats 4000000 in
theorem c_X8_rankOf {La : List gx_K} (hM : gm_H La) {M : gx_M} {n : Nat} {m : Int} (hz : gm_Z M n m) {a : Nat} (ha : a + 9 ≤ 108 ∨ 117 ≤ a) (ha2 : a + 9 ≤ 1926) (oa : mx_ok m (mx_of (M 6) a)) : gx_Ci La yX8_rankOf wsX8_rankOf 2 [gx_R 0, gx_I a] M (fun z M' => z = mx_rank n m (mx_of (M 6) a) ∧ gm_Y M M') := by
  have hzm := gm_Zm hz
  generalize hx : mx_of (M 6) a = x at oa ⊢
  refine gx_start_i (L := [gx_R 0, gx_I a, gx_U, gx_U, gx_U]) (by decide) rfl rfl (Nat.le_of_ble_eq_true rfl) rfl ?_
  intro _ _ _ _ _ _ _ _ _ _ _ _ C
  refine gx_aload_n C dX8_rankOf_0 rfl ?_
  refine gx_iconst C dX8_rankOf_1 ?_
  refine gx_putI C 8 _ 9 rfl (gm_0 hM) rfl (by decide) nX8_rankOf_8 tyX8 tyX8_ok nmX8 (gx_hts C _ fX8_rankOf_131) rfl rfl dX8_rankOf_2 ?_
  refine gx_iconst C dX8_rankOf_5 ?_
  refine gx_istore_n C dX8_rankOf_6 (by decide) rfl ?_
  refine gx_iconst C dX8_rankOf_7 ?_
  refine gx_istore_n C dX8_rankOf_8 (by decide) rfl ?_
  refine gx_for n (fun r (q : gx_M × Int) => [gx_R 0, gx_I a, gx_I q.2, gx_I (r : Int), gx_U]) (fun q => q.1) (fun r q => q.2 = (mx_rst n m x r).1 ∧ gm_W q.1 m (mx_rst n m x r) ∧ gm_Y M q.1 ∧ mx_of (q.1 6) a = x) 0 (gx_u M 0 9 0, 0) (by omega) ⟨rfl, gm_W0 (M := gx_u M 0 9 0) (gx_u_eq M 0 9 0), gm_Yu, by show mx_of (gx_u M 0 9 0 6) a = x; rw [gx_u_nc (by decide)]; exact hx⟩ (fun r q hr hI ih => ?_) (fun q hI => ?_)
  · obtain ⟨M', k⟩ := q
    obtain ⟨h1, hW, hY, ha'⟩ := hI
    simp only at h1 hW hY ha'
    subst h1
    have hz' := gm_Yz hY hz
    refine gx_iload_n C dX8_rankOf_9 rfl ?_
    refine gx_aload_n C dX8_rankOf_10 rfl ?_
    refine gx_getR C 8 _ 0 rfl (gm_0 hM) rfl (by decide) nX8_rankOf_8 (gx_hts C _ fX8_rankOf_7) dX8_rankOf_11 ?_
    refine gx_bipush C dX8_rankOf_14 rfl ?_
    refine gx_iaload C (gm_1 hM) (by omega) dX8_rankOf_16 hz'.1 ?_
    refine gx_icmp_ge C dX8_rankOf_17 rfl (by unfold gx_3; omega) (by unfold gx_3; omega) (fun hb17 => absurd hb17 (by omega)) (fun hb17 => ?_)
    refine gx_aload_n C dX8_rankOf_20 rfl ?_
    refine gx_bipush C dX8_rankOf_21 rfl ?_
    refine gx_callV C 8 rfl (gm_0 hM) (c_X8_blank hM (t := 108) (by omega)) (cwV 1 (gx_hts C) gX8_rankOf_X8_blank rfl rfl rfl (by decide +kernel) ⟨Nat.le_of_ble_eq_true rfl, Nat.le_of_ble_eq_true rfl⟩) rfl rfl (Nat.le_of_ble_eq_true rfl) ⟨Nat.le_refl _, Nat.le_refl _⟩ dX8_rankOf_23 (fun M2 h2 => ?_)
    refine gx_iconst C dX8_rankOf_26 ?_
    refine gx_istore C dX8_rankOf_27 (by decide) rfl ?_
    refine gx_for n (fun c (M3 : gx_M) => [gx_R 0, gx_I a, gx_I ((mx_rst n m x r).1 : Int), gx_I (r : Int), gx_I (c : Int)]) (fun M3 => M3) (fun c M3 => M3 = gx_blk M' 6 108 9 (fun i => if i < c then x (3 * r + i) else 0)) 0 _ (by omega) h2 (fun c M3 hc h3 ih2 => ?_) (fun M3 h3 => ?_)
    · have z3 : gm_Z M3 n m := by rw [h3]; exact gm_Zb hz'
      have e1 : M3 6 (((a : Int) + 3 * (r : Int) + (c : Int)).toNat) = x (3 * r + c) := by
        rw [h3, ← ha']
        exact gm_rdb (by omega) (by omega) (by omega)
      refine gx_iload C dX8_rankOf_29 rfl ?_
      refine gx_aload_n C dX8_rankOf_31 rfl ?_
      refine gx_getR C 8 _ 0 rfl (gm_0 hM) rfl (by decide) nX8_rankOf_8 (gx_hts C _ fX8_rankOf_7) dX8_rankOf_32 ?_
      refine gx_bipush C dX8_rankOf_35 rfl ?_
      refine gx_iaload C (gm_1 hM) (by omega) dX8_rankOf_37 z3.1 ?_
      refine gx_icmp_ge C dX8_rankOf_38 rfl (by unfold gx_3; omega) (by unfold gx_3; omega) (fun hb38 => absurd hb38 (by omega)) (fun hb38 => ?_)
      refine gx_aload_n C dX8_rankOf_41 rfl ?_
      refine gx_getR C 8 _ 7 rfl (gm_0 hM) rfl (by decide) nX8_rankOf_8 (gx_hts C _ fX8_rankOf_27) dX8_rankOf_42 ?_
      refine gx_bipush C dX8_rankOf_45 rfl ?_
      refine gx_iload C dX8_rankOf_47 rfl ?_
      refine gx_iadd C dX8_rankOf_49 ?_
      refine gx_aload_n C dX8_rankOf_50 rfl ?_
      refine gx_getR C 8 _ 7 rfl (gm_0 hM) rfl (by decide) nX8_rankOf_8 (gx_hts C _ fX8_rankOf_27) dX8_rankOf_51 ?_
      refine gx_iload_n C dX8_rankOf_54 rfl ?_
      refine gx_iconst C dX8_rankOf_55 ?_
      refine gx_iload_n C dX8_rankOf_56 rfl ?_
      refine gx_imul C dX8_rankOf_57 ?_
      refine gx_iadd C dX8_rankOf_58 ?_
      refine gx_iload C dX8_rankOf_59 rfl ?_
      refine gx_iadd C dX8_rankOf_61 ?_
      refine gx_iaload C (gm_6 hM) (by omega) dX8_rankOf_62 e1 ?_
      refine gx_iastore C (gm_6 hM) (by omega) dX8_rankOf_63 (show _ = 108 + c by omega) ?_
      refine gx_iinc C dX8_rankOf_64 (by decide) rfl rfl ?_
      refine gx_goto C dX8_rankOf_67 rfl ?_
      refine ih2 _ ?_
      rw [h3, gx_blk_u (by omega)]
      refine gx_blk_f (fun i hi => ?_)
      by_cases e : i = c
      · rw [if_pos e, if_pos (by omega), e]
      · rw [if_neg e]
        by_cases e2 : i < c
        · rw [if_pos e2, if_pos (by omega)]
        · rw [if_neg e2, if_neg (by omega)]
    · have z3 : gm_Z M3 n m := by rw [h3]; exact gm_Zb hz'
      have e4 : mx_of (M3 6) 108 = mx_rws n x r := by
        rw [h3, mx_of_blk]
        exact mx_cut (fun k hk => if_neg (by omega))
      have W3 : gm_W M3 m (mx_rst n m x r) := by rw [h3]; exact gm_Wb hW
      have Y3 : gm_Y M M3 := gm_Yt hY (by rw [h3]; exact gm_Y6)
      have a3 : mx_of (M3 6) a = x := by rw [h3, mx_of_blo (by omega), ha']
      have hl := mx_rst1 (n := n) (m := m) (a := x) r
      refine gx_iload C dX8_rankOf_29 rfl ?_
      refine gx_aload_n C dX8_rankOf_31 rfl ?_
      refine gx_getR C 8 _ 0 rfl (gm_0 hM) rfl (by decide) nX8_rankOf_8 (gx_hts C _ fX8_rankOf_7) dX8_rankOf_32 ?_
      refine gx_bipush C dX8_rankOf_35 rfl ?_
      refine gx_iaload C (gm_1 hM) (by omega) dX8_rankOf_37 z3.1 ?_
      refine gx_icmp_ge C dX8_rankOf_38 rfl (by unfold gx_3; omega) (by unfold gx_3; omega) (fun hb38 => ?_) (fun hb38 => absurd (by omega) hb38)
      refine gx_iload_n C dX8_rankOf_70 rfl ?_
      refine gx_aload_n C dX8_rankOf_71 rfl ?_
      refine gx_bipush C dX8_rankOf_72 rfl ?_
      refine gx_callI C 8 rfl (gm_0 hM) (c_X8_isNew hM z3 W3 (by omega) (a := 108) (by omega) (by rw [e4]; exact fun k hk => (by unfold mx_rws; split; exact oa _ (by omega); omega))) (cwV 1 (gx_hts C) gX8_rankOf_X8_isNew rfl rfl rfl (by decide +kernel) ⟨Nat.le_of_ble_eq_true rfl, Nat.le_of_ble_eq_true rfl⟩) rfl rfl (Nat.le_of_ble_eq_true rfl) ⟨Nat.le_refl _, Nat.le_refl _⟩ dX8_rankOf_74 (fun z M4 h4 => ?_)
      rw [e4] at h4
      obtain ⟨hz4, hc4, W4, w4, Y4⟩ := h4
      have hstep : ((mx_rst n m x (r + 1)).1 : Int) = (mx_rst n m x r).1 + z := hc4
      have hfin := ih (M4, ((mx_rst n m x (r + 1)).1 : Int)) ⟨rfl, W4, gm_Yt Y3 Y4, by show mx_of (M4 6) a = x; rw [w4]; exact a3⟩
      rw [hstep] at hfin
      refine gx_if_eq C dX8_rankOf_77 rfl (by unfold gx_3; omega) (fun hb77 => ?_) (fun hb77 => ?_)
      · have : z = 0 := hb77
        subst this
        refine gx_iconst C dX8_rankOf_84 ?_
        refine gx_iadd C dX8_rankOf_85 ?_
        refine gx_istore_n C dX8_rankOf_86 (by decide) rfl ?_
        refine gx_iinc C dX8_rankOf_87 (by decide) rfl rfl ?_
        refine gx_goto C dX8_rankOf_90 rfl ?_
        exact gx_weak (L' := [gx_R 0, gx_I a, gx_I (((mx_rst n m x r).1 : Int) + 0), gx_I ((r + 1 : Nat) : Int), gx_U]) ⟨Or.inr rfl, Or.inr rfl, Or.inr rfl, Or.inr rfl, Or.inl rfl, trivial⟩ hfin
      · have : z = 1 := by omega
        subst this
        refine gx_iconst C dX8_rankOf_80 ?_
        refine gx_goto C dX8_rankOf_81 rfl ?_
        refine gx_iadd C dX8_rankOf_85 ?_
        refine gx_istore_n C dX8_rankOf_86 (by decide) rfl ?_
        refine gx_iinc C dX8_rankOf_87 (by decide) rfl rfl ?_
        refine gx_goto C dX8_rankOf_90 rfl ?_
        exact gx_weak (L' := [gx_R 0, gx_I a, gx_I (((mx_rst n m x r).1 : Int) + 1), gx_I ((r + 1 : Nat) : Int), gx_U]) ⟨Or.inr rfl, Or.inr rfl, Or.inr rfl, Or.inr rfl, Or.inl rfl, trivial⟩ hfin
  · obtain ⟨M', k⟩ := q
    obtain ⟨h1, hW, hY, ha'⟩ := hI
    simp only at h1 hW hY ha'
    have hz' := gm_Yz hY hz
    refine gx_iload_n C dX8_rankOf_9 rfl ?_
    refine gx_aload_n C dX8_rankOf_10 rfl ?_
    refine gx_getR C 8 _ 0 rfl (gm_0 hM) rfl (by decide) nX8_rankOf_8 (gx_hts C _ fX8_rankOf_7) dX8_rankOf_11 ?_
    refine gx_bipush C dX8_rankOf_14 rfl ?_
    refine gx_iaload C (gm_1 hM) (by omega) dX8_rankOf_16 hz'.1 ?_
    refine gx_icmp_ge C dX8_rankOf_17 rfl (by unfold gx_3; omega) (by unfold gx_3; omega) (fun hb17 => ?_) (fun hb17 => absurd (by omega) hb17)
    refine gx_iload_n C dX8_rankOf_93 rfl ?_
    exact gx_iret C dX8_rankOf_94 ⟨h1, hY⟩
/-- a times itself k times more -/
def mx_po (n : Nat) (m : Int) (u a : Nat → Int) (b : Nat → Int) : Nat → Nat → Int
  | 0 => b
  | k + 1 => mx_prod n m u (mx_po n m u a b k) a
theorem mx_po_ok {n : Nat} {m : Int} (h : 3 ≤ m) {u a b : Nat → Int} (ob : mx_ok m b) : ∀ k, mx_ok m (mx_po n m u a b k)
  | 0 => ob
  | k + 1 => mx_lin_ok h _ _ _ _
/-- the least place below N with P, counted from 1; -6 if there is none -/
def mx_fst (P : Nat → Prop) (N : Nat) (z : Int) : Prop := (∃ k, k < N ∧ P k ∧ (∀ j, j < k → ¬ P j) ∧ z = (k : Int) + 1) ∨ ((∀ j, j < N → ¬ P j) ∧ z = -6)
theorem mx_fst_u {P : Nat → Prop} {N : Nat} {z w : Int} (h1 : mx_fst P N z) (h2 : mx_fst P N w) : z = w := by
  rcases h1 with ⟨k, a1, a2, a3, a4⟩ | ⟨a1, a2⟩ <;> rcases h2 with ⟨j, b1, b2, b3, b4⟩ | ⟨b1, b2⟩
  · rcases Nat.lt_trichotomy k j with h | h | h
    · exact absurd a2 (b3 k h)
    · rw [a4, b4, h]
    · exact absurd b2 (a3 j h)
  · exact absurd a2 (b1 k a1)
  · exact absurd b2 (a1 j b1)
  · rw [a2, b2]
def gm_S2 : Nat → Prop := fun j => (45 ≤ j ∧ j < 81) ∨ (108 ≤ j ∧ j < 117)
set_option maxRecDepth 100000 in
set_option maxHeartbeats 4000000 in
theorem c_X8_orderOf {La : List gx_K} (hM : gm_H La) {M : gx_M} {n : Nat} {m : Int} (hz : gm_Z M n m) {a : Nat} (ha : a + 9 ≤ 45 ∨ 117 ≤ a) (ha2 : a + 9 ≤ 1926) (oa : mx_ok m (mx_of (M 6) a)) (ou : mx_ok m (mx_of (M 6) 27)) (ov : mx_ok m (mx_of (M 6) 36)) : gx_Ci La yX8_orderOf wsX8_orderOf 3 [gx_R 0, gx_I a] M (fun z M' => mx_fst (fun k => mx_po n m (mx_of (M 6) 27) (mx_of (M 6) a) (mx_of (M 6) a) k = mx_of (M 6) 36) 2000 z ∧ gm_E gm_S2 M M') := by
  have hzm := gm_Zm hz
  generalize hx : mx_of (M 6) a = x at oa ⊢
  generalize hu : mx_of (M 6) 27 = u at ou ⊢
  generalize hv : mx_of (M 6) 36 = v at ov ⊢
  refine gx_start_i (L := [gx_R 0, gx_I a, gx_U]) (by decide) rfl rfl (Nat.le_of_ble_eq_true rfl) rfl ?_
  intro _ _ _ _ _ _ _ _ _ _ _ _ C
  refine gx_aload_n C dX8_orderOf_0 rfl ?_
  refine gx_iload_n C dX8_orderOf_1 rfl ?_
  refine gx_bipush C dX8_orderOf_2 rfl ?_
  refine gx_callV C 8 rfl (gm_0 hM) (c_X8_copy hM (a := a) (t := 108) (by omega) (by omega) (by omega)) (cwV 2 (gx_hts C) gX8_orderOf_X8_copy rfl rfl rfl (by decide +kernel) ⟨Nat.le_of_ble_eq_true rfl, Nat.le_of_ble_eq_true rfl⟩) rfl rfl (Nat.le_of_ble_eq_true rfl) ⟨Nat.le_refl _, Nat.le_refl _⟩ dX8_orderOf_4 (fun M1 h1 => ?_)
  rw [hx] at h1
  refine gx_iconst C dX8_orderOf_7 ?_
  refine gx_istore_n C dX8_orderOf_8 (by decide) rfl ?_
  refine gx_for 2000 (fun k (_ : gx_M) => [gx_R 0, gx_I a, gx_I ((k + 1 : Nat) : Int)]) (fun M' => M') (fun k M' => mx_of (M' 6) 108 = mx_po n m u x x k ∧ gm_E gm_S2 M M' ∧ ∀ j, j < k → ¬ mx_po n m u x x j = v) 0 M1 (by omega) ⟨by rw [h1]; exact (by rw [← hx]; exact mx_of_of), by rw [h1]; exact gm_Eb (fun j h1 h2 => Or.inr (by omega)), fun j hj => absurd hj (by omega)⟩ (fun k M' hk hI ih => ?_) (fun M' hI => ?_)
  · obtain ⟨h2, E2, h3⟩ := hI
    have a2 : mx_of (M' 6) a = x := by rw [gm_Eo E2 (fun j h1 h2 => by unfold gm_S2; omega), hx]
    have u2 : mx_of (M' 6) 27 = u := by rw [gm_Eo E2 (fun j h1 h2 => by unfold gm_S2; omega), hu]
    have v2 : mx_of (M' 6) 36 = v := by rw [gm_Eo E2 (fun j h1 h2 => by unfold gm_S2; omega), hv]
    have op := mx_po_ok (n := n) (u := u) (a := x) hzm.1 oa k
    refine gx_iload_n C dX8_orderOf_9 rfl ?_
    refine gx_sipush C dX8_orderOf_10 rfl ?_
    refine gx_icmp_gt C dX8_orderOf_13 rfl (by unfold gx_3; omega) (by unfold gx_3; omega) (fun hb13 => absurd hb13 (by omega)) (fun hb13 => ?_)
    refine gx_aload_n C dX8_orderOf_16 rfl ?_
    refine gx_bipush C dX8_orderOf_17 rfl ?_
    refine gx_bipush C dX8_orderOf_19 rfl ?_
    refine gx_callI C 8 rfl (gm_0 hM) (c_X8_areAlike hM (m := m) (by omega) (a := 108) (b := 36) (by omega) (by omega) (by rw [h2]; exact op) (by rw [v2]; exact ov)) (cwV 2 (gx_hts C) gX8_orderOf_X8_areAlike rfl rfl rfl (by decide +kernel) ⟨Nat.le_of_ble_eq_true rfl, Nat.le_of_ble_eq_true rfl⟩) rfl rfl (Nat.le_of_ble_eq_true rfl) ⟨Nat.le_refl _, Nat.le_refl _⟩ dX8_orderOf_21 (fun z M3 h4 => ?_)
    obtain ⟨rfl, h5, h6⟩ := h4
    rw [h2, v2] at h6
    refine gx_if_eq C dX8_orderOf_24 rfl (by unfold gx_3; omega) (fun hb24 => ?_) (fun hb24 => ?_)
    · refine gx_aload_n C dX8_orderOf_29 rfl ?_
      refine gx_bipush C dX8_orderOf_30 rfl ?_
      refine gx_iload_n C dX8_orderOf_32 rfl ?_
      refine gx_bipush C dX8_orderOf_33 rfl ?_
      refine gx_callV C 8 rfl (gm_0 hM) (c_X8_product hM (gm_Ez E2 hz) (a := 108) (b := a) (t := 108) (by omega) (by omega) (by omega) (by omega) (by omega) (by omega) (by rw [h2]; exact op) (by rw [a2]; exact oa) (by rw [u2]; exact ou)) (cwV 3 (gx_hts C) gX8_orderOf_X8_product rfl rfl rfl (by decide +kernel) ⟨Nat.le_of_ble_eq_true rfl, Nat.le_of_ble_eq_true rfl⟩) rfl rfl (Nat.le_of_ble_eq_true rfl) ⟨Nat.le_refl _, Nat.le_refl _⟩ dX8_orderOf_35 (fun M4 h7 => ?_)
      rw [u2, h2, a2] at h7
      refine gx_iinc C dX8_orderOf_38 (by decide) rfl rfl ?_
      refine gx_goto C dX8_orderOf_41 rfl ?_
      exact ih _ ⟨h7.1, gm_Et E2 (gm_Ew h7.2 (fun j h => by unfold gm_S at h; unfold gm_S2; omega)), mx_all.mpr ⟨h3, fun q => by have := h6.mpr q; omega⟩⟩
    · refine gx_iload_n C dX8_orderOf_27 rfl ?_
      exact gx_iret C dX8_orderOf_28 ⟨Or.inl ⟨k, hk, h6.mp (by omega), h3, by omega⟩, E2⟩
  · obtain ⟨h2, E2, h3⟩ := hI
    refine gx_iload_n C dX8_orderOf_9 rfl ?_
    refine gx_sipush C dX8_orderOf_10 rfl ?_
    refine gx_icmp_gt C dX8_orderOf_13 rfl (by unfold gx_3; omega) (by unfold gx_3; omega) (fun hb13 => ?_) (fun hb13 => absurd (by omega) hb13)
    refine gx_bipush C dX8_orderOf_44 rfl ?_
    exact gx_iret C dX8_orderOf_46 ⟨Or.inr ⟨h3, rfl⟩, E2⟩
set_option maxRecDepth 100000 in
set_option maxHeartbeats 4000000 in
theorem c_X8_endOf {La : List gx_K} (hM : gm_H La) {M : gx_M} {n : Nat} {m : Int} (hz : gm_Z M n m) {a : Nat} (ha : a + 9 ≤ 45 ∨ 117 ≤ a) (ha2 : a + 9 ≤ 1926) (oa : mx_ok m (mx_of (M 6) a)) (ou : mx_ok m (mx_of (M 6) 27)) : gx_Ci La yX8_endOf wsX8_endOf 3 [gx_R 0, gx_I a] M (fun z M' => mx_fst (fun k => mx_po n m (mx_of (M 6) 27) (mx_of (M 6) a) (mx_of (M 6) a) k = fun _ => 0) 10 z ∧ gm_E gm_S2 M M') := by
  have hzm := gm_Zm hz
  generalize hx : mx_of (M 6) a = x at oa ⊢
  generalize hu : mx_of (M 6) 27 = u at ou ⊢
  refine gx_start_i (L := [gx_R 0, gx_I a, gx_U]) (by decide) rfl rfl (Nat.le_of_ble_eq_true rfl) rfl ?_
  intro _ _ _ _ _ _ _ _ _ _ _ _ C
  refine gx_aload_n C dX8_endOf_0 rfl ?_
  refine gx_iload_n C dX8_endOf_1 rfl ?_
  refine gx_bipush C dX8_endOf_2 rfl ?_
  refine gx_callV C 8 rfl (gm_0 hM) (c_X8_copy hM (a := a) (t := 108) (by omega) (by omega) (by omega)) (cwV 2 (gx_hts C) gX8_endOf_X8_copy rfl rfl rfl (by decide +kernel) ⟨Nat.le_of_ble_eq_true rfl, Nat.le_of_ble_eq_true rfl⟩) rfl rfl (Nat.le_of_ble_eq_true rfl) ⟨Nat.le_refl _, Nat.le_refl _⟩ dX8_endOf_4 (fun M1 h1 => ?_)
  rw [hx] at h1
  refine gx_iconst C dX8_endOf_7 ?_
  refine gx_istore_n C dX8_endOf_8 (by decide) rfl ?_
  refine gx_for 10 (fun k (_ : gx_M) => [gx_R 0, gx_I a, gx_I ((k + 1 : Nat) : Int)]) (fun M' => M') (fun k M' => mx_of (M' 6) 108 = mx_po n m u x x k ∧ gm_E gm_S2 M M' ∧ ∀ j, j < k → ¬ mx_po n m u x x j = fun _ => 0) 0 M1 (by omega) ⟨by rw [h1]; exact (by rw [← hx]; exact mx_of_of), by rw [h1]; exact gm_Eb (fun j h1 h2 => Or.inr (by omega)), fun j hj => absurd hj (by omega)⟩ (fun k M' hk hI ih => ?_) (fun M' hI => ?_)
  · obtain ⟨h2, E2, h3⟩ := hI
    have a2 : mx_of (M' 6) a = x := by rw [gm_Eo E2 (fun j h1 h2 => by unfold gm_S2; omega), hx]
    have u2 : mx_of (M' 6) 27 = u := by rw [gm_Eo E2 (fun j h1 h2 => by unfold gm_S2; omega), hu]
    have op := mx_po_ok (n := n) (u := u) (a := x) hzm.1 oa k
    refine gx_iload_n C dX8_endOf_9 rfl ?_
    refine gx_bipush C dX8_endOf_10 rfl ?_
    refine gx_icmp_gt C dX8_endOf_12 rfl (by unfold gx_3; omega) (by unfold gx_3; omega) (fun hb12 => absurd hb12 (by omega)) (fun hb12 => ?_)
    refine gx_aload_n C dX8_endOf_15 rfl ?_
    refine gx_bipush C dX8_endOf_16 rfl ?_
    refine gx_callI C 8 rfl (gm_0 hM) (c_X8_isNothing hM (m := m) (by omega) (a := 108) (by omega) (by rw [h2]; exact op)) (cwV 1 (gx_hts C) gX8_endOf_X8_isNothing rfl rfl rfl (by decide +kernel) ⟨Nat.le_of_ble_eq_true rfl, Nat.le_of_ble_eq_true rfl⟩) rfl rfl (Nat.le_of_ble_eq_true rfl) ⟨Nat.le_refl _, Nat.le_refl _⟩ dX8_endOf_18 (fun z M3 h4 => ?_)
    obtain ⟨rfl, h5, h6⟩ := h4
    rw [h2] at h6
    refine gx_if_eq C dX8_endOf_21 rfl (by unfold gx_3; omega) (fun hb21 => ?_) (fun hb21 => ?_)
    · refine gx_aload_n C dX8_endOf_26 rfl ?_
      refine gx_bipush C dX8_endOf_27 rfl ?_
      refine gx_iload_n C dX8_endOf_29 rfl ?_
      refine gx_bipush C dX8_endOf_30 rfl ?_
      refine gx_callV C 8 rfl (gm_0 hM) (c_X8_product hM (gm_Ez E2 hz) (a := 108) (b := a) (t := 108) (by omega) (by omega) (by omega) (by omega) (by omega) (by omega) (by rw [h2]; exact op) (by rw [a2]; exact oa) (by rw [u2]; exact ou)) (cwV 3 (gx_hts C) gX8_endOf_X8_product rfl rfl rfl (by decide +kernel) ⟨Nat.le_of_ble_eq_true rfl, Nat.le_of_ble_eq_true rfl⟩) rfl rfl (Nat.le_of_ble_eq_true rfl) ⟨Nat.le_refl _, Nat.le_refl _⟩ dX8_endOf_32 (fun M4 h7 => ?_)
      rw [u2, h2, a2] at h7
      refine gx_iinc C dX8_endOf_35 (by decide) rfl rfl ?_
      refine gx_goto C dX8_endOf_38 rfl ?_
      exact ih _ ⟨h7.1, gm_Et E2 (gm_Ew h7.2 (fun j h => by unfold gm_S at h; unfold gm_S2; omega)), mx_all.mpr ⟨h3, fun q => by have := h6.mpr q; omega⟩⟩
    · refine gx_iload_n C dX8_endOf_24 rfl ?_
      exact gx_iret C dX8_endOf_25 ⟨Or.inl ⟨k, hk, h6.mp (by omega), h3, by omega⟩, E2⟩
  · obtain ⟨h2, E2, h3⟩ := hI
    refine gx_iload_n C dX8_endOf_9 rfl ?_
    refine gx_bipush C dX8_endOf_10 rfl ?_
    refine gx_icmp_gt C dX8_endOf_12 rfl (by unfold gx_3; omega) (by unfold gx_3; omega) (fun hb12 => ?_) (fun hb12 => absurd (by omega) hb12)
    refine gx_bipush C dX8_endOf_41 rfl ?_
    exact gx_iret C dX8_endOf_43 ⟨Or.inr ⟨h3, rfl⟩, E2⟩
/-- the rows of the powers -/
def mx_dst (n : Nat) (m : Int) (u a v : Nat → Int) : Nat → Nat × (Nat → Nat → Int)
  | 0 => (0, fun _ _ => 0)
  | k + 1 => mx_nw m (mx_dst n m u a v k) (mx_po n m u a v k)
set_option maxRecDepth 100000 in
set_option maxHeartbeats 4000000 in
theorem c_X8_degreeOf {La : List gx_K} (hM : gm_H La) {M : gx_M} {n : Nat} {m : Int} (hz : gm_Z M n m) {a : Nat} (ha : a + 9 ≤ 45 ∨ 117 ≤ a) (ha2 : a + 9 ≤ 1926) (oa : mx_ok m (mx_of (M 6) a)) (ou : mx_ok m (mx_of (M 6) 27)) (ov : mx_ok m (mx_of (M 6) 36)) {K : Nat} (hK9 : K ≤ 8) (hK1 : ∀ k, k ≤ K → (mx_dst n m (mx_of (M 6) 27) (mx_of (M 6) a) (mx_of (M 6) 36) k).1 = k) (hK2 : (mx_dst n m (mx_of (M 6) 27) (mx_of (M 6) a) (mx_of (M 6) 36) (K + 1)).1 = K) : gx_Ci La yX8_degreeOf wsX8_degreeOf 3 [gx_R 0, gx_I a] M (fun z M' => z = K ∧ gm_Y M M') := by
  have hzm := gm_Zm hz
  generalize hx : mx_of (M 6) a = x at oa hK1 hK2 ⊢
  generalize hu : mx_of (M 6) 27 = u at ou hK1 hK2 ⊢
  generalize hv : mx_of (M 6) 36 = v at ov hK1 hK2 ⊢
  refine gx_start_i (L := [gx_R 0, gx_I a, gx_U]) (by decide) rfl rfl (Nat.le_of_ble_eq_true rfl) rfl ?_
  intro _ _ _ _ _ _ _ _ _ _ _ _ C
  refine gx_aload_n C dX8_degreeOf_0 rfl ?_
  refine gx_iconst C dX8_degreeOf_1 ?_
  refine gx_putI C 8 _ 9 rfl (gm_0 hM) rfl (by decide) nX8_degreeOf_8 tyX8 tyX8_ok nmX8 (gx_hts C _ fX8_degreeOf_131) rfl rfl dX8_degreeOf_2 ?_
  refine gx_aload_n C dX8_degreeOf_5 rfl ?_
  refine gx_bipush C dX8_degreeOf_6 rfl ?_
  refine gx_bipush C dX8_degreeOf_8 rfl ?_
  have E0 : gm_Y M (gx_u M 0 9 0) := gm_Yu
  refine gx_callV C 8 rfl (gm_0 hM) (c_X8_copy hM (a := 36) (t := 108) (by omega) (by omega) (by omega)) (cwV 2 (gx_hts C) gX8_degreeOf_X8_copy rfl rfl rfl (by decide +kernel) ⟨Nat.le_of_ble_eq_true rfl, Nat.le_of_ble_eq_true rfl⟩) rfl rfl (Nat.le_of_ble_eq_true rfl) ⟨Nat.le_refl _, Nat.le_refl _⟩ dX8_degreeOf_10 (fun M1 h1 => ?_)
  have e6 : gx_u M 0 9 0 6 = M 6 := gx_u_nc (by decide)
  rw [e6, hv] at h1
  have Y1 : gm_Y M M1 := gm_Yt E0 (by rw [h1]; exact gm_Y6)
  have p1 : mx_of (M1 6) 108 = v := by rw [h1]; rw [← hv]; exact mx_of_of
  have a1 : mx_of (M1 6) a = x := by rw [h1, mx_of_blo (by omega), e6, hx]
  have u1 : mx_of (M1 6) 27 = u := by rw [h1, mx_of_blo (by omega), e6, hu]
  have W1 : gm_W M1 m (0, fun _ _ => 0) := by rw [h1]; exact gm_Wb (gm_W0 (gx_u_eq _ _ _ _))
  refine gx_iconst C dX8_degreeOf_13 ?_
  refine gx_istore_n C dX8_degreeOf_14 (by decide) rfl ?_
  refine gx_for K (fun k (_ : gx_M) => [gx_R 0, gx_I a, gx_I (k : Int)]) (fun M' => M') (fun k M' => mx_of (M' 6) 108 = mx_po n m u x v k ∧ mx_of (M' 6) a = x ∧ mx_of (M' 6) 27 = u ∧ gm_W M' m (mx_dst n m u x v k) ∧ gm_Y M M') 0 M1 (by omega) ⟨p1, a1, u1, W1, Y1⟩ (fun k M' hk hI ih => ?_) (fun M' hI => ?_)
  · obtain ⟨h2, a2, u2, W2, Y2⟩ := hI
    have op := mx_po_ok (n := n) (u := u) (a := x) hzm.1 ov k
    have k1 := hK1 k (by omega)
    have k2 := hK1 (k + 1) (by omega)
    refine gx_aload_n C dX8_degreeOf_15 rfl ?_
    refine gx_bipush C dX8_degreeOf_16 rfl ?_
    refine gx_callI C 8 rfl (gm_0 hM) (c_X8_isNew hM (gm_Yz Y2 hz) W2 (by omega) (a := 108) (by omega) (by rw [h2]; exact op)) (cwV 1 (gx_hts C) gX8_degreeOf_X8_isNew rfl rfl rfl (by decide +kernel) ⟨Nat.le_of_ble_eq_true rfl, Nat.le_of_ble_eq_true rfl⟩) rfl rfl (Nat.le_of_ble_eq_true rfl) ⟨Nat.le_refl _, Nat.le_refl _⟩ dX8_degreeOf_18 (fun z M3 h4 => ?_)
    rw [h2] at h4
    obtain ⟨hz4, hc4, W4, w4, Y4⟩ := h4
    have hc5 : ((mx_dst n m u x v (k + 1)).1 : Int) = (mx_dst n m u x v k).1 + z := hc4
    refine gx_if_eq C dX8_degreeOf_21 rfl (by unfold gx_3; omega) (fun hb21 => absurd hb21 (by omega)) (fun hb21 => ?_)
    refine gx_aload_n C dX8_degreeOf_24 rfl ?_
    refine gx_bipush C dX8_degreeOf_25 rfl ?_
    refine gx_iload_n C dX8_degreeOf_27 rfl ?_
    refine gx_bipush C dX8_degreeOf_28 rfl ?_
    refine gx_callV C 8 rfl (gm_0 hM) (c_X8_product hM (gm_Yz (gm_Yt Y2 Y4) hz) (a := 108) (b := a) (t := 108) (by omega) (by omega) (by omega) (by omega) (by omega) (by omega) (by rw [w4, h2]; exact op) (by rw [w4, a2]; exact oa) (by rw [w4, u2]; exact ou)) (cwV 3 (gx_hts C) gX8_degreeOf_X8_product rfl rfl rfl (by decide +kernel) ⟨Nat.le_of_ble_eq_true rfl, Nat.le_of_ble_eq_true rfl⟩) rfl rfl (Nat.le_of_ble_eq_true rfl) ⟨Nat.le_refl _, Nat.le_refl _⟩ dX8_degreeOf_30 (fun M4 h7 => ?_)
    rw [w4, u2, h2, a2] at h7
    refine gx_iinc C dX8_degreeOf_33 (by decide) rfl rfl ?_
    refine gx_goto C dX8_degreeOf_36 rfl ?_
    exact ih _ ⟨h7.1, by rw [gm_Eo h7.2 (fun j h1 h2 => by unfold gm_S; omega), w4, a2], by rw [gm_Eo h7.2 (fun j h1 h2 => by unfold gm_S; omega), w4, u2], gm_WE W4 h7.2, gm_Yt (gm_Yt Y2 Y4) (gm_YE h7.2)⟩
  · obtain ⟨h2, a2, u2, W2, Y2⟩ := hI
    have op := mx_po_ok (n := n) (u := u) (a := x) hzm.1 ov K
    have k1 := hK1 K (by omega)
    refine gx_aload_n C dX8_degreeOf_15 rfl ?_
    refine gx_bipush C dX8_degreeOf_16 rfl ?_
    refine gx_callI C 8 rfl (gm_0 hM) (c_X8_isNew hM (gm_Yz Y2 hz) W2 (by omega) (a := 108) (by omega) (by rw [h2]; exact op)) (cwV 1 (gx_hts C) gX8_degreeOf_X8_isNew rfl rfl rfl (by decide +kernel) ⟨Nat.le_of_ble_eq_true rfl, Nat.le_of_ble_eq_true rfl⟩) rfl rfl (Nat.le_of_ble_eq_true rfl) ⟨Nat.le_refl _, Nat.le_refl _⟩ dX8_degreeOf_18 (fun z M3 h4 => ?_)
    rw [h2] at h4
    obtain ⟨hz4, hc4, W4, w4, Y4⟩ := h4
    have hc5 : ((mx_dst n m u x v (K + 1)).1 : Int) = (mx_dst n m u x v K).1 + z := hc4
    refine gx_if_eq C dX8_degreeOf_21 rfl (by unfold gx_3; omega) (fun hb21 => ?_) (fun hb21 => absurd (by omega) hb21)
    refine gx_iload_n C dX8_degreeOf_39 rfl ?_
    exact gx_iret C dX8_degreeOf_40 ⟨rfl, gm_Yt Y2 Y4⟩
def mx_tr (m : Int) (a : Nat → Int) : Int := (a 0 + a 4 + a 8) % m
set_option maxRecDepth 100000 in
set_option maxHeartbeats 4000000 in
theorem c_X8_trace {La : List gx_K} (hM : gm_H La) {M : gx_M} {n : Nat} {m : Int} (hz : gm_Z M n m) {a : Nat} (ha2 : a + 9 ≤ 1926) (oa : mx_ok m (mx_of (M 6) a)) : gx_Ci La yX8_trace wsX8_trace 0 [gx_R 0, gx_I a] M (fun z M' => M' = M ∧ z = mx_tr m (mx_of (M 6) a)) := by
  have hzm := gm_Zm hz
  have h0 := oa 0 (by omega)
  have h4 := oa 4 (by omega)
  have h8 := oa 8 (by omega)
  have e0 : M 6 ((a : Int).toNat) = mx_of (M 6) a 0 := gm_rd (by omega) (by omega)
  refine gx_start_i (L := [gx_R 0, gx_I a]) (by decide) rfl rfl (Nat.le_of_ble_eq_true rfl) rfl ?_
  intro _ _ _ _ _ _ _ _ _ _ _ _ C
  refine gx_aload_n C dX8_trace_0 rfl ?_
  refine gx_getR C 8 _ 7 rfl (gm_0 hM) rfl (by decide) nX8_trace_8 (gx_hts C _ fX8_trace_27) dX8_trace_1 ?_
  refine gx_iload_n C dX8_trace_4 rfl ?_
  refine gx_iaload C (gm_6 hM) (by omega) dX8_trace_5 e0 ?_
  refine gx_aload_n C dX8_trace_6 rfl ?_
  refine gx_getR C 8 _ 7 rfl (gm_0 hM) rfl (by decide) nX8_trace_8 (gx_hts C _ fX8_trace_27) dX8_trace_7 ?_
  refine gx_iload_n C dX8_trace_10 rfl ?_
  refine gx_iconst C dX8_trace_11 ?_
  refine gx_iadd C dX8_trace_12 ?_
  refine gx_iaload C (gm_6 hM) (by omega) dX8_trace_13 (gm_rd (a := a) (j := 4) (by omega) (by omega)) ?_
  refine gx_iadd C dX8_trace_14 ?_
  refine gx_aload_n C dX8_trace_15 rfl ?_
  refine gx_getR C 8 _ 7 rfl (gm_0 hM) rfl (by decide) nX8_trace_8 (gx_hts C _ fX8_trace_27) dX8_trace_16 ?_
  refine gx_iload_n C dX8_trace_19 rfl ?_
  refine gx_bipush C dX8_trace_20 rfl ?_
  refine gx_iadd C dX8_trace_22 ?_
  refine gx_iaload C (gm_6 hM) (by omega) dX8_trace_23 (gm_rd (a := a) (j := 8) (by omega) (by omega)) ?_
  refine gx_iadd C dX8_trace_24 ?_
  refine gx_aload_n C dX8_trace_25 rfl ?_
  refine gx_getR C 8 _ 0 rfl (gm_0 hM) rfl (by decide) nX8_trace_8 (gx_hts C _ fX8_trace_7) dX8_trace_26 ?_
  refine gx_bipush C dX8_trace_29 rfl ?_
  refine gx_iaload C (gm_1 hM) (by omega) dX8_trace_31 hz.2.1 ?_
  refine gx_irem C dX8_trace_32 (by unfold gx_3; omega) (by unfold gx_3; omega) (by omega) (gx_tmod (by omega)) ?_
  exact gx_iret C dX8_trace_33 ⟨rfl, rfl⟩
set_option maxRecDepth 100000 in
set_option maxHeartbeats 4000000 in
theorem c_X8_isCell {La : List gx_K} (hM : gm_H La) {M : gx_M} {n : Nat} {m : Int} (hz : gm_Z M n m) {x y : Int} (hx : gx_3 x) (hy : gx_3 y) : gx_Ci La yX8_isCell wsX8_isCell 1 [gx_R 0, gx_I x, gx_I y] M (fun z M' => M' = M ∧ z = if 0 ≤ x ∧ x < n ∧ 0 ≤ y ∧ y < n then 1 else 0) := by
  have hzm := gm_Zm hz
  refine gx_start_i (L := [gx_R 0, gx_I x, gx_I y]) (by decide) rfl rfl (Nat.le_of_ble_eq_true rfl) rfl ?_
  intro _ _ _ _ _ _ _ _ _ _ _ _ C
  refine gx_iload_n C dX8_isCell_0 rfl ?_
  refine gx_iconst C dX8_isCell_1 ?_
  refine gx_aload_n C dX8_isCell_2 rfl ?_
  refine gx_getR C 8 _ 0 rfl (gm_0 hM) rfl (by decide) nX8_isCell_8 (gx_hts C _ fX8_isCell_7) dX8_isCell_3 ?_
  refine gx_bipush C dX8_isCell_6 rfl ?_
  refine gx_iaload C (gm_1 hM) (by omega) dX8_isCell_8 hz.1 ?_
  refine gx_iconst C dX8_isCell_9 ?_
  refine gx_isub C dX8_isCell_10 ?_
  refine gx_statI C (c_X8_in hx (by unfold gx_3; omega) (by unfold gx_3; omega)) (cwS 3 (gx_hts C) gX8_isCell_X8_in rfl rfl rfl (by decide +kernel) ⟨Nat.le_of_ble_eq_true rfl, Nat.le_of_ble_eq_true rfl⟩) rfl rfl (Nat.le_of_ble_eq_true rfl) ⟨Nat.le_refl _, Nat.le_refl _⟩ dX8_isCell_11 (fun z M1 h1 => ?_)
  obtain ⟨rfl, h1⟩ := h1
  by_cases hq : 0 ≤ x ∧ x ≤ (n : Int) - 1
  · rw [if_pos hq] at h1
    subst h1
    refine gx_if_eq C dX8_isCell_14 rfl (by unfold gx_3; omega) (fun hb14 => absurd hb14 (by omega)) (fun hb14 => ?_)
    refine gx_iload_n C dX8_isCell_17 rfl ?_
    refine gx_iconst C dX8_isCell_18 ?_
    refine gx_aload_n C dX8_isCell_19 rfl ?_
    refine gx_getR C 8 _ 0 rfl (gm_0 hM) rfl (by decide) nX8_isCell_8 (gx_hts C _ fX8_isCell_7) dX8_isCell_20 ?_
    refine gx_bipush C dX8_isCell_23 rfl ?_
    refine gx_iaload C (gm_1 hM) (by omega) dX8_isCell_25 hz.1 ?_
    refine gx_iconst C dX8_isCell_26 ?_
    refine gx_isub C dX8_isCell_27 ?_
    refine gx_statI C (c_X8_in hy (by unfold gx_3; omega) (by unfold gx_3; omega)) (cwS 3 (gx_hts C) gX8_isCell_X8_in rfl rfl rfl (by decide +kernel) ⟨Nat.le_of_ble_eq_true rfl, Nat.le_of_ble_eq_true rfl⟩) rfl rfl (Nat.le_of_ble_eq_true rfl) ⟨Nat.le_refl _, Nat.le_refl _⟩ dX8_isCell_28 (fun z M1 h1 => ?_)
    obtain ⟨rfl, h1⟩ := h1
    by_cases hr : 0 ≤ y ∧ y ≤ (n : Int) - 1
    · rw [if_pos hr] at h1
      subst h1
      refine gx_if_eq C dX8_isCell_31 rfl (by unfold gx_3; omega) (fun hb31 => absurd hb31 (by omega)) (fun hb31 => ?_)
      refine gx_iconst C dX8_isCell_34 ?_
      refine gx_goto C dX8_isCell_35 rfl ?_
      exact gx_zret C (by omega) dX8_isCell_39 ⟨rfl, by rw [if_pos (by omega)]⟩
    · rw [if_neg hr] at h1
      subst h1
      refine gx_if_eq C dX8_isCell_31 rfl (by unfold gx_3; omega) (fun hb31 => ?_) (fun hb31 => absurd (by omega) hb31)
      refine gx_iconst C dX8_isCell_38 ?_
      exact gx_zret C (by omega) dX8_isCell_39 ⟨rfl, by rw [if_neg (by omega)]⟩
  · rw [if_neg hq] at h1
    subst h1
    refine gx_if_eq C dX8_isCell_14 rfl (by unfold gx_3; omega) (fun hb14 => ?_) (fun hb14 => absurd (by omega) hb14)
    refine gx_iconst C dX8_isCell_38 ?_
    exact gx_zret C (by omega) dX8_isCell_39 ⟨rfl, by rw [if_neg (by omega)]⟩
/-- a part of b by e -/
def mx_part (n : Nat) (m : Int) (u v e b : Nat → Int) (w : Int) : Nat → Int :=
  if w = 0 then mx_oper n m u (mx_lin m v 1 e (-1)) b else if w = 1 then mx_lin m b 1 (mx_lin m (mx_oper n m u e b) 1 (mx_oper n m u (mx_lin m v 1 e (-1)) b) 1) (-1) else mx_oper n m u e b
set_option maxRecDepth 100000 in
set_option maxHeartbeats 4000000 in
theorem c_X8_part {La : List gx_K} (hM : gm_H La) {M : gx_M} {n : Nat} {m : Int} (hz : gm_Z M n m) {w : Int} (hw : w = 0 ∨ w = 1 ∨ w = 2) (ob : mx_ok m (mx_of (M 6) 9)) (ou : mx_ok m (mx_of (M 6) 27)) (ov : mx_ok m (mx_of (M 6) 36)) (oe : mx_ok m (mx_of (M 6) 90)) : gx_Cv La yX8_part wsX8_part 3 [gx_R 0, gx_I w] M (fun M' => mx_of (M' 6) 81 = mx_part n m (mx_of (M 6) 27) (mx_of (M 6) 36) (mx_of (M 6) 90) (mx_of (M 6) 9) w ∧ gm_E (fun j => (45 ≤ j ∧ j < 90) ∨ (99 ≤ j ∧ j < 108) ∨ (117 ≤ j ∧ j < 126)) M M') := by
  have hzm := gm_Zm hz
  generalize hB : mx_of (M 6) 9 = B at ob ⊢
  generalize hU : mx_of (M 6) 27 = U at ou ⊢
  generalize hV : mx_of (M 6) 36 = V at ov ⊢
  generalize hEE : mx_of (M 6) 90 = e at oe ⊢
  generalize hS : (fun j => (45 ≤ j ∧ j < 90) ∨ (99 ≤ j ∧ j < 108) ∨ (117 ≤ j ∧ j < 126)) = S
  have hS' : ∀ j, ((45 ≤ j ∧ j < 90) ∨ (99 ≤ j ∧ j < 108) ∨ (117 ≤ j ∧ j < 126)) ↔ S j := fun j => by rw [← hS]
  refine gx_start_v (L := [gx_R 0, gx_I w]) (by decide) rfl rfl (Nat.le_of_ble_eq_true rfl) rfl ?_
  intro _ _ _ _ _ _ _ _ _ _ _ _ C
  refine gx_aload_n C dX8_part_0 rfl ?_
  refine gx_bipush C dX8_part_1 rfl ?_
  refine gx_iconst C dX8_part_3 ?_
  refine gx_bipush C dX8_part_4 rfl ?_
  refine gx_iconst C dX8_part_6 ?_
  refine gx_bipush C dX8_part_7 rfl ?_
  refine gx_callV C 8 rfl (gm_0 hM) (c_X8_add hM hz (a := 36) (b := 90) (t := 99) (by omega) (by omega) (by omega) (by omega) (by omega) (by rw [hV]; exact ov) (by rw [hEE]; exact oe) (by omega) (by omega)) (cwV 5 (gx_hts C) gX8_part_X8_add rfl rfl rfl (by decide +kernel) ⟨Nat.le_of_ble_eq_true rfl, Nat.le_of_ble_eq_true rfl⟩) rfl rfl (Nat.le_of_ble_eq_true rfl) ⟨Nat.le_refl _, Nat.le_refl _⟩ dX8_part_9 (fun M1 h1 => ?_)
  rw [hV, hEE] at h1
  have of := mx_lin_ok (m := m) hzm.1 V e 1 (-1)
  have z1 : gm_Z M1 n m := by rw [h1]; exact gm_Zb hz
  have b1 : mx_of (M1 6) 9 = B := by rw [h1, mx_of_blo (by omega), hB]
  have u1 : mx_of (M1 6) 27 = U := by rw [h1, mx_of_blo (by omega), hU]
  have e1 : mx_of (M1 6) 90 = e := by rw [h1, mx_of_blo (by omega), hEE]
  have f1 : mx_of (M1 6) 99 = mx_lin m V 1 e (-1) := by rw [h1]; exact mx_of_lin
  have E1 : gm_E S M M1 := by rw [h1]; exact gm_Eb (fun j h1 h2 => (hS' j).mp (by omega))
  clear h1
  have ES : ∀ {P Q : gx_M}, gm_E (gm_S 81) P Q → gm_E S P Q := fun h => gm_Ew h (fun j h => by unfold gm_S at h; exact (hS' j).mp (by omega))
  have Eo : ∀ {P Q : gx_M} {a : Nat}, gm_E (gm_S 81) P Q → (a + 9 ≤ 45 ∨ 90 ≤ a) → mx_of (Q 6) a = mx_of (P 6) a := fun h h2 => gm_Eo h (fun j h1 h2 => by unfold gm_S; omega)
  rcases hw with rfl | rfl | rfl
  · refine gx_aload_n C dX8_part_12 rfl ?_
    refine gx_iload_n C dX8_part_13 rfl ?_
    refine gx_if_ne C dX8_part_14 rfl (by unfold gx_3; omega) (fun hb14 => absurd hb14 (by omega)) (fun hb14 => ?_)
    refine gx_bipush C dX8_part_17 rfl ?_
    refine gx_goto C dX8_part_19 rfl ?_
    refine gx_bipush C dX8_part_24 rfl ?_
    refine gx_bipush C dX8_part_26 rfl ?_
    refine gx_callV C 8 rfl (gm_0 hM) (c_X8_operator hM z1 (a := 99) (b := 9) (t := 81) (by omega) (by omega) (by omega) (by omega) (by omega) (by omega) (by rw [f1]; exact of) (by rw [b1]; exact ob) (by rw [u1]; exact ou)) (cwV 3 (gx_hts C) gX8_part_X8_operator rfl rfl rfl (by decide +kernel) ⟨Nat.le_of_ble_eq_true rfl, Nat.le_of_ble_eq_true rfl⟩) rfl rfl (Nat.le_of_ble_eq_true rfl) ⟨Nat.le_refl _, Nat.le_refl _⟩ dX8_part_28 (fun M2 h2 => ?_)
    rw [u1, f1, b1] at h2
    refine gx_iload_n C dX8_part_31 rfl ?_
    refine gx_iconst C dX8_part_32 ?_
    refine gx_icmp_ne C dX8_part_33 rfl (by unfold gx_3; omega) (by unfold gx_3; omega) (fun hb33 => ?_) (fun hb33 => absurd (by omega) hb33)
    exact gx_vret C dX8_part_78 ⟨h2.1, gm_Et E1 (ES h2.2)⟩
  · refine gx_aload_n C dX8_part_12 rfl ?_
    refine gx_iload_n C dX8_part_13 rfl ?_
    refine gx_if_ne C dX8_part_14 rfl (by unfold gx_3; omega) (fun hb14 => ?_) (fun hb14 => absurd (by omega) hb14)
    refine gx_bipush C dX8_part_22 rfl ?_
    refine gx_bipush C dX8_part_24 rfl ?_
    refine gx_bipush C dX8_part_26 rfl ?_
    refine gx_callV C 8 rfl (gm_0 hM) (c_X8_operator hM z1 (a := 90) (b := 9) (t := 81) (by omega) (by omega) (by omega) (by omega) (by omega) (by omega) (by rw [e1]; exact oe) (by rw [b1]; exact ob) (by rw [u1]; exact ou)) (cwV 3 (gx_hts C) gX8_part_X8_operator rfl rfl rfl (by decide +kernel) ⟨Nat.le_of_ble_eq_true rfl, Nat.le_of_ble_eq_true rfl⟩) rfl rfl (Nat.le_of_ble_eq_true rfl) ⟨Nat.le_refl _, Nat.le_refl _⟩ dX8_part_28 (fun M2 h2 => ?_)
    rw [u1, e1, b1] at h2
    obtain ⟨r2, E2⟩ := h2
    have f2 : mx_of (M2 6) 99 = mx_lin m V 1 e (-1) := by rw [Eo E2 (by omega), f1]
    have b2 : mx_of (M2 6) 9 = B := by rw [Eo E2 (by omega), b1]
    have u2 : mx_of (M2 6) 27 = U := by rw [Eo E2 (by omega), u1]
    have z2 := gm_Ez E2 z1
    have oo : ∀ a b : Nat → Int, mx_ok m (mx_oper n m U a b) := fun a b => mx_mul_ok hzm.1 _ _
    refine gx_iload_n C dX8_part_31 rfl ?_
    refine gx_iconst C dX8_part_32 ?_
    refine gx_icmp_ne C dX8_part_33 rfl (by unfold gx_3; omega) (by unfold gx_3; omega) (fun hb33 => absurd hb33 (by omega)) (fun hb33 => ?_)
    refine gx_aload_n C dX8_part_36 rfl ?_
    refine gx_bipush C dX8_part_37 rfl ?_
    refine gx_bipush C dX8_part_39 rfl ?_
    refine gx_callV C 8 rfl (gm_0 hM) (c_X8_copy hM (a := 81) (t := 117) (by omega) (by omega) (by omega)) (cwV 2 (gx_hts C) gX8_part_X8_copy rfl rfl rfl (by decide +kernel) ⟨Nat.le_of_ble_eq_true rfl, Nat.le_of_ble_eq_true rfl⟩) rfl rfl (Nat.le_of_ble_eq_true rfl) ⟨Nat.le_refl _, Nat.le_refl _⟩ dX8_part_41 (fun M3 h3 => ?_)
    have q3 : mx_of (M3 6) 117 = mx_oper n m U e B := by rw [h3, ← r2]; exact mx_of_of
    have f3 : mx_of (M3 6) 99 = mx_lin m V 1 e (-1) := by rw [h3, mx_of_blo (by omega), f2]
    have b3 : mx_of (M3 6) 9 = B := by rw [h3, mx_of_blo (by omega), b2]
    have u3 : mx_of (M3 6) 27 = U := by rw [h3, mx_of_blo (by omega), u2]
    have z3 : gm_Z M3 n m := by rw [h3]; exact gm_Zb z2
    have E3 : gm_E S M M3 := gm_Et (gm_Et E1 (ES E2)) (by rw [h3]; exact gm_Eb (fun j h1 h2 => (hS' j).mp (by omega)))
    refine gx_aload_n C dX8_part_44 rfl ?_
    refine gx_bipush C dX8_part_45 rfl ?_
    refine gx_bipush C dX8_part_47 rfl ?_
    refine gx_bipush C dX8_part_49 rfl ?_
    refine gx_callV C 8 rfl (gm_0 hM) (c_X8_operator hM z3 (a := 99) (b := 9) (t := 81) (by omega) (by omega) (by omega) (by omega) (by omega) (by omega) (by rw [f3]; exact of) (by rw [b3]; exact ob) (by rw [u3]; exact ou)) (cwV 3 (gx_hts C) gX8_part_X8_operator rfl rfl rfl (by decide +kernel) ⟨Nat.le_of_ble_eq_true rfl, Nat.le_of_ble_eq_true rfl⟩) rfl rfl (Nat.le_of_ble_eq_true rfl) ⟨Nat.le_refl _, Nat.le_refl _⟩ dX8_part_51 (fun M4 h4 => ?_)
    rw [u3, f3, b3] at h4
    obtain ⟨r4, E4⟩ := h4
    have q4 : mx_of (M4 6) 117 = mx_oper n m U e B := by rw [Eo E4 (by omega), q3]
    have b4 : mx_of (M4 6) 9 = B := by rw [Eo E4 (by omega), b3]
    have z4 := gm_Ez E4 z3
    refine gx_aload_n C dX8_part_54 rfl ?_
    refine gx_bipush C dX8_part_55 rfl ?_
    refine gx_iconst C dX8_part_57 ?_
    refine gx_bipush C dX8_part_58 rfl ?_
    refine gx_iconst C dX8_part_60 ?_
    refine gx_bipush C dX8_part_61 rfl ?_
    refine gx_callV C 8 rfl (gm_0 hM) (c_X8_add hM z4 (a := 117) (b := 81) (t := 117) (by omega) (by omega) (by omega) (by omega) (by omega) (by rw [q4]; exact oo _ _) (by rw [r4]; exact oo _ _) (by omega) (by omega)) (cwV 5 (gx_hts C) gX8_part_X8_add rfl rfl rfl (by decide +kernel) ⟨Nat.le_of_ble_eq_true rfl, Nat.le_of_ble_eq_true rfl⟩) rfl rfl (Nat.le_of_ble_eq_true rfl) ⟨Nat.le_refl _, Nat.le_refl _⟩ dX8_part_63 (fun M5 h5 => ?_)
    rw [q4, r4] at h5
    have q5 : mx_of (M5 6) 117 = mx_lin m (mx_oper n m U e B) 1 (mx_oper n m U (mx_lin m V 1 e (-1)) B) 1 := by rw [h5]; exact mx_of_lin
    have b5 : mx_of (M5 6) 9 = B := by rw [h5, mx_of_blo (by omega), b4]
    have z5 : gm_Z M5 n m := by rw [h5]; exact gm_Zb z4
    have E5 : gm_E S M M5 := gm_Et (gm_Et E3 (ES E4)) (by rw [h5]; exact gm_Eb (fun j h1 h2 => (hS' j).mp (by omega)))
    refine gx_aload_n C dX8_part_66 rfl ?_
    refine gx_bipush C dX8_part_67 rfl ?_
    refine gx_iconst C dX8_part_69 ?_
    refine gx_bipush C dX8_part_70 rfl ?_
    refine gx_iconst C dX8_part_72 ?_
    refine gx_bipush C dX8_part_73 rfl ?_
    refine gx_callV C 8 rfl (gm_0 hM) (c_X8_add hM z5 (a := 9) (b := 117) (t := 81) (by omega) (by omega) (by omega) (by omega) (by omega) (by rw [b5]; exact ob) (by rw [q5]; exact mx_lin_ok hzm.1 _ _ _ _) (by omega) (by omega)) (cwV 5 (gx_hts C) gX8_part_X8_add rfl rfl rfl (by decide +kernel) ⟨Nat.le_of_ble_eq_true rfl, Nat.le_of_ble_eq_true rfl⟩) rfl rfl (Nat.le_of_ble_eq_true rfl) ⟨Nat.le_refl _, Nat.le_refl _⟩ dX8_part_75 (fun M6 h6 => ?_)
    rw [b5, q5] at h6
    have hq : mx_of (M6 6) 81 = mx_part n m U V e B 1 := by rw [h6]; exact mx_of_lin
    exact gx_vret C dX8_part_78 ⟨hq, gm_Et E5 (by rw [h6]; exact gm_Eb (fun j h1 h2 => (hS' j).mp (by omega)))⟩
  · refine gx_aload_n C dX8_part_12 rfl ?_
    refine gx_iload_n C dX8_part_13 rfl ?_
    refine gx_if_ne C dX8_part_14 rfl (by unfold gx_3; omega) (fun hb14 => ?_) (fun hb14 => absurd (by omega) hb14)
    refine gx_bipush C dX8_part_22 rfl ?_
    refine gx_bipush C dX8_part_24 rfl ?_
    refine gx_bipush C dX8_part_26 rfl ?_
    refine gx_callV C 8 rfl (gm_0 hM) (c_X8_operator hM z1 (a := 90) (b := 9) (t := 81) (by omega) (by omega) (by omega) (by omega) (by omega) (by omega) (by rw [e1]; exact oe) (by rw [b1]; exact ob) (by rw [u1]; exact ou)) (cwV 3 (gx_hts C) gX8_part_X8_operator rfl rfl rfl (by decide +kernel) ⟨Nat.le_of_ble_eq_true rfl, Nat.le_of_ble_eq_true rfl⟩) rfl rfl (Nat.le_of_ble_eq_true rfl) ⟨Nat.le_refl _, Nat.le_refl _⟩ dX8_part_28 (fun M2 h2 => ?_)
    rw [u1, e1, b1] at h2
    refine gx_iload_n C dX8_part_31 rfl ?_
    refine gx_iconst C dX8_part_32 ?_
    refine gx_icmp_ne C dX8_part_33 rfl (by unfold gx_3; omega) (by unfold gx_3; omega) (fun hb33 => ?_) (fun hb33 => absurd (by omega) hb33)
    exact gx_vret C dX8_part_78 ⟨h2.1, gm_Et E1 (ES h2.2)⟩
end
section
/-! WHAT A DESK IS: 83 numbers (the registers, the base, size, modulus), the history, the slots, the pad -/
abbrev sp_S : Type := (Nat → Int) × (Nat × (Nat → Nat → Int)) × ((Nat → Int) × (Nat → Nat → Int)) × (Nat × (Nat → Int))
/-- a state of the registers is as it should be -/
def zs_ok (Z : Nat → Int) : Prop := (Z 81 = 2 ∨ Z 81 = 3) ∧ (Z 82 = 3 ∨ Z 82 = 5 ∨ Z 82 = 7 ∨ Z 82 = 11) ∧ (∀ r, r < 9 → mx_ok (Z 82) (mx_of Z (9 * r)) ∧ (∀ i j, i < 3 → j < 3 → mx_of Z (9 * r) (3 * i + j) = mx_of Z (9 * r) (3 * j + i)) ∧ ∀ i j, i < 3 → j < 3 → (Z 81).toNat ≤ i → mx_of Z (9 * r) (3 * i + j) = 0) ∧ mx_det (Z 81).toNat (Z 82) (mx_of Z 72) ≠ 0
def sp_ok (s : sp_S) : Prop := zs_ok s.1 ∧ s.2.1.1 ≤ 6 ∧ (∀ i, i < s.2.1.1 → zs_ok (s.2.1.2 i)) ∧ (∀ j, j < 2 → (s.2.2.1.1 j = 0 ∨ s.2.2.1.1 j = 1)) ∧ (∀ j, j < 2 → s.2.2.1.1 j = 1 → zs_ok (s.2.2.1.2 j)) ∧ s.2.2.2.1 ≤ 60 ∧ ∀ i, i < s.2.2.2.1 → 33 ≤ s.2.2.2.2 i ∧ s.2.2.2.2 i ≤ 126
/-- a change is recorded -/
def sp_h (s : sp_S) : Nat := if s.2.1.1 = 6 then 5 else s.2.1.1
def sp_push (s : sp_S) (Z : Nat → Int) : sp_S := (Z, (sp_h s + 1, fun i => if i = sp_h s then s.1 else if s.2.1.1 = 6 then s.2.1.2 (i + 1) else s.2.1.2 i), s.2.2.1, s.2.2.2)
/-- the reference's numbers are this desk -/
def sm_R (s : sp_S) (M : gx_M) : Prop :=
  (∀ k, k < 83 → M 1 k = s.1 k) ∧ M 0 4 = s.2.1.1 ∧ (∀ i k, i < s.2.1.1 → k < 83 → M 2 (83 * i + k) = s.2.1.2 i k) ∧ (∀ j, j < 2 → M 4 j = s.2.2.1.1 j) ∧ (∀ j k, j < 2 → s.2.2.1.1 j = 1 → k < 83 → M 3 (83 * j + k) = s.2.2.1.2 j k) ∧ M 0 6 = s.2.2.2.1 ∧ ∀ i, i < s.2.2.2.1 → M 5 i = s.2.2.2.2 i
def sm_Q (s : sp_S) (M M' : gx_M) : Prop := sm_R s M' ∧ ∀ c, 12 ≤ c → M' c = M c
/-- scratch alone has changed -/
def gm_X (M M' : gx_M) : Prop := (∀ c, (1 ≤ c ∧ c ≤ 5) ∨ 12 ≤ c → M' c = M c) ∧ M' 0 4 = M 0 4 ∧ M' 0 6 = M 0 6
theorem gm_Xr (M : gx_M) : gm_X M M := ⟨fun _ _ => rfl, rfl, rfl⟩
theorem gm_Xt {M M1 M2 : gx_M} (h1 : gm_X M M1) (h2 : gm_X M1 M2) : gm_X M M2 := ⟨fun c h => (h2.1 c h).trans (h1.1 c h), h2.2.1.trans h1.2.1, h2.2.2.trans h1.2.2⟩
theorem gm_XY {M M' : gx_M} (h : gm_Y M M') : gm_X M M' := ⟨fun c hc => h.1 c (by omega) (by omega) (by omega), h.2 4 (by decide), h.2 6 (by decide)⟩
theorem gm_XE {S : Nat → Prop} {M M' : gx_M} (h : gm_E S M M') : gm_X M M' := gm_XY (gm_YE h)
theorem gm_Xb {M : gx_M} {t n : Nat} {f : Nat → Int} : gm_X M (gx_blk M 6 t n f) := gm_XY gm_Y6
theorem sm_X {s : sp_S} {M M' : gx_M} (h : sm_R s M) (hX : gm_X M M') : sm_R s M' := by
  obtain ⟨h1, h2, h3, h4, h5, h6, h7⟩ := h
  obtain ⟨x1, x2, x3⟩ := hX
  have c1 := x1 1 (by omega)
  have c2 := x1 2 (by omega)
  have c3 := x1 3 (by omega)
  have c4 := x1 4 (by omega)
  have c5 := x1 5 (by omega)
  exact ⟨fun k hk => by rw [c1]; exact h1 k hk, x2.trans h2, fun i k hi hk => by rw [c2]; exact h3 i k hi hk, fun j hj => by rw [c4]; exact h4 j hj, fun j k hj hs hk => by rw [c3]; exact h5 j k hj hs hk, x3.trans h6, fun i hi => by rw [c5]; exact h7 i hi⟩
theorem sm_XQ {s : sp_S} {M M' : gx_M} (h : sm_R s M) (hX : gm_X M M') : sm_Q s M M' := ⟨sm_X h hX, fun c hc => hX.1 c (Or.inr hc)⟩
theorem sm_n {s : sp_S} (hs : sp_ok s) : s.1 81 = ((s.1 81).toNat : Int) := by
  have := hs.1.1
  omega
theorem sm_Z {s : sp_S} {M : gx_M} (hs : sp_ok s) (h : sm_R s M) : gm_Z M (s.1 81).toNat (s.1 82) := ⟨by rw [h.1 81 (by omega)]; exact sm_n hs, h.1 82 (by omega), by have := hs.1.1; omega, hs.1.2.1⟩
theorem sm_el {s : sp_S} {M : gx_M} (h : sm_R s M) {r : Nat} (hr : r < 9) : mx_of (M 1) (9 * r) = mx_of s.1 (9 * r) := mx_of_ext (fun k hk => h.1 _ (by omega))
theorem sm_el72 {s : sp_S} {M : gx_M} (h : sm_R s M) : mx_of (M 1) 72 = mx_of s.1 72 := sm_el h (r := 8) (by omega)
theorem sm_ou {s : sp_S} {M : gx_M} (hs : sp_ok s) (h : sm_R s M) : mx_ok (s.1 82) (mx_of (M 1) 72) := by rw [sm_el72 h]; exact (hs.1.2.2.1 8 (by omega)).1
/-- register, base or unit of a state -/
def zs_el (Z : Nat → Int) (r : Nat) : Nat → Int := if r < 9 then mx_of Z (9 * r) else mx_inv (Z 81).toNat (Z 82) (mx_of Z 72)
theorem sm_gel {s : sp_S} {M : gx_M} (h : sm_R s M) {r : Nat} (hr : r < 10) : gm_el M (s.1 81).toNat (s.1 82) r = zs_el s.1 r := by
  unfold gm_el zs_el
  by_cases h1 : r < 8
  · rw [if_pos h1, if_pos (by omega), sm_el h (by omega)]
  · rw [if_neg h1]
    by_cases h2 : r = 8
    · subst h2
      rw [if_pos rfl, if_pos (by omega), sm_el72 h]
    · rw [if_neg h2, if_neg (by omega), sm_el72 h]
theorem zs_el_ok {Z : Nat → Int} (h : zs_ok Z) {r : Nat} : r < 10 → mx_ok (Z 82) (zs_el Z r) := fun hr => by
  unfold zs_el
  split
  · exact (h.2.2.1 r (by omega)).1
  · exact mx_inv_ok (by have := h.2.1; omega) _
set_option maxRecDepth 100000 in
set_option maxHeartbeats 4000000 in
theorem c_X8_record {La : List gx_K} (hM : gm_H La) {M : gx_M} {s : sp_S} (hR : sm_R s M) (hs6 : s.2.1.1 ≤ 6) : gx_Cv La yX8_record wsX8_record 0 [gx_R 0] M (fun M' => sm_Q (sp_push s s.1) M M' ∧ (∀ c, c ≠ 0 → c ≠ 2 → M' c = M c) ∧ ∀ j, j ≠ 4 → M' 0 j = M 0 j) := by
  obtain ⟨h1, h2, h3, h4, h5, h6, h7⟩ := hR
  refine gx_start_v (L := [gx_R 0, gx_U]) (by decide) rfl rfl (Nat.le_of_ble_eq_true rfl) rfl ?_
  intro _ _ _ _ _ _ _ _ _ _ _ _ C
  have rest : ∀ {l D tc ad p e s2 m args below meth c} (M1 : gx_M) (x : gx_V) (C : gx_C p (gx_rm 0) s2 m args meth c cX8_record yX8_record.cls 2 wsX8_record none D tc ad La (gx_A ad La.length s2.heap.size) s2.heap), M1 0 4 = sp_h s → (∀ c, c ≠ 0 → c ≠ 2 → M1 c = M c) → (∀ j, j ≠ 4 → M1 0 j = M 0 j) → (∀ i k, i < sp_h s → k < 83 → M1 2 (83 * i + k) = if s.2.1.1 = 6 then s.2.1.2 (i + 1) k else s.2.1.2 i k) → gx_G p l e (gx_rm 0) s2 m args below meth c 0 0 (MQ below (va_Qv (fun (M' : gx_M) => sm_Q (sp_push s s.1) M M' ∧ (∀ c, c ≠ 0 → c ≠ 2 → M' c = M c) ∧ ∀ j, j ≠ 4 → M' 0 j = M 0 j) (fun M' t => va_P D vwCl (gx_w La tc ad M') t.heap) (gx_A ad La.length s2.heap.size)) args s2 0 0 (gx_A ad La.length s2.heap.size)) 2 D tc ad La (gx_A ad La.length s2.heap.size) s2.heap 49 [gx_R 0, x] [] M1 := by
    intro l D tc ad p e s2 m args below meth c M1 x C g1 g2 g3 g4
    have hh : sp_h s ≤ 5 := by unfold sp_h; split <;> omega
    have c1 : M1 1 = M 1 := g2 1 (by decide) (by decide)
    refine gx_weak (L' := [gx_R 0, gx_U]) ⟨Or.inr rfl, Or.inl rfl, trivial⟩ ?_
    refine gx_iconst C dX8_record_49 ?_
    refine gx_istore_n C dX8_record_50 (by decide) rfl ?_
    refine gx_for 83 (fun k (_ : gx_M) => [gx_R 0, gx_I (k : Int)]) (fun M' => M') (fun k M' => M' = gx_blk M1 2 (83 * sp_h s) k s.1) 0 M1 (by omega) gx_blk_0.symm (fun k M' hk hI ih => ?_) (fun M' hI => ?_)
    · have e1 : M' 0 4 = sp_h s := by rw [hI, gx_blk_nc (by decide)]; exact g1
      have e2 : M' 1 ((k : Int).toNat) = s.1 k := by rw [hI, gx_blk_nc (by decide), c1]; exact h1 k hk
      refine gx_iload_n C dX8_record_51 rfl ?_
      refine gx_bipush C dX8_record_52 rfl ?_
      refine gx_icmp_ge C dX8_record_54 rfl (by unfold gx_3; omega) (by unfold gx_3; omega) (fun hb54 => absurd hb54 (by omega)) (fun hb54 => ?_)
      refine gx_aload_n C dX8_record_57 rfl ?_
      refine gx_getR C 8 _ 1 rfl (gm_0 hM) rfl (by decide) nX8_record_8 (gx_hts C _ fX8_record_13) dX8_record_58 ?_
      refine gx_aload_n C dX8_record_61 rfl ?_
      refine gx_getI C 8 _ 4 rfl (gm_0 hM) rfl (by decide) nX8_record_8 (gx_hts C _ fX8_record_53) dX8_record_62 e1 ?_
      refine gx_bipush C dX8_record_65 rfl ?_
      refine gx_imul C dX8_record_67 ?_
      refine gx_iload_n C dX8_record_68 rfl ?_
      refine gx_iadd C dX8_record_69 ?_
      refine gx_aload_n C dX8_record_70 rfl ?_
      refine gx_getR C 8 _ 0 rfl (gm_0 hM) rfl (by decide) nX8_record_8 (gx_hts C _ fX8_record_7) dX8_record_71 ?_
      refine gx_iload_n C dX8_record_74 rfl ?_
      refine gx_iaload C (gm_1 hM) (by omega) dX8_record_75 e2 ?_
      refine gx_iastore C (gm_2 hM) (by omega) dX8_record_76 (show _ = 83 * sp_h s + k by omega) ?_
      refine gx_iinc C dX8_record_77 (by decide) rfl rfl ?_
      refine gx_goto C dX8_record_80 rfl ?_
      exact ih _ (by rw [hI]; exact gx_blk_s rfl)
    · have e1 : M' 0 4 = sp_h s := by rw [hI, gx_blk_nc (by decide)]; exact g1
      refine gx_iload_n C dX8_record_51 rfl ?_
      refine gx_bipush C dX8_record_52 rfl ?_
      refine gx_icmp_ge C dX8_record_54 rfl (by unfold gx_3; omega) (by unfold gx_3; omega) (fun hb54 => ?_) (fun hb54 => absurd (by omega) hb54)
      refine gx_aload_n C dX8_record_83 rfl ?_
      refine gx_dup C dX8_record_84 rfl ?_
      refine gx_getI C 8 _ 4 rfl (gm_0 hM) rfl (by decide) nX8_record_8 (gx_hts C _ fX8_record_53) dX8_record_85 e1 ?_
      refine gx_iconst C dX8_record_88 ?_
      refine gx_iadd C dX8_record_89 ?_
      refine gx_putI C 8 _ 4 rfl (gm_0 hM) rfl (by decide) nX8_record_8 tyX8 tyX8_ok nmX8 (gx_hts C _ fX8_record_53) rfl rfl dX8_record_90 ?_
      have k2 : ∀ q, gx_u M' 0 4 q 2 = M' 2 := fun q => gx_u_nc (by decide)
      have fin : sm_Q (sp_push s s.1) M (gx_u M' 0 4 ((sp_h s : Int) + 1)) ∧ (∀ c, c ≠ 0 → c ≠ 2 → gx_u M' 0 4 ((sp_h s : Int) + 1) c = M c) ∧ ∀ j, j ≠ 4 → gx_u M' 0 4 ((sp_h s : Int) + 1) 0 j = M 0 j := by
        have f0 : ∀ c, c ≠ 0 → c ≠ 2 → gx_u M' 0 4 ((sp_h s : Int) + 1) c = M c := fun c a b => by rw [gx_u_nc a, hI, gx_blk_nc b, g2 c a b]
        have f1 : ∀ j, j ≠ 4 → gx_u M' 0 4 ((sp_h s : Int) + 1) 0 j = M 0 j := fun j hj => by rw [gx_u_ne (by omega), hI, gx_blk_nc (by decide), g3 j hj]
        refine ⟨⟨⟨fun k hk => by rw [f0 1 (by decide) (by decide)]; exact h1 k hk, by rw [gx_u_eq]; rfl, fun i k hi hk => ?_, fun j hj => by rw [f0 4 (by decide) (by decide)]; exact h4 j hj, fun j k hj hs hk => by rw [f0 3 (by decide) (by decide)]; exact h5 j k hj hs hk, by rw [f1 6 (by decide)]; exact h6, fun i hi => by rw [f0 5 (by decide) (by decide)]; exact h7 i hi⟩, fun c hc => f0 c (by omega) (by omega)⟩, f0, f1⟩
        have hi' : i < sp_h s + 1 := hi
        rw [k2, hI]
        show _ = (if i = sp_h s then s.1 else if s.2.1.1 = 6 then s.2.1.2 (i + 1) else s.2.1.2 i) k
        by_cases e : i = sp_h s
        · rw [if_pos e, e, gx_blk_in hk]
        · rw [if_neg e, gx_blk_out (by omega), g4 i k (by omega) hk]
          split <;> rfl
      exact gx_vret C dX8_record_93 fin
  refine gx_aload_n C dX8_record_0 rfl ?_
  refine gx_getI C 8 _ 4 rfl (gm_0 hM) rfl (by decide) nX8_record_8 (gx_hts C _ fX8_record_53) dX8_record_1 h2 ?_
  refine gx_bipush C dX8_record_4 rfl ?_
  refine gx_icmp_ne C dX8_record_6 rfl (by unfold gx_3; omega) (by unfold gx_3; omega) (fun hb6 => ?_) (fun hb6 => ?_)
  · exact rest M gx_U C (by rw [h2]; unfold sp_h; rw [if_neg (by omega)]) (fun _ _ _ => rfl) (fun _ _ => rfl) (fun i k hi hk => by
      have hn6 : s.2.1.1 ≠ 6 := by omega
      have hi2 : i < s.2.1.1 := by unfold sp_h at hi; rw [if_neg hn6] at hi; exact hi
      rw [if_neg hn6]
      exact h3 i k hi2 hk)
  · have hn6 : s.2.1.1 = 6 := by omega
    refine gx_iconst C dX8_record_9 ?_
    refine gx_istore_n C dX8_record_10 (by decide) rfl ?_
    refine gx_for 415 (fun k (_ : gx_M) => [gx_R 0, gx_I (k : Int)]) (fun M' => M') (fun k M' => M' = gx_blk M 2 0 k (fun i => M 2 (i + 83))) 0 M (by omega) gx_blk_0.symm (fun k M' hk hI ih => ?_) (fun M' hI => ?_)
    · have e2 : M' 2 (((k : Int) + 83).toNat) = M 2 (k + 83) := by rw [hI, show ((k : Int) + 83).toNat = k + 83 by omega]; exact gx_blk_out (by omega)
      refine gx_iload_n C dX8_record_11 rfl ?_
      refine gx_sipush C dX8_record_12 rfl ?_
      refine gx_icmp_ge C dX8_record_15 rfl (by unfold gx_3; omega) (by unfold gx_3; omega) (fun hb15 => absurd hb15 (by omega)) (fun hb15 => ?_)
      refine gx_aload_n C dX8_record_18 rfl ?_
      refine gx_getR C 8 _ 1 rfl (gm_0 hM) rfl (by decide) nX8_record_8 (gx_hts C _ fX8_record_13) dX8_record_19 ?_
      refine gx_iload_n C dX8_record_22 rfl ?_
      refine gx_aload_n C dX8_record_23 rfl ?_
      refine gx_getR C 8 _ 1 rfl (gm_0 hM) rfl (by decide) nX8_record_8 (gx_hts C _ fX8_record_13) dX8_record_24 ?_
      refine gx_iload_n C dX8_record_27 rfl ?_
      refine gx_bipush C dX8_record_28 rfl ?_
      refine gx_iadd C dX8_record_30 ?_
      refine gx_iaload C (gm_2 hM) (by omega) dX8_record_31 e2 ?_
      refine gx_iastore C (gm_2 hM) (by omega) dX8_record_32 (show _ = 0 + k by omega) ?_
      refine gx_iinc C dX8_record_33 (by decide) rfl rfl ?_
      refine gx_goto C dX8_record_36 rfl ?_
      exact ih _ (by rw [hI]; exact gx_blk_s rfl)
    · have e1 : M' 0 4 = 6 := by rw [hI, gx_blk_nc (by decide), h2, hn6]; rfl
      refine gx_iload_n C dX8_record_11 rfl ?_
      refine gx_sipush C dX8_record_12 rfl ?_
      refine gx_icmp_ge C dX8_record_15 rfl (by unfold gx_3; omega) (by unfold gx_3; omega) (fun hb15 => ?_) (fun hb15 => absurd (by omega) hb15)
      refine gx_aload_n C dX8_record_39 rfl ?_
      refine gx_dup C dX8_record_40 rfl ?_
      refine gx_getI C 8 _ 4 rfl (gm_0 hM) rfl (by decide) nX8_record_8 (gx_hts C _ fX8_record_53) dX8_record_41 e1 ?_
      refine gx_iconst C dX8_record_44 ?_
      refine gx_isub C dX8_record_45 ?_
      refine gx_putI C 8 _ 4 rfl (gm_0 hM) rfl (by decide) nX8_record_8 tyX8 tyX8_ok nmX8 (gx_hts C _ fX8_record_53) rfl rfl dX8_record_46 ?_
      refine rest _ _ C (by rw [gx_u_eq]; unfold sp_h; rw [if_pos hn6]; rfl) (fun c a b => by rw [gx_u_nc a, hI, gx_blk_nc b]) (fun j hj => by rw [gx_u_ne (by omega), hI, gx_blk_nc (by decide)]) (fun i k hi hk => ?_)
      have hi2 : i < 5 := by unfold sp_h at hi; rw [if_pos hn6] at hi; exact hi
      rw [if_pos hn6, gx_u_nc (by decide), hI]
      have := gx_blk_in (M := M) (c := 2) (o := 0) (n := 415) (k := 83 * i + k) (f := fun i => M 2 (i + 83)) (by omega)
      rw [Nat.zero_add] at this
      rw [this, show 83 * i + k + 83 = 83 * (i + 1) + k by omega]
      exact h3 (i + 1) k (by omega) hk
/-- all 0, the base the identity matrix -/
def zs_new (n m : Int) : Nat → Int := fun k => if k = 81 then n else if k = 82 then m else if 72 ≤ k ∧ (k - 72) % 4 = 0 ∧ (((k - 72) / 4 : Nat) : Int) < n then 1 else 0
set_option maxRecDepth 100000 in
set_option maxHeartbeats 4000000 in
theorem c_X8_clear {La : List gx_K} (hM : gm_H La) {M : gx_M} {n m : Int} (hn : n = 2 ∨ n = 3) : gx_Cv La yX8_clear wsX8_clear 0 [gx_R 0, gx_I n, gx_I m] M (fun M' => M' = gx_blk M 1 0 83 (zs_new n m)) := by
  refine gx_start_v (L := [gx_R 0, gx_I n, gx_I m, gx_U]) (by decide) rfl rfl (Nat.le_of_ble_eq_true rfl) rfl ?_
  intro _ _ _ _ _ _ _ _ _ _ _ _ C
  refine gx_iconst C dX8_clear_0 ?_
  refine gx_istore_n C dX8_clear_1 (by decide) rfl ?_
  refine gx_for 83 (fun k (_ : gx_M) => [gx_R 0, gx_I n, gx_I m, gx_I (k : Int)]) (fun M' => M') (fun k M' => M' = gx_blk M 1 0 k (fun _ => 0)) 0 M (by omega) gx_blk_0.symm (fun k M' hk hI ih => ?_) (fun M' hI => ?_)
  · refine gx_iload_n C dX8_clear_2 rfl ?_
    refine gx_bipush C dX8_clear_3 rfl ?_
    refine gx_icmp_ge C dX8_clear_5 rfl (by unfold gx_3; omega) (by unfold gx_3; omega) (fun hb5 => absurd hb5 (by omega)) (fun hb5 => ?_)
    refine gx_aload_n C dX8_clear_8 rfl ?_
    refine gx_getR C 8 _ 0 rfl (gm_0 hM) rfl (by decide) nX8_clear_8 (gx_hts C _ fX8_clear_7) dX8_clear_9 ?_
    refine gx_iload_n C dX8_clear_12 rfl ?_
    refine gx_iconst C dX8_clear_13 ?_
    refine gx_iastore C (gm_1 hM) (by omega) dX8_clear_14 (show _ = 0 + k by omega) ?_
    refine gx_iinc C dX8_clear_15 (by decide) rfl rfl ?_
    refine gx_goto C dX8_clear_18 rfl ?_
    exact ih _ (by rw [hI]; exact gx_blk_s rfl)
  · refine gx_iload_n C dX8_clear_2 rfl ?_
    refine gx_bipush C dX8_clear_3 rfl ?_
    refine gx_icmp_ge C dX8_clear_5 rfl (by unfold gx_3; omega) (by unfold gx_3; omega) (fun hb5 => ?_) (fun hb5 => absurd (by omega) hb5)
    refine gx_aload_n C dX8_clear_21 rfl ?_
    refine gx_getR C 8 _ 0 rfl (gm_0 hM) rfl (by decide) nX8_clear_8 (gx_hts C _ fX8_clear_7) dX8_clear_22 ?_
    refine gx_bipush C dX8_clear_25 rfl ?_
    refine gx_iload_n C dX8_clear_27 rfl ?_
    refine gx_iastore C (gm_1 hM) (by omega) dX8_clear_28 (show _ = 0 + 81 by rfl) ?_
    refine gx_aload_n C dX8_clear_29 rfl ?_
    refine gx_getR C 8 _ 0 rfl (gm_0 hM) rfl (by decide) nX8_clear_8 (gx_hts C _ fX8_clear_7) dX8_clear_30 ?_
    refine gx_bipush C dX8_clear_33 rfl ?_
    refine gx_iload_n C dX8_clear_35 rfl ?_
    refine gx_iastore C (gm_1 hM) (by omega) dX8_clear_36 (show _ = 0 + 82 by rfl) ?_
    refine gx_iconst C dX8_clear_37 ?_
    refine gx_istore_n C dX8_clear_38 (by decide) rfl ?_
    rw [hI, gx_blk_u (by omega), gx_blk_u (by omega)]
    refine gx_for n.toNat (fun k (_ : gx_M) => [gx_R 0, gx_I n, gx_I m, gx_I (k : Int)]) (fun M' => M') (fun k M' => M' = gx_blk M 1 0 83 (fun i => if i = 81 then n else if i = 82 then m else if 72 ≤ i ∧ (i - 72) % 4 = 0 ∧ (i - 72) / 4 < k then 1 else 0)) 0 _ (by omega) (gx_blk_f (fun i hi => by
      by_cases q1 : i = 81
      · rw [if_neg (by omega), if_pos q1, if_pos q1]
      · rw [if_neg q1]
        by_cases q2 : i = 82
        · rw [if_pos q2, if_neg q1, if_pos q2]
        · rw [if_neg q2, if_neg q1, if_neg q2, if_neg (by omega)])) (fun k M' hk hI ih => ?_) (fun M' hI => ?_)
    · refine gx_iload_n C dX8_clear_39 rfl ?_
      refine gx_iload_n C dX8_clear_40 rfl ?_
      refine gx_icmp_ge C dX8_clear_41 rfl (by unfold gx_3; omega) (by unfold gx_3; omega) (fun hb41 => absurd hb41 (by omega)) (fun hb41 => ?_)
      refine gx_aload_n C dX8_clear_44 rfl ?_
      refine gx_getR C 8 _ 0 rfl (gm_0 hM) rfl (by decide) nX8_clear_8 (gx_hts C _ fX8_clear_7) dX8_clear_45 ?_
      refine gx_bipush C dX8_clear_48 rfl ?_
      refine gx_iconst C dX8_clear_50 ?_
      refine gx_iload_n C dX8_clear_51 rfl ?_
      refine gx_imul C dX8_clear_52 ?_
      refine gx_iadd C dX8_clear_53 ?_
      refine gx_iconst C dX8_clear_54 ?_
      refine gx_iastore C (gm_1 hM) (by omega) dX8_clear_55 (show _ = 0 + (72 + 4 * k) by omega) ?_
      refine gx_iinc C dX8_clear_56 (by decide) rfl rfl ?_
      refine gx_goto C dX8_clear_59 rfl ?_
      refine ih _ ?_
      rw [hI, gx_blk_u (by omega)]
      refine gx_blk_f (fun i hi => ?_)
      by_cases q : i = 72 + 4 * k
      · rw [if_pos q, if_neg (by omega), if_neg (by omega), if_pos (by omega)]
      · rw [if_neg q]
        by_cases q1 : i = 81
        · rw [if_pos q1, if_pos q1]
        · rw [if_neg q1, if_neg q1]
          by_cases q2 : i = 82
          · rw [if_pos q2, if_pos q2]
          · rw [if_neg q2, if_neg q2]
            by_cases q3 : 72 ≤ i ∧ (i - 72) % 4 = 0 ∧ (i - 72) / 4 < k
            · rw [if_pos q3, if_pos (by omega)]
            · rw [if_neg q3, if_neg (by omega)]
    · have hf : M' = gx_blk M 1 0 83 (zs_new n m) := by
        rw [hI]
        refine gx_blk_f (fun i hi => ?_)
        unfold zs_new
        by_cases q1 : i = 81
        · rw [if_pos q1, if_pos q1]
        · rw [if_neg q1, if_neg q1]
          by_cases q2 : i = 82
          · rw [if_pos q2, if_pos q2]
          · rw [if_neg q2, if_neg q2]
            by_cases q3 : 72 ≤ i ∧ (i - 72) % 4 = 0 ∧ (i - 72) / 4 < n.toNat
            · rw [if_pos q3, if_pos (by omega)]
            · rw [if_neg q3, if_neg (by omega)]
      refine gx_iload_n C dX8_clear_39 rfl ?_
      refine gx_iload_n C dX8_clear_40 rfl ?_
      refine gx_icmp_ge C dX8_clear_41 rfl (by unfold gx_3; omega) (by unfold gx_3; omega) (fun hb41 => ?_) (fun hb41 => absurd (by omega) hb41)
      exact gx_vret C dX8_clear_62 hf
end
section
/-! WHAT THE CALLS ANSWER: for each call, from a desk s with its arguments, the answer z and the desk behind it -/
def sp_undo (s : sp_S) (z : Int) (s' : sp_S) : Prop :=
  if s.2.1.1 = 0 then z = -5 ∧ s' = s else z = (s.2.1.1 : Int) - 1 ∧ s' = (s.2.1.2 (s.2.1.1 - 1), (s.2.1.1 - 1, s.2.1.2), s.2.2.1, s.2.2.2)
def sp_save (s : sp_S) (j : Int) (z : Int) (s' : sp_S) : Prop :=
  if 0 ≤ j ∧ j ≤ 1 then z = s.1 81 ∧ s' = (s.1, s.2.1, (fun (i : Nat) => if (i : Int) = j then 1 else s.2.2.1.1 i, fun (i : Nat) => if (i : Int) = j then s.1 else s.2.2.1.2 i), s.2.2.2) else z = -2 ∧ s' = s
def sp_restore (s : sp_S) (j : Int) (z : Int) (s' : sp_S) : Prop :=
  if 0 ≤ j ∧ j ≤ 1 then (if s.2.2.1.1 j.toNat = 1 then z = s.2.2.1.2 j.toNat 81 ∧ s' = sp_push s (s.2.2.1.2 j.toNat) else z = -5 ∧ s' = s) else z = -2 ∧ s' = s
def sp_begin (s : sp_S) (a b : Int) (z : Int) (s' : sp_S) : Prop :=
  if (a = 2 ∨ a = 3) ∧ (b = 3 ∨ b = 5 ∨ b = 7 ∨ b = 11) then z = s.1 81 ∧ s' = sp_push s (zs_new a b) else z = -2 ∧ s' = s
/-- a number of a register changed, and the one across -/
def zs_set (Z : Nat → Int) (r i j : Nat) (v : Int) : Nat → Int := fun k => if k = 9 * r + 3 * j + i then v else if k = 9 * r + 3 * i + j then v else Z k
def sp_set (s : sp_S) (r i j v : Int) (z : Int) (s' : sp_S) : Prop :=
  if (0 ≤ r ∧ r ≤ 7) ∧ (0 ≤ i ∧ i < s.1 81 ∧ 0 ≤ j ∧ j < s.1 81) then (if 0 ≤ v ∧ v < s.1 82 then z = mx_of s.1 (9 * r.toNat) (3 * i.toNat + j.toNat) ∧ s' = sp_push s (zs_set s.1 r.toNat i.toNat j.toNat v) else z = -2 ∧ s' = s) else z = -1 ∧ s' = s
def mx_id (n : Int) : Nat → Int := fun k => if k % 4 = 0 ∧ ((k / 4 : Nat) : Int) < n then 1 else 0
def zs_put (Z : Nat → Int) (o : Nat) (f : Nat → Int) : Nat → Int := fun k => if o ≤ k ∧ k < o + 9 then f (k - o) else Z k
def sp_bel (s : sp_S) (r : Int) : Nat → Int := if r = -6 then mx_id (s.1 81) else mx_of s.1 (9 * r.toNat)
def sp_base (s : sp_S) (r : Int) (z : Int) (s' : sp_S) : Prop :=
  if r = -6 ∨ (0 ≤ r ∧ r ≤ 7) then (if mx_det (s.1 81).toNat (s.1 82) (sp_bel s r) = 0 then z = -5 ∧ s' = s else z = mx_det (s.1 81).toNat (s.1 82) (sp_bel s r) ∧ s' = sp_push s (zs_put s.1 72 (sp_bel s r))) else z = -1 ∧ s' = s
theorem sm_Rp {s : sp_S} {Z : Nat → Int} {M M1 : gx_M} (h : sm_R (sp_push s s.1) M) (h1 : ∀ k, k < 83 → M1 1 k = Z k) (h2 : ∀ c, c ≠ 1 → (c ≤ 5) → M1 c = M c) : sm_R (sp_push s Z) M1 := by
  obtain ⟨a1, a2, a3, a4, a5, a6, a7⟩ := h
  exact ⟨h1, by rw [h2 0 (by decide) (by decide)]; exact a2, fun i k hi hk => by rw [h2 2 (by decide) (by decide)]; exact a3 i k hi hk, fun j hj => by rw [h2 4 (by decide) (by decide)]; exact a4 j hj, fun j k hj hs hk => by rw [h2 3 (by decide) (by decide)]; exact a5 j k hj hs hk, by rw [h2 0 (by decide) (by decide)]; exact a6, fun i hi => by rw [h2 5 (by decide) (by decide)]; exact a7 i hi⟩
set_option maxRecDepth 100000 in
set_option maxHeartbeats 4000000 in
theorem c_X8_undo {La : List gx_K} (hM : gm_H La) {M : gx_M} {s : sp_S} (hs : sp_ok s) (hR : sm_R s M) : gx_Ci La yX8_undo wsX8_undo 0 [gx_R 0] M (fun z M' => ∃ s', sp_undo s z s' ∧ sm_Q s' M M') := by
  have hR0 := hR
  obtain ⟨h1, h2, h3, h4, h5, h6, h7⟩ := hR
  have hs6 := hs.2.1
  refine gx_start_i (L := [gx_R 0, gx_U]) (by decide) rfl rfl (Nat.le_of_ble_eq_true rfl) rfl ?_
  intro _ _ _ _ _ _ _ _ _ _ _ _ C
  refine gx_aload_n C dX8_undo_0 rfl ?_
  refine gx_getI C 8 _ 4 rfl (gm_0 hM) rfl (by decide) nX8_undo_8 (gx_hts C _ fX8_undo_53) dX8_undo_1 h2 ?_
  refine gx_if_ne C dX8_undo_4 rfl (by unfold gx_3; omega) (fun hb4 => ?_) (fun hb4 => ?_)
  · have hn : 0 < s.2.1.1 := by omega
    refine gx_aload_n C dX8_undo_10 rfl ?_
    refine gx_dup C dX8_undo_11 rfl ?_
    refine gx_getI C 8 _ 4 rfl (gm_0 hM) rfl (by decide) nX8_undo_8 (gx_hts C _ fX8_undo_53) dX8_undo_12 h2 ?_
    refine gx_iconst C dX8_undo_15 ?_
    refine gx_isub C dX8_undo_16 ?_
    refine gx_putI C 8 _ 4 rfl (gm_0 hM) rfl (by decide) nX8_undo_8 tyX8 tyX8_ok nmX8 (gx_hts C _ fX8_undo_53) rfl rfl dX8_undo_17 ?_
    refine gx_iconst C dX8_undo_20 ?_
    refine gx_istore_n C dX8_undo_21 (by decide) rfl ?_
    have f1 : ∀ j, j ≠ 4 → gx_u M 0 4 ((s.2.1.1 : Int) - 1) 0 j = M 0 j := fun j hj => gx_u_ne (by omega)
    refine gx_for 83 (fun k (_ : gx_M) => [gx_R 0, gx_I (k : Int)]) (fun M' => M') (fun k M' => M' = gx_blk (gx_u M 0 4 ((s.2.1.1 : Int) - 1)) 1 0 k (s.2.1.2 (s.2.1.1 - 1))) 0 _ (by omega) gx_blk_0.symm (fun k M' hk hI ih => ?_) (fun M' hI => ?_)
    · have e1 : M' 0 4 = (s.2.1.1 : Int) - 1 := by rw [hI, gx_blk_nc (by decide), gx_u_eq]
      have e2 : M' 2 ((((s.2.1.1 : Int) - 1) * 83 + (k : Int)).toNat) = s.2.1.2 (s.2.1.1 - 1) k := by
        rw [hI, gx_blk_nc (by decide), gx_u_nc (by decide), show (((s.2.1.1 : Int) - 1) * 83 + (k : Int)).toNat = 83 * (s.2.1.1 - 1) + k by omega]
        exact h3 _ k (by omega) hk
      refine gx_iload_n C dX8_undo_22 rfl ?_
      refine gx_bipush C dX8_undo_23 rfl ?_
      refine gx_icmp_ge C dX8_undo_25 rfl (by unfold gx_3; omega) (by unfold gx_3; omega) (fun hb25 => absurd hb25 (by omega)) (fun hb25 => ?_)
      refine gx_aload_n C dX8_undo_28 rfl ?_
      refine gx_getR C 8 _ 0 rfl (gm_0 hM) rfl (by decide) nX8_undo_8 (gx_hts C _ fX8_undo_7) dX8_undo_29 ?_
      refine gx_iload_n C dX8_undo_32 rfl ?_
      refine gx_aload_n C dX8_undo_33 rfl ?_
      refine gx_getR C 8 _ 1 rfl (gm_0 hM) rfl (by decide) nX8_undo_8 (gx_hts C _ fX8_undo_13) dX8_undo_34 ?_
      refine gx_aload_n C dX8_undo_37 rfl ?_
      refine gx_getI C 8 _ 4 rfl (gm_0 hM) rfl (by decide) nX8_undo_8 (gx_hts C _ fX8_undo_53) dX8_undo_38 e1 ?_
      refine gx_bipush C dX8_undo_41 rfl ?_
      refine gx_imul C dX8_undo_43 ?_
      refine gx_iload_n C dX8_undo_44 rfl ?_
      refine gx_iadd C dX8_undo_45 ?_
      refine gx_iaload C (gm_2 hM) (by omega) dX8_undo_46 e2 ?_
      refine gx_iastore C (gm_1 hM) (by omega) dX8_undo_47 (show _ = 0 + k by omega) ?_
      refine gx_iinc C dX8_undo_48 (by decide) rfl rfl ?_
      refine gx_goto C dX8_undo_51 rfl ?_
      exact ih _ (by rw [hI]; exact gx_blk_s rfl)
    · have e1 : M' 0 4 = (s.2.1.1 : Int) - 1 := by rw [hI, gx_blk_nc (by decide), gx_u_eq]
      have f0 : ∀ c, c ≠ 0 → c ≠ 1 → M' c = M c := fun c a b => by rw [hI, gx_blk_nc b, gx_u_nc a]
      have f2 : ∀ j, j ≠ 4 → M' 0 j = M 0 j := fun j hj => by rw [hI, gx_blk_nc (by decide)]; exact f1 j hj
      have fin : sm_Q (s.2.1.2 (s.2.1.1 - 1), (s.2.1.1 - 1, s.2.1.2), s.2.2.1, s.2.2.2) M M' := by
        refine ⟨⟨fun k hk => ?_, by rw [e1]; show _ = ((s.2.1.1 - 1 : Nat) : Int); omega, fun i k hi hk => ?_, fun j hj => by rw [f0 4 (by decide) (by decide)]; exact h4 j hj, fun j k hj hs hk => by rw [f0 3 (by decide) (by decide)]; exact h5 j k hj hs hk, by rw [f2 6 (by decide)]; exact h6, fun i hi => by rw [f0 5 (by decide) (by decide)]; exact h7 i hi⟩, fun c hc => f0 c (by omega) (by omega)⟩
        · rw [hI]
          have := gx_blk_in (M := gx_u M 0 4 ((s.2.1.1 : Int) - 1)) (c := 1) (o := 0) (n := 83) (k := k) (f := s.2.1.2 (s.2.1.1 - 1)) hk
          rw [Nat.zero_add] at this
          exact this
        · have hi2 : i < s.2.1.1 - 1 := hi
          rw [f0 2 (by decide) (by decide)]
          exact h3 i k (by omega) hk
      refine gx_iload_n C dX8_undo_22 rfl ?_
      refine gx_bipush C dX8_undo_23 rfl ?_
      refine gx_icmp_ge C dX8_undo_25 rfl (by unfold gx_3; omega) (by unfold gx_3; omega) (fun hb25 => ?_) (fun hb25 => absurd (by omega) hb25)
      refine gx_aload_n C dX8_undo_54 rfl ?_
      refine gx_getI C 8 _ 4 rfl (gm_0 hM) rfl (by decide) nX8_undo_8 (gx_hts C _ fX8_undo_53) dX8_undo_55 e1 ?_
      exact gx_iret C dX8_undo_58 ⟨_, by unfold sp_undo; rw [if_neg (by omega)]; exact ⟨rfl, rfl⟩, fin⟩
  · refine gx_bipush C dX8_undo_7 rfl ?_
    exact gx_iret C dX8_undo_9 ⟨s, by unfold sp_undo; rw [if_pos (by omega)]; exact ⟨rfl, rfl⟩, sm_XQ hR0 (gm_Xr M)⟩
set_option maxRecDepth 100000 in
set_option maxHeartbeats 4000000 in
theorem c_X8_save {La : List gx_K} (hM : gm_H La) {M : gx_M} {s : sp_S} (hs : sp_ok s) (hR : sm_R s M) {x : Int} (hx : gx_3 x) : gx_Ci La yX8_save wsX8_save 1 [gx_R 0, gx_I x] M (fun z M' => ∃ s', sp_save s x z s' ∧ sm_Q s' M M') := by
  have hR0 := hR
  obtain ⟨h1, h2, h3, h4, h5, h6, h7⟩ := hR
  refine gx_start_i (L := [gx_R 0, gx_I x, gx_U]) (by decide) rfl rfl (Nat.le_of_ble_eq_true rfl) rfl ?_
  intro _ _ _ _ _ _ _ _ _ _ _ _ C
  refine gx_iload_n C dX8_save_0 rfl ?_
  refine gx_iconst C dX8_save_1 ?_
  refine gx_iconst C dX8_save_2 ?_
  refine gx_statI C (c_X8_in hx (by unfold gx_3; omega) (by unfold gx_3; omega)) (cwS 3 (gx_hts C) gX8_save_X8_in rfl rfl rfl (by decide +kernel) ⟨Nat.le_of_ble_eq_true rfl, Nat.le_of_ble_eq_true rfl⟩) rfl rfl (Nat.le_of_ble_eq_true rfl) ⟨Nat.le_refl _, Nat.le_refl _⟩ dX8_save_3 (fun z M1 hz => ?_)
  obtain ⟨rfl, hz⟩ := hz
  by_cases hq : 0 ≤ x ∧ x ≤ 1
  · rw [if_pos hq] at hz
    subst hz
    obtain ⟨j, rfl⟩ : ∃ j : Nat, x = j := ⟨x.toNat, by omega⟩
    have hj2 : j < 2 := by omega
    refine gx_if_ne C dX8_save_6 rfl (by unfold gx_3; omega) (fun hb6 => ?_) (fun hb6 => absurd (by omega) hb6)
    refine gx_aload_n C dX8_save_12 rfl ?_
    refine gx_getR C 8 _ 3 rfl (gm_0 hM) rfl (by decide) nX8_save_8 (gx_hts C _ fX8_save_19) dX8_save_13 ?_
    refine gx_iload_n C dX8_save_16 rfl ?_
    refine gx_iconst C dX8_save_17 ?_
    refine gx_bastore C (gm_4 hM) (by omega) (by omega) dX8_save_18 (show _ = j by omega) ?_
    refine gx_iconst C dX8_save_19 ?_
    refine gx_istore_n C dX8_save_20 (by decide) rfl ?_
    refine gx_for 83 (fun k (_ : gx_M) => [gx_R 0, gx_I (j : Int), gx_I (k : Int)]) (fun M' => M') (fun k M' => M' = gx_blk (gx_u M1 4 j 1) 3 (83 * j) k s.1) 0 _ (by omega) gx_blk_0.symm (fun k M' hk hI ih => ?_) (fun M' hI => ?_)
    · have e2 : M' 1 ((k : Int).toNat) = s.1 k := by rw [hI, gx_blk_nc (by decide), gx_u_nc (by decide)]; exact h1 k hk
      refine gx_iload_n C dX8_save_21 rfl ?_
      refine gx_bipush C dX8_save_22 rfl ?_
      refine gx_icmp_ge C dX8_save_24 rfl (by unfold gx_3; omega) (by unfold gx_3; omega) (fun hb24 => absurd hb24 (by omega)) (fun hb24 => ?_)
      refine gx_aload_n C dX8_save_27 rfl ?_
      refine gx_getR C 8 _ 2 rfl (gm_0 hM) rfl (by decide) nX8_save_8 (gx_hts C _ fX8_save_16) dX8_save_28 ?_
      refine gx_iload_n C dX8_save_31 rfl ?_
      refine gx_bipush C dX8_save_32 rfl ?_
      refine gx_imul C dX8_save_34 ?_
      refine gx_iload_n C dX8_save_35 rfl ?_
      refine gx_iadd C dX8_save_36 ?_
      refine gx_aload_n C dX8_save_37 rfl ?_
      refine gx_getR C 8 _ 0 rfl (gm_0 hM) rfl (by decide) nX8_save_8 (gx_hts C _ fX8_save_7) dX8_save_38 ?_
      refine gx_iload_n C dX8_save_41 rfl ?_
      refine gx_iaload C (gm_1 hM) (by omega) dX8_save_42 e2 ?_
      refine gx_iastore C (gm_3 hM) (by omega) dX8_save_43 (show _ = 83 * j + k by omega) ?_
      refine gx_iinc C dX8_save_44 (by decide) rfl rfl ?_
      refine gx_goto C dX8_save_47 rfl ?_
      exact ih _ (by rw [hI]; exact gx_blk_s rfl)
    · have e2 : M' 1 ((81 : Int).toNat) = s.1 81 := by rw [hI, gx_blk_nc (by decide), gx_u_nc (by decide)]; exact h1 81 (by omega)
      have f0 : ∀ c, c ≠ 3 → c ≠ 4 → M' c = M1 c := fun c a b => by rw [hI, gx_blk_nc a, gx_u_nc b]
      have fin : sm_Q (s.1, s.2.1, (fun (i : Nat) => if (i : Int) = (j : Int) then 1 else s.2.2.1.1 i, fun (i : Nat) => if (i : Int) = (j : Int) then s.1 else s.2.2.1.2 i), s.2.2.2) M1 M' := by
        refine ⟨⟨fun k hk => by rw [f0 1 (by decide) (by decide)]; exact h1 k hk, by rw [f0 0 (by decide) (by decide)]; exact h2, fun i k hi hk => by rw [f0 2 (by decide) (by decide)]; exact h3 i k hi hk, fun i hi => ?_, fun i k hi hsv hk => ?_, by rw [f0 0 (by decide) (by decide)]; exact h6, fun i hi => by rw [f0 5 (by decide) (by decide)]; exact h7 i hi⟩, fun c hc => f0 c (by omega) (by omega)⟩
        · rw [hI, gx_blk_nc (by decide)]
          show _ = if (i : Int) = (j : Int) then 1 else s.2.2.1.1 i
          by_cases e : i = j
          · rw [if_pos (by omega), e, gx_u_eq]
          · rw [if_neg (by omega), gx_u_ne (by omega)]
            exact h4 i hi
        · rw [hI]
          show _ = (if (i : Int) = (j : Int) then s.1 else s.2.2.1.2 i) k
          by_cases e : i = j
          · rw [if_pos (by omega), e, gx_blk_in hk]
          · have hsv2 : (if (i : Int) = (j : Int) then 1 else s.2.2.1.1 i) = 1 := hsv
            rw [if_neg (by omega)] at hsv2
            rw [if_neg (by omega), gx_blk_out (by omega), gx_u_nc (by decide)]
            exact h5 i k hi hsv2 hk
      refine gx_iload_n C dX8_save_21 rfl ?_
      refine gx_bipush C dX8_save_22 rfl ?_
      refine gx_icmp_ge C dX8_save_24 rfl (by unfold gx_3; omega) (by unfold gx_3; omega) (fun hb24 => ?_) (fun hb24 => absurd (by omega) hb24)
      refine gx_aload_n C dX8_save_50 rfl ?_
      refine gx_getR C 8 _ 0 rfl (gm_0 hM) rfl (by decide) nX8_save_8 (gx_hts C _ fX8_save_7) dX8_save_51 ?_
      refine gx_bipush C dX8_save_54 rfl ?_
      refine gx_iaload C (gm_1 hM) (by omega) dX8_save_56 e2 ?_
      exact gx_iret C dX8_save_57 ⟨_, by unfold sp_save; rw [if_pos hq]; exact ⟨rfl, rfl⟩, fin⟩
  · rw [if_neg hq] at hz
    subst hz
    refine gx_if_ne C dX8_save_6 rfl (by unfold gx_3; omega) (fun hb6 => absurd hb6 (by omega)) (fun hb6 => ?_)
    refine gx_bipush C dX8_save_9 rfl ?_
    exact gx_iret C dX8_save_11 ⟨s, by unfold sp_save; rw [if_neg hq]; exact ⟨rfl, rfl⟩, sm_XQ hR0 (gm_Xr M1)⟩
theorem gx_b0 {M : gx_M} {c n k : Nat} {f : Nat → Int} (h : k < n) : gx_blk M c 0 n f c k = f k := by
  have := gx_blk_in (M := M) (c := c) (o := 0) (n := n) (k := k) (f := f) h
  rwa [Nat.zero_add] at this
set_option maxRecDepth 100000 in
set_option maxHeartbeats 4000000 in
theorem c_X8_restore {La : List gx_K} (hM : gm_H La) {M : gx_M} {s : sp_S} (hs : sp_ok s) (hR : sm_R s M) {x : Int} (hx : gx_3 x) : gx_Ci La yX8_restore wsX8_restore 1 [gx_R 0, gx_I x] M (fun z M' => ∃ s', sp_restore s x z s' ∧ sm_Q s' M M') := by
  have hR0 := hR
  obtain ⟨h1, h2, h3, h4, h5, h6, h7⟩ := hR
  refine gx_start_i (L := [gx_R 0, gx_I x, gx_U]) (by decide) rfl rfl (Nat.le_of_ble_eq_true rfl) rfl ?_
  intro _ _ _ _ _ _ _ _ _ _ _ _ C
  refine gx_iload_n C dX8_restore_0 rfl ?_
  refine gx_iconst C dX8_restore_1 ?_
  refine gx_iconst C dX8_restore_2 ?_
  refine gx_statI C (c_X8_in hx (by unfold gx_3; omega) (by unfold gx_3; omega)) (cwS 3 (gx_hts C) gX8_restore_X8_in rfl rfl rfl (by decide +kernel) ⟨Nat.le_of_ble_eq_true rfl, Nat.le_of_ble_eq_true rfl⟩) rfl rfl (Nat.le_of_ble_eq_true rfl) ⟨Nat.le_refl _, Nat.le_refl _⟩ dX8_restore_3 (fun z M1 hz => ?_)
  obtain ⟨rfl, hz⟩ := hz
  by_cases hq : 0 ≤ x ∧ x ≤ 1
  · rw [if_pos hq] at hz
    subst hz
    obtain ⟨j, rfl⟩ : ∃ j : Nat, x = j := ⟨x.toNat, by omega⟩
    have hj2 : j < 2 := by omega
    have hsv := hs.2.2.2.1 j hj2
    have e4 : M1 4 ((j : Int).toNat) = s.2.2.1.1 j := h4 j hj2
    refine gx_if_ne C dX8_restore_6 rfl (by unfold gx_3; omega) (fun hb6 => ?_) (fun hb6 => absurd (by omega) hb6)
    refine gx_aload_n C dX8_restore_12 rfl ?_
    refine gx_getR C 8 _ 3 rfl (gm_0 hM) rfl (by decide) nX8_restore_8 (gx_hts C _ fX8_restore_19) dX8_restore_13 ?_
    refine gx_iload_n C dX8_restore_16 rfl ?_
    refine gx_baload C (gm_4 hM) (by omega) dX8_restore_17 e4 ?_
    refine gx_if_ne C dX8_restore_18 rfl (by unfold gx_3; omega) (fun hb18 => ?_) (fun hb18 => ?_)
    · have hsv1 : s.2.2.1.1 j = 1 := by omega
      refine gx_aload_n C dX8_restore_24 rfl ?_
      refine gx_callV C 8 rfl (gm_0 hM) (c_X8_record hM hR0 hs.2.1) (cwV 0 (gx_hts C) gX8_restore_X8_record rfl rfl rfl (by decide +kernel) ⟨Nat.le_of_ble_eq_true rfl, Nat.le_of_ble_eq_true rfl⟩) rfl rfl (Nat.le_of_ble_eq_true rfl) ⟨Nat.le_refl _, Nat.le_refl _⟩ dX8_restore_25 (fun M2 h8 => ?_)
      obtain ⟨⟨hR2, hF2⟩, h9, h10⟩ := h8
      have e3 : M2 3 = M1 3 := h9 3 (by decide) (by decide)
      refine gx_iconst C dX8_restore_28 ?_
      refine gx_istore_n C dX8_restore_29 (by decide) rfl ?_
      refine gx_for 83 (fun k (_ : gx_M) => [gx_R 0, gx_I (j : Int), gx_I (k : Int)]) (fun M' => M') (fun k M' => M' = gx_blk M2 1 0 k (s.2.2.1.2 j)) 0 _ (by omega) gx_blk_0.symm (fun k M' hk hI ih => ?_) (fun M' hI => ?_)
      · have e2 : M' 3 (((j : Int) * 83 + (k : Int)).toNat) = s.2.2.1.2 j k := by
          rw [hI, gx_blk_nc (by decide), e3, show ((j : Int) * 83 + (k : Int)).toNat = 83 * j + k by omega]
          exact h5 j k hj2 hsv1 hk
        refine gx_iload_n C dX8_restore_30 rfl ?_
        refine gx_bipush C dX8_restore_31 rfl ?_
        refine gx_icmp_ge C dX8_restore_33 rfl (by unfold gx_3; omega) (by unfold gx_3; omega) (fun hb33 => absurd hb33 (by omega)) (fun hb33 => ?_)
        refine gx_aload_n C dX8_restore_36 rfl ?_
        refine gx_getR C 8 _ 0 rfl (gm_0 hM) rfl (by decide) nX8_restore_8 (gx_hts C _ fX8_restore_7) dX8_restore_37 ?_
        refine gx_iload_n C dX8_restore_40 rfl ?_
        refine gx_aload_n C dX8_restore_41 rfl ?_
        refine gx_getR C 8 _ 2 rfl (gm_0 hM) rfl (by decide) nX8_restore_8 (gx_hts C _ fX8_restore_16) dX8_restore_42 ?_
        refine gx_iload_n C dX8_restore_45 rfl ?_
        refine gx_bipush C dX8_restore_46 rfl ?_
        refine gx_imul C dX8_restore_48 ?_
        refine gx_iload_n C dX8_restore_49 rfl ?_
        refine gx_iadd C dX8_restore_50 ?_
        refine gx_iaload C (gm_3 hM) (by omega) dX8_restore_51 e2 ?_
        refine gx_iastore C (gm_1 hM) (by omega) dX8_restore_52 (show _ = 0 + k by omega) ?_
        refine gx_iinc C dX8_restore_53 (by decide) rfl rfl ?_
        refine gx_goto C dX8_restore_56 rfl ?_
        exact ih _ (by rw [hI]; exact gx_blk_s rfl)
      · have e2 : M' 1 ((81 : Int).toNat) = s.2.2.1.2 j 81 := by rw [hI]; exact gx_b0 (by omega)
        have fin : sm_Q (sp_push s (s.2.2.1.2 j)) M1 M' := ⟨sm_Rp hR2 (fun k hk => by rw [hI]; exact gx_b0 hk) (fun c hc _ => by rw [hI, gx_blk_nc hc]), fun c hc => by rw [hI, gx_blk_nc (by omega), hF2 c hc]⟩
        refine gx_iload_n C dX8_restore_30 rfl ?_
        refine gx_bipush C dX8_restore_31 rfl ?_
        refine gx_icmp_ge C dX8_restore_33 rfl (by unfold gx_3; omega) (by unfold gx_3; omega) (fun hb33 => ?_) (fun hb33 => absurd (by omega) hb33)
        refine gx_aload_n C dX8_restore_59 rfl ?_
        refine gx_getR C 8 _ 0 rfl (gm_0 hM) rfl (by decide) nX8_restore_8 (gx_hts C _ fX8_restore_7) dX8_restore_60 ?_
        refine gx_bipush C dX8_restore_63 rfl ?_
        refine gx_iaload C (gm_1 hM) (by omega) dX8_restore_65 e2 ?_
        exact gx_iret C dX8_restore_66 ⟨_, by unfold sp_restore; rw [if_pos hq]; show (if s.2.2.1.1 j = 1 then _ else _); rw [if_pos hsv1]; exact ⟨rfl, rfl⟩, fin⟩
    · refine gx_bipush C dX8_restore_21 rfl ?_
      exact gx_iret C dX8_restore_23 ⟨s, by unfold sp_restore; rw [if_pos hq]; show (if s.2.2.1.1 j = 1 then _ else _); rw [if_neg (by omega)]; exact ⟨rfl, rfl⟩, sm_XQ hR0 (gm_Xr M1)⟩
  · rw [if_neg hq] at hz
    subst hz
    refine gx_if_ne C dX8_restore_6 rfl (by unfold gx_3; omega) (fun hb6 => absurd hb6 (by omega)) (fun hb6 => ?_)
    refine gx_bipush C dX8_restore_9 rfl ?_
    exact gx_iret C dX8_restore_11 ⟨s, by unfold sp_restore; rw [if_neg hq]; exact ⟨rfl, rfl⟩, sm_XQ hR0 (gm_Xr M1)⟩
set_option maxRecDepth 100000 in
set_option maxHeartbeats 4000000 in
theorem c_X8_begin {La : List gx_K} (hM : gm_H La) {M : gx_M} {s : sp_S} (hs : sp_ok s) (hR : sm_R s M) {a b : Int} (ha : gx_3 a) (hb : gx_3 b) : gx_Ci La yX8_begin wsX8_begin 1 [gx_R 0, gx_I a, gx_I b] M (fun z M' => ∃ s', sp_begin s a b z s' ∧ sm_Q s' M M') := by
  refine gx_start_i (L := [gx_R 0, gx_I a, gx_I b, gx_U, gx_U]) (by decide) rfl rfl (Nat.le_of_ble_eq_true rfl) rfl ?_
  intro _ _ _ _ _ _ _ _ _ _ _ _ C
  have good : ∀ {l D tc ad p e s2 m args below meth c} (C : gx_C p (gx_rm 1) s2 m args meth c cX8_begin yX8_begin.cls 5 wsX8_begin (some .int) D tc ad La (gx_A ad La.length s2.heap.size) s2.heap) (q : Int), (q = 1 ∧ (b = 3 ∨ b = 5 ∨ b = 7 ∨ b = 11)) ∨ (q = 0 ∧ ¬(b = 3 ∨ b = 5 ∨ b = 7 ∨ b = 11)) → gx_G p l e (gx_rm 1) s2 m args below meth c 0 0 (MQ below (va_Qi (fun r (M' : gx_M) => ∃ z, r = gx_i z ∧ ∃ s', sp_begin s a b z s' ∧ sm_Q s' M M') (fun M' t => va_P D vwCl (gx_w La tc ad M') t.heap) (gx_A ad La.length s2.heap.size)) args s2 0 0 (gx_A ad La.length s2.heap.size)) 5 D tc ad La (gx_A ad La.length s2.heap.size) s2.heap 27 [gx_R 0, gx_I a, gx_I b, gx_U, gx_U] [gx_I q] M := by
    intro l D tc ad p e s2 m args below meth c C q hq
    have bad : ¬((a = 2 ∨ a = 3) ∧ (b = 3 ∨ b = 5 ∨ b = 7 ∨ b = 11)) → ∃ s', sp_begin s a b (-2) s' ∧ sm_Q s' M M := fun h => ⟨s, by unfold sp_begin; rw [if_neg h]; exact ⟨rfl, rfl⟩, sm_XQ hR (gm_Xr M)⟩
    refine gx_istore_n C dX8_begin_27 (by decide) rfl ?_
    refine gx_iload_n C dX8_begin_28 rfl ?_
    rcases hq with ⟨rfl, hq⟩ | ⟨rfl, hq⟩
    · refine gx_if_eq C dX8_begin_29 rfl (by unfold gx_3; omega) (fun hb29 => absurd hb29 (by omega)) (fun hb29 => ?_)
      refine gx_iload_n C dX8_begin_32 rfl ?_
      refine gx_iconst C dX8_begin_33 ?_
      refine gx_iconst C dX8_begin_34 ?_
      refine gx_statI C (c_X8_in ha (by unfold gx_3; omega) (by unfold gx_3; omega)) (cwS 3 (gx_hts C) gX8_begin_X8_in rfl rfl rfl (by decide +kernel) ⟨Nat.le_of_ble_eq_true rfl, Nat.le_of_ble_eq_true rfl⟩) rfl rfl (Nat.le_of_ble_eq_true rfl) ⟨Nat.le_refl _, Nat.le_refl _⟩ dX8_begin_35 (fun z M1 hz => ?_)
      obtain ⟨rfl, hz⟩ := hz
      by_cases hw : 2 ≤ a ∧ a ≤ 3
      · rw [if_pos hw] at hz
        subst hz
        refine gx_if_ne C dX8_begin_38 rfl (by unfold gx_3; omega) (fun hb38 => ?_) (fun hb38 => absurd (by omega) hb38)
        refine gx_aload_n C dX8_begin_44 rfl ?_
        refine gx_callV C 8 rfl (gm_0 hM) (c_X8_record hM hR hs.2.1) (cwV 0 (gx_hts C) gX8_begin_X8_record rfl rfl rfl (by decide +kernel) ⟨Nat.le_of_ble_eq_true rfl, Nat.le_of_ble_eq_true rfl⟩) rfl rfl (Nat.le_of_ble_eq_true rfl) ⟨Nat.le_refl _, Nat.le_refl _⟩ dX8_begin_45 (fun M2 h8 => ?_)
        obtain ⟨⟨hR2, hF2⟩, h9, h10⟩ := h8
        have e1 : M2 1 ((81 : Int).toNat) = s.1 81 := hR2.1 81 (by omega)
        refine gx_aload_n C dX8_begin_48 rfl ?_
        refine gx_getR C 8 _ 0 rfl (gm_0 hM) rfl (by decide) nX8_begin_8 (gx_hts C _ fX8_begin_7) dX8_begin_49 ?_
        refine gx_bipush C dX8_begin_52 rfl ?_
        refine gx_iaload C (gm_1 hM) (by omega) dX8_begin_54 e1 ?_
        refine gx_istore C dX8_begin_55 (by decide) rfl ?_
        refine gx_aload_n C dX8_begin_57 rfl ?_
        refine gx_iload_n C dX8_begin_58 rfl ?_
        refine gx_iload_n C dX8_begin_59 rfl ?_
        refine gx_callV C 8 rfl (gm_0 hM) (c_X8_clear hM (n := a) (m := b) (by omega)) (cwV 2 (gx_hts C) gX8_begin_X8_clear rfl rfl rfl (by decide +kernel) ⟨Nat.le_of_ble_eq_true rfl, Nat.le_of_ble_eq_true rfl⟩) rfl rfl (Nat.le_of_ble_eq_true rfl) ⟨Nat.le_refl _, Nat.le_refl _⟩ dX8_begin_60 (fun M3 h8 => ?_)
        refine gx_iload C dX8_begin_63 rfl ?_
        have fin : sm_Q (sp_push s (zs_new a b)) M1 M3 := ⟨sm_Rp hR2 (fun k hk => by rw [h8]; exact gx_b0 hk) (fun c hc _ => by rw [h8, gx_blk_nc hc]), fun c hc => by rw [h8, gx_blk_nc (by omega), hF2 c hc]⟩
        exact gx_iret C dX8_begin_65 ⟨_, by unfold sp_begin; rw [if_pos ⟨by omega, hq⟩]; exact ⟨rfl, rfl⟩, fin⟩
      · rw [if_neg hw] at hz
        subst hz
        refine gx_if_ne C dX8_begin_38 rfl (by unfold gx_3; omega) (fun hb38 => absurd hb38 (by omega)) (fun hb38 => ?_)
        refine gx_bipush C dX8_begin_41 rfl ?_
        exact gx_iret C dX8_begin_43 (bad (fun h => hw (by omega)))
    · refine gx_if_eq C dX8_begin_29 rfl (by unfold gx_3; omega) (fun hb29 => ?_) (fun hb29 => absurd (by omega) hb29)
      refine gx_bipush C dX8_begin_41 rfl ?_
      exact gx_iret C dX8_begin_43 (bad (fun h => hq h.2))
  refine gx_iload_n C dX8_begin_0 rfl ?_
  refine gx_iconst C dX8_begin_1 ?_
  refine gx_icmp_eq C dX8_begin_2 rfl hb (by unfold gx_3; omega) (fun hb2 => ?_) (fun hb2 => ?_)
  · refine gx_iconst C dX8_begin_22 ?_
    refine gx_goto C dX8_begin_23 rfl ?_
    exact good C 1 (Or.inl ⟨rfl, by omega⟩)
  · refine gx_iload_n C dX8_begin_5 rfl ?_
    refine gx_iconst C dX8_begin_6 ?_
    refine gx_icmp_eq C dX8_begin_7 rfl hb (by unfold gx_3; omega) (fun hb7 => ?_) (fun hb7 => ?_)
    · refine gx_iconst C dX8_begin_22 ?_
      refine gx_goto C dX8_begin_23 rfl ?_
      exact good C 1 (Or.inl ⟨rfl, by omega⟩)
    · refine gx_iload_n C dX8_begin_10 rfl ?_
      refine gx_bipush C dX8_begin_11 rfl ?_
      refine gx_icmp_eq C dX8_begin_13 rfl hb (by unfold gx_3; omega) (fun hb13 => ?_) (fun hb13 => ?_)
      · refine gx_iconst C dX8_begin_22 ?_
        refine gx_goto C dX8_begin_23 rfl ?_
        exact good C 1 (Or.inl ⟨rfl, by omega⟩)
      · refine gx_iload_n C dX8_begin_16 rfl ?_
        refine gx_bipush C dX8_begin_17 rfl ?_
        refine gx_icmp_ne C dX8_begin_19 rfl hb (by unfold gx_3; omega) (fun hb19 => ?_) (fun hb19 => ?_)
        · refine gx_iconst C dX8_begin_26 ?_
          exact good C 0 (Or.inr ⟨rfl, by omega⟩)
        · refine gx_iconst C dX8_begin_22 ?_
          refine gx_goto C dX8_begin_23 rfl ?_
          exact good C 1 (Or.inl ⟨rfl, by omega⟩)
set_option maxRecDepth 100000 in
set_option maxHeartbeats 4000000 in
theorem c_X8_set {La : List gx_K} (hM : gm_H La) {M : gx_M} {s : sp_S} (hs : sp_ok s) (hR : sm_R s M) {r i j v : Int} (hr : gx_3 r) (hi : gx_3 i) (hj : gx_3 j) (hv : gx_3 v) : gx_Ci La yX8_set wsX8_set 2 [gx_R 0, gx_I r, gx_I i, gx_I j, gx_I v] M (fun z M' => ∃ s', sp_set s r i j v z s' ∧ sm_Q s' M M') := by
  have hz := sm_Z hs hR
  have hzm := gm_Zm hz
  have hn := sm_n hs
  have bad1 : ¬((0 ≤ r ∧ r ≤ 7) ∧ (0 ≤ i ∧ i < s.1 81 ∧ 0 ≤ j ∧ j < s.1 81)) → ∃ s', sp_set s r i j v (-1) s' ∧ sm_Q s' M M := fun h => ⟨s, by unfold sp_set; rw [if_neg h]; exact ⟨rfl, rfl⟩, sm_XQ hR (gm_Xr M)⟩
  refine gx_start_i (L := [gx_R 0, gx_I r, gx_I i, gx_I j, gx_I v, gx_U]) (by decide) rfl rfl (Nat.le_of_ble_eq_true rfl) rfl ?_
  intro _ _ _ _ _ _ _ _ _ _ _ _ C
  refine gx_iload_n C dX8_set_0 rfl ?_
  refine gx_statI C (c_X8_isRegister hr) (cwS 1 (gx_hts C) gX8_set_X8_isRegister rfl rfl rfl (by decide +kernel) ⟨Nat.le_of_ble_eq_true rfl, Nat.le_of_ble_eq_true rfl⟩) rfl rfl (Nat.le_of_ble_eq_true rfl) ⟨Nat.le_refl _, Nat.le_refl _⟩ dX8_set_1 (fun z M1 h1 => ?_)
  obtain ⟨rfl, h1⟩ := h1
  by_cases hq : 0 ≤ r ∧ r ≤ 7
  · rw [if_pos hq] at h1
    subst h1
    refine gx_if_eq C dX8_set_4 rfl (by unfold gx_3; omega) (fun hb4 => absurd hb4 (by omega)) (fun hb4 => ?_)
    refine gx_aload_n C dX8_set_7 rfl ?_
    refine gx_iload_n C dX8_set_8 rfl ?_
    refine gx_iload_n C dX8_set_9 rfl ?_
    refine gx_callI C 8 rfl (gm_0 hM) (c_X8_isCell hM hz hi hj) (cwV 2 (gx_hts C) gX8_set_X8_isCell rfl rfl rfl (by decide +kernel) ⟨Nat.le_of_ble_eq_true rfl, Nat.le_of_ble_eq_true rfl⟩) rfl rfl (Nat.le_of_ble_eq_true rfl) ⟨Nat.le_refl _, Nat.le_refl _⟩ dX8_set_10 (fun z M2 h1 => ?_)
    obtain ⟨rfl, h1⟩ := h1
    by_cases hw : 0 ≤ i ∧ i < ((s.1 81).toNat : Int) ∧ 0 ≤ j ∧ j < ((s.1 81).toNat : Int)
    · rw [if_pos hw] at h1
      subst h1
      refine gx_if_ne C dX8_set_13 rfl (by unfold gx_3; omega) (fun hb13 => ?_) (fun hb13 => absurd (by omega) hb13)
      refine gx_iload C dX8_set_18 rfl ?_
      refine gx_iconst C dX8_set_20 ?_
      refine gx_aload_n C dX8_set_21 rfl ?_
      refine gx_getR C 8 _ 0 rfl (gm_0 hM) rfl (by decide) nX8_set_8 (gx_hts C _ fX8_set_7) dX8_set_22 ?_
      refine gx_bipush C dX8_set_25 rfl ?_
      refine gx_iaload C (gm_1 hM) (by omega) dX8_set_27 hz.2.1 ?_
      refine gx_iconst C dX8_set_28 ?_
      refine gx_isub C dX8_set_29 ?_
      refine gx_statI C (c_X8_in hv (by unfold gx_3; omega) (by unfold gx_3; omega)) (cwS 3 (gx_hts C) gX8_set_X8_in rfl rfl rfl (by decide +kernel) ⟨Nat.le_of_ble_eq_true rfl, Nat.le_of_ble_eq_true rfl⟩) rfl rfl (Nat.le_of_ble_eq_true rfl) ⟨Nat.le_refl _, Nat.le_refl _⟩ dX8_set_30 (fun z M3 h1 => ?_)
      obtain ⟨rfl, h1⟩ := h1
      have hg : (0 ≤ r ∧ r ≤ 7) ∧ (0 ≤ i ∧ i < s.1 81 ∧ 0 ≤ j ∧ j < s.1 81) := by omega
      by_cases hu : 0 ≤ v ∧ v ≤ s.1 82 - 1
      · rw [if_pos hu] at h1
        subst h1
        obtain ⟨r', rfl⟩ : ∃ k : Nat, r = k := ⟨r.toNat, by omega⟩
        obtain ⟨i', rfl⟩ : ∃ k : Nat, i = k := ⟨i.toNat, by omega⟩
        obtain ⟨j', rfl⟩ : ∃ k : Nat, j = k := ⟨j.toNat, by omega⟩
        refine gx_if_ne C dX8_set_33 rfl (by unfold gx_3; omega) (fun hb33 => ?_) (fun hb33 => absurd (by omega) hb33)
        refine gx_aload_n C dX8_set_39 rfl ?_
        refine gx_callV C 8 rfl (gm_0 hM) (c_X8_record hM hR hs.2.1) (cwV 0 (gx_hts C) gX8_set_X8_record rfl rfl rfl (by decide +kernel) ⟨Nat.le_of_ble_eq_true rfl, Nat.le_of_ble_eq_true rfl⟩) rfl rfl (Nat.le_of_ble_eq_true rfl) ⟨Nat.le_refl _, Nat.le_refl _⟩ dX8_set_40 (fun M4 h8 => ?_)
        obtain ⟨⟨hR2, hF2⟩, h9, h10⟩ := h8
        have e1 : M4 1 ((9 * (r' : Int) + 3 * (i' : Int) + (j' : Int)).toNat) = mx_of s.1 (9 * r') (3 * i' + j') := by
          rw [mx_of_at (by omega), show (9 * (r' : Int) + 3 * (i' : Int) + (j' : Int)).toNat = 9 * r' + (3 * i' + j') by omega]
          exact hR2.1 _ (by omega)
        refine gx_aload_n C dX8_set_43 rfl ?_
        refine gx_getR C 8 _ 0 rfl (gm_0 hM) rfl (by decide) nX8_set_8 (gx_hts C _ fX8_set_7) dX8_set_44 ?_
        refine gx_bipush C dX8_set_47 rfl ?_
        refine gx_iload_n C dX8_set_49 rfl ?_
        refine gx_imul C dX8_set_50 ?_
        refine gx_iconst C dX8_set_51 ?_
        refine gx_iload_n C dX8_set_52 rfl ?_
        refine gx_imul C dX8_set_53 ?_
        refine gx_iadd C dX8_set_54 ?_
        refine gx_iload_n C dX8_set_55 rfl ?_
        refine gx_iadd C dX8_set_56 ?_
        refine gx_iaload C (gm_1 hM) (by omega) dX8_set_57 e1 ?_
        refine gx_istore C dX8_set_58 (by decide) rfl ?_
        refine gx_aload_n C dX8_set_60 rfl ?_
        refine gx_getR C 8 _ 0 rfl (gm_0 hM) rfl (by decide) nX8_set_8 (gx_hts C _ fX8_set_7) dX8_set_61 ?_
        refine gx_bipush C dX8_set_64 rfl ?_
        refine gx_iload_n C dX8_set_66 rfl ?_
        refine gx_imul C dX8_set_67 ?_
        refine gx_iconst C dX8_set_68 ?_
        refine gx_iload_n C dX8_set_69 rfl ?_
        refine gx_imul C dX8_set_70 ?_
        refine gx_iadd C dX8_set_71 ?_
        refine gx_iload_n C dX8_set_72 rfl ?_
        refine gx_iadd C dX8_set_73 ?_
        refine gx_iload C dX8_set_74 rfl ?_
        refine gx_iastore C (gm_1 hM) (by omega) dX8_set_76 (show _ = 9 * r' + 3 * i' + j' by omega) ?_
        refine gx_aload_n C dX8_set_77 rfl ?_
        refine gx_getR C 8 _ 0 rfl (gm_0 hM) rfl (by decide) nX8_set_8 (gx_hts C _ fX8_set_7) dX8_set_78 ?_
        refine gx_bipush C dX8_set_81 rfl ?_
        refine gx_iload_n C dX8_set_83 rfl ?_
        refine gx_imul C dX8_set_84 ?_
        refine gx_iconst C dX8_set_85 ?_
        refine gx_iload_n C dX8_set_86 rfl ?_
        refine gx_imul C dX8_set_87 ?_
        refine gx_iadd C dX8_set_88 ?_
        refine gx_iload_n C dX8_set_89 rfl ?_
        refine gx_iadd C dX8_set_90 ?_
        refine gx_iload C dX8_set_91 rfl ?_
        refine gx_iastore C (gm_1 hM) (by omega) dX8_set_93 (show _ = 9 * r' + 3 * j' + i' by omega) ?_
        refine gx_iload C dX8_set_94 rfl ?_
        have fin : sm_Q (sp_push s (zs_set s.1 r' i' j' v)) M3 (gx_u (gx_u M4 1 (9 * r' + 3 * i' + j') v) 1 (9 * r' + 3 * j' + i') v) := by
          refine ⟨sm_Rp hR2 (fun k hk => ?_) (fun c hc _ => by rw [gx_u_nc hc, gx_u_nc hc]), fun c hc => by rw [gx_u_nc (by omega), gx_u_nc (by omega), hF2 c hc]⟩
          rw [gx_u_at, gx_u_at]
          unfold zs_set
          by_cases q1 : k = 9 * r' + 3 * j' + i'
          · rw [if_pos ⟨rfl, q1⟩, if_pos q1]
          · rw [if_neg (fun q => q1 q.2), if_neg q1]
            by_cases q2 : k = 9 * r' + 3 * i' + j'
            · rw [if_pos ⟨rfl, q2⟩, if_pos q2]
            · rw [if_neg (fun q => q2 q.2), if_neg q2]
              exact hR2.1 k hk
        exact gx_iret C dX8_set_96 ⟨_, by unfold sp_set; rw [if_pos hg, if_pos (by omega)]; exact ⟨rfl, rfl⟩, fin⟩
      · rw [if_neg hu] at h1
        subst h1
        refine gx_if_ne C dX8_set_33 rfl (by unfold gx_3; omega) (fun hb33 => absurd hb33 (by omega)) (fun hb33 => ?_)
        refine gx_bipush C dX8_set_36 rfl ?_
        exact gx_iret C dX8_set_38 ⟨s, by unfold sp_set; rw [if_pos hg, if_neg (by omega)]; exact ⟨rfl, rfl⟩, sm_XQ hR (gm_Xr M3)⟩
    · rw [if_neg hw] at h1
      subst h1
      refine gx_if_ne C dX8_set_13 rfl (by unfold gx_3; omega) (fun hb13 => absurd hb13 (by omega)) (fun hb13 => ?_)
      refine gx_iconst C dX8_set_16 ?_
      exact gx_iret C dX8_set_17 (bad1 (by omega))
  · rw [if_neg hq] at h1
    subst h1
    refine gx_if_eq C dX8_set_4 rfl (by unfold gx_3; omega) (fun hb4 => ?_) (fun hb4 => absurd (by omega) hb4)
    refine gx_iconst C dX8_set_16 ?_
    exact gx_iret C dX8_set_17 (bad1 (by omega))
end
section
theorem zz_ok : True := trivial
end
