/-- a private method of a class that the tables say can be made, by its rows of tables_1 -/
def lw_okq (q : MethodName × Nat) : Prop := (q.1.cls ≠ "java/lang/invoke/MethodHandle" ∧ q.1.cls ≠ "java/lang/invoke/VarHandle") ∧ Cond.instantiable q.1.cls q.2 ∈ tables_1 ∧ Cond.privateMethod q.1 ∈ tables_1 ∧ Cond.instanceMethod q.1 ∈ tables_1
theorem lw_p0 : lw_okq (⟨"SlotCore$Registers", "clear", "()V"⟩, 3) := ⟨⟨by decide +kernel, by decide +kernel⟩, List.mem_of_getElem? (i := 32) (by decide +kernel), List.mem_of_getElem? (i := 134) (by decide +kernel), List.mem_of_getElem? (i := 135) (by decide +kernel)⟩
theorem lw_p1 : lw_okq (⟨"SlotCore$Registers", "dropLoad", "()V"⟩, 3) := ⟨⟨by decide +kernel, by decide +kernel⟩, List.mem_of_getElem? (i := 32) (by decide +kernel), List.mem_of_getElem? (i := 138) (by decide +kernel), List.mem_of_getElem? (i := 139) (by decide +kernel)⟩
theorem lw_p2 : lw_okq (⟨"SlotCore$Registers", "holdLoad", "(II)V"⟩, 3) := ⟨⟨by decide +kernel, by decide +kernel⟩, List.mem_of_getElem? (i := 32) (by decide +kernel), List.mem_of_getElem? (i := 142) (by decide +kernel), List.mem_of_getElem? (i := 143) (by decide +kernel)⟩
theorem lw_p3 : lw_okq (⟨"SlotCore$Control", "clear", "()V"⟩, 5) := ⟨⟨by decide +kernel, by decide +kernel⟩, List.mem_of_getElem? (i := 50) (by decide +kernel), List.mem_of_getElem? (i := 146) (by decide +kernel), List.mem_of_getElem? (i := 147) (by decide +kernel)⟩
theorem lw_p4 : lw_okq (⟨"SlotCore", "continueAt", "(I)V"⟩, 9) := ⟨⟨by decide +kernel, by decide +kernel⟩, List.mem_of_getElem? (i := 13) (by decide +kernel), List.mem_of_getElem? (i := 150) (by decide +kernel), List.mem_of_getElem? (i := 151) (by decide +kernel)⟩
theorem lw_p5 : lw_okq (⟨"SlotCore$Control", "change", "(II)V"⟩, 5) := ⟨⟨by decide +kernel, by decide +kernel⟩, List.mem_of_getElem? (i := 50) (by decide +kernel), List.mem_of_getElem? (i := 163) (by decide +kernel), List.mem_of_getElem? (i := 164) (by decide +kernel)⟩
theorem lw_p6 : lw_okq (⟨"SlotCore", "takeStep", "()I"⟩, 9) := ⟨⟨by decide +kernel, by decide +kernel⟩, List.mem_of_getElem? (i := 13) (by decide +kernel), List.mem_of_getElem? (i := 175) (by decide +kernel), List.mem_of_getElem? (i := 176) (by decide +kernel)⟩
theorem lw_p7 : lw_okq (⟨"SlotCore$Control", "interruptIsDue", "()Z"⟩, 5) := ⟨⟨by decide +kernel, by decide +kernel⟩, List.mem_of_getElem? (i := 50) (by decide +kernel), List.mem_of_getElem? (i := 179) (by decide +kernel), List.mem_of_getElem? (i := 180) (by decide +kernel)⟩
theorem lw_p8 : lw_okq (⟨"SlotCore$Control", "wholeCause", "()I"⟩, 5) := ⟨⟨by decide +kernel, by decide +kernel⟩, List.mem_of_getElem? (i := 50) (by decide +kernel), List.mem_of_getElem? (i := 183) (by decide +kernel), List.mem_of_getElem? (i := 184) (by decide +kernel)⟩
theorem lw_p9 : lw_okq (⟨"SlotCore", "enterException", "(I)V"⟩, 9) := ⟨⟨by decide +kernel, by decide +kernel⟩, List.mem_of_getElem? (i := 13) (by decide +kernel), List.mem_of_getElem? (i := 188) (by decide +kernel), List.mem_of_getElem? (i := 189) (by decide +kernel)⟩
theorem lw_p10 : lw_okq (⟨"SlotCore$Registers", "landLoad", "()V"⟩, 3) := ⟨⟨by decide +kernel, by decide +kernel⟩, List.mem_of_getElem? (i := 32) (by decide +kernel), List.mem_of_getElem? (i := 192) (by decide +kernel), List.mem_of_getElem? (i := 193) (by decide +kernel)⟩
theorem lw_p11 : lw_okq (⟨"SlotCore$Registers", "change", "(II)V"⟩, 3) := ⟨⟨by decide +kernel, by decide +kernel⟩, List.mem_of_getElem? (i := 32) (by decide +kernel), List.mem_of_getElem? (i := 196) (by decide +kernel), List.mem_of_getElem? (i := 197) (by decide +kernel)⟩
theorem lw_p12 : lw_okq (⟨"SlotCore$Control", "enter", "(IIZ)V"⟩, 5) := ⟨⟨by decide +kernel, by decide +kernel⟩, List.mem_of_getElem? (i := 50) (by decide +kernel), List.mem_of_getElem? (i := 200) (by decide +kernel), List.mem_of_getElem? (i := 201) (by decide +kernel)⟩
theorem lw_p13 : lw_okq (⟨"SlotCore", "faultAtPc", "()I"⟩, 9) := ⟨⟨by decide +kernel, by decide +kernel⟩, List.mem_of_getElem? (i := 13) (by decide +kernel), List.mem_of_getElem? (i := 206) (by decide +kernel), List.mem_of_getElem? (i := 207) (by decide +kernel)⟩
theorem lw_p14 : lw_okq (⟨"SlotCore$Control", "forbids", "(I)Z"⟩, 5) := ⟨⟨by decide +kernel, by decide +kernel⟩, List.mem_of_getElem? (i := 50) (by decide +kernel), List.mem_of_getElem? (i := 210) (by decide +kernel), List.mem_of_getElem? (i := 211) (by decide +kernel)⟩
theorem lw_p15 : lw_okq (⟨"SlotCore$Control", "isUser", "()Z"⟩, 5) := ⟨⟨by decide +kernel, by decide +kernel⟩, List.mem_of_getElem? (i := 50) (by decide +kernel), List.mem_of_getElem? (i := 214) (by decide +kernel), List.mem_of_getElem? (i := 215) (by decide +kernel)⟩
def lw_privs_1 : List (MethodName × Nat) := [(⟨"SlotCore$Registers", "clear", "()V"⟩, 3), (⟨"SlotCore$Registers", "dropLoad", "()V"⟩, 3), (⟨"SlotCore$Registers", "holdLoad", "(II)V"⟩, 3), (⟨"SlotCore$Control", "clear", "()V"⟩, 5), (⟨"SlotCore", "continueAt", "(I)V"⟩, 9), (⟨"SlotCore$Control", "change", "(II)V"⟩, 5), (⟨"SlotCore", "takeStep", "()I"⟩, 9), (⟨"SlotCore$Control", "interruptIsDue", "()Z"⟩, 5), (⟨"SlotCore$Control", "wholeCause", "()I"⟩, 5), (⟨"SlotCore", "enterException", "(I)V"⟩, 9), (⟨"SlotCore$Registers", "landLoad", "()V"⟩, 3), (⟨"SlotCore$Registers", "change", "(II)V"⟩, 3), (⟨"SlotCore$Control", "enter", "(IIZ)V"⟩, 5), (⟨"SlotCore", "faultAtPc", "()I"⟩, 9), (⟨"SlotCore$Control", "forbids", "(I)Z"⟩, 5), (⟨"SlotCore$Control", "isUser", "()Z"⟩, 5)]
theorem lw_r1 : ∀ q ∈ lw_privs_1, lw_okq q := List.forall_mem_cons.mpr ⟨lw_p0, List.forall_mem_cons.mpr ⟨lw_p1, List.forall_mem_cons.mpr ⟨lw_p2, List.forall_mem_cons.mpr ⟨lw_p3, List.forall_mem_cons.mpr ⟨lw_p4, List.forall_mem_cons.mpr ⟨lw_p5, List.forall_mem_cons.mpr ⟨lw_p6, List.forall_mem_cons.mpr ⟨lw_p7, List.forall_mem_cons.mpr ⟨lw_p8, List.forall_mem_cons.mpr ⟨lw_p9, List.forall_mem_cons.mpr ⟨lw_p10, List.forall_mem_cons.mpr ⟨lw_p11, List.forall_mem_cons.mpr ⟨lw_p12, List.forall_mem_cons.mpr ⟨lw_p13, List.forall_mem_cons.mpr ⟨lw_p14, List.forall_mem_cons.mpr ⟨lw_p15, fun _ h => absurd h List.not_mem_nil⟩⟩⟩⟩⟩⟩⟩⟩⟩⟩⟩⟩⟩⟩⟩⟩
theorem lw_p16 : lw_okq (⟨"SlotCore$Memory", "wordAround", "(I)I"⟩, 1) := ⟨⟨by decide +kernel, by decide +kernel⟩, List.mem_of_getElem? (i := 21) (by decide +kernel), List.mem_of_getElem? (i := 222) (by decide +kernel), List.mem_of_getElem? (i := 223) (by decide +kernel)⟩
theorem lw_p17 : lw_okq (⟨"SlotCore", "perform", "(I)I"⟩, 9) := ⟨⟨by decide +kernel, by decide +kernel⟩, List.mem_of_getElem? (i := 13) (by decide +kernel), List.mem_of_getElem? (i := 229) (by decide +kernel), List.mem_of_getElem? (i := 230) (by decide +kernel)⟩
theorem lw_p18 : lw_okq (⟨"SlotCore$Outcome", "begin", "(I)V"⟩, 5) := ⟨⟨by decide +kernel, by decide +kernel⟩, List.mem_of_getElem? (i := 76) (by decide +kernel), List.mem_of_getElem? (i := 233) (by decide +kernel), List.mem_of_getElem? (i := 234) (by decide +kernel)⟩
theorem lw_p19 : lw_okq (⟨"SlotCore", "performByK", "(I)I"⟩, 9) := ⟨⟨by decide +kernel, by decide +kernel⟩, List.mem_of_getElem? (i := 13) (by decide +kernel), List.mem_of_getElem? (i := 252) (by decide +kernel), List.mem_of_getElem? (i := 253) (by decide +kernel)⟩
theorem lw_p20 : lw_okq (⟨"SlotCore", "performShift", "(I)I"⟩, 9) := ⟨⟨by decide +kernel, by decide +kernel⟩, List.mem_of_getElem? (i := 13) (by decide +kernel), List.mem_of_getElem? (i := 256) (by decide +kernel), List.mem_of_getElem? (i := 257) (by decide +kernel)⟩
theorem lw_p21 : lw_okq (⟨"SlotCore", "valueOfT", "(I)I"⟩, 9) := ⟨⟨by decide +kernel, by decide +kernel⟩, List.mem_of_getElem? (i := 13) (by decide +kernel), List.mem_of_getElem? (i := 260) (by decide +kernel), List.mem_of_getElem? (i := 261) (by decide +kernel)⟩
theorem lw_p22 : lw_okq (⟨"SlotCore$Registers", "valueOf", "(I)I"⟩, 3) := ⟨⟨by decide +kernel, by decide +kernel⟩, List.mem_of_getElem? (i := 32) (by decide +kernel), List.mem_of_getElem? (i := 264) (by decide +kernel), List.mem_of_getElem? (i := 265) (by decide +kernel)⟩
theorem lw_p23 : lw_okq (⟨"SlotCore", "valueOfS", "(I)I"⟩, 9) := ⟨⟨by decide +kernel, by decide +kernel⟩, List.mem_of_getElem? (i := 13) (by decide +kernel), List.mem_of_getElem? (i := 271) (by decide +kernel), List.mem_of_getElem? (i := 272) (by decide +kernel)⟩
theorem lw_p24 : lw_okq (⟨"SlotCore", "give", "(II)I"⟩, 9) := ⟨⟨by decide +kernel, by decide +kernel⟩, List.mem_of_getElem? (i := 13) (by decide +kernel), List.mem_of_getElem? (i := 281) (by decide +kernel), List.mem_of_getElem? (i := 282) (by decide +kernel)⟩
theorem lw_p25 : lw_okq (⟨"SlotCore", "performJumpToS", "(I)I"⟩, 9) := ⟨⟨by decide +kernel, by decide +kernel⟩, List.mem_of_getElem? (i := 13) (by decide +kernel), List.mem_of_getElem? (i := 285) (by decide +kernel), List.mem_of_getElem? (i := 286) (by decide +kernel)⟩
theorem lw_p26 : lw_okq (⟨"SlotCore", "branchIf", "(ZI)I"⟩, 9) := ⟨⟨by decide +kernel, by decide +kernel⟩, List.mem_of_getElem? (i := 13) (by decide +kernel), List.mem_of_getElem? (i := 289) (by decide +kernel), List.mem_of_getElem? (i := 290) (by decide +kernel)⟩
theorem lw_p27 : lw_okq (⟨"SlotCore", "performMove", "(I)I"⟩, 9) := ⟨⟨by decide +kernel, by decide +kernel⟩, List.mem_of_getElem? (i := 13) (by decide +kernel), List.mem_of_getElem? (i := 293) (by decide +kernel), List.mem_of_getElem? (i := 294) (by decide +kernel)⟩
theorem lw_p28 : lw_okq (⟨"SlotCore", "performProduct", "(I)I"⟩, 9) := ⟨⟨by decide +kernel, by decide +kernel⟩, List.mem_of_getElem? (i := 13) (by decide +kernel), List.mem_of_getElem? (i := 297) (by decide +kernel), List.mem_of_getElem? (i := 298) (by decide +kernel)⟩
theorem lw_p29 : lw_okq (⟨"SlotCore", "keepHighAndLow", "(J)I"⟩, 9) := ⟨⟨by decide +kernel, by decide +kernel⟩, List.mem_of_getElem? (i := 13) (by decide +kernel), List.mem_of_getElem? (i := 301) (by decide +kernel), List.mem_of_getElem? (i := 302) (by decide +kernel)⟩
theorem lw_p30 : lw_okq (⟨"SlotCore", "performOnTwo", "(I)I"⟩, 9) := ⟨⟨by decide +kernel, by decide +kernel⟩, List.mem_of_getElem? (i := 13) (by decide +kernel), List.mem_of_getElem? (i := 320) (by decide +kernel), List.mem_of_getElem? (i := 321) (by decide +kernel)⟩
theorem lw_p31 : lw_okq (⟨"SlotCore", "giveIfExact", "(IJ)I"⟩, 9) := ⟨⟨by decide +kernel, by decide +kernel⟩, List.mem_of_getElem? (i := 13) (by decide +kernel), List.mem_of_getElem? (i := 324) (by decide +kernel), List.mem_of_getElem? (i := 325) (by decide +kernel)⟩
def lw_privs_2 : List (MethodName × Nat) := [(⟨"SlotCore$Memory", "wordAround", "(I)I"⟩, 1), (⟨"SlotCore", "perform", "(I)I"⟩, 9), (⟨"SlotCore$Outcome", "begin", "(I)V"⟩, 5), (⟨"SlotCore", "performByK", "(I)I"⟩, 9), (⟨"SlotCore", "performShift", "(I)I"⟩, 9), (⟨"SlotCore", "valueOfT", "(I)I"⟩, 9), (⟨"SlotCore$Registers", "valueOf", "(I)I"⟩, 3), (⟨"SlotCore", "valueOfS", "(I)I"⟩, 9), (⟨"SlotCore", "give", "(II)I"⟩, 9), (⟨"SlotCore", "performJumpToS", "(I)I"⟩, 9), (⟨"SlotCore", "branchIf", "(ZI)I"⟩, 9), (⟨"SlotCore", "performMove", "(I)I"⟩, 9), (⟨"SlotCore", "performProduct", "(I)I"⟩, 9), (⟨"SlotCore", "keepHighAndLow", "(J)I"⟩, 9), (⟨"SlotCore", "performOnTwo", "(I)I"⟩, 9), (⟨"SlotCore", "giveIfExact", "(IJ)I"⟩, 9)]
theorem lw_r2 : ∀ q ∈ lw_privs_2, lw_okq q := List.forall_mem_cons.mpr ⟨lw_p16, List.forall_mem_cons.mpr ⟨lw_p17, List.forall_mem_cons.mpr ⟨lw_p18, List.forall_mem_cons.mpr ⟨lw_p19, List.forall_mem_cons.mpr ⟨lw_p20, List.forall_mem_cons.mpr ⟨lw_p21, List.forall_mem_cons.mpr ⟨lw_p22, List.forall_mem_cons.mpr ⟨lw_p23, List.forall_mem_cons.mpr ⟨lw_p24, List.forall_mem_cons.mpr ⟨lw_p25, List.forall_mem_cons.mpr ⟨lw_p26, List.forall_mem_cons.mpr ⟨lw_p27, List.forall_mem_cons.mpr ⟨lw_p28, List.forall_mem_cons.mpr ⟨lw_p29, List.forall_mem_cons.mpr ⟨lw_p30, List.forall_mem_cons.mpr ⟨lw_p31, fun _ h => absurd h List.not_mem_nil⟩⟩⟩⟩⟩⟩⟩⟩⟩⟩⟩⟩⟩⟩⟩⟩
theorem lw_p32 : lw_okq (⟨"SlotCore", "giveTruth", "(IZ)I"⟩, 9) := ⟨⟨by decide +kernel, by decide +kernel⟩, List.mem_of_getElem? (i := 13) (by decide +kernel), List.mem_of_getElem? (i := 328) (by decide +kernel), List.mem_of_getElem? (i := 329) (by decide +kernel)⟩
theorem lw_p33 : lw_okq (⟨"SlotCore", "performBranchBySign", "(I)I"⟩, 9) := ⟨⟨by decide +kernel, by decide +kernel⟩, List.mem_of_getElem? (i := 13) (by decide +kernel), List.mem_of_getElem? (i := 332) (by decide +kernel), List.mem_of_getElem? (i := 333) (by decide +kernel)⟩
theorem lw_p34 : lw_okq (⟨"SlotCore", "nearTarget", "(I)I"⟩, 9) := ⟨⟨by decide +kernel, by decide +kernel⟩, List.mem_of_getElem? (i := 13) (by decide +kernel), List.mem_of_getElem? (i := 336) (by decide +kernel), List.mem_of_getElem? (i := 337) (by decide +kernel)⟩
theorem lw_p35 : lw_okq (⟨"SlotCore", "performJump", "(I)I"⟩, 9) := ⟨⟨by decide +kernel, by decide +kernel⟩, List.mem_of_getElem? (i := 13) (by decide +kernel), List.mem_of_getElem? (i := 343) (by decide +kernel), List.mem_of_getElem? (i := 344) (by decide +kernel)⟩
theorem lw_p36 : lw_okq (⟨"SlotCore", "farTarget", "(I)I"⟩, 9) := ⟨⟨by decide +kernel, by decide +kernel⟩, List.mem_of_getElem? (i := 13) (by decide +kernel), List.mem_of_getElem? (i := 347) (by decide +kernel), List.mem_of_getElem? (i := 348) (by decide +kernel)⟩
theorem lw_p37 : lw_okq (⟨"SlotCore", "performBranch", "(I)I"⟩, 9) := ⟨⟨by decide +kernel, by decide +kernel⟩, List.mem_of_getElem? (i := 13) (by decide +kernel), List.mem_of_getElem? (i := 353) (by decide +kernel), List.mem_of_getElem? (i := 354) (by decide +kernel)⟩
theorem lw_p38 : lw_okq (⟨"SlotCore", "performWithNumber", "(I)I"⟩, 9) := ⟨⟨by decide +kernel, by decide +kernel⟩, List.mem_of_getElem? (i := 13) (by decide +kernel), List.mem_of_getElem? (i := 357) (by decide +kernel), List.mem_of_getElem? (i := 358) (by decide +kernel)⟩
theorem lw_p39 : lw_okq (⟨"SlotCore", "performControl", "(I)I"⟩, 9) := ⟨⟨by decide +kernel, by decide +kernel⟩, List.mem_of_getElem? (i := 13) (by decide +kernel), List.mem_of_getElem? (i := 365) (by decide +kernel), List.mem_of_getElem? (i := 366) (by decide +kernel)⟩
theorem lw_p40 : lw_okq (⟨"SlotCore$Control", "valueOf", "(I)I"⟩, 5) := ⟨⟨by decide +kernel, by decide +kernel⟩, List.mem_of_getElem? (i := 50) (by decide +kernel), List.mem_of_getElem? (i := 370) (by decide +kernel), List.mem_of_getElem? (i := 371) (by decide +kernel)⟩
theorem lw_p41 : lw_okq (⟨"SlotCore", "giveLate", "(II)I"⟩, 9) := ⟨⟨by decide +kernel, by decide +kernel⟩, List.mem_of_getElem? (i := 13) (by decide +kernel), List.mem_of_getElem? (i := 374) (by decide +kernel), List.mem_of_getElem? (i := 375) (by decide +kernel)⟩
theorem lw_p42 : lw_okq (⟨"SlotCore$Control", "leave", "()V"⟩, 5) := ⟨⟨by decide +kernel, by decide +kernel⟩, List.mem_of_getElem? (i := 50) (by decide +kernel), List.mem_of_getElem? (i := 378) (by decide +kernel), List.mem_of_getElem? (i := 379) (by decide +kernel)⟩
theorem lw_p43 : lw_okq (⟨"SlotCore", "performLoad", "(I)I"⟩, 9) := ⟨⟨by decide +kernel, by decide +kernel⟩, List.mem_of_getElem? (i := 13) (by decide +kernel), List.mem_of_getElem? (i := 382) (by decide +kernel), List.mem_of_getElem? (i := 383) (by decide +kernel)⟩
theorem lw_p44 : lw_okq (⟨"SlotCore", "addressOf", "(I)I"⟩, 9) := ⟨⟨by decide +kernel, by decide +kernel⟩, List.mem_of_getElem? (i := 13) (by decide +kernel), List.mem_of_getElem? (i := 386) (by decide +kernel), List.mem_of_getElem? (i := 387) (by decide +kernel)⟩
theorem lw_p45 : lw_okq (⟨"SlotCore", "faultOfData", "(III)I"⟩, 9) := ⟨⟨by decide +kernel, by decide +kernel⟩, List.mem_of_getElem? (i := 13) (by decide +kernel), List.mem_of_getElem? (i := 393) (by decide +kernel), List.mem_of_getElem? (i := 394) (by decide +kernel)⟩
theorem lw_p46 : lw_okq (⟨"SlotCore$Registers", "latestOf", "(I)I"⟩, 3) := ⟨⟨by decide +kernel, by decide +kernel⟩, List.mem_of_getElem? (i := 32) (by decide +kernel), List.mem_of_getElem? (i := 397) (by decide +kernel), List.mem_of_getElem? (i := 398) (by decide +kernel)⟩
theorem lw_p47 : lw_okq (⟨"SlotCore", "performStore", "(I)I"⟩, 9) := ⟨⟨by decide +kernel, by decide +kernel⟩, List.mem_of_getElem? (i := 13) (by decide +kernel), List.mem_of_getElem? (i := 412) (by decide +kernel), List.mem_of_getElem? (i := 413) (by decide +kernel)⟩
def lw_privs_3 : List (MethodName × Nat) := [(⟨"SlotCore", "giveTruth", "(IZ)I"⟩, 9), (⟨"SlotCore", "performBranchBySign", "(I)I"⟩, 9), (⟨"SlotCore", "nearTarget", "(I)I"⟩, 9), (⟨"SlotCore", "performJump", "(I)I"⟩, 9), (⟨"SlotCore", "farTarget", "(I)I"⟩, 9), (⟨"SlotCore", "performBranch", "(I)I"⟩, 9), (⟨"SlotCore", "performWithNumber", "(I)I"⟩, 9), (⟨"SlotCore", "performControl", "(I)I"⟩, 9), (⟨"SlotCore$Control", "valueOf", "(I)I"⟩, 5), (⟨"SlotCore", "giveLate", "(II)I"⟩, 9), (⟨"SlotCore$Control", "leave", "()V"⟩, 5), (⟨"SlotCore", "performLoad", "(I)I"⟩, 9), (⟨"SlotCore", "addressOf", "(I)I"⟩, 9), (⟨"SlotCore", "faultOfData", "(III)I"⟩, 9), (⟨"SlotCore$Registers", "latestOf", "(I)I"⟩, 3), (⟨"SlotCore", "performStore", "(I)I"⟩, 9)]
theorem lw_r3 : ∀ q ∈ lw_privs_3, lw_okq q := List.forall_mem_cons.mpr ⟨lw_p32, List.forall_mem_cons.mpr ⟨lw_p33, List.forall_mem_cons.mpr ⟨lw_p34, List.forall_mem_cons.mpr ⟨lw_p35, List.forall_mem_cons.mpr ⟨lw_p36, List.forall_mem_cons.mpr ⟨lw_p37, List.forall_mem_cons.mpr ⟨lw_p38, List.forall_mem_cons.mpr ⟨lw_p39, List.forall_mem_cons.mpr ⟨lw_p40, List.forall_mem_cons.mpr ⟨lw_p41, List.forall_mem_cons.mpr ⟨lw_p42, List.forall_mem_cons.mpr ⟨lw_p43, List.forall_mem_cons.mpr ⟨lw_p44, List.forall_mem_cons.mpr ⟨lw_p45, List.forall_mem_cons.mpr ⟨lw_p46, List.forall_mem_cons.mpr ⟨lw_p47, fun _ h => absurd h List.not_mem_nil⟩⟩⟩⟩⟩⟩⟩⟩⟩⟩⟩⟩⟩⟩⟩⟩
theorem lw_p48 : lw_okq (⟨"SlotCore$Memory", "replaceWord", "(II)V"⟩, 1) := ⟨⟨by decide +kernel, by decide +kernel⟩, List.mem_of_getElem? (i := 21) (by decide +kernel), List.mem_of_getElem? (i := 422) (by decide +kernel), List.mem_of_getElem? (i := 423) (by decide +kernel)⟩
theorem lw_p49 : lw_okq (⟨"SlotCore", "finishInstruction", "()V"⟩, 9) := ⟨⟨by decide +kernel, by decide +kernel⟩, List.mem_of_getElem? (i := 13) (by decide +kernel), List.mem_of_getElem? (i := 426) (by decide +kernel), List.mem_of_getElem? (i := 427) (by decide +kernel)⟩
theorem lw_p50 : lw_okq (⟨"java/lang/Throwable", "fillInStackTrace", "(I)Ljava/lang/Throwable;"⟩, 6) := ⟨⟨by decide +kernel, by decide +kernel⟩, List.mem_of_getElem? (i := 479) (by decide +kernel), List.mem_of_getElem? (i := 477) (by decide +kernel), List.mem_of_getElem? (i := 478) (by decide +kernel)⟩
theorem lw_p51 : lw_okq (⟨"SlotCoreModel", "goes", "(Z)Z"⟩, 28) := ⟨⟨by decide +kernel, by decide +kernel⟩, List.mem_of_getElem? (i := 563) (by decide +kernel), List.mem_of_getElem? (i := 668) (by decide +kernel), List.mem_of_getElem? (i := 669) (by decide +kernel)⟩
theorem lw_p52 : lw_okq (⟨"SlotCoreModel", "load", "(II)I"⟩, 28) := ⟨⟨by decide +kernel, by decide +kernel⟩, List.mem_of_getElem? (i := 563) (by decide +kernel), List.mem_of_getElem? (i := 672) (by decide +kernel), List.mem_of_getElem? (i := 673) (by decide +kernel)⟩
theorem lw_p53 : lw_okq (⟨"SlotCoreModel", "store", "(III)V"⟩, 28) := ⟨⟨by decide +kernel, by decide +kernel⟩, List.mem_of_getElem? (i := 563) (by decide +kernel), List.mem_of_getElem? (i := 676) (by decide +kernel), List.mem_of_getElem? (i := 677) (by decide +kernel)⟩
theorem lw_p54 : lw_okq (⟨"SlotCoreModel", "oneStep", "()I"⟩, 28) := ⟨⟨by decide +kernel, by decide +kernel⟩, List.mem_of_getElem? (i := 563) (by decide +kernel), List.mem_of_getElem? (i := 709) (by decide +kernel), List.mem_of_getElem? (i := 710) (by decide +kernel)⟩
theorem lw_p55 : lw_okq (⟨"SlotCoreModel", "cause", "()I"⟩, 28) := ⟨⟨by decide +kernel, by decide +kernel⟩, List.mem_of_getElem? (i := 563) (by decide +kernel), List.mem_of_getElem? (i := 713) (by decide +kernel), List.mem_of_getElem? (i := 714) (by decide +kernel)⟩
theorem lw_p56 : lw_okq (⟨"SlotCoreModel", "except", "(I)V"⟩, 28) := ⟨⟨by decide +kernel, by decide +kernel⟩, List.mem_of_getElem? (i := 563) (by decide +kernel), List.mem_of_getElem? (i := 718) (by decide +kernel), List.mem_of_getElem? (i := 719) (by decide +kernel)⟩
theorem lw_p57 : lw_okq (⟨"SlotCoreModel", "settle", "()V"⟩, 28) := ⟨⟨by decide +kernel, by decide +kernel⟩, List.mem_of_getElem? (i := 563) (by decide +kernel), List.mem_of_getElem? (i := 723) (by decide +kernel), List.mem_of_getElem? (i := 724) (by decide +kernel)⟩
theorem lw_p58 : lw_okq (⟨"SlotCoreModel", "fetch", "()I"⟩, 28) := ⟨⟨by decide +kernel, by decide +kernel⟩, List.mem_of_getElem? (i := 563) (by decide +kernel), List.mem_of_getElem? (i := 727) (by decide +kernel), List.mem_of_getElem? (i := 728) (by decide +kernel)⟩
theorem lw_p59 : lw_okq (⟨"SlotCoreModel", "user", "()Z"⟩, 28) := ⟨⟨by decide +kernel, by decide +kernel⟩, List.mem_of_getElem? (i := 563) (by decide +kernel), List.mem_of_getElem? (i := 731) (by decide +kernel), List.mem_of_getElem? (i := 732) (by decide +kernel)⟩
theorem lw_p60 : lw_okq (⟨"SlotCoreModel", "read", "()V"⟩, 28) := ⟨⟨by decide +kernel, by decide +kernel⟩, List.mem_of_getElem? (i := 563) (by decide +kernel), List.mem_of_getElem? (i := 739) (by decide +kernel), List.mem_of_getElem? (i := 740) (by decide +kernel)⟩
theorem lw_p61 : lw_okq (⟨"SlotCoreModel", "trouble", "()I"⟩, 28) := ⟨⟨by decide +kernel, by decide +kernel⟩, List.mem_of_getElem? (i := 563) (by decide +kernel), List.mem_of_getElem? (i := 743) (by decide +kernel), List.mem_of_getElem? (i := 744) (by decide +kernel)⟩
theorem lw_p62 : lw_okq (⟨"SlotCoreModel", "isKnown", "()Z"⟩, 28) := ⟨⟨by decide +kernel, by decide +kernel⟩, List.mem_of_getElem? (i := 563) (by decide +kernel), List.mem_of_getElem? (i := 747) (by decide +kernel), List.mem_of_getElem? (i := 748) (by decide +kernel)⟩
theorem lw_p63 : lw_okq (⟨"SlotCoreModel", "isBranch", "()Z"⟩, 28) := ⟨⟨by decide +kernel, by decide +kernel⟩, List.mem_of_getElem? (i := 563) (by decide +kernel), List.mem_of_getElem? (i := 751) (by decide +kernel), List.mem_of_getElem? (i := 752) (by decide +kernel)⟩
def lw_privs_4 : List (MethodName × Nat) := [(⟨"SlotCore$Memory", "replaceWord", "(II)V"⟩, 1), (⟨"SlotCore", "finishInstruction", "()V"⟩, 9), (⟨"java/lang/Throwable", "fillInStackTrace", "(I)Ljava/lang/Throwable;"⟩, 6), (⟨"SlotCoreModel", "goes", "(Z)Z"⟩, 28), (⟨"SlotCoreModel", "load", "(II)I"⟩, 28), (⟨"SlotCoreModel", "store", "(III)V"⟩, 28), (⟨"SlotCoreModel", "oneStep", "()I"⟩, 28), (⟨"SlotCoreModel", "cause", "()I"⟩, 28), (⟨"SlotCoreModel", "except", "(I)V"⟩, 28), (⟨"SlotCoreModel", "settle", "()V"⟩, 28), (⟨"SlotCoreModel", "fetch", "()I"⟩, 28), (⟨"SlotCoreModel", "user", "()Z"⟩, 28), (⟨"SlotCoreModel", "read", "()V"⟩, 28), (⟨"SlotCoreModel", "trouble", "()I"⟩, 28), (⟨"SlotCoreModel", "isKnown", "()Z"⟩, 28), (⟨"SlotCoreModel", "isBranch", "()Z"⟩, 28)]
theorem lw_r4 : ∀ q ∈ lw_privs_4, lw_okq q := List.forall_mem_cons.mpr ⟨lw_p48, List.forall_mem_cons.mpr ⟨lw_p49, List.forall_mem_cons.mpr ⟨lw_p50, List.forall_mem_cons.mpr ⟨lw_p51, List.forall_mem_cons.mpr ⟨lw_p52, List.forall_mem_cons.mpr ⟨lw_p53, List.forall_mem_cons.mpr ⟨lw_p54, List.forall_mem_cons.mpr ⟨lw_p55, List.forall_mem_cons.mpr ⟨lw_p56, List.forall_mem_cons.mpr ⟨lw_p57, List.forall_mem_cons.mpr ⟨lw_p58, List.forall_mem_cons.mpr ⟨lw_p59, List.forall_mem_cons.mpr ⟨lw_p60, List.forall_mem_cons.mpr ⟨lw_p61, List.forall_mem_cons.mpr ⟨lw_p62, List.forall_mem_cons.mpr ⟨lw_p63, fun _ h => absurd h List.not_mem_nil⟩⟩⟩⟩⟩⟩⟩⟩⟩⟩⟩⟩⟩⟩⟩⟩
theorem lw_p64 : lw_okq (⟨"SlotCoreModel", "number", "()I"⟩, 28) := ⟨⟨by decide +kernel, by decide +kernel⟩, List.mem_of_getElem? (i := 563) (by decide +kernel), List.mem_of_getElem? (i := 758) (by decide +kernel), List.mem_of_getElem? (i := 759) (by decide +kernel)⟩
theorem lw_p65 : lw_okq (⟨"SlotCoreModel", "addressTrouble", "()I"⟩, 28) := ⟨⟨by decide +kernel, by decide +kernel⟩, List.mem_of_getElem? (i := 563) (by decide +kernel), List.mem_of_getElem? (i := 762) (by decide +kernel), List.mem_of_getElem? (i := 763) (by decide +kernel)⟩
theorem lw_p66 : lw_okq (⟨"SlotCoreModel", "isPart", "()Z"⟩, 28) := ⟨⟨by decide +kernel, by decide +kernel⟩, List.mem_of_getElem? (i := 563) (by decide +kernel), List.mem_of_getElem? (i := 766) (by decide +kernel), List.mem_of_getElem? (i := 767) (by decide +kernel)⟩
theorem lw_p67 : lw_okq (⟨"SlotCoreModel", "moved", "()I"⟩, 28) := ⟨⟨by decide +kernel, by decide +kernel⟩, List.mem_of_getElem? (i := 563) (by decide +kernel), List.mem_of_getElem? (i := 770) (by decide +kernel), List.mem_of_getElem? (i := 771) (by decide +kernel)⟩
theorem lw_p68 : lw_okq (⟨"SlotCoreModel", "act", "()V"⟩, 28) := ⟨⟨by decide +kernel, by decide +kernel⟩, List.mem_of_getElem? (i := 563) (by decide +kernel), List.mem_of_getElem? (i := 774) (by decide +kernel), List.mem_of_getElem? (i := 775) (by decide +kernel)⟩
theorem lw_p69 : lw_okq (⟨"SlotCoreModel", "byRegisters", "()V"⟩, 28) := ⟨⟨by decide +kernel, by decide +kernel⟩, List.mem_of_getElem? (i := 563) (by decide +kernel), List.mem_of_getElem? (i := 778) (by decide +kernel), List.mem_of_getElem? (i := 779) (by decide +kernel)⟩
theorem lw_p70 : lw_okq (⟨"SlotCoreModel", "gives", "(II)V"⟩, 28) := ⟨⟨by decide +kernel, by decide +kernel⟩, List.mem_of_getElem? (i := 563) (by decide +kernel), List.mem_of_getElem? (i := 782) (by decide +kernel), List.mem_of_getElem? (i := 783) (by decide +kernel)⟩
theorem lw_p71 : lw_okq (⟨"SlotCoreModel", "multiply", "(Z)V"⟩, 28) := ⟨⟨by decide +kernel, by decide +kernel⟩, List.mem_of_getElem? (i := 563) (by decide +kernel), List.mem_of_getElem? (i := 786) (by decide +kernel), List.mem_of_getElem? (i := 787) (by decide +kernel)⟩
theorem lw_p72 : lw_okq (⟨"SlotCoreModel", "divide", "(Z)V"⟩, 28) := ⟨⟨by decide +kernel, by decide +kernel⟩, List.mem_of_getElem? (i := 563) (by decide +kernel), List.mem_of_getElem? (i := 791) (by decide +kernel), List.mem_of_getElem? (i := 792) (by decide +kernel)⟩
theorem lw_p73 : lw_okq (⟨"SlotCoreModel", "shifts", "(I)V"⟩, 28) := ⟨⟨by decide +kernel, by decide +kernel⟩, List.mem_of_getElem? (i := 563) (by decide +kernel), List.mem_of_getElem? (i := 798) (by decide +kernel), List.mem_of_getElem? (i := 799) (by decide +kernel)⟩
theorem lw_p74 : lw_okq (⟨"SlotCoreModel", "branch", "()V"⟩, 28) := ⟨⟨by decide +kernel, by decide +kernel⟩, List.mem_of_getElem? (i := 563) (by decide +kernel), List.mem_of_getElem? (i := 802) (by decide +kernel), List.mem_of_getElem? (i := 803) (by decide +kernel)⟩
theorem lw_p75 : lw_okq (⟨"SlotCoreModel", "byNumber", "()V"⟩, 28) := ⟨⟨by decide +kernel, by decide +kernel⟩, List.mem_of_getElem? (i := 563) (by decide +kernel), List.mem_of_getElem? (i := 808) (by decide +kernel), List.mem_of_getElem? (i := 809) (by decide +kernel)⟩
theorem lw_p76 : lw_okq (⟨"SlotCoreModel", "control", "()V"⟩, 28) := ⟨⟨by decide +kernel, by decide +kernel⟩, List.mem_of_getElem? (i := 563) (by decide +kernel), List.mem_of_getElem? (i := 813) (by decide +kernel), List.mem_of_getElem? (i := 814) (by decide +kernel)⟩
theorem lw_p77 : lw_okq (⟨"SlotCoreModel", "memory", "()V"⟩, 28) := ⟨⟨by decide +kernel, by decide +kernel⟩, List.mem_of_getElem? (i := 563) (by decide +kernel), List.mem_of_getElem? (i := 817) (by decide +kernel), List.mem_of_getElem? (i := 818) (by decide +kernel)⟩
theorem lw_p78 : lw_okq (⟨"SlotCoreModel", "part", "(I)V"⟩, 28) := ⟨⟨by decide +kernel, by decide +kernel⟩, List.mem_of_getElem? (i := 563) (by decide +kernel), List.mem_of_getElem? (i := 821) (by decide +kernel), List.mem_of_getElem? (i := 822) (by decide +kernel)⟩
def lw_privs_5 : List (MethodName × Nat) := [(⟨"SlotCoreModel", "number", "()I"⟩, 28), (⟨"SlotCoreModel", "addressTrouble", "()I"⟩, 28), (⟨"SlotCoreModel", "isPart", "()Z"⟩, 28), (⟨"SlotCoreModel", "moved", "()I"⟩, 28), (⟨"SlotCoreModel", "act", "()V"⟩, 28), (⟨"SlotCoreModel", "byRegisters", "()V"⟩, 28), (⟨"SlotCoreModel", "gives", "(II)V"⟩, 28), (⟨"SlotCoreModel", "multiply", "(Z)V"⟩, 28), (⟨"SlotCoreModel", "divide", "(Z)V"⟩, 28), (⟨"SlotCoreModel", "shifts", "(I)V"⟩, 28), (⟨"SlotCoreModel", "branch", "()V"⟩, 28), (⟨"SlotCoreModel", "byNumber", "()V"⟩, 28), (⟨"SlotCoreModel", "control", "()V"⟩, 28), (⟨"SlotCoreModel", "memory", "()V"⟩, 28), (⟨"SlotCoreModel", "part", "(I)V"⟩, 28)]
theorem lw_r5 : ∀ q ∈ lw_privs_5, lw_okq q := List.forall_mem_cons.mpr ⟨lw_p64, List.forall_mem_cons.mpr ⟨lw_p65, List.forall_mem_cons.mpr ⟨lw_p66, List.forall_mem_cons.mpr ⟨lw_p67, List.forall_mem_cons.mpr ⟨lw_p68, List.forall_mem_cons.mpr ⟨lw_p69, List.forall_mem_cons.mpr ⟨lw_p70, List.forall_mem_cons.mpr ⟨lw_p71, List.forall_mem_cons.mpr ⟨lw_p72, List.forall_mem_cons.mpr ⟨lw_p73, List.forall_mem_cons.mpr ⟨lw_p74, List.forall_mem_cons.mpr ⟨lw_p75, List.forall_mem_cons.mpr ⟨lw_p76, List.forall_mem_cons.mpr ⟨lw_p77, List.forall_mem_cons.mpr ⟨lw_p78, fun _ h => absurd h List.not_mem_nil⟩⟩⟩⟩⟩⟩⟩⟩⟩⟩⟩⟩⟩⟩⟩
def lw_privs : List (MethodName × Nat) := lw_privs_1 ++ (lw_privs_2 ++ (lw_privs_3 ++ (lw_privs_4 ++ (lw_privs_5))))
def lw_tbl : List Cond := k2_sels lw_privs ++ tables_1
theorem lw_privs_ok : ∀ q ∈ lw_privs, lw_okq q := by
  show ∀ q ∈ lw_privs_1 ++ (lw_privs_2 ++ (lw_privs_3 ++ (lw_privs_4 ++ (lw_privs_5)))), lw_okq q
  exact List.forall_mem_append.mpr ⟨lw_r1, List.forall_mem_append.mpr ⟨lw_r2, List.forall_mem_append.mpr ⟨lw_r3, List.forall_mem_append.mpr ⟨lw_r4, lw_r5⟩⟩⟩⟩
/-! our words stand in that list -/
theorem my_ixm {B L : List Cond} {ix : List Nat} (h : ix.map (fun i => B[i]?) = L.map some) : ∀ w ∈ L, w ∈ B := by
  intro w hw
  have h1 : some w ∈ L.map some := List.mem_map_of_mem hw
  rw [← h] at h1
  obtain ⟨i, -, hi⟩ := List.mem_map.mp h1
  exact List.mem_of_getElem? hi
set_option maxRecDepth 100000 in
theorem gw_tb0 : ([79, 80, 81, 82, 83, 84, 85, 91, 92, 93, 94, 95, 96, 97, 98, 99, 100, 102, 103, 104] : List Nat).map (fun i => lw_tbl[i]?) = ((GW.drop 0).take 20).map some := by decide +kernel
set_option maxRecDepth 100000 in
theorem gw_tb1 : ([105, 106, 109, 110, 111, 113, 114, 115, 116, 117, 119, 121, 123, 125, 128, 129, 131, 132, 133, 134] : List Nat).map (fun i => lw_tbl[i]?) = ((GW.drop 20).take 20).map some := by decide +kernel
set_option maxRecDepth 100000 in
theorem gw_tb2 : ([136, 137, 139, 141, 143, 145, 147, 149, 151, 154, 155, 157, 158, 159, 160, 163, 165, 167, 169, 171] : List Nat).map (fun i => lw_tbl[i]?) = ((GW.drop 40).take 20).map some := by decide +kernel
set_option maxRecDepth 100000 in
theorem gw_tb3 : ([173, 175, 177, 180, 181, 182, 183, 184, 185, 186, 187, 188, 189, 191, 193, 195, 197, 199, 201, 203] : List Nat).map (fun i => lw_tbl[i]?) = ((GW.drop 60).take 20).map some := by decide +kernel
set_option maxRecDepth 100000 in
theorem gw_tb4 : ([205, 208, 209, 210, 211, 0, 214, 215, 216, 1, 218, 219, 220, 2, 222, 223, 3, 226, 227, 228] : List Nat).map (fun i => lw_tbl[i]?) = ((GW.drop 80).take 20).map some := by decide +kernel
set_option maxRecDepth 100000 in
theorem gw_tb5 : ([4, 230, 231, 232, 233, 234, 235, 237, 238, 239, 240, 5, 243, 244, 245, 247, 248, 249, 250, 251] : List Nat).map (fun i => lw_tbl[i]?) = ((GW.drop 100).take 20).map some := by decide +kernel
set_option maxRecDepth 100000 in
theorem gw_tb6 : ([252, 253, 6, 255, 256, 7, 259, 260, 261, 8, 263, 264, 265, 266, 9, 268, 269, 10, 272, 273] : List Nat).map (fun i => lw_tbl[i]?) = ((GW.drop 120).take 20).map some := by decide +kernel
set_option maxRecDepth 100000 in
theorem gw_tb7 : ([274, 11, 276, 277, 12, 280, 281, 282, 283, 284, 13, 286, 287, 14, 290, 291, 292, 15, 294, 295] : List Nat).map (fun i => lw_tbl[i]?) = ((GW.drop 140).take 20).map some := by decide +kernel
set_option maxRecDepth 100000 in
theorem gw_tb8 : ([296, 297, 298, 299, 16, 302, 303, 304, 305, 306, 307, 17, 309, 310, 18, 313, 314, 315, 316, 317] : List Nat).map (fun i => lw_tbl[i]?) = ((GW.drop 160).take 20).map some := by decide +kernel
set_option maxRecDepth 100000 in
theorem gw_tb9 : ([318, 319, 320, 321, 322, 323, 324, 325, 326, 327, 328, 329, 330, 19, 332, 333, 334, 20, 336, 337] : List Nat).map (fun i => lw_tbl[i]?) = ((GW.drop 180).take 20).map some := by decide +kernel
set_option maxRecDepth 100000 in
theorem gw_tb10 : ([338, 21, 340, 341, 22, 344, 345, 346, 347, 348, 349, 23, 351, 352, 353, 354, 355, 356, 357, 358] : List Nat).map (fun i => lw_tbl[i]?) = ((GW.drop 200).take 20).map some := by decide +kernel
set_option maxRecDepth 100000 in
theorem gw_tb11 : ([359, 24, 361, 362, 363, 25, 365, 366, 367, 26, 369, 370, 371, 27, 373, 374, 375, 28, 377, 378] : List Nat).map (fun i => lw_tbl[i]?) = ((GW.drop 220).take 20).map some := by decide +kernel
set_option maxRecDepth 100000 in
theorem gw_tb12 : ([379, 29, 381, 382, 384, 385, 386, 387, 388, 389, 390, 391, 392, 393, 394, 395, 396, 397, 398, 30] : List Nat).map (fun i => lw_tbl[i]?) = ((GW.drop 240).take 20).map some := by decide +kernel
set_option maxRecDepth 100000 in
theorem gw_tb13 : ([400, 401, 402, 31, 404, 405, 406, 32, 408, 409, 410, 33, 412, 413, 414, 34, 416, 417, 418, 419] : List Nat).map (fun i => lw_tbl[i]?) = ((GW.drop 260).take 20).map some := by decide +kernel
set_option maxRecDepth 100000 in
theorem gw_tb14 : ([420, 421, 35, 423, 424, 425, 36, 427, 428, 429, 430, 431, 37, 433, 434, 435, 38, 437, 438, 439] : List Nat).map (fun i => lw_tbl[i]?) = ((GW.drop 280).take 20).map some := by decide +kernel
set_option maxRecDepth 100000 in
theorem gw_tb15 : ([440, 441, 442, 443, 39, 445, 446, 40, 450, 451, 452, 41, 454, 455, 42, 458, 459, 460, 43, 462] : List Nat).map (fun i => lw_tbl[i]?) = ((GW.drop 300).take 20).map some := by decide +kernel
set_option maxRecDepth 100000 in
theorem gw_tb16 : ([463, 464, 44, 466, 467, 468, 469, 470, 471, 45, 473, 474, 46, 477, 478, 479, 480, 481, 482, 483] : List Nat).map (fun i => lw_tbl[i]?) = ((GW.drop 320).take 20).map some := by decide +kernel
set_option maxRecDepth 100000 in
theorem gw_tb17 : ([484, 485, 486, 487, 488, 489, 490, 47, 492, 493, 494, 495, 496, 497, 498, 499, 48, 502, 503, 504] : List Nat).map (fun i => lw_tbl[i]?) = ((GW.drop 340).take 20).map some := by decide +kernel
set_option maxRecDepth 100000 in
theorem gw_tb18 : ([49, 506, 507, 509, 510, 513, 514, 515, 516, 517, 518, 519, 582, 583, 585, 586, 587, 588, 589, 590] : List Nat).map (fun i => lw_tbl[i]?) = ((GW.drop 360).take 20).map some := by decide +kernel
set_option maxRecDepth 100000 in
theorem gw_tb19 : ([592, 593, 594, 595, 596, 597, 599, 600, 601, 602, 603, 604, 607, 608, 609, 610, 626, 627, 629, 630] : List Nat).map (fun i => lw_tbl[i]?) = ((GW.drop 380).take 20).map some := by decide +kernel
set_option maxRecDepth 100000 in
theorem gw_tb20 : ([631, 632, 633, 634, 636, 637, 638, 639, 641, 642, 643, 644, 645, 646, 647, 648, 649, 650, 651, 652] : List Nat).map (fun i => lw_tbl[i]?) = ((GW.drop 400).take 20).map some := by decide +kernel
set_option maxRecDepth 100000 in
theorem gw_tb21 : ([653, 654, 655, 656, 657, 658, 659, 660, 661, 662, 663, 664, 665, 666, 667, 668, 669, 670, 671, 672] : List Nat).map (fun i => lw_tbl[i]?) = ((GW.drop 420).take 20).map some := by decide +kernel
set_option maxRecDepth 100000 in
theorem gw_tb22 : ([673, 674, 676, 678, 680, 682, 684, 686, 688, 690, 692, 694, 696, 698, 700, 702, 704, 706, 708, 710] : List Nat).map (fun i => lw_tbl[i]?) = ((GW.drop 440).take 20).map some := by decide +kernel
set_option maxRecDepth 100000 in
theorem gw_tb23 : ([712, 714, 716, 718, 720, 722, 724, 726, 728, 731, 732, 733, 734, 735, 736, 737, 738, 739, 740, 741] : List Nat).map (fun i => lw_tbl[i]?) = ((GW.drop 460).take 20).map some := by decide +kernel
set_option maxRecDepth 100000 in
theorem gw_tb24 : ([742, 743, 744, 745, 746, 51, 748, 749, 750, 52, 752, 753, 754, 53, 756, 757, 758, 759, 760, 761] : List Nat).map (fun i => lw_tbl[i]?) = ((GW.drop 480).take 20).map some := by decide +kernel
set_option maxRecDepth 100000 in
theorem gw_tb25 : ([762, 763, 764, 765, 766, 767, 768, 769, 770, 771, 772, 773, 774, 775, 776, 777, 778, 779, 780, 781] : List Nat).map (fun i => lw_tbl[i]?) = ((GW.drop 500).take 20).map some := by decide +kernel
set_option maxRecDepth 100000 in
theorem gw_tb26 : ([782, 783, 784, 785, 786, 787, 54, 789, 790, 791, 55, 793, 794, 795, 796, 56, 798, 799, 800, 801] : List Nat).map (fun i => lw_tbl[i]?) = ((GW.drop 520).take 20).map some := by decide +kernel
set_option maxRecDepth 100000 in
theorem gw_tb27 : ([57, 803, 804, 805, 58, 807, 808, 809, 59, 811, 812, 813, 814, 815, 816, 817, 60, 819, 820, 821] : List Nat).map (fun i => lw_tbl[i]?) = ((GW.drop 540).take 20).map some := by decide +kernel
set_option maxRecDepth 100000 in
theorem gw_tb28 : ([61, 823, 824, 825, 62, 827, 828, 829, 63, 831, 832, 833, 834, 835, 836, 64, 838, 839, 840, 65] : List Nat).map (fun i => lw_tbl[i]?) = ((GW.drop 560).take 20).map some := by decide +kernel
set_option maxRecDepth 100000 in
theorem gw_tb29 : ([842, 843, 844, 66, 846, 847, 848, 67, 850, 851, 852, 68, 854, 855, 856, 69, 858, 859, 860, 70] : List Nat).map (fun i => lw_tbl[i]?) = ((GW.drop 580).take 20).map some := by decide +kernel
set_option maxRecDepth 100000 in
theorem gw_tb30 : ([862, 863, 864, 71, 866, 867, 868, 869, 72, 871, 872, 873, 874, 875, 876, 73, 878, 879, 880, 74] : List Nat).map (fun i => lw_tbl[i]?) = ((GW.drop 600).take 20).map some := by decide +kernel
set_option maxRecDepth 100000 in
theorem gw_tb31 : ([882, 883, 884, 885, 886, 75, 888, 889, 890, 891, 76, 893, 894, 895, 77, 897, 898, 899, 78, 901] : List Nat).map (fun i => lw_tbl[i]?) = ((GW.drop 620).take 20).map some := by decide +kernel
set_option maxRecDepth 100000 in
theorem gw_tb32 : ([902, 903, 904, 905, 906, 907, 908, 909, 910, 911] : List Nat).map (fun i => lw_tbl[i]?) = ((GW.drop 640).take 20).map some := by decide +kernel
theorem my_chunk {L : List Cond} {P : Cond → Prop} {C : Nat} (hC : 0 < C) {n : Nat} (hn : L.length ≤ n * C) (h : ∀ j, j < n → ∀ w ∈ (L.drop (j * C)).take C, P w) : ∀ w ∈ L, P w := by
  intro w hw
  obtain ⟨i, hi⟩ := List.getElem?_of_mem hw
  have hl : i < L.length := (List.getElem?_eq_some_iff.mp hi).1
  have hj : i / C < n := Nat.div_lt_of_lt_mul (by rw [Nat.mul_comm]; omega)
  refine h (i / C) hj w (List.mem_of_getElem? (i := i % C) ?_)
  rw [List.getElem?_take_of_lt (Nat.mod_lt _ hC), List.getElem?_drop, show i / C * C + i % C = i from by rw [Nat.mul_comm]; exact Nat.div_add_mod i C]
  exact hi
theorem gw_t : ∀ w ∈ GW, w ∈ lw_tbl := by
  refine my_chunk (C := 20) (n := 33) (by decide) (by decide +kernel) (fun j hj => ?_)
  match j, hj with
  | 0, _ => exact my_ixm gw_tb0
  | 1, _ => exact my_ixm gw_tb1
  | 2, _ => exact my_ixm gw_tb2
  | 3, _ => exact my_ixm gw_tb3
  | 4, _ => exact my_ixm gw_tb4
  | 5, _ => exact my_ixm gw_tb5
  | 6, _ => exact my_ixm gw_tb6
  | 7, _ => exact my_ixm gw_tb7
  | 8, _ => exact my_ixm gw_tb8
  | 9, _ => exact my_ixm gw_tb9
  | 10, _ => exact my_ixm gw_tb10
  | 11, _ => exact my_ixm gw_tb11
  | 12, _ => exact my_ixm gw_tb12
  | 13, _ => exact my_ixm gw_tb13
  | 14, _ => exact my_ixm gw_tb14
  | 15, _ => exact my_ixm gw_tb15
  | 16, _ => exact my_ixm gw_tb16
  | 17, _ => exact my_ixm gw_tb17
  | 18, _ => exact my_ixm gw_tb18
  | 19, _ => exact my_ixm gw_tb19
  | 20, _ => exact my_ixm gw_tb20
  | 21, _ => exact my_ixm gw_tb21
  | 22, _ => exact my_ixm gw_tb22
  | 23, _ => exact my_ixm gw_tb23
  | 24, _ => exact my_ixm gw_tb24
  | 25, _ => exact my_ixm gw_tb25
  | 26, _ => exact my_ixm gw_tb26
  | 27, _ => exact my_ixm gw_tb27
  | 28, _ => exact my_ixm gw_tb28
  | 29, _ => exact my_ixm gw_tb29
  | 30, _ => exact my_ixm gw_tb30
  | 31, _ => exact my_ixm gw_tb31
  | 32, _ => exact my_ixm gw_tb32
  | n + 33, h => exact absurd h (by omega)
def nw_ix : List Nat := [101, 112, 118, 120, 130, 135, 138, 140, 142, 156, 161, 162, 164, 166, 168, 212, 224, 236, 241, 246, 257, 270, 278, 288, 300, 311, 342, 383, 447, 448, 456, 475, 500, 508, 640]
set_option maxRecDepth 100000 in
theorem nw_tb : nw_ix.map (fun i => lw_tbl[i]?) = nwS.map some := by decide +kernel
set_option maxRecDepth 100000 in
theorem gt_tb : ∀ w ∈ GT, w ∈ tables_1 := by decide +kernel
theorem nw_t : ∀ w ∈ nwS, w ∈ lw_tbl := my_ixm nw_tb
theorem gt_t : ∀ w ∈ GT, w ∈ lw_tbl := fun w h => List.mem_append_right _ (gt_tb w h)
theorem gv_t : ∀ w ∈ GV, w ∈ lw_tbl := fun w h => (List.mem_append.mp h).elim (gw_t w) (gt_t w)
theorem gl_N : (Cond.classLink nR_L 13 nR_N) ∈ lw_tbl := List.mem_append_right _ (List.mem_of_getElem? (i := 433) (by decide +kernel))
theorem gl_I : (Cond.classLink nR_L 28 nR_I) ∈ lw_tbl := List.mem_append_right _ (List.mem_of_getElem? (i := 527) (by decide +kernel))
theorem gu_t : ∀ w ∈ GU, w ∈ lw_tbl := fun w h => (List.mem_cons.mp h).elim (fun e => e ▸ gl_N) (fun h => (List.mem_cons.mp h).elim (fun e => e ▸ gl_I) (gv_t w))
theorem gh_put : (Cond.codeWith ny_L_put nc_L_put 5 (some .int) [(0, 10, 13, 13)]) ∈ lw_tbl := List.mem_append_right _ (List.mem_of_getElem? (i := 432) (by decide +kernel))
theorem gh_word : (Cond.codeWith ny_L_word nc_L_word 4 (some .int) [(0, 9, 12, 13)]) ∈ lw_tbl := List.mem_append_right _ (List.mem_of_getElem? (i := 505) (by decide +kernel))
theorem gh_set : (Cond.codeWith ny_L_set nc_L_set 5 (some .int) [(0, 10, 13, 13)]) ∈ lw_tbl := List.mem_append_right _ (List.mem_of_getElem? (i := 512) (by decide +kernel))
theorem gh_register : (Cond.codeWith ny_L_register nc_L_register 4 (some .int) [(0, 9, 12, 13)]) ∈ lw_tbl := List.mem_append_right _ (List.mem_of_getElem? (i := 519) (by decide +kernel))
theorem gh_lines : (Cond.codeWith ny_L_lines nc_L_lines 4 (some .int) [(0, 9, 12, 28)]) ∈ lw_tbl := List.mem_append_right _ (List.mem_of_getElem? (i := 526) (by decide +kernel))
theorem gh_run : (Cond.codeWith ny_L_run nc_L_run 4 (some .int) [(0, 9, 12, 28)]) ∈ lw_tbl := List.mem_append_right _ (List.mem_of_getElem? (i := 549) (by decide +kernel))
theorem gh_look : (Cond.codeWith ny_L_look nc_L_look 4 (some .int) [(0, 9, 12, 13)]) ∈ lw_tbl := List.mem_append_right _ (List.mem_of_getElem? (i := 556) (by decide +kernel))
