section
-- ===== PART A: goes FIRST, ahead of the names: the tables' words, and 'selects' of the private methods out of them =====
/-- a private method of a class that the tables say can be made, by its rows of tables_1 -/
def lw_okq (q : MethodName × Nat) : Prop := (q.1.cls ≠ "java/lang/invoke/MethodHandle" ∧ q.1.cls ≠ "java/lang/invoke/VarHandle") ∧ Cond.instantiable q.1.cls q.2 ∈ tables_1 ∧ Cond.privateMethod q.1 ∈ tables_1 ∧ Cond.instanceMethod q.1 ∈ tables_1
theorem lw_p0 : lw_okq (⟨"MatrixModule$Operation", "become", "(IIIII)V"⟩, 7) := ⟨⟨by decide +kernel, by decide +kernel⟩, List.mem_of_getElem? (i := 18) (by decide +kernel), List.mem_of_getElem? (i := 99) (by decide +kernel), List.mem_of_getElem? (i := 100) (by decide +kernel)⟩
theorem lw_p1 : lw_okq (⟨"MatrixModule", "addWithShape", "(II)I"⟩, 11) := ⟨⟨by decide +kernel, by decide +kernel⟩, List.mem_of_getElem? (i := 7) (by decide +kernel), List.mem_of_getElem? (i := 103) (by decide +kernel), List.mem_of_getElem? (i := 104) (by decide +kernel)⟩
theorem lw_p2 : lw_okq (⟨"MatrixModule$Operation", "takeShape", "(II)V"⟩, 7) := ⟨⟨by decide +kernel, by decide +kernel⟩, List.mem_of_getElem? (i := 18) (by decide +kernel), List.mem_of_getElem? (i := 107) (by decide +kernel), List.mem_of_getElem? (i := 108) (by decide +kernel)⟩
theorem lw_p3 : lw_okq (⟨"MatrixModule", "undoSimplifying", "()V"⟩, 11) := ⟨⟨by decide +kernel, by decide +kernel⟩, List.mem_of_getElem? (i := 7) (by decide +kernel), List.mem_of_getElem? (i := 111) (by decide +kernel), List.mem_of_getElem? (i := 112) (by decide +kernel)⟩
theorem lw_p4 : lw_okq (⟨"MatrixModule$Operation", "copyFrom", "(LMatrixModule$Operation;)V"⟩, 7) := ⟨⟨by decide +kernel, by decide +kernel⟩, List.mem_of_getElem? (i := 18) (by decide +kernel), List.mem_of_getElem? (i := 115) (by decide +kernel), List.mem_of_getElem? (i := 116) (by decide +kernel)⟩
theorem lw_p5 : lw_okq (⟨"MatrixModule", "findLive", "()V"⟩, 11) := ⟨⟨by decide +kernel, by decide +kernel⟩, List.mem_of_getElem? (i := 7) (by decide +kernel), List.mem_of_getElem? (i := 121) (by decide +kernel), List.mem_of_getElem? (i := 122) (by decide +kernel)⟩
theorem lw_p6 : lw_okq (⟨"MatrixModule", "makeLive", "(I)V"⟩, 11) := ⟨⟨by decide +kernel, by decide +kernel⟩, List.mem_of_getElem? (i := 7) (by decide +kernel), List.mem_of_getElem? (i := 125) (by decide +kernel), List.mem_of_getElem? (i := 126) (by decide +kernel)⟩
theorem lw_p7 : lw_okq (⟨"MatrixModule", "isValue", "(I)Z"⟩, 11) := ⟨⟨by decide +kernel, by decide +kernel⟩, List.mem_of_getElem? (i := 7) (by decide +kernel), List.mem_of_getElem? (i := 133) (by decide +kernel), List.mem_of_getElem? (i := 134) (by decide +kernel)⟩
theorem lw_p8 : lw_okq (⟨"MatrixModule$Operation", "hasShapeOf", "(LMatrixModule$Operation;)Z"⟩, 7) := ⟨⟨by decide +kernel, by decide +kernel⟩, List.mem_of_getElem? (i := 18) (by decide +kernel), List.mem_of_getElem? (i := 140) (by decide +kernel), List.mem_of_getElem? (i := 141) (by decide +kernel)⟩
theorem lw_p9 : lw_okq (⟨"MatrixModule", "replaceArguments", "(LMatrixModule$Operation;)V"⟩, 11) := ⟨⟨by decide +kernel, by decide +kernel⟩, List.mem_of_getElem? (i := 7) (by decide +kernel), List.mem_of_getElem? (i := 179) (by decide +kernel), List.mem_of_getElem? (i := 180) (by decide +kernel)⟩
theorem lw_p10 : lw_okq (⟨"MatrixModule$Operation", "takesPairs", "()Z"⟩, 7) := ⟨⟨by decide +kernel, by decide +kernel⟩, List.mem_of_getElem? (i := 18) (by decide +kernel), List.mem_of_getElem? (i := 183) (by decide +kernel), List.mem_of_getElem? (i := 184) (by decide +kernel)⟩
theorem lw_p11 : lw_okq (⟨"MatrixModule", "standInByRules", "(I)I"⟩, 11) := ⟨⟨by decide +kernel, by decide +kernel⟩, List.mem_of_getElem? (i := 7) (by decide +kernel), List.mem_of_getElem? (i := 187) (by decide +kernel), List.mem_of_getElem? (i := 188) (by decide +kernel)⟩
theorem lw_p12 : lw_okq (⟨"MatrixModule", "hasOnlySplats", "(LMatrixModule$Operation;)Z"⟩, 11) := ⟨⟨by decide +kernel, by decide +kernel⟩, List.mem_of_getElem? (i := 7) (by decide +kernel), List.mem_of_getElem? (i := 191) (by decide +kernel), List.mem_of_getElem? (i := 192) (by decide +kernel)⟩
theorem lw_p13 : lw_okq (⟨"MatrixModule", "foldedCell", "(LMatrixModule$Operation;)I"⟩, 11) := ⟨⟨by decide +kernel, by decide +kernel⟩, List.mem_of_getElem? (i := 7) (by decide +kernel), List.mem_of_getElem? (i := 195) (by decide +kernel), List.mem_of_getElem? (i := 196) (by decide +kernel)⟩
theorem lw_p14 : lw_okq (⟨"MatrixModule$Operation", "becomeSplat", "(I)V"⟩, 7) := ⟨⟨by decide +kernel, by decide +kernel⟩, List.mem_of_getElem? (i := 18) (by decide +kernel), List.mem_of_getElem? (i := 202) (by decide +kernel), List.mem_of_getElem? (i := 203) (by decide +kernel)⟩
theorem lw_p15 : lw_okq (⟨"MatrixModule", "alikeOrItself", "(I)I"⟩, 11) := ⟨⟨by decide +kernel, by decide +kernel⟩, List.mem_of_getElem? (i := 7) (by decide +kernel), List.mem_of_getElem? (i := 206) (by decide +kernel), List.mem_of_getElem? (i := 207) (by decide +kernel)⟩
def lw_privs_1 : List (MethodName × Nat) := [(⟨"MatrixModule$Operation", "become", "(IIIII)V"⟩, 7), (⟨"MatrixModule", "addWithShape", "(II)I"⟩, 11), (⟨"MatrixModule$Operation", "takeShape", "(II)V"⟩, 7), (⟨"MatrixModule", "undoSimplifying", "()V"⟩, 11), (⟨"MatrixModule$Operation", "copyFrom", "(LMatrixModule$Operation;)V"⟩, 7), (⟨"MatrixModule", "findLive", "()V"⟩, 11), (⟨"MatrixModule", "makeLive", "(I)V"⟩, 11), (⟨"MatrixModule", "isValue", "(I)Z"⟩, 11), (⟨"MatrixModule$Operation", "hasShapeOf", "(LMatrixModule$Operation;)Z"⟩, 7), (⟨"MatrixModule", "replaceArguments", "(LMatrixModule$Operation;)V"⟩, 11), (⟨"MatrixModule$Operation", "takesPairs", "()Z"⟩, 7), (⟨"MatrixModule", "standInByRules", "(I)I"⟩, 11), (⟨"MatrixModule", "hasOnlySplats", "(LMatrixModule$Operation;)Z"⟩, 11), (⟨"MatrixModule", "foldedCell", "(LMatrixModule$Operation;)I"⟩, 11), (⟨"MatrixModule$Operation", "becomeSplat", "(I)V"⟩, 7), (⟨"MatrixModule", "alikeOrItself", "(I)I"⟩, 11)]
theorem lw_r1 : ∀ q ∈ lw_privs_1, lw_okq q := List.forall_mem_cons.mpr ⟨lw_p0, List.forall_mem_cons.mpr ⟨lw_p1, List.forall_mem_cons.mpr ⟨lw_p2, List.forall_mem_cons.mpr ⟨lw_p3, List.forall_mem_cons.mpr ⟨lw_p4, List.forall_mem_cons.mpr ⟨lw_p5, List.forall_mem_cons.mpr ⟨lw_p6, List.forall_mem_cons.mpr ⟨lw_p7, List.forall_mem_cons.mpr ⟨lw_p8, List.forall_mem_cons.mpr ⟨lw_p9, List.forall_mem_cons.mpr ⟨lw_p10, List.forall_mem_cons.mpr ⟨lw_p11, List.forall_mem_cons.mpr ⟨lw_p12, List.forall_mem_cons.mpr ⟨lw_p13, List.forall_mem_cons.mpr ⟨lw_p14, List.forall_mem_cons.mpr ⟨lw_p15, fun _ h => absurd h List.not_mem_nil⟩⟩⟩⟩⟩⟩⟩⟩⟩⟩⟩⟩⟩⟩⟩⟩
theorem lw_p16 : lw_okq (⟨"MatrixModule$Operation", "isLike", "(LMatrixModule$Operation;)Z"⟩, 7) := ⟨⟨by decide +kernel, by decide +kernel⟩, List.mem_of_getElem? (i := 18) (by decide +kernel), List.mem_of_getElem? (i := 210) (by decide +kernel), List.mem_of_getElem? (i := 211) (by decide +kernel)⟩
theorem lw_p17 : lw_okq (⟨"MatrixModule", "neutralOther", "(LMatrixModule$Operation;)I"⟩, 11) := ⟨⟨by decide +kernel, by decide +kernel⟩, List.mem_of_getElem? (i := 7) (by decide +kernel), List.mem_of_getElem? (i := 215) (by decide +kernel), List.mem_of_getElem? (i := 216) (by decide +kernel)⟩
theorem lw_p18 : lw_okq (⟨"MatrixModule$Operation", "isReshaping", "()Z"⟩, 7) := ⟨⟨by decide +kernel, by decide +kernel⟩, List.mem_of_getElem? (i := 18) (by decide +kernel), List.mem_of_getElem? (i := 219) (by decide +kernel), List.mem_of_getElem? (i := 220) (by decide +kernel)⟩
theorem lw_p19 : lw_okq (⟨"MatrixModule", "isSplat", "(II)Z"⟩, 11) := ⟨⟨by decide +kernel, by decide +kernel⟩, List.mem_of_getElem? (i := 7) (by decide +kernel), List.mem_of_getElem? (i := 223) (by decide +kernel), List.mem_of_getElem? (i := 224) (by decide +kernel)⟩
theorem lw_p20 : lw_okq (⟨"MatrixModule$Operation", "isSplatOf", "(I)Z"⟩, 7) := ⟨⟨by decide +kernel, by decide +kernel⟩, List.mem_of_getElem? (i := 18) (by decide +kernel), List.mem_of_getElem? (i := 227) (by decide +kernel), List.mem_of_getElem? (i := 228) (by decide +kernel)⟩
theorem lw_p21 : lw_okq (⟨"MatrixModule", "twiceInner", "(LMatrixModule$Operation;)I"⟩, 11) := ⟨⟨by decide +kernel, by decide +kernel⟩, List.mem_of_getElem? (i := 7) (by decide +kernel), List.mem_of_getElem? (i := 231) (by decide +kernel), List.mem_of_getElem? (i := 232) (by decide +kernel)⟩
theorem lw_p22 : lw_okq (⟨"MatrixModule", "workOut", "(I)V"⟩, 11) := ⟨⟨by decide +kernel, by decide +kernel⟩, List.mem_of_getElem? (i := 7) (by decide +kernel), List.mem_of_getElem? (i := 239) (by decide +kernel), List.mem_of_getElem? (i := 240) (by decide +kernel)⟩
theorem lw_p23 : lw_okq (⟨"MatrixModule", "workedCell", "(LMatrixModule$Operation;II)I"⟩, 11) := ⟨⟨by decide +kernel, by decide +kernel⟩, List.mem_of_getElem? (i := 7) (by decide +kernel), List.mem_of_getElem? (i := 243) (by decide +kernel), List.mem_of_getElem? (i := 244) (by decide +kernel)⟩
theorem lw_p24 : lw_okq (⟨"MatrixModule", "cellAt", "(III)I"⟩, 11) := ⟨⟨by decide +kernel, by decide +kernel⟩, List.mem_of_getElem? (i := 7) (by decide +kernel), List.mem_of_getElem? (i := 247) (by decide +kernel), List.mem_of_getElem? (i := 248) (by decide +kernel)⟩
theorem lw_p25 : lw_okq (⟨"MatrixModule", "dotCell", "(LMatrixModule$Operation;II)I"⟩, 11) := ⟨⟨by decide +kernel, by decide +kernel⟩, List.mem_of_getElem? (i := 7) (by decide +kernel), List.mem_of_getElem? (i := 251) (by decide +kernel), List.mem_of_getElem? (i := 252) (by decide +kernel)⟩
theorem lw_p26 : lw_okq (⟨"MatrixModule", "sumOfColumn", "(II)I"⟩, 11) := ⟨⟨by decide +kernel, by decide +kernel⟩, List.mem_of_getElem? (i := 7) (by decide +kernel), List.mem_of_getElem? (i := 255) (by decide +kernel), List.mem_of_getElem? (i := 256) (by decide +kernel)⟩
theorem lw_p27 : lw_okq (⟨"MatrixModule", "sumOfRow", "(II)I"⟩, 11) := ⟨⟨by decide +kernel, by decide +kernel⟩, List.mem_of_getElem? (i := 7) (by decide +kernel), List.mem_of_getElem? (i := 259) (by decide +kernel), List.mem_of_getElem? (i := 260) (by decide +kernel)⟩
theorem lw_p28 : lw_okq (⟨"MatrixModule", "spreadCell", "(III)I"⟩, 11) := ⟨⟨by decide +kernel, by decide +kernel⟩, List.mem_of_getElem? (i := 7) (by decide +kernel), List.mem_of_getElem? (i := 263) (by decide +kernel), List.mem_of_getElem? (i := 264) (by decide +kernel)⟩
theorem lw_p29 : lw_okq (⟨"MatrixModule", "workOfLive", "()I"⟩, 11) := ⟨⟨by decide +kernel, by decide +kernel⟩, List.mem_of_getElem? (i := 7) (by decide +kernel), List.mem_of_getElem? (i := 267) (by decide +kernel), List.mem_of_getElem? (i := 268) (by decide +kernel)⟩
theorem lw_p30 : lw_okq (⟨"MatrixModule", "workOf", "(LMatrixModule$Operation;)I"⟩, 11) := ⟨⟨by decide +kernel, by decide +kernel⟩, List.mem_of_getElem? (i := 7) (by decide +kernel), List.mem_of_getElem? (i := 271) (by decide +kernel), List.mem_of_getElem? (i := 272) (by decide +kernel)⟩
theorem lw_p31 : lw_okq (⟨"MatrixModule", "liveValues", "()I"⟩, 11) := ⟨⟨by decide +kernel, by decide +kernel⟩, List.mem_of_getElem? (i := 7) (by decide +kernel), List.mem_of_getElem? (i := 292) (by decide +kernel), List.mem_of_getElem? (i := 293) (by decide +kernel)⟩
def lw_privs_2 : List (MethodName × Nat) := [(⟨"MatrixModule$Operation", "isLike", "(LMatrixModule$Operation;)Z"⟩, 7), (⟨"MatrixModule", "neutralOther", "(LMatrixModule$Operation;)I"⟩, 11), (⟨"MatrixModule$Operation", "isReshaping", "()Z"⟩, 7), (⟨"MatrixModule", "isSplat", "(II)Z"⟩, 11), (⟨"MatrixModule$Operation", "isSplatOf", "(I)Z"⟩, 7), (⟨"MatrixModule", "twiceInner", "(LMatrixModule$Operation;)I"⟩, 11), (⟨"MatrixModule", "workOut", "(I)V"⟩, 11), (⟨"MatrixModule", "workedCell", "(LMatrixModule$Operation;II)I"⟩, 11), (⟨"MatrixModule", "cellAt", "(III)I"⟩, 11), (⟨"MatrixModule", "dotCell", "(LMatrixModule$Operation;II)I"⟩, 11), (⟨"MatrixModule", "sumOfColumn", "(II)I"⟩, 11), (⟨"MatrixModule", "sumOfRow", "(II)I"⟩, 11), (⟨"MatrixModule", "spreadCell", "(III)I"⟩, 11), (⟨"MatrixModule", "workOfLive", "()I"⟩, 11), (⟨"MatrixModule", "workOf", "(LMatrixModule$Operation;)I"⟩, 11), (⟨"MatrixModule", "liveValues", "()I"⟩, 11)]
theorem lw_r2 : ∀ q ∈ lw_privs_2, lw_okq q := List.forall_mem_cons.mpr ⟨lw_p16, List.forall_mem_cons.mpr ⟨lw_p17, List.forall_mem_cons.mpr ⟨lw_p18, List.forall_mem_cons.mpr ⟨lw_p19, List.forall_mem_cons.mpr ⟨lw_p20, List.forall_mem_cons.mpr ⟨lw_p21, List.forall_mem_cons.mpr ⟨lw_p22, List.forall_mem_cons.mpr ⟨lw_p23, List.forall_mem_cons.mpr ⟨lw_p24, List.forall_mem_cons.mpr ⟨lw_p25, List.forall_mem_cons.mpr ⟨lw_p26, List.forall_mem_cons.mpr ⟨lw_p27, List.forall_mem_cons.mpr ⟨lw_p28, List.forall_mem_cons.mpr ⟨lw_p29, List.forall_mem_cons.mpr ⟨lw_p30, List.forall_mem_cons.mpr ⟨lw_p31, fun _ h => absurd h List.not_mem_nil⟩⟩⟩⟩⟩⟩⟩⟩⟩⟩⟩⟩⟩⟩⟩⟩
theorem lw_p32 : lw_okq (⟨"MatrixModuleModel", "off", "(III)Z"⟩, 15) := ⟨⟨by decide +kernel, by decide +kernel⟩, List.mem_of_getElem? (i := 296) (by decide +kernel), List.mem_of_getElem? (i := 352) (by decide +kernel), List.mem_of_getElem? (i := 353) (by decide +kernel)⟩
theorem lw_p33 : lw_okq (⟨"MatrixModuleModel", "add", "(IIIIIII)I"⟩, 15) := ⟨⟨by decide +kernel, by decide +kernel⟩, List.mem_of_getElem? (i := 296) (by decide +kernel), List.mem_of_getElem? (i := 356) (by decide +kernel), List.mem_of_getElem? (i := 357) (by decide +kernel)⟩
theorem lw_p34 : lw_okq (⟨"MatrixModuleModel", "restore", "()V"⟩, 15) := ⟨⟨by decide +kernel, by decide +kernel⟩, List.mem_of_getElem? (i := 296) (by decide +kernel), List.mem_of_getElem? (i := 360) (by decide +kernel), List.mem_of_getElem? (i := 361) (by decide +kernel)⟩
theorem lw_p35 : lw_okq (⟨"MatrixModuleModel", "no", "(I)Z"⟩, 15) := ⟨⟨by decide +kernel, by decide +kernel⟩, List.mem_of_getElem? (i := 296) (by decide +kernel), List.mem_of_getElem? (i := 368) (by decide +kernel), List.mem_of_getElem? (i := 369) (by decide +kernel)⟩
theorem lw_p36 : lw_okq (⟨"MatrixModuleModel", "unary", "(I)Z"⟩, 15) := ⟨⟨by decide +kernel, by decide +kernel⟩, List.mem_of_getElem? (i := 296) (by decide +kernel), List.mem_of_getElem? (i := 372) (by decide +kernel), List.mem_of_getElem? (i := 373) (by decide +kernel)⟩
theorem lw_p37 : lw_okq (⟨"MatrixModuleModel", "simplifyOne", "(I)V"⟩, 15) := ⟨⟨by decide +kernel, by decide +kernel⟩, List.mem_of_getElem? (i := 296) (by decide +kernel), List.mem_of_getElem? (i := 396) (by decide +kernel), List.mem_of_getElem? (i := 397) (by decide +kernel)⟩
theorem lw_p38 : lw_okq (⟨"MatrixModuleModel", "rule", "(I)I"⟩, 15) := ⟨⟨by decide +kernel, by decide +kernel⟩, List.mem_of_getElem? (i := 296) (by decide +kernel), List.mem_of_getElem? (i := 400) (by decide +kernel), List.mem_of_getElem? (i := 401) (by decide +kernel)⟩
theorem lw_p39 : lw_okq (⟨"MatrixModuleModel", "folded", "(I)I"⟩, 15) := ⟨⟨by decide +kernel, by decide +kernel⟩, List.mem_of_getElem? (i := 296) (by decide +kernel), List.mem_of_getElem? (i := 404) (by decide +kernel), List.mem_of_getElem? (i := 405) (by decide +kernel)⟩
theorem lw_p40 : lw_okq (⟨"MatrixModuleModel", "become", "(II)V"⟩, 15) := ⟨⟨by decide +kernel, by decide +kernel⟩, List.mem_of_getElem? (i := 296) (by decide +kernel), List.mem_of_getElem? (i := 408) (by decide +kernel), List.mem_of_getElem? (i := 409) (by decide +kernel)⟩
theorem lw_p41 : lw_okq (⟨"MatrixModuleModel", "splat", "(II)Z"⟩, 15) := ⟨⟨by decide +kernel, by decide +kernel⟩, List.mem_of_getElem? (i := 296) (by decide +kernel), List.mem_of_getElem? (i := 412) (by decide +kernel), List.mem_of_getElem? (i := 413) (by decide +kernel)⟩
theorem lw_p42 : lw_okq (⟨"MatrixModuleModel", "sameShape", "(II)Z"⟩, 15) := ⟨⟨by decide +kernel, by decide +kernel⟩, List.mem_of_getElem? (i := 296) (by decide +kernel), List.mem_of_getElem? (i := 416) (by decide +kernel), List.mem_of_getElem? (i := 417) (by decide +kernel)⟩
theorem lw_p43 : lw_okq (⟨"MatrixModuleModel", "alike", "(II)Z"⟩, 15) := ⟨⟨by decide +kernel, by decide +kernel⟩, List.mem_of_getElem? (i := 296) (by decide +kernel), List.mem_of_getElem? (i := 420) (by decide +kernel), List.mem_of_getElem? (i := 421) (by decide +kernel)⟩
theorem lw_p44 : lw_okq (⟨"MatrixModuleModel", "isLive", "(I)Z"⟩, 15) := ⟨⟨by decide +kernel, by decide +kernel⟩, List.mem_of_getElem? (i := 296) (by decide +kernel), List.mem_of_getElem? (i := 428) (by decide +kernel), List.mem_of_getElem? (i := 429) (by decide +kernel)⟩
theorem lw_p45 : lw_okq (⟨"MatrixModuleModel", "workOf", "(I)I"⟩, 15) := ⟨⟨by decide +kernel, by decide +kernel⟩, List.mem_of_getElem? (i := 296) (by decide +kernel), List.mem_of_getElem? (i := 432) (by decide +kernel), List.mem_of_getElem? (i := 433) (by decide +kernel)⟩
theorem lw_p46 : lw_okq (⟨"MatrixModuleModel", "made", "(III)I"⟩, 15) := ⟨⟨by decide +kernel, by decide +kernel⟩, List.mem_of_getElem? (i := 296) (by decide +kernel), List.mem_of_getElem? (i := 436) (by decide +kernel), List.mem_of_getElem? (i := 437) (by decide +kernel)⟩
theorem lw_p47 : lw_okq (⟨"MatrixModuleModel", "at", "(III)I"⟩, 15) := ⟨⟨by decide +kernel, by decide +kernel⟩, List.mem_of_getElem? (i := 296) (by decide +kernel), List.mem_of_getElem? (i := 440) (by decide +kernel), List.mem_of_getElem? (i := 441) (by decide +kernel)⟩
def lw_privs_3 : List (MethodName × Nat) := [(⟨"MatrixModuleModel", "off", "(III)Z"⟩, 15), (⟨"MatrixModuleModel", "add", "(IIIIIII)I"⟩, 15), (⟨"MatrixModuleModel", "restore", "()V"⟩, 15), (⟨"MatrixModuleModel", "no", "(I)Z"⟩, 15), (⟨"MatrixModuleModel", "unary", "(I)Z"⟩, 15), (⟨"MatrixModuleModel", "simplifyOne", "(I)V"⟩, 15), (⟨"MatrixModuleModel", "rule", "(I)I"⟩, 15), (⟨"MatrixModuleModel", "folded", "(I)I"⟩, 15), (⟨"MatrixModuleModel", "become", "(II)V"⟩, 15), (⟨"MatrixModuleModel", "splat", "(II)Z"⟩, 15), (⟨"MatrixModuleModel", "sameShape", "(II)Z"⟩, 15), (⟨"MatrixModuleModel", "alike", "(II)Z"⟩, 15), (⟨"MatrixModuleModel", "isLive", "(I)Z"⟩, 15), (⟨"MatrixModuleModel", "workOf", "(I)I"⟩, 15), (⟨"MatrixModuleModel", "made", "(III)I"⟩, 15), (⟨"MatrixModuleModel", "at", "(III)I"⟩, 15)]
theorem lw_r3 : ∀ q ∈ lw_privs_3, lw_okq q := List.forall_mem_cons.mpr ⟨lw_p32, List.forall_mem_cons.mpr ⟨lw_p33, List.forall_mem_cons.mpr ⟨lw_p34, List.forall_mem_cons.mpr ⟨lw_p35, List.forall_mem_cons.mpr ⟨lw_p36, List.forall_mem_cons.mpr ⟨lw_p37, List.forall_mem_cons.mpr ⟨lw_p38, List.forall_mem_cons.mpr ⟨lw_p39, List.forall_mem_cons.mpr ⟨lw_p40, List.forall_mem_cons.mpr ⟨lw_p41, List.forall_mem_cons.mpr ⟨lw_p42, List.forall_mem_cons.mpr ⟨lw_p43, List.forall_mem_cons.mpr ⟨lw_p44, List.forall_mem_cons.mpr ⟨lw_p45, List.forall_mem_cons.mpr ⟨lw_p46, List.forall_mem_cons.mpr ⟨lw_p47, fun _ h => absurd h List.not_mem_nil⟩⟩⟩⟩⟩⟩⟩⟩⟩⟩⟩⟩⟩⟩⟩⟩
theorem lw_p48 : lw_okq (⟨"MatrixModuleModel", "total", "(III)I"⟩, 15) := ⟨⟨by decide +kernel, by decide +kernel⟩, List.mem_of_getElem? (i := 296) (by decide +kernel), List.mem_of_getElem? (i := 444) (by decide +kernel), List.mem_of_getElem? (i := 445) (by decide +kernel)⟩
def lw_privs_4 : List (MethodName × Nat) := [(⟨"MatrixModuleModel", "total", "(III)I"⟩, 15)]
theorem lw_r4 : ∀ q ∈ lw_privs_4, lw_okq q := List.forall_mem_cons.mpr ⟨lw_p48, fun _ h => absurd h List.not_mem_nil⟩
def lw_privs : List (MethodName × Nat) := lw_privs_1 ++ (lw_privs_2 ++ (lw_privs_3 ++ (lw_privs_4)))
def lw_tbl : List Cond := k2_sels lw_privs ++ tables_1
theorem lw_privs_ok : ∀ q ∈ lw_privs, lw_okq q := by
  show ∀ q ∈ lw_privs_1 ++ (lw_privs_2 ++ (lw_privs_3 ++ (lw_privs_4))), lw_okq q
  exact List.forall_mem_append.mpr ⟨lw_r1, List.forall_mem_append.mpr ⟨lw_r2, List.forall_mem_append.mpr ⟨lw_r3, lw_r4⟩⟩⟩
-- ===== end of PART A; then your names; then what follows =====
/-! ===== names of the program ===== -/
abbrev nm_O : String := "MatrixModule$Operation"
abbrev nm_C : String := "MatrixModule"
abbrev nm_M : String := "MatrixModuleModel"
abbrev nm_L : String := "MatrixModuleLaw"
def am_TW : List Cond := lw_tbl.filter goodWord
theorem am_TW_ok : ∀ w ∈ am_TW, (w.onTables && w.keeps) = true ∨ ∃ ty, w = .arrayClass ty := fun w h => good_of_word (List.mem_filter.mp h).2
theorem am_TW_in : ∀ w ∈ am_TW, w ∈ lw_tbl := fun w h => (List.mem_filter.mp h).1
theorem am_mem {w : Cond} (i : Nat) (h : lw_tbl[i]? = some w) (hg : goodWord w = true) : w ∈ am_TW := List.mem_filter.mpr ⟨List.mem_of_getElem? h, hg⟩
def tf_O : u_T := fun k => match k with
  | 0 => ("MatrixModule$Operation", "kind", "I", false)
  | 1 => ("MatrixModule$Operation", "rows", "I", false)
  | 2 => ("MatrixModule$Operation", "columns", "I", false)
  | 3 => ("MatrixModule$Operation", "first", "I", false)
  | 4 => ("MatrixModule$Operation", "second", "I", false)
  | 5 => ("MatrixModule$Operation", "p", "I", false)
  | _ => ("MatrixModule$Operation", "q", "I", false)
def ty_O : Nat → FieldType := fun k => match k with
  | 0 => .int
  | 1 => .int
  | 2 => .int
  | 3 => .int
  | 4 => .int
  | 5 => .int
  | _ => .int
def tf_C : u_T := fun k => match k with
  | 0 => ("MatrixModule", "added", "[LMatrixModule$Operation;", true)
  | 1 => ("MatrixModule", "present", "[LMatrixModule$Operation;", true)
  | 2 => ("MatrixModule", "standIns", "[I", true)
  | 3 => ("MatrixModule", "marked", "[Z", true)
  | 4 => ("MatrixModule", "live", "[Z", true)
  | 5 => ("MatrixModule", "cells", "[[I", true)
  | 6 => ("MatrixModule", "parameters", "[[I", true)
  | 7 => ("MatrixModule", "uses", "[I", true)
  | 8 => ("MatrixModule", "values", "I", false)
  | 9 => ("MatrixModule", "simplified", "Z", false)
  | _ => ("MatrixModule", "worked", "Z", false)
def ty_C : Nat → FieldType := fun k => match k with
  | 0 => .array (.object "MatrixModule$Operation")
  | 1 => .array (.object "MatrixModule$Operation")
  | 2 => .array (.int)
  | 3 => .array (.boolean)
  | 4 => .array (.boolean)
  | 5 => .array (.array (.int))
  | 6 => .array (.array (.int))
  | 7 => .array (.int)
  | 8 => .int
  | 9 => .boolean
  | _ => .boolean
def tf_M : u_T := fun k => match k with
  | 0 => ("MatrixModuleModel", "kind", "[I", true)
  | 1 => ("MatrixModuleModel", "first", "[I", true)
  | 2 => ("MatrixModuleModel", "second", "[I", true)
  | 3 => ("MatrixModuleModel", "np", "[I", true)
  | 4 => ("MatrixModuleModel", "nq", "[I", true)
  | 5 => ("MatrixModuleModel", "rows", "[I", true)
  | 6 => ("MatrixModuleModel", "columns", "[I", true)
  | 7 => ("MatrixModuleModel", "marked", "[Z", true)
  | 8 => ("MatrixModuleModel", "stand", "[I", true)
  | 9 => ("MatrixModuleModel", "parameters", "[I", true)
  | 10 => ("MatrixModuleModel", "cells", "[I", true)
  | 11 => ("MatrixModuleModel", "worked", "[Z", true)
  | 12 => ("MatrixModuleModel", "used", "[I", true)
  | 13 => ("MatrixModuleModel", "values", "I", false)
  | _ => ("MatrixModuleModel", "simple", "Z", false)
def ty_M : Nat → FieldType := fun k => match k with
  | 0 => .array (.int)
  | 1 => .array (.int)
  | 2 => .array (.int)
  | 3 => .array (.int)
  | 4 => .array (.int)
  | 5 => .array (.int)
  | 6 => .array (.int)
  | 7 => .array (.boolean)
  | 8 => .array (.int)
  | 9 => .array (.int)
  | 10 => .array (.int)
  | 11 => .array (.boolean)
  | 12 => .array (.int)
  | 13 => .int
  | _ => .boolean
def am_cl : List vw_C := [(nm_O, tf_O, 7), (nm_C, tf_C, 11), (nm_M, tf_M, 15)]
def am_ty (ci : Nat) : Nat → FieldType := match ci with
  | 0 => ty_O
  | 1 => ty_C
  | _ => ty_M
theorem cl_in_O : ∀ w ∈ u_ws nm_O tf_O 7, w ∈ am_TW := fun w h => List.mem_filter.mpr ((by decide +kernel : ∀ w ∈ u_ws nm_O tf_O 7, w ∈ lw_tbl ∧ goodWord w = true) w h)
theorem cl_ty_O : ∀ k, k < 7 → parseFieldDescriptor (tf_O k).2.2.1 = some (ty_O k) := by decide +kernel
theorem cl_nm_O : ∀ a, a < 7 → ∀ b, b < 7 → a ≠ b → (tf_O a).2.1 ≠ (tf_O b).2.1 := by decide +kernel
theorem cl_in_C : ∀ w ∈ u_ws nm_C tf_C 11, w ∈ am_TW := fun w h => List.mem_filter.mpr ((by decide +kernel : ∀ w ∈ u_ws nm_C tf_C 11, w ∈ lw_tbl ∧ goodWord w = true) w h)
theorem cl_ty_C : ∀ k, k < 11 → parseFieldDescriptor (tf_C k).2.2.1 = some (ty_C k) := by decide +kernel
theorem cl_nm_C : ∀ a, a < 11 → ∀ b, b < 11 → a ≠ b → (tf_C a).2.1 ≠ (tf_C b).2.1 := by decide +kernel
theorem cl_in_M : ∀ w ∈ u_ws nm_M tf_M 15, w ∈ am_TW := fun w h => List.mem_filter.mpr ((by decide +kernel : ∀ w ∈ u_ws nm_M tf_M 15, w ∈ lw_tbl ∧ goodWord w = true) w h)
theorem cl_ty_M : ∀ k, k < 15 → parseFieldDescriptor (tf_M k).2.2.1 = some (ty_M k) := by decide +kernel
theorem cl_nm_M : ∀ a, a < 15 → ∀ b, b < 15 → a ≠ b → (tf_M a).2.1 ≠ (tf_M b).2.1 := by decide +kernel
theorem am_cl_of {P : Nat → vw_C → Prop} (h0 : P 0 (nm_O, tf_O, 7)) (h1 : P 1 (nm_C, tf_C, 11)) (h2 : P 2 (nm_M, tf_M, 15)) {ci : Nat} {q : vw_C} (hq : am_cl[ci]? = some q) : P ci q := by
  match ci, hq with
  | 0, hq => cases hq; exact h0
  | 1, hq => cases hq; exact h1
  | 2, hq => cases hq; exact h2
  | k + 3, hq => simp [am_cl] at hq
theorem am_cl_in {ci : Nat} {q : vw_C} (hq : am_cl[ci]? = some q) : ∀ w ∈ u_ws q.1 q.2.1 q.2.2, w ∈ am_TW := am_cl_of (P := fun _ q => ∀ w ∈ u_ws q.1 q.2.1 q.2.2, w ∈ am_TW) cl_in_O cl_in_C cl_in_M hq
theorem am_cl_ty {ci : Nat} {q : vw_C} (hq : am_cl[ci]? = some q) : ∀ k, k < q.2.2 → parseFieldDescriptor (q.2.1 k).2.2.1 = some (am_ty ci k) := am_cl_of (P := fun ci q => ∀ k, k < q.2.2 → parseFieldDescriptor (q.2.1 k).2.2.1 = some (am_ty ci k)) cl_ty_O cl_ty_C cl_ty_M hq
theorem am_cl_nm {ci : Nat} {q : vw_C} (hq : am_cl[ci]? = some q) : ∀ a, a < q.2.2 → ∀ b, b < q.2.2 → a ≠ b → (q.2.1 a).2.1 ≠ (q.2.1 b).2.1 := am_cl_of (P := fun _ q => ∀ a, a < q.2.2 → ∀ b, b < q.2.2 → a ≠ b → (q.2.1 a).2.1 ≠ (q.2.1 b).2.1) cl_nm_O cl_nm_C cl_nm_M hq
def am_tys : List FieldType := [.int, .boolean, .object "MatrixModule$Operation", .array .int]
def am_AO : List String := ["MatrixModule$Operation"]
def am_NF : List (String × Nat × String × String × String × String) := [("MatrixModule", 129, "MatrixModule$Operation", "kind", "I", "MatrixModule"), ("MatrixModule", 83, "MatrixModule$Operation", "rows", "I", "MatrixModule"), ("MatrixModule", 89, "MatrixModule$Operation", "columns", "I", "MatrixModule"), ("MatrixModule", 132, "MatrixModule$Operation", "first", "I", "MatrixModule"), ("MatrixModule", 135, "MatrixModule$Operation", "second", "I", "MatrixModule"), ("MatrixModule", 138, "MatrixModule$Operation", "p", "I", "MatrixModule"), ("MatrixModule", 141, "MatrixModule$Operation", "q", "I", "MatrixModule")]
def am_NM : List (String × Nat × MethodName × String) := [("MatrixModule", 51, ⟨"MatrixModule$Operation", "<init>", "()V"⟩, "MatrixModule"), ("MatrixModule", 59, ⟨"MatrixModule$Operation", "become", "(IIIII)V"⟩, "MatrixModule"), ("MatrixModule", 151, ⟨"MatrixModule$Operation", "takeShape", "(II)V"⟩, "MatrixModule"), ("MatrixModule", 155, ⟨"MatrixModule$Operation", "copyFrom", "(LMatrixModule$Operation;)V"⟩, "MatrixModule"), ("MatrixModule", 147, ⟨"MatrixModule$Operation", "hasShapeOf", "(LMatrixModule$Operation;)Z"⟩, "MatrixModule"), ("MatrixModule", 165, ⟨"MatrixModule$Operation", "takesPairs", "()Z"⟩, "MatrixModule"), ("MatrixModule", 175, ⟨"MatrixModule$Operation", "becomeSplat", "(I)V"⟩, "MatrixModule"), ("MatrixModule", 201, ⟨"MatrixModule$Operation", "isLike", "(LMatrixModule$Operation;)Z"⟩, "MatrixModule"), ("MatrixModule", 198, ⟨"MatrixModule$Operation", "isReshaping", "()Z"⟩, "MatrixModule"), ("MatrixModule", 190, ⟨"MatrixModule$Operation", "isSplatOf", "(I)Z"⟩, "MatrixModule")]
/-- the cells in the order in which they are made -/
def am_pos (r i : Nat) : Nat := match r with
  | 0 => 0
  | 1 => 1
  | 2 => 2
  | 3 => 3
  | 4 => 4
  | 5 => 5
  | 6 => 6
  | 7 => 35
  | 8 => 41 + 2 * i
  | 9 => 42 + 2 * i
  | 10 => 7 + i
  | 11 => 36 + i
  | 12 => 40
  | n => 77 + n
abbrev mC_init : MethodName × ByteArray × Nat × Option FieldType := (⟨"MatrixModule", "<init>", "()V"⟩, prog_1_method_1_code, 2, (Option.none : Option Jvm.ClassFile.FieldType))
abbrev mC_source : MethodName × ByteArray × Nat × Option FieldType := (⟨"MatrixModule", "source", "(IIII)I"⟩, prog_1_method_2_code, 5, (Option.some Jvm.ClassFile.FieldType.int))
abbrev mC_operation : MethodName × ByteArray × Nat × Option FieldType := (⟨"MatrixModule", "operation", "(IIII)I"⟩, prog_1_method_3_code, 6, (Option.some Jvm.ClassFile.FieldType.int))
abbrev mC_reshape : MethodName × ByteArray × Nat × Option FieldType := (⟨"MatrixModule", "reshape", "(IIII)I"⟩, prog_1_method_4_code, 7, (Option.some Jvm.ClassFile.FieldType.int))
abbrev mC_part : MethodName × ByteArray × Nat × Option FieldType := (⟨"MatrixModule", "part", "(IIIII)I"⟩, prog_1_method_5_code, 6, (Option.some Jvm.ClassFile.FieldType.int))
abbrev mC_mark : MethodName × ByteArray × Nat × Option FieldType := (⟨"MatrixModule", "mark", "(IZ)I"⟩, prog_1_method_6_code, 3, (Option.some Jvm.ClassFile.FieldType.int))
abbrev mC_set : MethodName × ByteArray × Nat × Option FieldType := (⟨"MatrixModule", "set", "(IIII)I"⟩, prog_1_method_7_code, 5, (Option.some Jvm.ClassFile.FieldType.int))
abbrev mC_simplify : MethodName × ByteArray × Nat × Option FieldType := (⟨"MatrixModule", "simplify", "()I"⟩, prog_1_method_8_code, 3, (Option.some Jvm.ClassFile.FieldType.int))
abbrev mC_work : MethodName × ByteArray × Nat × Option FieldType := (⟨"MatrixModule", "work", "()I"⟩, prog_1_method_9_code, 2, (Option.some Jvm.ClassFile.FieldType.int))
abbrev mC_cell : MethodName × ByteArray × Nat × Option FieldType := (⟨"MatrixModule", "cell", "(III)J"⟩, prog_1_method_10_code, 4, (Option.some Jvm.ClassFile.FieldType.long))
abbrev mC_standIn : MethodName × ByteArray × Nat × Option FieldType := (⟨"MatrixModule", "standIn", "(I)I"⟩, prog_1_method_11_code, 2, (Option.some Jvm.ClassFile.FieldType.int))
abbrev mC_value : MethodName × ByteArray × Nat × Option FieldType := (⟨"MatrixModule", "value", "(II)I"⟩, prog_1_method_12_code, 4, (Option.some Jvm.ClassFile.FieldType.int))
abbrev mC_count : MethodName × ByteArray × Nat × Option FieldType := (⟨"MatrixModule", "count", "(I)I"⟩, prog_1_method_13_code, 2, (Option.some Jvm.ClassFile.FieldType.int))
abbrev mC_isValue : MethodName × ByteArray × Nat × Option FieldType := (⟨"MatrixModule", "isValue", "(I)Z"⟩, prog_1_method_14_code, 2, (Option.some Jvm.ClassFile.FieldType.boolean))
abbrev mC_isShape : MethodName × ByteArray × Nat × Option FieldType := (⟨"MatrixModule", "isShape", "(II)Z"⟩, prog_1_method_15_code, 2, (Option.some Jvm.ClassFile.FieldType.boolean))
abbrev mC_isPlace : MethodName × ByteArray × Nat × Option FieldType := (⟨"MatrixModule", "isPlace", "(II)Z"⟩, prog_1_method_16_code, 2, (Option.some Jvm.ClassFile.FieldType.boolean))
abbrev mC_isSourceNumber : MethodName × ByteArray × Nat × Option FieldType := (⟨"MatrixModule", "isSourceNumber", "(II)Z"⟩, prog_1_method_17_code, 2, (Option.some Jvm.ClassFile.FieldType.boolean))
abbrev mC_spreads : MethodName × ByteArray × Nat × Option FieldType := (⟨"MatrixModule", "spreads", "(II)Z"⟩, prog_1_method_18_code, 2, (Option.some Jvm.ClassFile.FieldType.boolean))
abbrev mC_shapesFit : MethodName × ByteArray × Nat × Option FieldType := (⟨"MatrixModule", "shapesFit", "(ILMatrixModule$Operation;LMatrixModule$Operation;)Z"⟩, prog_1_method_19_code, 3, (Option.some Jvm.ClassFile.FieldType.boolean))
abbrev mC_rowsOf : MethodName × ByteArray × Nat × Option FieldType := (⟨"MatrixModule", "rowsOf", "(ILMatrixModule$Operation;I)I"⟩, prog_1_method_20_code, 3, (Option.some Jvm.ClassFile.FieldType.int))
abbrev mC_columnsOf : MethodName × ByteArray × Nat × Option FieldType := (⟨"MatrixModule", "columnsOf", "(ILMatrixModule$Operation;LMatrixModule$Operation;I)I"⟩, prog_1_method_21_code, 4, (Option.some Jvm.ClassFile.FieldType.int))
abbrev mC_addWithShape : MethodName × ByteArray × Nat × Option FieldType := (⟨"MatrixModule", "addWithShape", "(II)I"⟩, prog_1_method_22_code, 4, (Option.some Jvm.ClassFile.FieldType.int))
abbrev mC_undoSimplifying : MethodName × ByteArray × Nat × Option FieldType := (⟨"MatrixModule", "undoSimplifying", "()V"⟩, prog_1_method_23_code, 2, (Option.none : Option Jvm.ClassFile.FieldType))
abbrev mC_findLive : MethodName × ByteArray × Nat × Option FieldType := (⟨"MatrixModule", "findLive", "()V"⟩, prog_1_method_24_code, 2, (Option.none : Option Jvm.ClassFile.FieldType))
abbrev mC_makeLive : MethodName × ByteArray × Nat × Option FieldType := (⟨"MatrixModule", "makeLive", "(I)V"⟩, prog_1_method_25_code, 2, (Option.none : Option Jvm.ClassFile.FieldType))
abbrev mC_liveValues : MethodName × ByteArray × Nat × Option FieldType := (⟨"MatrixModule", "liveValues", "()I"⟩, prog_1_method_26_code, 3, (Option.some Jvm.ClassFile.FieldType.int))
abbrev mC_workOfLive : MethodName × ByteArray × Nat × Option FieldType := (⟨"MatrixModule", "workOfLive", "()I"⟩, prog_1_method_27_code, 3, (Option.some Jvm.ClassFile.FieldType.int))
abbrev mC_workOf : MethodName × ByteArray × Nat × Option FieldType := (⟨"MatrixModule", "workOf", "(LMatrixModule$Operation;)I"⟩, prog_1_method_28_code, 3, (Option.some Jvm.ClassFile.FieldType.int))
abbrev mC_replaceArguments : MethodName × ByteArray × Nat × Option FieldType := (⟨"MatrixModule", "replaceArguments", "(LMatrixModule$Operation;)V"⟩, prog_1_method_29_code, 3, (Option.none : Option Jvm.ClassFile.FieldType))
abbrev mC_standInByRules : MethodName × ByteArray × Nat × Option FieldType := (⟨"MatrixModule", "standInByRules", "(I)I"⟩, prog_1_method_30_code, 5, (Option.some Jvm.ClassFile.FieldType.int))
abbrev mC_isSplat : MethodName × ByteArray × Nat × Option FieldType := (⟨"MatrixModule", "isSplat", "(II)Z"⟩, prog_1_method_31_code, 3, (Option.some Jvm.ClassFile.FieldType.boolean))
abbrev mC_hasOnlySplats : MethodName × ByteArray × Nat × Option FieldType := (⟨"MatrixModule", "hasOnlySplats", "(LMatrixModule$Operation;)Z"⟩, prog_1_method_32_code, 2, (Option.some Jvm.ClassFile.FieldType.boolean))
abbrev mC_foldedCell : MethodName × ByteArray × Nat × Option FieldType := (⟨"MatrixModule", "foldedCell", "(LMatrixModule$Operation;)I"⟩, prog_1_method_33_code, 5, (Option.some Jvm.ClassFile.FieldType.int))
abbrev mC_neutralOther : MethodName × ByteArray × Nat × Option FieldType := (⟨"MatrixModule", "neutralOther", "(LMatrixModule$Operation;)I"⟩, prog_1_method_34_code, 3, (Option.some Jvm.ClassFile.FieldType.int))
abbrev mC_twiceInner : MethodName × ByteArray × Nat × Option FieldType := (⟨"MatrixModule", "twiceInner", "(LMatrixModule$Operation;)I"⟩, prog_1_method_35_code, 3, (Option.some Jvm.ClassFile.FieldType.int))
abbrev mC_alikeOrItself : MethodName × ByteArray × Nat × Option FieldType := (⟨"MatrixModule", "alikeOrItself", "(I)I"⟩, prog_1_method_36_code, 3, (Option.some Jvm.ClassFile.FieldType.int))
abbrev mC_workOut : MethodName × ByteArray × Nat × Option FieldType := (⟨"MatrixModule", "workOut", "(I)V"⟩, prog_1_method_37_code, 5, (Option.none : Option Jvm.ClassFile.FieldType))
abbrev mC_workedCell : MethodName × ByteArray × Nat × Option FieldType := (⟨"MatrixModule", "workedCell", "(LMatrixModule$Operation;II)I"⟩, prog_1_method_38_code, 4, (Option.some Jvm.ClassFile.FieldType.int))
abbrev mC_cellAt : MethodName × ByteArray × Nat × Option FieldType := (⟨"MatrixModule", "cellAt", "(III)I"⟩, prog_1_method_39_code, 4, (Option.some Jvm.ClassFile.FieldType.int))
abbrev mC_dotCell : MethodName × ByteArray × Nat × Option FieldType := (⟨"MatrixModule", "dotCell", "(LMatrixModule$Operation;II)I"⟩, prog_1_method_40_code, 6, (Option.some Jvm.ClassFile.FieldType.int))
abbrev mC_sumOfColumn : MethodName × ByteArray × Nat × Option FieldType := (⟨"MatrixModule", "sumOfColumn", "(II)I"⟩, prog_1_method_41_code, 5, (Option.some Jvm.ClassFile.FieldType.int))
abbrev mC_sumOfRow : MethodName × ByteArray × Nat × Option FieldType := (⟨"MatrixModule", "sumOfRow", "(II)I"⟩, prog_1_method_42_code, 5, (Option.some Jvm.ClassFile.FieldType.int))
abbrev mC_spreadCell : MethodName × ByteArray × Nat × Option FieldType := (⟨"MatrixModule", "spreadCell", "(III)I"⟩, prog_1_method_43_code, 4, (Option.some Jvm.ClassFile.FieldType.int))
abbrev mO_init : MethodName × ByteArray × Nat × Option FieldType := (⟨"MatrixModule$Operation", "<init>", "()V"⟩, prog_2_method_1_code, 1, (Option.none : Option Jvm.ClassFile.FieldType))
abbrev mO_takeShape : MethodName × ByteArray × Nat × Option FieldType := (⟨"MatrixModule$Operation", "takeShape", "(II)V"⟩, prog_2_method_2_code, 3, (Option.none : Option Jvm.ClassFile.FieldType))
abbrev mO_become : MethodName × ByteArray × Nat × Option FieldType := (⟨"MatrixModule$Operation", "become", "(IIIII)V"⟩, prog_2_method_3_code, 6, (Option.none : Option Jvm.ClassFile.FieldType))
abbrev mO_becomeSplat : MethodName × ByteArray × Nat × Option FieldType := (⟨"MatrixModule$Operation", "becomeSplat", "(I)V"⟩, prog_2_method_4_code, 2, (Option.none : Option Jvm.ClassFile.FieldType))
abbrev mO_copyFrom : MethodName × ByteArray × Nat × Option FieldType := (⟨"MatrixModule$Operation", "copyFrom", "(LMatrixModule$Operation;)V"⟩, prog_2_method_5_code, 2, (Option.none : Option Jvm.ClassFile.FieldType))
abbrev mO_isSplatOf : MethodName × ByteArray × Nat × Option FieldType := (⟨"MatrixModule$Operation", "isSplatOf", "(I)Z"⟩, prog_2_method_6_code, 2, (Option.some Jvm.ClassFile.FieldType.boolean))
abbrev mO_takesPairs : MethodName × ByteArray × Nat × Option FieldType := (⟨"MatrixModule$Operation", "takesPairs", "()Z"⟩, prog_2_method_7_code, 1, (Option.some Jvm.ClassFile.FieldType.boolean))
abbrev mO_isReshaping : MethodName × ByteArray × Nat × Option FieldType := (⟨"MatrixModule$Operation", "isReshaping", "()Z"⟩, prog_2_method_8_code, 1, (Option.some Jvm.ClassFile.FieldType.boolean))
abbrev mO_hasShapeOf : MethodName × ByteArray × Nat × Option FieldType := (⟨"MatrixModule$Operation", "hasShapeOf", "(LMatrixModule$Operation;)Z"⟩, prog_2_method_9_code, 2, (Option.some Jvm.ClassFile.FieldType.boolean))
abbrev mO_isLike : MethodName × ByteArray × Nat × Option FieldType := (⟨"MatrixModule$Operation", "isLike", "(LMatrixModule$Operation;)Z"⟩, prog_2_method_10_code, 2, (Option.some Jvm.ClassFile.FieldType.boolean))
abbrev mM_init : MethodName × ByteArray × Nat × Option FieldType := (⟨"MatrixModuleModel", "<init>", "()V"⟩, prog_4_method_1_code, 1, (Option.none : Option Jvm.ClassFile.FieldType))
abbrev mM_off : MethodName × ByteArray × Nat × Option FieldType := (⟨"MatrixModuleModel", "off", "(III)Z"⟩, prog_4_method_2_code, 4, (Option.some Jvm.ClassFile.FieldType.boolean))
abbrev mM_no : MethodName × ByteArray × Nat × Option FieldType := (⟨"MatrixModuleModel", "no", "(I)Z"⟩, prog_4_method_3_code, 2, (Option.some Jvm.ClassFile.FieldType.boolean))
abbrev mM_unary : MethodName × ByteArray × Nat × Option FieldType := (⟨"MatrixModuleModel", "unary", "(I)Z"⟩, prog_4_method_4_code, 2, (Option.some Jvm.ClassFile.FieldType.boolean))
abbrev mM_restore : MethodName × ByteArray × Nat × Option FieldType := (⟨"MatrixModuleModel", "restore", "()V"⟩, prog_4_method_5_code, 2, (Option.none : Option Jvm.ClassFile.FieldType))
abbrev mM_add : MethodName × ByteArray × Nat × Option FieldType := (⟨"MatrixModuleModel", "add", "(IIIIIII)I"⟩, prog_4_method_6_code, 8, (Option.some Jvm.ClassFile.FieldType.int))
abbrev mM_source : MethodName × ByteArray × Nat × Option FieldType := (⟨"MatrixModuleModel", "source", "(IIII)I"⟩, prog_4_method_7_code, 5, (Option.some Jvm.ClassFile.FieldType.int))
abbrev mM_operation : MethodName × ByteArray × Nat × Option FieldType := (⟨"MatrixModuleModel", "operation", "(IIII)I"⟩, prog_4_method_8_code, 8, (Option.some Jvm.ClassFile.FieldType.int))
abbrev mM_reshape : MethodName × ByteArray × Nat × Option FieldType := (⟨"MatrixModuleModel", "reshape", "(IIII)I"⟩, prog_4_method_9_code, 7, (Option.some Jvm.ClassFile.FieldType.int))
abbrev mM_part : MethodName × ByteArray × Nat × Option FieldType := (⟨"MatrixModuleModel", "part", "(IIIII)I"⟩, prog_4_method_10_code, 6, (Option.some Jvm.ClassFile.FieldType.int))
abbrev mM_mark : MethodName × ByteArray × Nat × Option FieldType := (⟨"MatrixModuleModel", "mark", "(IZ)I"⟩, prog_4_method_11_code, 3, (Option.some Jvm.ClassFile.FieldType.int))
abbrev mM_set : MethodName × ByteArray × Nat × Option FieldType := (⟨"MatrixModuleModel", "set", "(IIII)I"⟩, prog_4_method_12_code, 5, (Option.some Jvm.ClassFile.FieldType.int))
abbrev mM_splat : MethodName × ByteArray × Nat × Option FieldType := (⟨"MatrixModuleModel", "splat", "(II)Z"⟩, prog_4_method_13_code, 3, (Option.some Jvm.ClassFile.FieldType.boolean))
abbrev mM_sameShape : MethodName × ByteArray × Nat × Option FieldType := (⟨"MatrixModuleModel", "sameShape", "(II)Z"⟩, prog_4_method_14_code, 3, (Option.some Jvm.ClassFile.FieldType.boolean))
abbrev mM_become : MethodName × ByteArray × Nat × Option FieldType := (⟨"MatrixModuleModel", "become", "(II)V"⟩, prog_4_method_15_code, 3, (Option.none : Option Jvm.ClassFile.FieldType))
abbrev mM_folded : MethodName × ByteArray × Nat × Option FieldType := (⟨"MatrixModuleModel", "folded", "(I)I"⟩, prog_4_method_16_code, 5, (Option.some Jvm.ClassFile.FieldType.int))
abbrev mM_rule : MethodName × ByteArray × Nat × Option FieldType := (⟨"MatrixModuleModel", "rule", "(I)I"⟩, prog_4_method_17_code, 6, (Option.some Jvm.ClassFile.FieldType.int))
abbrev mM_alike : MethodName × ByteArray × Nat × Option FieldType := (⟨"MatrixModuleModel", "alike", "(II)Z"⟩, prog_4_method_18_code, 3, (Option.some Jvm.ClassFile.FieldType.boolean))
abbrev mM_simplifyOne : MethodName × ByteArray × Nat × Option FieldType := (⟨"MatrixModuleModel", "simplifyOne", "(I)V"⟩, prog_4_method_19_code, 4, (Option.none : Option Jvm.ClassFile.FieldType))
abbrev mM_simplify : MethodName × ByteArray × Nat × Option FieldType := (⟨"MatrixModuleModel", "simplify", "()I"⟩, prog_4_method_20_code, 3, (Option.some Jvm.ClassFile.FieldType.int))
abbrev mM_isLive : MethodName × ByteArray × Nat × Option FieldType := (⟨"MatrixModuleModel", "isLive", "(I)Z"⟩, prog_4_method_21_code, 4, (Option.some Jvm.ClassFile.FieldType.boolean))
abbrev mM_workOf : MethodName × ByteArray × Nat × Option FieldType := (⟨"MatrixModuleModel", "workOf", "(I)I"⟩, prog_4_method_22_code, 2, (Option.some Jvm.ClassFile.FieldType.int))
abbrev mM_at : MethodName × ByteArray × Nat × Option FieldType := (⟨"MatrixModuleModel", "at", "(III)I"⟩, prog_4_method_23_code, 4, (Option.some Jvm.ClassFile.FieldType.int))
abbrev mM_made : MethodName × ByteArray × Nat × Option FieldType := (⟨"MatrixModuleModel", "made", "(III)I"⟩, prog_4_method_24_code, 6, (Option.some Jvm.ClassFile.FieldType.int))
abbrev mM_total : MethodName × ByteArray × Nat × Option FieldType := (⟨"MatrixModuleModel", "total", "(III)I"⟩, prog_4_method_25_code, 9, (Option.some Jvm.ClassFile.FieldType.int))
abbrev mM_work : MethodName × ByteArray × Nat × Option FieldType := (⟨"MatrixModuleModel", "work", "()I"⟩, prog_4_method_26_code, 4, (Option.some Jvm.ClassFile.FieldType.int))
abbrev mM_cell : MethodName × ByteArray × Nat × Option FieldType := (⟨"MatrixModuleModel", "cell", "(III)J"⟩, prog_4_method_27_code, 4, (Option.some Jvm.ClassFile.FieldType.long))
abbrev mM_standIn : MethodName × ByteArray × Nat × Option FieldType := (⟨"MatrixModuleModel", "standIn", "(I)I"⟩, prog_4_method_28_code, 2, (Option.some Jvm.ClassFile.FieldType.int))
abbrev mM_value : MethodName × ByteArray × Nat × Option FieldType := (⟨"MatrixModuleModel", "value", "(II)I"⟩, prog_4_method_29_code, 3, (Option.some Jvm.ClassFile.FieldType.int))
abbrev mM_count : MethodName × ByteArray × Nat × Option FieldType := (⟨"MatrixModuleModel", "count", "(I)I"⟩, prog_4_method_30_code, 4, (Option.some Jvm.ClassFile.FieldType.int))
abbrev mL_law : MethodName × ByteArray × Nat × Option FieldType := (⟨"MatrixModuleLaw", "law", "([I)Z"⟩, code, 4, (Option.some Jvm.ClassFile.FieldType.boolean))
abbrev mA_fill : MethodName × ByteArray × Nat × Option FieldType := (⟨"java/util/Arrays", "fill", "([II)V"⟩, prog_6_method_103_code, 4, (Option.none : Option Jvm.ClassFile.FieldType))
end
section
theorem dO_init_0 : decode mO_init.2.1 0 = .ok (.aload_n 0, 1) := by decide +kernel
theorem dO_init_1 : decode mO_init.2.1 1 = .ok (.invokespecial 3, 3) := by decide +kernel
theorem dO_init_4 : decode mO_init.2.1 4 = .ok (.return_, 1) := by decide +kernel
theorem dO_takeShape_0 : decode mO_takeShape.2.1 0 = .ok (.aload_n 0, 1) := by decide +kernel
theorem dO_takeShape_1 : decode mO_takeShape.2.1 1 = .ok (.iload_n 1, 1) := by decide +kernel
theorem dO_takeShape_2 : decode mO_takeShape.2.1 2 = .ok (.putfield 9, 3) := by decide +kernel
theorem dO_takeShape_5 : decode mO_takeShape.2.1 5 = .ok (.aload_n 0, 1) := by decide +kernel
theorem dO_takeShape_6 : decode mO_takeShape.2.1 6 = .ok (.iload_n 2, 1) := by decide +kernel
theorem dO_takeShape_7 : decode mO_takeShape.2.1 7 = .ok (.putfield 15, 3) := by decide +kernel
theorem dO_takeShape_10 : decode mO_takeShape.2.1 10 = .ok (.return_, 1) := by decide +kernel
theorem dO_become_0 : decode mO_become.2.1 0 = .ok (.aload_n 0, 1) := by decide +kernel
theorem dO_become_1 : decode mO_become.2.1 1 = .ok (.iload_n 1, 1) := by decide +kernel
theorem dO_become_2 : decode mO_become.2.1 2 = .ok (.putfield 18, 3) := by decide +kernel
theorem dO_become_5 : decode mO_become.2.1 5 = .ok (.aload_n 0, 1) := by decide +kernel
theorem dO_become_6 : decode mO_become.2.1 6 = .ok (.iload_n 2, 1) := by decide +kernel
theorem dO_become_7 : decode mO_become.2.1 7 = .ok (.putfield 21, 3) := by decide +kernel
theorem dO_become_10 : decode mO_become.2.1 10 = .ok (.aload_n 0, 1) := by decide +kernel
theorem dO_become_11 : decode mO_become.2.1 11 = .ok (.iload_n 3, 1) := by decide +kernel
theorem dO_become_12 : decode mO_become.2.1 12 = .ok (.putfield 24, 3) := by decide +kernel
theorem dO_become_15 : decode mO_become.2.1 15 = .ok (.aload_n 0, 1) := by decide +kernel
theorem dO_become_16 : decode mO_become.2.1 16 = .ok (.iload 4, 2) := by decide +kernel
theorem dO_become_18 : decode mO_become.2.1 18 = .ok (.putfield 27, 3) := by decide +kernel
theorem dO_become_21 : decode mO_become.2.1 21 = .ok (.aload_n 0, 1) := by decide +kernel
theorem dO_become_22 : decode mO_become.2.1 22 = .ok (.iload 5, 2) := by decide +kernel
theorem dO_become_24 : decode mO_become.2.1 24 = .ok (.putfield 30, 3) := by decide +kernel
theorem dO_become_27 : decode mO_become.2.1 27 = .ok (.return_, 1) := by decide +kernel
theorem dO_becomeSplat_0 : decode mO_becomeSplat.2.1 0 = .ok (.aload_n 0, 1) := by decide +kernel
theorem dO_becomeSplat_1 : decode mO_becomeSplat.2.1 1 = .ok (.iconst 1, 1) := by decide +kernel
theorem dO_becomeSplat_2 : decode mO_becomeSplat.2.1 2 = .ok (.iconst (-1), 1) := by decide +kernel
theorem dO_becomeSplat_3 : decode mO_becomeSplat.2.1 3 = .ok (.iconst (-1), 1) := by decide +kernel
theorem dO_becomeSplat_4 : decode mO_becomeSplat.2.1 4 = .ok (.iload_n 1, 1) := by decide +kernel
theorem dO_becomeSplat_5 : decode mO_becomeSplat.2.1 5 = .ok (.iconst 0, 1) := by decide +kernel
theorem dO_becomeSplat_6 : decode mO_becomeSplat.2.1 6 = .ok (.invokevirtual 33, 3) := by decide +kernel
theorem dO_becomeSplat_9 : decode mO_becomeSplat.2.1 9 = .ok (.return_, 1) := by decide +kernel
theorem dO_copyFrom_0 : decode mO_copyFrom.2.1 0 = .ok (.aload_n 0, 1) := by decide +kernel
theorem dO_copyFrom_1 : decode mO_copyFrom.2.1 1 = .ok (.aload_n 1, 1) := by decide +kernel
theorem dO_copyFrom_2 : decode mO_copyFrom.2.1 2 = .ok (.getfield 9, 3) := by decide +kernel
theorem dO_copyFrom_5 : decode mO_copyFrom.2.1 5 = .ok (.aload_n 1, 1) := by decide +kernel
theorem dO_copyFrom_6 : decode mO_copyFrom.2.1 6 = .ok (.getfield 15, 3) := by decide +kernel
theorem dO_copyFrom_9 : decode mO_copyFrom.2.1 9 = .ok (.invokevirtual 37, 3) := by decide +kernel
theorem dO_copyFrom_12 : decode mO_copyFrom.2.1 12 = .ok (.aload_n 0, 1) := by decide +kernel
theorem dO_copyFrom_13 : decode mO_copyFrom.2.1 13 = .ok (.aload_n 1, 1) := by decide +kernel
theorem dO_copyFrom_14 : decode mO_copyFrom.2.1 14 = .ok (.getfield 18, 3) := by decide +kernel
theorem dO_copyFrom_17 : decode mO_copyFrom.2.1 17 = .ok (.aload_n 1, 1) := by decide +kernel
theorem dO_copyFrom_18 : decode mO_copyFrom.2.1 18 = .ok (.getfield 21, 3) := by decide +kernel
theorem dO_copyFrom_21 : decode mO_copyFrom.2.1 21 = .ok (.aload_n 1, 1) := by decide +kernel
theorem dO_copyFrom_22 : decode mO_copyFrom.2.1 22 = .ok (.getfield 24, 3) := by decide +kernel
theorem dO_copyFrom_25 : decode mO_copyFrom.2.1 25 = .ok (.aload_n 1, 1) := by decide +kernel
theorem dO_copyFrom_26 : decode mO_copyFrom.2.1 26 = .ok (.getfield 27, 3) := by decide +kernel
theorem dO_copyFrom_29 : decode mO_copyFrom.2.1 29 = .ok (.aload_n 1, 1) := by decide +kernel
theorem dO_copyFrom_30 : decode mO_copyFrom.2.1 30 = .ok (.getfield 30, 3) := by decide +kernel
theorem dO_copyFrom_33 : decode mO_copyFrom.2.1 33 = .ok (.invokevirtual 33, 3) := by decide +kernel
theorem dO_copyFrom_36 : decode mO_copyFrom.2.1 36 = .ok (.return_, 1) := by decide +kernel
theorem dO_isSplatOf_0 : decode mO_isSplatOf.2.1 0 = .ok (.aload_n 0, 1) := by decide +kernel
theorem dO_isSplatOf_1 : decode mO_isSplatOf.2.1 1 = .ok (.getfield 18, 3) := by decide +kernel
theorem dO_isSplatOf_4 : decode mO_isSplatOf.2.1 4 = .ok (.iconst 1, 1) := by decide +kernel
theorem dO_isSplatOf_5 : decode mO_isSplatOf.2.1 5 = .ok (.if_icmp .ne 15, 3) := by decide +kernel
theorem dO_isSplatOf_8 : decode mO_isSplatOf.2.1 8 = .ok (.aload_n 0, 1) := by decide +kernel
theorem dO_isSplatOf_9 : decode mO_isSplatOf.2.1 9 = .ok (.getfield 27, 3) := by decide +kernel
theorem dO_isSplatOf_12 : decode mO_isSplatOf.2.1 12 = .ok (.iload_n 1, 1) := by decide +kernel
theorem dO_isSplatOf_13 : decode mO_isSplatOf.2.1 13 = .ok (.if_icmp .ne 7, 3) := by decide +kernel
theorem dO_isSplatOf_16 : decode mO_isSplatOf.2.1 16 = .ok (.iconst 1, 1) := by decide +kernel
theorem dO_isSplatOf_17 : decode mO_isSplatOf.2.1 17 = .ok (.goto 4, 3) := by decide +kernel
theorem dO_isSplatOf_20 : decode mO_isSplatOf.2.1 20 = .ok (.iconst 0, 1) := by decide +kernel
theorem dO_isSplatOf_21 : decode mO_isSplatOf.2.1 21 = .ok (.ireturn, 1) := by decide +kernel
theorem dO_takesPairs_0 : decode mO_takesPairs.2.1 0 = .ok (.aload_n 0, 1) := by decide +kernel
theorem dO_takesPairs_1 : decode mO_takesPairs.2.1 1 = .ok (.getfield 18, 3) := by decide +kernel
theorem dO_takesPairs_4 : decode mO_takesPairs.2.1 4 = .ok (.iconst 3, 1) := by decide +kernel
theorem dO_takesPairs_5 : decode mO_takesPairs.2.1 5 = .ok (.if_icmp .eq 19, 3) := by decide +kernel
theorem dO_takesPairs_8 : decode mO_takesPairs.2.1 8 = .ok (.aload_n 0, 1) := by decide +kernel
theorem dO_takesPairs_9 : decode mO_takesPairs.2.1 9 = .ok (.getfield 18, 3) := by decide +kernel
theorem dO_takesPairs_12 : decode mO_takesPairs.2.1 12 = .ok (.iconst 4, 1) := by decide +kernel
theorem dO_takesPairs_13 : decode mO_takesPairs.2.1 13 = .ok (.if_icmp .eq 11, 3) := by decide +kernel
theorem dO_takesPairs_16 : decode mO_takesPairs.2.1 16 = .ok (.aload_n 0, 1) := by decide +kernel
theorem dO_takesPairs_17 : decode mO_takesPairs.2.1 17 = .ok (.getfield 18, 3) := by decide +kernel
theorem dO_takesPairs_20 : decode mO_takesPairs.2.1 20 = .ok (.iconst 5, 1) := by decide +kernel
theorem dO_takesPairs_21 : decode mO_takesPairs.2.1 21 = .ok (.if_icmp .ne 7, 3) := by decide +kernel
theorem dO_takesPairs_24 : decode mO_takesPairs.2.1 24 = .ok (.iconst 1, 1) := by decide +kernel
theorem dO_takesPairs_25 : decode mO_takesPairs.2.1 25 = .ok (.goto 4, 3) := by decide +kernel
theorem dO_takesPairs_28 : decode mO_takesPairs.2.1 28 = .ok (.iconst 0, 1) := by decide +kernel
theorem dO_takesPairs_29 : decode mO_takesPairs.2.1 29 = .ok (.ireturn, 1) := by decide +kernel
theorem dO_isReshaping_0 : decode mO_isReshaping.2.1 0 = .ok (.aload_n 0, 1) := by decide +kernel
theorem dO_isReshaping_1 : decode mO_isReshaping.2.1 1 = .ok (.getfield 18, 3) := by decide +kernel
theorem dO_isReshaping_4 : decode mO_isReshaping.2.1 4 = .ok (.bipush 10, 2) := by decide +kernel
theorem dO_isReshaping_6 : decode mO_isReshaping.2.1 6 = .ok (.if_icmp .eq 21, 3) := by decide +kernel
theorem dO_isReshaping_9 : decode mO_isReshaping.2.1 9 = .ok (.aload_n 0, 1) := by decide +kernel
theorem dO_isReshaping_10 : decode mO_isReshaping.2.1 10 = .ok (.getfield 18, 3) := by decide +kernel
theorem dO_isReshaping_13 : decode mO_isReshaping.2.1 13 = .ok (.bipush 11, 2) := by decide +kernel
theorem dO_isReshaping_15 : decode mO_isReshaping.2.1 15 = .ok (.if_icmp .eq 12, 3) := by decide +kernel
theorem dO_isReshaping_18 : decode mO_isReshaping.2.1 18 = .ok (.aload_n 0, 1) := by decide +kernel
theorem dO_isReshaping_19 : decode mO_isReshaping.2.1 19 = .ok (.getfield 18, 3) := by decide +kernel
theorem dO_isReshaping_22 : decode mO_isReshaping.2.1 22 = .ok (.bipush 12, 2) := by decide +kernel
theorem dO_isReshaping_24 : decode mO_isReshaping.2.1 24 = .ok (.if_icmp .ne 7, 3) := by decide +kernel
theorem dO_isReshaping_27 : decode mO_isReshaping.2.1 27 = .ok (.iconst 1, 1) := by decide +kernel
theorem dO_isReshaping_28 : decode mO_isReshaping.2.1 28 = .ok (.goto 4, 3) := by decide +kernel
theorem dO_isReshaping_31 : decode mO_isReshaping.2.1 31 = .ok (.iconst 0, 1) := by decide +kernel
theorem dO_isReshaping_32 : decode mO_isReshaping.2.1 32 = .ok (.ireturn, 1) := by decide +kernel
theorem dO_hasShapeOf_0 : decode mO_hasShapeOf.2.1 0 = .ok (.aload_n 0, 1) := by decide +kernel
theorem dO_hasShapeOf_1 : decode mO_hasShapeOf.2.1 1 = .ok (.getfield 9, 3) := by decide +kernel
theorem dO_hasShapeOf_4 : decode mO_hasShapeOf.2.1 4 = .ok (.aload_n 1, 1) := by decide +kernel
theorem dO_hasShapeOf_5 : decode mO_hasShapeOf.2.1 5 = .ok (.getfield 9, 3) := by decide +kernel
theorem dO_hasShapeOf_8 : decode mO_hasShapeOf.2.1 8 = .ok (.if_icmp .ne 18, 3) := by decide +kernel
theorem dO_hasShapeOf_11 : decode mO_hasShapeOf.2.1 11 = .ok (.aload_n 0, 1) := by decide +kernel
theorem dO_hasShapeOf_12 : decode mO_hasShapeOf.2.1 12 = .ok (.getfield 15, 3) := by decide +kernel
theorem dO_hasShapeOf_15 : decode mO_hasShapeOf.2.1 15 = .ok (.aload_n 1, 1) := by decide +kernel
theorem dO_hasShapeOf_16 : decode mO_hasShapeOf.2.1 16 = .ok (.getfield 15, 3) := by decide +kernel
theorem dO_hasShapeOf_19 : decode mO_hasShapeOf.2.1 19 = .ok (.if_icmp .ne 7, 3) := by decide +kernel
theorem dO_hasShapeOf_22 : decode mO_hasShapeOf.2.1 22 = .ok (.iconst 1, 1) := by decide +kernel
theorem dO_hasShapeOf_23 : decode mO_hasShapeOf.2.1 23 = .ok (.goto 4, 3) := by decide +kernel
theorem dO_hasShapeOf_26 : decode mO_hasShapeOf.2.1 26 = .ok (.iconst 0, 1) := by decide +kernel
theorem dO_hasShapeOf_27 : decode mO_hasShapeOf.2.1 27 = .ok (.ireturn, 1) := by decide +kernel
theorem dO_isLike_0 : decode mO_isLike.2.1 0 = .ok (.aload_n 0, 1) := by decide +kernel
theorem dO_isLike_1 : decode mO_isLike.2.1 1 = .ok (.getfield 18, 3) := by decide +kernel
theorem dO_isLike_4 : decode mO_isLike.2.1 4 = .ok (.aload_n 1, 1) := by decide +kernel
theorem dO_isLike_5 : decode mO_isLike.2.1 5 = .ok (.getfield 18, 3) := by decide +kernel
theorem dO_isLike_8 : decode mO_isLike.2.1 8 = .ok (.if_icmp .ne 59, 3) := by decide +kernel
theorem dO_isLike_11 : decode mO_isLike.2.1 11 = .ok (.aload_n 0, 1) := by decide +kernel
theorem dO_isLike_12 : decode mO_isLike.2.1 12 = .ok (.getfield 21, 3) := by decide +kernel
theorem dO_isLike_15 : decode mO_isLike.2.1 15 = .ok (.aload_n 1, 1) := by decide +kernel
theorem dO_isLike_16 : decode mO_isLike.2.1 16 = .ok (.getfield 21, 3) := by decide +kernel
theorem dO_isLike_19 : decode mO_isLike.2.1 19 = .ok (.if_icmp .ne 48, 3) := by decide +kernel
theorem dO_isLike_22 : decode mO_isLike.2.1 22 = .ok (.aload_n 0, 1) := by decide +kernel
theorem dO_isLike_23 : decode mO_isLike.2.1 23 = .ok (.getfield 24, 3) := by decide +kernel
theorem dO_isLike_26 : decode mO_isLike.2.1 26 = .ok (.aload_n 1, 1) := by decide +kernel
theorem dO_isLike_27 : decode mO_isLike.2.1 27 = .ok (.getfield 24, 3) := by decide +kernel
theorem dO_isLike_30 : decode mO_isLike.2.1 30 = .ok (.if_icmp .ne 37, 3) := by decide +kernel
theorem dO_isLike_33 : decode mO_isLike.2.1 33 = .ok (.aload_n 0, 1) := by decide +kernel
theorem dO_isLike_34 : decode mO_isLike.2.1 34 = .ok (.getfield 27, 3) := by decide +kernel
theorem dO_isLike_37 : decode mO_isLike.2.1 37 = .ok (.aload_n 1, 1) := by decide +kernel
theorem dO_isLike_38 : decode mO_isLike.2.1 38 = .ok (.getfield 27, 3) := by decide +kernel
theorem dO_isLike_41 : decode mO_isLike.2.1 41 = .ok (.if_icmp .ne 26, 3) := by decide +kernel
theorem dO_isLike_44 : decode mO_isLike.2.1 44 = .ok (.aload_n 0, 1) := by decide +kernel
theorem dO_isLike_45 : decode mO_isLike.2.1 45 = .ok (.getfield 30, 3) := by decide +kernel
theorem dO_isLike_48 : decode mO_isLike.2.1 48 = .ok (.aload_n 1, 1) := by decide +kernel
theorem dO_isLike_49 : decode mO_isLike.2.1 49 = .ok (.getfield 30, 3) := by decide +kernel
theorem dO_isLike_52 : decode mO_isLike.2.1 52 = .ok (.if_icmp .ne 15, 3) := by decide +kernel
theorem dO_isLike_55 : decode mO_isLike.2.1 55 = .ok (.aload_n 0, 1) := by decide +kernel
theorem dO_isLike_56 : decode mO_isLike.2.1 56 = .ok (.aload_n 1, 1) := by decide +kernel
theorem dO_isLike_57 : decode mO_isLike.2.1 57 = .ok (.invokevirtual 41, 3) := by decide +kernel
theorem dO_isLike_60 : decode mO_isLike.2.1 60 = .ok (.ifCond .eq 7, 3) := by decide +kernel
theorem dO_isLike_63 : decode mO_isLike.2.1 63 = .ok (.iconst 1, 1) := by decide +kernel
theorem dO_isLike_64 : decode mO_isLike.2.1 64 = .ok (.goto 4, 3) := by decide +kernel
theorem dO_isLike_67 : decode mO_isLike.2.1 67 = .ok (.iconst 0, 1) := by decide +kernel
theorem dO_isLike_68 : decode mO_isLike.2.1 68 = .ok (.ireturn, 1) := by decide +kernel
theorem dA_fill_0 : decode mA_fill.2.1 0 = .ok (.iconst 0, 1) := by decide +kernel
theorem dA_fill_1 : decode mA_fill.2.1 1 = .ok (.istore_n 2, 1) := by decide +kernel
theorem dA_fill_2 : decode mA_fill.2.1 2 = .ok (.aload_n 0, 1) := by decide +kernel
theorem dA_fill_3 : decode mA_fill.2.1 3 = .ok (.arraylength, 1) := by decide +kernel
theorem dA_fill_4 : decode mA_fill.2.1 4 = .ok (.istore_n 3, 1) := by decide +kernel
theorem dA_fill_5 : decode mA_fill.2.1 5 = .ok (.iload_n 2, 1) := by decide +kernel
theorem dA_fill_6 : decode mA_fill.2.1 6 = .ok (.iload_n 3, 1) := by decide +kernel
theorem dA_fill_7 : decode mA_fill.2.1 7 = .ok (.if_icmp .ge 13, 3) := by decide +kernel
theorem dA_fill_10 : decode mA_fill.2.1 10 = .ok (.aload_n 0, 1) := by decide +kernel
theorem dA_fill_11 : decode mA_fill.2.1 11 = .ok (.iload_n 2, 1) := by decide +kernel
theorem dA_fill_12 : decode mA_fill.2.1 12 = .ok (.iload_n 1, 1) := by decide +kernel
theorem dA_fill_13 : decode mA_fill.2.1 13 = .ok (.iastore, 1) := by decide +kernel
theorem dA_fill_14 : decode mA_fill.2.1 14 = .ok (.iinc 2 1, 3) := by decide +kernel
theorem dA_fill_17 : decode mA_fill.2.1 17 = .ok (.goto (-12), 3) := by decide +kernel
theorem dA_fill_20 : decode mA_fill.2.1 20 = .ok (.return_, 1) := by decide +kernel
theorem dC_init_0 : decode mC_init.2.1 0 = .ok (.aload_n 0, 1) := by decide +kernel
theorem dC_init_1 : decode mC_init.2.1 1 = .ok (.invokespecial 1, 3) := by decide +kernel
theorem dC_init_4 : decode mC_init.2.1 4 = .ok (.aload_n 0, 1) := by decide +kernel
theorem dC_init_5 : decode mC_init.2.1 5 = .ok (.bipush 28, 2) := by decide +kernel
theorem dC_init_7 : decode mC_init.2.1 7 = .ok (.anewarray 9, 3) := by decide +kernel
theorem dC_init_10 : decode mC_init.2.1 10 = .ok (.putfield 11, 3) := by decide +kernel
theorem dC_init_13 : decode mC_init.2.1 13 = .ok (.aload_n 0, 1) := by decide +kernel
theorem dC_init_14 : decode mC_init.2.1 14 = .ok (.bipush 28, 2) := by decide +kernel
theorem dC_init_16 : decode mC_init.2.1 16 = .ok (.anewarray 9, 3) := by decide +kernel
theorem dC_init_19 : decode mC_init.2.1 19 = .ok (.putfield 15, 3) := by decide +kernel
theorem dC_init_22 : decode mC_init.2.1 22 = .ok (.aload_n 0, 1) := by decide +kernel
theorem dC_init_23 : decode mC_init.2.1 23 = .ok (.bipush 28, 2) := by decide +kernel
theorem dC_init_25 : decode mC_init.2.1 25 = .ok (.newarray .int, 2) := by decide +kernel
theorem dC_init_27 : decode mC_init.2.1 27 = .ok (.putfield 18, 3) := by decide +kernel
theorem dC_init_30 : decode mC_init.2.1 30 = .ok (.aload_n 0, 1) := by decide +kernel
theorem dC_init_31 : decode mC_init.2.1 31 = .ok (.bipush 28, 2) := by decide +kernel
theorem dC_init_33 : decode mC_init.2.1 33 = .ok (.newarray .boolean, 2) := by decide +kernel
theorem dC_init_35 : decode mC_init.2.1 35 = .ok (.putfield 22, 3) := by decide +kernel
theorem dC_init_38 : decode mC_init.2.1 38 = .ok (.aload_n 0, 1) := by decide +kernel
theorem dC_init_39 : decode mC_init.2.1 39 = .ok (.bipush 28, 2) := by decide +kernel
theorem dC_init_41 : decode mC_init.2.1 41 = .ok (.newarray .boolean, 2) := by decide +kernel
theorem dC_init_43 : decode mC_init.2.1 43 = .ok (.putfield 26, 3) := by decide +kernel
theorem dC_init_46 : decode mC_init.2.1 46 = .ok (.aload_n 0, 1) := by decide +kernel
theorem dC_init_47 : decode mC_init.2.1 47 = .ok (.bipush 28, 2) := by decide +kernel
theorem dC_init_49 : decode mC_init.2.1 49 = .ok (.bipush 16, 2) := by decide +kernel
theorem dC_init_51 : decode mC_init.2.1 51 = .ok (.multianewarray 29 2, 4) := by decide +kernel
theorem dC_init_55 : decode mC_init.2.1 55 = .ok (.putfield 31, 3) := by decide +kernel
theorem dC_init_58 : decode mC_init.2.1 58 = .ok (.aload_n 0, 1) := by decide +kernel
theorem dC_init_59 : decode mC_init.2.1 59 = .ok (.iconst 4, 1) := by decide +kernel
theorem dC_init_60 : decode mC_init.2.1 60 = .ok (.bipush 16, 2) := by decide +kernel
theorem dC_init_62 : decode mC_init.2.1 62 = .ok (.multianewarray 29 2, 4) := by decide +kernel
theorem dC_init_66 : decode mC_init.2.1 66 = .ok (.putfield 34, 3) := by decide +kernel
theorem dC_init_69 : decode mC_init.2.1 69 = .ok (.aload_n 0, 1) := by decide +kernel
theorem dC_init_70 : decode mC_init.2.1 70 = .ok (.bipush 7, 2) := by decide +kernel
theorem dC_init_72 : decode mC_init.2.1 72 = .ok (.newarray .int, 2) := by decide +kernel
theorem dC_init_74 : decode mC_init.2.1 74 = .ok (.putfield 37, 3) := by decide +kernel
theorem dC_init_77 : decode mC_init.2.1 77 = .ok (.aload_n 0, 1) := by decide +kernel
theorem dC_init_78 : decode mC_init.2.1 78 = .ok (.iconst 0, 1) := by decide +kernel
theorem dC_init_79 : decode mC_init.2.1 79 = .ok (.putfield 40, 3) := by decide +kernel
theorem dC_init_82 : decode mC_init.2.1 82 = .ok (.aload_n 0, 1) := by decide +kernel
theorem dC_init_83 : decode mC_init.2.1 83 = .ok (.iconst 0, 1) := by decide +kernel
theorem dC_init_84 : decode mC_init.2.1 84 = .ok (.putfield 44, 3) := by decide +kernel
theorem dC_init_87 : decode mC_init.2.1 87 = .ok (.aload_n 0, 1) := by decide +kernel
theorem dC_init_88 : decode mC_init.2.1 88 = .ok (.iconst 0, 1) := by decide +kernel
theorem dC_init_89 : decode mC_init.2.1 89 = .ok (.putfield 48, 3) := by decide +kernel
theorem dC_init_92 : decode mC_init.2.1 92 = .ok (.iconst 0, 1) := by decide +kernel
theorem dC_init_93 : decode mC_init.2.1 93 = .ok (.istore_n 1, 1) := by decide +kernel
theorem dC_init_94 : decode mC_init.2.1 94 = .ok (.iload_n 1, 1) := by decide +kernel
theorem dC_init_95 : decode mC_init.2.1 95 = .ok (.bipush 28, 2) := by decide +kernel
theorem dC_init_97 : decode mC_init.2.1 97 = .ok (.if_icmp .ge 35, 3) := by decide +kernel
theorem dC_init_100 : decode mC_init.2.1 100 = .ok (.aload_n 0, 1) := by decide +kernel
theorem dC_init_101 : decode mC_init.2.1 101 = .ok (.getfield 11, 3) := by decide +kernel
theorem dC_init_104 : decode mC_init.2.1 104 = .ok (.iload_n 1, 1) := by decide +kernel
theorem dC_init_105 : decode mC_init.2.1 105 = .ok (.new 9, 3) := by decide +kernel
theorem dC_init_108 : decode mC_init.2.1 108 = .ok (.dup, 1) := by decide +kernel
theorem dC_init_109 : decode mC_init.2.1 109 = .ok (.invokespecial 51, 3) := by decide +kernel
theorem dC_init_112 : decode mC_init.2.1 112 = .ok (.aastore, 1) := by decide +kernel
theorem dC_init_113 : decode mC_init.2.1 113 = .ok (.aload_n 0, 1) := by decide +kernel
theorem dC_init_114 : decode mC_init.2.1 114 = .ok (.getfield 15, 3) := by decide +kernel
theorem dC_init_117 : decode mC_init.2.1 117 = .ok (.iload_n 1, 1) := by decide +kernel
theorem dC_init_118 : decode mC_init.2.1 118 = .ok (.new 9, 3) := by decide +kernel
theorem dC_init_121 : decode mC_init.2.1 121 = .ok (.dup, 1) := by decide +kernel
theorem dC_init_122 : decode mC_init.2.1 122 = .ok (.invokespecial 51, 3) := by decide +kernel
theorem dC_init_125 : decode mC_init.2.1 125 = .ok (.aastore, 1) := by decide +kernel
theorem dC_init_126 : decode mC_init.2.1 126 = .ok (.iinc 1 1, 3) := by decide +kernel
theorem dC_init_129 : decode mC_init.2.1 129 = .ok (.goto (-35), 3) := by decide +kernel
theorem dC_init_132 : decode mC_init.2.1 132 = .ok (.return_, 1) := by decide +kernel
theorem dC_source_0 : decode mC_source.2.1 0 = .ok (.iload_n 1, 1) := by decide +kernel
theorem dC_source_1 : decode mC_source.2.1 1 = .ok (.ifCond .lt 25, 3) := by decide +kernel
theorem dC_source_4 : decode mC_source.2.1 4 = .ok (.iload_n 1, 1) := by decide +kernel
theorem dC_source_5 : decode mC_source.2.1 5 = .ok (.iconst 2, 1) := by decide +kernel
theorem dC_source_6 : decode mC_source.2.1 6 = .ok (.if_icmp .gt 20, 3) := by decide +kernel
theorem dC_source_9 : decode mC_source.2.1 9 = .ok (.iload_n 2, 1) := by decide +kernel
theorem dC_source_10 : decode mC_source.2.1 10 = .ok (.iload_n 3, 1) := by decide +kernel
theorem dC_source_11 : decode mC_source.2.1 11 = .ok (.invokestatic 52, 3) := by decide +kernel
theorem dC_source_14 : decode mC_source.2.1 14 = .ok (.ifCond .eq 12, 3) := by decide +kernel
theorem dC_source_17 : decode mC_source.2.1 17 = .ok (.iload_n 1, 1) := by decide +kernel
theorem dC_source_18 : decode mC_source.2.1 18 = .ok (.iload 4, 2) := by decide +kernel
theorem dC_source_20 : decode mC_source.2.1 20 = .ok (.invokestatic 56, 3) := by decide +kernel
theorem dC_source_23 : decode mC_source.2.1 23 = .ok (.ifCond .ne 5, 3) := by decide +kernel
theorem dC_source_26 : decode mC_source.2.1 26 = .ok (.iconst (-1), 1) := by decide +kernel
theorem dC_source_27 : decode mC_source.2.1 27 = .ok (.ireturn, 1) := by decide +kernel
theorem dC_source_28 : decode mC_source.2.1 28 = .ok (.aload_n 0, 1) := by decide +kernel
theorem dC_source_29 : decode mC_source.2.1 29 = .ok (.getfield 40, 3) := by decide +kernel
theorem dC_source_32 : decode mC_source.2.1 32 = .ok (.bipush 28, 2) := by decide +kernel
theorem dC_source_34 : decode mC_source.2.1 34 = .ok (.if_icmp .lt 6, 3) := by decide +kernel
theorem dC_source_37 : decode mC_source.2.1 37 = .ok (.bipush (-2), 2) := by decide +kernel
theorem dC_source_39 : decode mC_source.2.1 39 = .ok (.ireturn, 1) := by decide +kernel
theorem dC_source_40 : decode mC_source.2.1 40 = .ok (.aload_n 0, 1) := by decide +kernel
theorem dC_source_41 : decode mC_source.2.1 41 = .ok (.getfield 11, 3) := by decide +kernel
theorem dC_source_44 : decode mC_source.2.1 44 = .ok (.aload_n 0, 1) := by decide +kernel
theorem dC_source_45 : decode mC_source.2.1 45 = .ok (.getfield 40, 3) := by decide +kernel
theorem dC_source_48 : decode mC_source.2.1 48 = .ok (.aaload, 1) := by decide +kernel
theorem dC_source_49 : decode mC_source.2.1 49 = .ok (.iload_n 1, 1) := by decide +kernel
theorem dC_source_50 : decode mC_source.2.1 50 = .ok (.iconst (-1), 1) := by decide +kernel
theorem dC_source_51 : decode mC_source.2.1 51 = .ok (.iconst (-1), 1) := by decide +kernel
theorem dC_source_52 : decode mC_source.2.1 52 = .ok (.iload 4, 2) := by decide +kernel
theorem dC_source_54 : decode mC_source.2.1 54 = .ok (.iconst 0, 1) := by decide +kernel
theorem dC_source_55 : decode mC_source.2.1 55 = .ok (.invokevirtual 59, 3) := by decide +kernel
theorem dC_source_58 : decode mC_source.2.1 58 = .ok (.aload_n 0, 1) := by decide +kernel
theorem dC_source_59 : decode mC_source.2.1 59 = .ok (.iload_n 2, 1) := by decide +kernel
theorem dC_source_60 : decode mC_source.2.1 60 = .ok (.iload_n 3, 1) := by decide +kernel
theorem dC_source_61 : decode mC_source.2.1 61 = .ok (.invokevirtual 63, 3) := by decide +kernel
theorem dC_source_64 : decode mC_source.2.1 64 = .ok (.ireturn, 1) := by decide +kernel
theorem dC_operation_0 : decode mC_operation.2.1 0 = .ok (.iload_n 1, 1) := by decide +kernel
theorem dC_operation_1 : decode mC_operation.2.1 1 = .ok (.iconst 3, 1) := by decide +kernel
theorem dC_operation_2 : decode mC_operation.2.1 2 = .ok (.if_icmp .lt 25, 3) := by decide +kernel
theorem dC_operation_5 : decode mC_operation.2.1 5 = .ok (.iload_n 1, 1) := by decide +kernel
theorem dC_operation_6 : decode mC_operation.2.1 6 = .ok (.bipush 9, 2) := by decide +kernel
theorem dC_operation_8 : decode mC_operation.2.1 8 = .ok (.if_icmp .gt 19, 3) := by decide +kernel
theorem dC_operation_11 : decode mC_operation.2.1 11 = .ok (.aload_n 0, 1) := by decide +kernel
theorem dC_operation_12 : decode mC_operation.2.1 12 = .ok (.iload_n 2, 1) := by decide +kernel
theorem dC_operation_13 : decode mC_operation.2.1 13 = .ok (.invokevirtual 67, 3) := by decide +kernel
theorem dC_operation_16 : decode mC_operation.2.1 16 = .ok (.ifCond .eq 11, 3) := by decide +kernel
theorem dC_operation_19 : decode mC_operation.2.1 19 = .ok (.aload_n 0, 1) := by decide +kernel
theorem dC_operation_20 : decode mC_operation.2.1 20 = .ok (.iload_n 3, 1) := by decide +kernel
theorem dC_operation_21 : decode mC_operation.2.1 21 = .ok (.invokevirtual 67, 3) := by decide +kernel
theorem dC_operation_24 : decode mC_operation.2.1 24 = .ok (.ifCond .ne 5, 3) := by decide +kernel
theorem dC_operation_27 : decode mC_operation.2.1 27 = .ok (.iconst (-1), 1) := by decide +kernel
theorem dC_operation_28 : decode mC_operation.2.1 28 = .ok (.ireturn, 1) := by decide +kernel
theorem dC_operation_29 : decode mC_operation.2.1 29 = .ok (.iload_n 1, 1) := by decide +kernel
theorem dC_operation_30 : decode mC_operation.2.1 30 = .ok (.bipush 6, 2) := by decide +kernel
theorem dC_operation_32 : decode mC_operation.2.1 32 = .ok (.if_icmp .eq 15, 3) := by decide +kernel
theorem dC_operation_35 : decode mC_operation.2.1 35 = .ok (.iload_n 1, 1) := by decide +kernel
theorem dC_operation_36 : decode mC_operation.2.1 36 = .ok (.bipush 7, 2) := by decide +kernel
theorem dC_operation_38 : decode mC_operation.2.1 38 = .ok (.if_icmp .eq 9, 3) := by decide +kernel
theorem dC_operation_41 : decode mC_operation.2.1 41 = .ok (.iload_n 1, 1) := by decide +kernel
theorem dC_operation_42 : decode mC_operation.2.1 42 = .ok (.bipush 9, 2) := by decide +kernel
theorem dC_operation_44 : decode mC_operation.2.1 44 = .ok (.if_icmp .ne 7, 3) := by decide +kernel
theorem dC_operation_47 : decode mC_operation.2.1 47 = .ok (.iconst 1, 1) := by decide +kernel
theorem dC_operation_48 : decode mC_operation.2.1 48 = .ok (.goto 4, 3) := by decide +kernel
theorem dC_operation_51 : decode mC_operation.2.1 51 = .ok (.iconst 0, 1) := by decide +kernel
theorem dC_operation_52 : decode mC_operation.2.1 52 = .ok (.istore 5, 2) := by decide +kernel
theorem dC_operation_54 : decode mC_operation.2.1 54 = .ok (.iload 5, 2) := by decide +kernel
theorem dC_operation_56 : decode mC_operation.2.1 56 = .ok (.ifCond .eq 8, 3) := by decide +kernel
theorem dC_operation_59 : decode mC_operation.2.1 59 = .ok (.iload_n 3, 1) := by decide +kernel
theorem dC_operation_60 : decode mC_operation.2.1 60 = .ok (.iload_n 2, 1) := by decide +kernel
theorem dC_operation_61 : decode mC_operation.2.1 61 = .ok (.if_icmp .ne 24, 3) := by decide +kernel
theorem dC_operation_64 : decode mC_operation.2.1 64 = .ok (.iload 4, 2) := by decide +kernel
theorem dC_operation_66 : decode mC_operation.2.1 66 = .ok (.ifCond .lt 19, 3) := by decide +kernel
theorem dC_operation_69 : decode mC_operation.2.1 69 = .ok (.iload 4, 2) := by decide +kernel
theorem dC_operation_71 : decode mC_operation.2.1 71 = .ok (.iload_n 1, 1) := by decide +kernel
theorem dC_operation_72 : decode mC_operation.2.1 72 = .ok (.bipush 9, 2) := by decide +kernel
theorem dC_operation_74 : decode mC_operation.2.1 74 = .ok (.if_icmp .ne 7, 3) := by decide +kernel
theorem dC_operation_77 : decode mC_operation.2.1 77 = .ok (.iconst 1, 1) := by decide +kernel
theorem dC_operation_78 : decode mC_operation.2.1 78 = .ok (.goto 4, 3) := by decide +kernel
theorem dC_operation_81 : decode mC_operation.2.1 81 = .ok (.iconst 0, 1) := by decide +kernel
theorem dC_operation_82 : decode mC_operation.2.1 82 = .ok (.if_icmp .le 5, 3) := by decide +kernel
theorem dC_operation_85 : decode mC_operation.2.1 85 = .ok (.iconst (-1), 1) := by decide +kernel
theorem dC_operation_86 : decode mC_operation.2.1 86 = .ok (.ireturn, 1) := by decide +kernel
theorem dC_operation_87 : decode mC_operation.2.1 87 = .ok (.iload_n 1, 1) := by decide +kernel
theorem dC_operation_88 : decode mC_operation.2.1 88 = .ok (.aload_n 0, 1) := by decide +kernel
theorem dC_operation_89 : decode mC_operation.2.1 89 = .ok (.getfield 11, 3) := by decide +kernel
theorem dC_operation_92 : decode mC_operation.2.1 92 = .ok (.iload_n 2, 1) := by decide +kernel
theorem dC_operation_93 : decode mC_operation.2.1 93 = .ok (.aaload, 1) := by decide +kernel
theorem dC_operation_94 : decode mC_operation.2.1 94 = .ok (.aload_n 0, 1) := by decide +kernel
theorem dC_operation_95 : decode mC_operation.2.1 95 = .ok (.getfield 11, 3) := by decide +kernel
theorem dC_operation_98 : decode mC_operation.2.1 98 = .ok (.iload_n 3, 1) := by decide +kernel
theorem dC_operation_99 : decode mC_operation.2.1 99 = .ok (.aaload, 1) := by decide +kernel
theorem dC_operation_100 : decode mC_operation.2.1 100 = .ok (.invokestatic 71, 3) := by decide +kernel
theorem dC_operation_103 : decode mC_operation.2.1 103 = .ok (.ifCond .ne 6, 3) := by decide +kernel
theorem dC_operation_106 : decode mC_operation.2.1 106 = .ok (.bipush (-3), 2) := by decide +kernel
theorem dC_operation_108 : decode mC_operation.2.1 108 = .ok (.ireturn, 1) := by decide +kernel
theorem dC_operation_109 : decode mC_operation.2.1 109 = .ok (.aload_n 0, 1) := by decide +kernel
theorem dC_operation_110 : decode mC_operation.2.1 110 = .ok (.getfield 40, 3) := by decide +kernel
theorem dC_operation_113 : decode mC_operation.2.1 113 = .ok (.bipush 28, 2) := by decide +kernel
theorem dC_operation_115 : decode mC_operation.2.1 115 = .ok (.if_icmp .lt 6, 3) := by decide +kernel
theorem dC_operation_118 : decode mC_operation.2.1 118 = .ok (.bipush (-2), 2) := by decide +kernel
theorem dC_operation_120 : decode mC_operation.2.1 120 = .ok (.ireturn, 1) := by decide +kernel
theorem dC_operation_121 : decode mC_operation.2.1 121 = .ok (.aload_n 0, 1) := by decide +kernel
theorem dC_operation_122 : decode mC_operation.2.1 122 = .ok (.getfield 11, 3) := by decide +kernel
theorem dC_operation_125 : decode mC_operation.2.1 125 = .ok (.aload_n 0, 1) := by decide +kernel
theorem dC_operation_126 : decode mC_operation.2.1 126 = .ok (.getfield 40, 3) := by decide +kernel
theorem dC_operation_129 : decode mC_operation.2.1 129 = .ok (.aaload, 1) := by decide +kernel
theorem dC_operation_130 : decode mC_operation.2.1 130 = .ok (.iload_n 1, 1) := by decide +kernel
theorem dC_operation_131 : decode mC_operation.2.1 131 = .ok (.iload_n 2, 1) := by decide +kernel
theorem dC_operation_132 : decode mC_operation.2.1 132 = .ok (.iload 5, 2) := by decide +kernel
theorem dC_operation_134 : decode mC_operation.2.1 134 = .ok (.ifCond .eq 7, 3) := by decide +kernel
theorem dC_operation_137 : decode mC_operation.2.1 137 = .ok (.iconst (-1), 1) := by decide +kernel
theorem dC_operation_138 : decode mC_operation.2.1 138 = .ok (.goto 4, 3) := by decide +kernel
theorem dC_operation_141 : decode mC_operation.2.1 141 = .ok (.iload_n 3, 1) := by decide +kernel
theorem dC_operation_142 : decode mC_operation.2.1 142 = .ok (.iload 4, 2) := by decide +kernel
theorem dC_operation_144 : decode mC_operation.2.1 144 = .ok (.iconst 0, 1) := by decide +kernel
theorem dC_operation_145 : decode mC_operation.2.1 145 = .ok (.invokevirtual 59, 3) := by decide +kernel
theorem dC_operation_148 : decode mC_operation.2.1 148 = .ok (.aload_n 0, 1) := by decide +kernel
theorem dC_operation_149 : decode mC_operation.2.1 149 = .ok (.iload_n 1, 1) := by decide +kernel
theorem dC_operation_150 : decode mC_operation.2.1 150 = .ok (.aload_n 0, 1) := by decide +kernel
theorem dC_operation_151 : decode mC_operation.2.1 151 = .ok (.getfield 11, 3) := by decide +kernel
theorem dC_operation_154 : decode mC_operation.2.1 154 = .ok (.iload_n 2, 1) := by decide +kernel
theorem dC_operation_155 : decode mC_operation.2.1 155 = .ok (.aaload, 1) := by decide +kernel
theorem dC_operation_156 : decode mC_operation.2.1 156 = .ok (.iload 4, 2) := by decide +kernel
theorem dC_operation_158 : decode mC_operation.2.1 158 = .ok (.invokestatic 75, 3) := by decide +kernel
theorem dC_operation_161 : decode mC_operation.2.1 161 = .ok (.iload_n 1, 1) := by decide +kernel
theorem dC_operation_162 : decode mC_operation.2.1 162 = .ok (.aload_n 0, 1) := by decide +kernel
theorem dC_operation_163 : decode mC_operation.2.1 163 = .ok (.getfield 11, 3) := by decide +kernel
theorem dC_operation_166 : decode mC_operation.2.1 166 = .ok (.iload_n 2, 1) := by decide +kernel
theorem dC_operation_167 : decode mC_operation.2.1 167 = .ok (.aaload, 1) := by decide +kernel
theorem dC_operation_168 : decode mC_operation.2.1 168 = .ok (.aload_n 0, 1) := by decide +kernel
theorem dC_operation_169 : decode mC_operation.2.1 169 = .ok (.getfield 11, 3) := by decide +kernel
theorem dC_operation_172 : decode mC_operation.2.1 172 = .ok (.iload_n 3, 1) := by decide +kernel
theorem dC_operation_173 : decode mC_operation.2.1 173 = .ok (.aaload, 1) := by decide +kernel
theorem dC_operation_174 : decode mC_operation.2.1 174 = .ok (.iload 4, 2) := by decide +kernel
theorem dC_operation_176 : decode mC_operation.2.1 176 = .ok (.invokestatic 79, 3) := by decide +kernel
theorem dC_operation_179 : decode mC_operation.2.1 179 = .ok (.invokevirtual 63, 3) := by decide +kernel
theorem dC_operation_182 : decode mC_operation.2.1 182 = .ok (.ireturn, 1) := by decide +kernel
theorem dC_reshape_0 : decode mC_reshape.2.1 0 = .ok (.iload_n 1, 1) := by decide +kernel
theorem dC_reshape_1 : decode mC_reshape.2.1 1 = .ok (.bipush 10, 2) := by decide +kernel
theorem dC_reshape_3 : decode mC_reshape.2.1 3 = .ok (.if_icmp .lt 26, 3) := by decide +kernel
theorem dC_reshape_6 : decode mC_reshape.2.1 6 = .ok (.iload_n 1, 1) := by decide +kernel
theorem dC_reshape_7 : decode mC_reshape.2.1 7 = .ok (.bipush 11, 2) := by decide +kernel
theorem dC_reshape_9 : decode mC_reshape.2.1 9 = .ok (.if_icmp .gt 20, 3) := by decide +kernel
theorem dC_reshape_12 : decode mC_reshape.2.1 12 = .ok (.aload_n 0, 1) := by decide +kernel
theorem dC_reshape_13 : decode mC_reshape.2.1 13 = .ok (.iload_n 2, 1) := by decide +kernel
theorem dC_reshape_14 : decode mC_reshape.2.1 14 = .ok (.invokevirtual 67, 3) := by decide +kernel
theorem dC_reshape_17 : decode mC_reshape.2.1 17 = .ok (.ifCond .eq 12, 3) := by decide +kernel
theorem dC_reshape_20 : decode mC_reshape.2.1 20 = .ok (.iload_n 3, 1) := by decide +kernel
theorem dC_reshape_21 : decode mC_reshape.2.1 21 = .ok (.iload 4, 2) := by decide +kernel
theorem dC_reshape_23 : decode mC_reshape.2.1 23 = .ok (.invokestatic 52, 3) := by decide +kernel
theorem dC_reshape_26 : decode mC_reshape.2.1 26 = .ok (.ifCond .ne 5, 3) := by decide +kernel
theorem dC_reshape_29 : decode mC_reshape.2.1 29 = .ok (.iconst (-1), 1) := by decide +kernel
theorem dC_reshape_30 : decode mC_reshape.2.1 30 = .ok (.ireturn, 1) := by decide +kernel
theorem dC_reshape_31 : decode mC_reshape.2.1 31 = .ok (.aload_n 0, 1) := by decide +kernel
theorem dC_reshape_32 : decode mC_reshape.2.1 32 = .ok (.getfield 11, 3) := by decide +kernel
theorem dC_reshape_35 : decode mC_reshape.2.1 35 = .ok (.iload_n 2, 1) := by decide +kernel
theorem dC_reshape_36 : decode mC_reshape.2.1 36 = .ok (.aaload, 1) := by decide +kernel
theorem dC_reshape_37 : decode mC_reshape.2.1 37 = .ok (.astore 5, 2) := by decide +kernel
theorem dC_reshape_39 : decode mC_reshape.2.1 39 = .ok (.iload_n 1, 1) := by decide +kernel
theorem dC_reshape_40 : decode mC_reshape.2.1 40 = .ok (.bipush 10, 2) := by decide +kernel
theorem dC_reshape_42 : decode mC_reshape.2.1 42 = .ok (.if_icmp .ne 36, 3) := by decide +kernel
theorem dC_reshape_45 : decode mC_reshape.2.1 45 = .ok (.aload 5, 2) := by decide +kernel
theorem dC_reshape_47 : decode mC_reshape.2.1 47 = .ok (.getfield 83, 3) := by decide +kernel
theorem dC_reshape_50 : decode mC_reshape.2.1 50 = .ok (.iload_n 3, 1) := by decide +kernel
theorem dC_reshape_51 : decode mC_reshape.2.1 51 = .ok (.invokestatic 86, 3) := by decide +kernel
theorem dC_reshape_54 : decode mC_reshape.2.1 54 = .ok (.ifCond .eq 20, 3) := by decide +kernel
theorem dC_reshape_57 : decode mC_reshape.2.1 57 = .ok (.aload 5, 2) := by decide +kernel
theorem dC_reshape_59 : decode mC_reshape.2.1 59 = .ok (.getfield 89, 3) := by decide +kernel
theorem dC_reshape_62 : decode mC_reshape.2.1 62 = .ok (.iload 4, 2) := by decide +kernel
theorem dC_reshape_64 : decode mC_reshape.2.1 64 = .ok (.invokestatic 86, 3) := by decide +kernel
theorem dC_reshape_67 : decode mC_reshape.2.1 67 = .ok (.ifCond .eq 7, 3) := by decide +kernel
theorem dC_reshape_70 : decode mC_reshape.2.1 70 = .ok (.iconst 1, 1) := by decide +kernel
theorem dC_reshape_71 : decode mC_reshape.2.1 71 = .ok (.goto 30, 3) := by decide +kernel
theorem dC_reshape_74 : decode mC_reshape.2.1 74 = .ok (.iconst 0, 1) := by decide +kernel
theorem dC_reshape_75 : decode mC_reshape.2.1 75 = .ok (.goto 26, 3) := by decide +kernel
theorem dC_reshape_78 : decode mC_reshape.2.1 78 = .ok (.aload 5, 2) := by decide +kernel
theorem dC_reshape_80 : decode mC_reshape.2.1 80 = .ok (.getfield 83, 3) := by decide +kernel
theorem dC_reshape_83 : decode mC_reshape.2.1 83 = .ok (.aload 5, 2) := by decide +kernel
theorem dC_reshape_85 : decode mC_reshape.2.1 85 = .ok (.getfield 89, 3) := by decide +kernel
theorem dC_reshape_88 : decode mC_reshape.2.1 88 = .ok (.imul, 1) := by decide +kernel
theorem dC_reshape_89 : decode mC_reshape.2.1 89 = .ok (.iload_n 3, 1) := by decide +kernel
theorem dC_reshape_90 : decode mC_reshape.2.1 90 = .ok (.iload 4, 2) := by decide +kernel
theorem dC_reshape_92 : decode mC_reshape.2.1 92 = .ok (.imul, 1) := by decide +kernel
theorem dC_reshape_93 : decode mC_reshape.2.1 93 = .ok (.if_icmp .ne 7, 3) := by decide +kernel
theorem dC_reshape_96 : decode mC_reshape.2.1 96 = .ok (.iconst 1, 1) := by decide +kernel
theorem dC_reshape_97 : decode mC_reshape.2.1 97 = .ok (.goto 4, 3) := by decide +kernel
theorem dC_reshape_100 : decode mC_reshape.2.1 100 = .ok (.iconst 0, 1) := by decide +kernel
theorem dC_reshape_101 : decode mC_reshape.2.1 101 = .ok (.istore 6, 2) := by decide +kernel
theorem dC_reshape_103 : decode mC_reshape.2.1 103 = .ok (.iload 6, 2) := by decide +kernel
theorem dC_reshape_105 : decode mC_reshape.2.1 105 = .ok (.ifCond .ne 6, 3) := by decide +kernel
theorem dC_reshape_108 : decode mC_reshape.2.1 108 = .ok (.bipush (-3), 2) := by decide +kernel
theorem dC_reshape_110 : decode mC_reshape.2.1 110 = .ok (.ireturn, 1) := by decide +kernel
theorem dC_reshape_111 : decode mC_reshape.2.1 111 = .ok (.aload_n 0, 1) := by decide +kernel
theorem dC_reshape_112 : decode mC_reshape.2.1 112 = .ok (.getfield 40, 3) := by decide +kernel
theorem dC_reshape_115 : decode mC_reshape.2.1 115 = .ok (.bipush 28, 2) := by decide +kernel
theorem dC_reshape_117 : decode mC_reshape.2.1 117 = .ok (.if_icmp .lt 6, 3) := by decide +kernel
theorem dC_reshape_120 : decode mC_reshape.2.1 120 = .ok (.bipush (-2), 2) := by decide +kernel
theorem dC_reshape_122 : decode mC_reshape.2.1 122 = .ok (.ireturn, 1) := by decide +kernel
theorem dC_reshape_123 : decode mC_reshape.2.1 123 = .ok (.aload_n 0, 1) := by decide +kernel
theorem dC_reshape_124 : decode mC_reshape.2.1 124 = .ok (.getfield 11, 3) := by decide +kernel
theorem dC_reshape_127 : decode mC_reshape.2.1 127 = .ok (.aload_n 0, 1) := by decide +kernel
theorem dC_reshape_128 : decode mC_reshape.2.1 128 = .ok (.getfield 40, 3) := by decide +kernel
theorem dC_reshape_131 : decode mC_reshape.2.1 131 = .ok (.aaload, 1) := by decide +kernel
theorem dC_reshape_132 : decode mC_reshape.2.1 132 = .ok (.iload_n 1, 1) := by decide +kernel
theorem dC_reshape_133 : decode mC_reshape.2.1 133 = .ok (.iload_n 2, 1) := by decide +kernel
theorem dC_reshape_134 : decode mC_reshape.2.1 134 = .ok (.iconst (-1), 1) := by decide +kernel
theorem dC_reshape_135 : decode mC_reshape.2.1 135 = .ok (.iconst 0, 1) := by decide +kernel
theorem dC_reshape_136 : decode mC_reshape.2.1 136 = .ok (.iconst 0, 1) := by decide +kernel
theorem dC_reshape_137 : decode mC_reshape.2.1 137 = .ok (.invokevirtual 59, 3) := by decide +kernel
theorem dC_reshape_140 : decode mC_reshape.2.1 140 = .ok (.aload_n 0, 1) := by decide +kernel
theorem dC_reshape_141 : decode mC_reshape.2.1 141 = .ok (.iload_n 3, 1) := by decide +kernel
theorem dC_reshape_142 : decode mC_reshape.2.1 142 = .ok (.iload 4, 2) := by decide +kernel
theorem dC_reshape_144 : decode mC_reshape.2.1 144 = .ok (.invokevirtual 63, 3) := by decide +kernel
theorem dC_reshape_147 : decode mC_reshape.2.1 147 = .ok (.ireturn, 1) := by decide +kernel
theorem dC_part_0 : decode mC_part.2.1 0 = .ok (.aload_n 0, 1) := by decide +kernel
theorem dC_part_1 : decode mC_part.2.1 1 = .ok (.iload_n 1, 1) := by decide +kernel
theorem dC_part_2 : decode mC_part.2.1 2 = .ok (.invokevirtual 67, 3) := by decide +kernel
theorem dC_part_5 : decode mC_part.2.1 5 = .ok (.ifCond .eq 21, 3) := by decide +kernel
theorem dC_part_8 : decode mC_part.2.1 8 = .ok (.iload_n 2, 1) := by decide +kernel
theorem dC_part_9 : decode mC_part.2.1 9 = .ok (.iload_n 3, 1) := by decide +kernel
theorem dC_part_10 : decode mC_part.2.1 10 = .ok (.invokestatic 92, 3) := by decide +kernel
theorem dC_part_13 : decode mC_part.2.1 13 = .ok (.ifCond .eq 13, 3) := by decide +kernel
theorem dC_part_16 : decode mC_part.2.1 16 = .ok (.iload 4, 2) := by decide +kernel
theorem dC_part_18 : decode mC_part.2.1 18 = .ok (.iload 5, 2) := by decide +kernel
theorem dC_part_20 : decode mC_part.2.1 20 = .ok (.invokestatic 52, 3) := by decide +kernel
theorem dC_part_23 : decode mC_part.2.1 23 = .ok (.ifCond .ne 5, 3) := by decide +kernel
theorem dC_part_26 : decode mC_part.2.1 26 = .ok (.iconst (-1), 1) := by decide +kernel
theorem dC_part_27 : decode mC_part.2.1 27 = .ok (.ireturn, 1) := by decide +kernel
theorem dC_part_28 : decode mC_part.2.1 28 = .ok (.iload_n 2, 1) := by decide +kernel
theorem dC_part_29 : decode mC_part.2.1 29 = .ok (.iload 4, 2) := by decide +kernel
theorem dC_part_31 : decode mC_part.2.1 31 = .ok (.iadd, 1) := by decide +kernel
theorem dC_part_32 : decode mC_part.2.1 32 = .ok (.aload_n 0, 1) := by decide +kernel
theorem dC_part_33 : decode mC_part.2.1 33 = .ok (.getfield 11, 3) := by decide +kernel
theorem dC_part_36 : decode mC_part.2.1 36 = .ok (.iload_n 1, 1) := by decide +kernel
theorem dC_part_37 : decode mC_part.2.1 37 = .ok (.aaload, 1) := by decide +kernel
theorem dC_part_38 : decode mC_part.2.1 38 = .ok (.getfield 83, 3) := by decide +kernel
theorem dC_part_41 : decode mC_part.2.1 41 = .ok (.if_icmp .gt 19, 3) := by decide +kernel
theorem dC_part_44 : decode mC_part.2.1 44 = .ok (.iload_n 3, 1) := by decide +kernel
theorem dC_part_45 : decode mC_part.2.1 45 = .ok (.iload 5, 2) := by decide +kernel
theorem dC_part_47 : decode mC_part.2.1 47 = .ok (.iadd, 1) := by decide +kernel
theorem dC_part_48 : decode mC_part.2.1 48 = .ok (.aload_n 0, 1) := by decide +kernel
theorem dC_part_49 : decode mC_part.2.1 49 = .ok (.getfield 11, 3) := by decide +kernel
theorem dC_part_52 : decode mC_part.2.1 52 = .ok (.iload_n 1, 1) := by decide +kernel
theorem dC_part_53 : decode mC_part.2.1 53 = .ok (.aaload, 1) := by decide +kernel
theorem dC_part_54 : decode mC_part.2.1 54 = .ok (.getfield 89, 3) := by decide +kernel
theorem dC_part_57 : decode mC_part.2.1 57 = .ok (.if_icmp .le 6, 3) := by decide +kernel
theorem dC_part_60 : decode mC_part.2.1 60 = .ok (.bipush (-3), 2) := by decide +kernel
theorem dC_part_62 : decode mC_part.2.1 62 = .ok (.ireturn, 1) := by decide +kernel
theorem dC_part_63 : decode mC_part.2.1 63 = .ok (.aload_n 0, 1) := by decide +kernel
theorem dC_part_64 : decode mC_part.2.1 64 = .ok (.getfield 40, 3) := by decide +kernel
theorem dC_part_67 : decode mC_part.2.1 67 = .ok (.bipush 28, 2) := by decide +kernel
theorem dC_part_69 : decode mC_part.2.1 69 = .ok (.if_icmp .lt 6, 3) := by decide +kernel
theorem dC_part_72 : decode mC_part.2.1 72 = .ok (.bipush (-2), 2) := by decide +kernel
theorem dC_part_74 : decode mC_part.2.1 74 = .ok (.ireturn, 1) := by decide +kernel
theorem dC_part_75 : decode mC_part.2.1 75 = .ok (.aload_n 0, 1) := by decide +kernel
theorem dC_part_76 : decode mC_part.2.1 76 = .ok (.getfield 11, 3) := by decide +kernel
theorem dC_part_79 : decode mC_part.2.1 79 = .ok (.aload_n 0, 1) := by decide +kernel
theorem dC_part_80 : decode mC_part.2.1 80 = .ok (.getfield 40, 3) := by decide +kernel
theorem dC_part_83 : decode mC_part.2.1 83 = .ok (.aaload, 1) := by decide +kernel
theorem dC_part_84 : decode mC_part.2.1 84 = .ok (.bipush 12, 2) := by decide +kernel
theorem dC_part_86 : decode mC_part.2.1 86 = .ok (.iload_n 1, 1) := by decide +kernel
theorem dC_part_87 : decode mC_part.2.1 87 = .ok (.iconst (-1), 1) := by decide +kernel
theorem dC_part_88 : decode mC_part.2.1 88 = .ok (.iload_n 2, 1) := by decide +kernel
theorem dC_part_89 : decode mC_part.2.1 89 = .ok (.iload_n 3, 1) := by decide +kernel
theorem dC_part_90 : decode mC_part.2.1 90 = .ok (.invokevirtual 59, 3) := by decide +kernel
theorem dC_part_93 : decode mC_part.2.1 93 = .ok (.aload_n 0, 1) := by decide +kernel
theorem dC_part_94 : decode mC_part.2.1 94 = .ok (.iload 4, 2) := by decide +kernel
theorem dC_part_96 : decode mC_part.2.1 96 = .ok (.iload 5, 2) := by decide +kernel
theorem dC_part_98 : decode mC_part.2.1 98 = .ok (.invokevirtual 63, 3) := by decide +kernel
theorem dC_part_101 : decode mC_part.2.1 101 = .ok (.ireturn, 1) := by decide +kernel
theorem dC_mark_0 : decode mC_mark.2.1 0 = .ok (.aload_n 0, 1) := by decide +kernel
theorem dC_mark_1 : decode mC_mark.2.1 1 = .ok (.iload_n 1, 1) := by decide +kernel
theorem dC_mark_2 : decode mC_mark.2.1 2 = .ok (.invokevirtual 67, 3) := by decide +kernel
theorem dC_mark_5 : decode mC_mark.2.1 5 = .ok (.ifCond .ne 5, 3) := by decide +kernel
theorem dC_mark_8 : decode mC_mark.2.1 8 = .ok (.iconst (-1), 1) := by decide +kernel
theorem dC_mark_9 : decode mC_mark.2.1 9 = .ok (.ireturn, 1) := by decide +kernel
theorem dC_mark_10 : decode mC_mark.2.1 10 = .ok (.aload_n 0, 1) := by decide +kernel
theorem dC_mark_11 : decode mC_mark.2.1 11 = .ok (.getfield 22, 3) := by decide +kernel
theorem dC_mark_14 : decode mC_mark.2.1 14 = .ok (.iload_n 1, 1) := by decide +kernel
theorem dC_mark_15 : decode mC_mark.2.1 15 = .ok (.iload_n 2, 1) := by decide +kernel
theorem dC_mark_16 : decode mC_mark.2.1 16 = .ok (.bastore, 1) := by decide +kernel
theorem dC_mark_17 : decode mC_mark.2.1 17 = .ok (.aload_n 0, 1) := by decide +kernel
theorem dC_mark_18 : decode mC_mark.2.1 18 = .ok (.invokevirtual 95, 3) := by decide +kernel
theorem dC_mark_21 : decode mC_mark.2.1 21 = .ok (.iconst 0, 1) := by decide +kernel
theorem dC_mark_22 : decode mC_mark.2.1 22 = .ok (.ireturn, 1) := by decide +kernel
theorem dC_set_0 : decode mC_set.2.1 0 = .ok (.iload_n 1, 1) := by decide +kernel
theorem dC_set_1 : decode mC_set.2.1 1 = .ok (.ifCond .lt 16, 3) := by decide +kernel
theorem dC_set_4 : decode mC_set.2.1 4 = .ok (.iload_n 1, 1) := by decide +kernel
theorem dC_set_5 : decode mC_set.2.1 5 = .ok (.iconst 4, 1) := by decide +kernel
theorem dC_set_6 : decode mC_set.2.1 6 = .ok (.if_icmp .ge 11, 3) := by decide +kernel
theorem dC_set_9 : decode mC_set.2.1 9 = .ok (.iload_n 2, 1) := by decide +kernel
theorem dC_set_10 : decode mC_set.2.1 10 = .ok (.iload_n 3, 1) := by decide +kernel
theorem dC_set_11 : decode mC_set.2.1 11 = .ok (.invokestatic 92, 3) := by decide +kernel
theorem dC_set_14 : decode mC_set.2.1 14 = .ok (.ifCond .ne 5, 3) := by decide +kernel
theorem dC_set_17 : decode mC_set.2.1 17 = .ok (.iconst (-1), 1) := by decide +kernel
theorem dC_set_18 : decode mC_set.2.1 18 = .ok (.ireturn, 1) := by decide +kernel
theorem dC_set_19 : decode mC_set.2.1 19 = .ok (.aload_n 0, 1) := by decide +kernel
theorem dC_set_20 : decode mC_set.2.1 20 = .ok (.getfield 34, 3) := by decide +kernel
theorem dC_set_23 : decode mC_set.2.1 23 = .ok (.iload_n 1, 1) := by decide +kernel
theorem dC_set_24 : decode mC_set.2.1 24 = .ok (.aaload, 1) := by decide +kernel
theorem dC_set_25 : decode mC_set.2.1 25 = .ok (.iload_n 2, 1) := by decide +kernel
theorem dC_set_26 : decode mC_set.2.1 26 = .ok (.iconst 4, 1) := by decide +kernel
theorem dC_set_27 : decode mC_set.2.1 27 = .ok (.imul, 1) := by decide +kernel
theorem dC_set_28 : decode mC_set.2.1 28 = .ok (.iload_n 3, 1) := by decide +kernel
theorem dC_set_29 : decode mC_set.2.1 29 = .ok (.iadd, 1) := by decide +kernel
theorem dC_set_30 : decode mC_set.2.1 30 = .ok (.iload 4, 2) := by decide +kernel
theorem dC_set_32 : decode mC_set.2.1 32 = .ok (.iastore, 1) := by decide +kernel
theorem dC_set_33 : decode mC_set.2.1 33 = .ok (.iconst 0, 1) := by decide +kernel
theorem dC_set_34 : decode mC_set.2.1 34 = .ok (.ireturn, 1) := by decide +kernel
theorem dC_simplify_0 : decode mC_simplify.2.1 0 = .ok (.aload_n 0, 1) := by decide +kernel
theorem dC_simplify_1 : decode mC_simplify.2.1 1 = .ok (.getfield 44, 3) := by decide +kernel
theorem dC_simplify_4 : decode mC_simplify.2.1 4 = .ok (.ifCond .eq 6, 3) := by decide +kernel
theorem dC_simplify_7 : decode mC_simplify.2.1 7 = .ok (.bipush (-4), 2) := by decide +kernel
theorem dC_simplify_9 : decode mC_simplify.2.1 9 = .ok (.ireturn, 1) := by decide +kernel
theorem dC_simplify_10 : decode mC_simplify.2.1 10 = .ok (.aload_n 0, 1) := by decide +kernel
theorem dC_simplify_11 : decode mC_simplify.2.1 11 = .ok (.getfield 37, 3) := by decide +kernel
theorem dC_simplify_14 : decode mC_simplify.2.1 14 = .ok (.iconst 0, 1) := by decide +kernel
theorem dC_simplify_15 : decode mC_simplify.2.1 15 = .ok (.invokestatic 98, 3) := by decide +kernel
theorem dC_simplify_18 : decode mC_simplify.2.1 18 = .ok (.iconst 0, 1) := by decide +kernel
theorem dC_simplify_19 : decode mC_simplify.2.1 19 = .ok (.istore_n 1, 1) := by decide +kernel
theorem dC_simplify_20 : decode mC_simplify.2.1 20 = .ok (.iconst 0, 1) := by decide +kernel
theorem dC_simplify_21 : decode mC_simplify.2.1 21 = .ok (.istore_n 2, 1) := by decide +kernel
theorem dC_simplify_22 : decode mC_simplify.2.1 22 = .ok (.iload_n 2, 1) := by decide +kernel
theorem dC_simplify_23 : decode mC_simplify.2.1 23 = .ok (.aload_n 0, 1) := by decide +kernel
theorem dC_simplify_24 : decode mC_simplify.2.1 24 = .ok (.getfield 40, 3) := by decide +kernel
theorem dC_simplify_27 : decode mC_simplify.2.1 27 = .ok (.if_icmp .ge 43, 3) := by decide +kernel
theorem dC_simplify_30 : decode mC_simplify.2.1 30 = .ok (.aload_n 0, 1) := by decide +kernel
theorem dC_simplify_31 : decode mC_simplify.2.1 31 = .ok (.aload_n 0, 1) := by decide +kernel
theorem dC_simplify_32 : decode mC_simplify.2.1 32 = .ok (.getfield 15, 3) := by decide +kernel
theorem dC_simplify_35 : decode mC_simplify.2.1 35 = .ok (.iload_n 2, 1) := by decide +kernel
theorem dC_simplify_36 : decode mC_simplify.2.1 36 = .ok (.aaload, 1) := by decide +kernel
theorem dC_simplify_37 : decode mC_simplify.2.1 37 = .ok (.invokevirtual 104, 3) := by decide +kernel
theorem dC_simplify_40 : decode mC_simplify.2.1 40 = .ok (.aload_n 0, 1) := by decide +kernel
theorem dC_simplify_41 : decode mC_simplify.2.1 41 = .ok (.getfield 18, 3) := by decide +kernel
theorem dC_simplify_44 : decode mC_simplify.2.1 44 = .ok (.iload_n 2, 1) := by decide +kernel
theorem dC_simplify_45 : decode mC_simplify.2.1 45 = .ok (.aload_n 0, 1) := by decide +kernel
theorem dC_simplify_46 : decode mC_simplify.2.1 46 = .ok (.iload_n 2, 1) := by decide +kernel
theorem dC_simplify_47 : decode mC_simplify.2.1 47 = .ok (.invokevirtual 108, 3) := by decide +kernel
theorem dC_simplify_50 : decode mC_simplify.2.1 50 = .ok (.iastore, 1) := by decide +kernel
theorem dC_simplify_51 : decode mC_simplify.2.1 51 = .ok (.aload_n 0, 1) := by decide +kernel
theorem dC_simplify_52 : decode mC_simplify.2.1 52 = .ok (.getfield 18, 3) := by decide +kernel
theorem dC_simplify_55 : decode mC_simplify.2.1 55 = .ok (.iload_n 2, 1) := by decide +kernel
theorem dC_simplify_56 : decode mC_simplify.2.1 56 = .ok (.iaload, 1) := by decide +kernel
theorem dC_simplify_57 : decode mC_simplify.2.1 57 = .ok (.iload_n 2, 1) := by decide +kernel
theorem dC_simplify_58 : decode mC_simplify.2.1 58 = .ok (.if_icmp .ne 6, 3) := by decide +kernel
theorem dC_simplify_61 : decode mC_simplify.2.1 61 = .ok (.iinc 1 1, 3) := by decide +kernel
theorem dC_simplify_64 : decode mC_simplify.2.1 64 = .ok (.iinc 2 1, 3) := by decide +kernel
theorem dC_simplify_67 : decode mC_simplify.2.1 67 = .ok (.goto (-45), 3) := by decide +kernel
theorem dC_simplify_70 : decode mC_simplify.2.1 70 = .ok (.aload_n 0, 1) := by decide +kernel
theorem dC_simplify_71 : decode mC_simplify.2.1 71 = .ok (.iconst 1, 1) := by decide +kernel
theorem dC_simplify_72 : decode mC_simplify.2.1 72 = .ok (.putfield 44, 3) := by decide +kernel
theorem dC_simplify_75 : decode mC_simplify.2.1 75 = .ok (.aload_n 0, 1) := by decide +kernel
theorem dC_simplify_76 : decode mC_simplify.2.1 76 = .ok (.iconst 0, 1) := by decide +kernel
theorem dC_simplify_77 : decode mC_simplify.2.1 77 = .ok (.putfield 48, 3) := by decide +kernel
theorem dC_simplify_80 : decode mC_simplify.2.1 80 = .ok (.aload_n 0, 1) := by decide +kernel
theorem dC_simplify_81 : decode mC_simplify.2.1 81 = .ok (.invokevirtual 112, 3) := by decide +kernel
theorem dC_simplify_84 : decode mC_simplify.2.1 84 = .ok (.iload_n 1, 1) := by decide +kernel
theorem dC_simplify_85 : decode mC_simplify.2.1 85 = .ok (.ireturn, 1) := by decide +kernel
theorem dC_work_0 : decode mC_work.2.1 0 = .ok (.iconst 0, 1) := by decide +kernel
theorem dC_work_1 : decode mC_work.2.1 1 = .ok (.istore_n 1, 1) := by decide +kernel
theorem dC_work_2 : decode mC_work.2.1 2 = .ok (.iload_n 1, 1) := by decide +kernel
theorem dC_work_3 : decode mC_work.2.1 3 = .ok (.aload_n 0, 1) := by decide +kernel
theorem dC_work_4 : decode mC_work.2.1 4 = .ok (.getfield 40, 3) := by decide +kernel
theorem dC_work_7 : decode mC_work.2.1 7 = .ok (.if_icmp .ge 23, 3) := by decide +kernel
theorem dC_work_10 : decode mC_work.2.1 10 = .ok (.aload_n 0, 1) := by decide +kernel
theorem dC_work_11 : decode mC_work.2.1 11 = .ok (.getfield 26, 3) := by decide +kernel
theorem dC_work_14 : decode mC_work.2.1 14 = .ok (.iload_n 1, 1) := by decide +kernel
theorem dC_work_15 : decode mC_work.2.1 15 = .ok (.baload, 1) := by decide +kernel
theorem dC_work_16 : decode mC_work.2.1 16 = .ok (.ifCond .eq 8, 3) := by decide +kernel
theorem dC_work_19 : decode mC_work.2.1 19 = .ok (.aload_n 0, 1) := by decide +kernel
theorem dC_work_20 : decode mC_work.2.1 20 = .ok (.iload_n 1, 1) := by decide +kernel
theorem dC_work_21 : decode mC_work.2.1 21 = .ok (.invokevirtual 115, 3) := by decide +kernel
theorem dC_work_24 : decode mC_work.2.1 24 = .ok (.iinc 1 1, 3) := by decide +kernel
theorem dC_work_27 : decode mC_work.2.1 27 = .ok (.goto (-25), 3) := by decide +kernel
theorem dC_work_30 : decode mC_work.2.1 30 = .ok (.aload_n 0, 1) := by decide +kernel
theorem dC_work_31 : decode mC_work.2.1 31 = .ok (.iconst 1, 1) := by decide +kernel
theorem dC_work_32 : decode mC_work.2.1 32 = .ok (.putfield 48, 3) := by decide +kernel
theorem dC_work_35 : decode mC_work.2.1 35 = .ok (.aload_n 0, 1) := by decide +kernel
theorem dC_work_36 : decode mC_work.2.1 36 = .ok (.invokevirtual 119, 3) := by decide +kernel
theorem dC_work_39 : decode mC_work.2.1 39 = .ok (.ireturn, 1) := by decide +kernel
theorem dC_cell_0 : decode mC_cell.2.1 0 = .ok (.aload_n 0, 1) := by decide +kernel
theorem dC_cell_1 : decode mC_cell.2.1 1 = .ok (.iload_n 1, 1) := by decide +kernel
theorem dC_cell_2 : decode mC_cell.2.1 2 = .ok (.invokevirtual 67, 3) := by decide +kernel
theorem dC_cell_5 : decode mC_cell.2.1 5 = .ok (.ifCond .eq 19, 3) := by decide +kernel
theorem dC_cell_8 : decode mC_cell.2.1 8 = .ok (.aload_n 0, 1) := by decide +kernel
theorem dC_cell_9 : decode mC_cell.2.1 9 = .ok (.getfield 48, 3) := by decide +kernel
theorem dC_cell_12 : decode mC_cell.2.1 12 = .ok (.ifCond .eq 12, 3) := by decide +kernel
theorem dC_cell_15 : decode mC_cell.2.1 15 = .ok (.aload_n 0, 1) := by decide +kernel
theorem dC_cell_16 : decode mC_cell.2.1 16 = .ok (.getfield 26, 3) := by decide +kernel
theorem dC_cell_19 : decode mC_cell.2.1 19 = .ok (.iload_n 1, 1) := by decide +kernel
theorem dC_cell_20 : decode mC_cell.2.1 20 = .ok (.baload, 1) := by decide +kernel
theorem dC_cell_21 : decode mC_cell.2.1 21 = .ok (.ifCond .ne 7, 3) := by decide +kernel
theorem dC_cell_24 : decode mC_cell.2.1 24 = .ok (.ldc2_w 123, 3) := by decide +kernel
theorem dC_cell_27 : decode mC_cell.2.1 27 = .ok (.lreturn, 1) := by decide +kernel
theorem dC_cell_28 : decode mC_cell.2.1 28 = .ok (.iload_n 2, 1) := by decide +kernel
theorem dC_cell_29 : decode mC_cell.2.1 29 = .ok (.ifCond .lt 33, 3) := by decide +kernel
theorem dC_cell_32 : decode mC_cell.2.1 32 = .ok (.iload_n 2, 1) := by decide +kernel
theorem dC_cell_33 : decode mC_cell.2.1 33 = .ok (.aload_n 0, 1) := by decide +kernel
theorem dC_cell_34 : decode mC_cell.2.1 34 = .ok (.getfield 15, 3) := by decide +kernel
theorem dC_cell_37 : decode mC_cell.2.1 37 = .ok (.iload_n 1, 1) := by decide +kernel
theorem dC_cell_38 : decode mC_cell.2.1 38 = .ok (.aaload, 1) := by decide +kernel
theorem dC_cell_39 : decode mC_cell.2.1 39 = .ok (.getfield 83, 3) := by decide +kernel
theorem dC_cell_42 : decode mC_cell.2.1 42 = .ok (.if_icmp .ge 20, 3) := by decide +kernel
theorem dC_cell_45 : decode mC_cell.2.1 45 = .ok (.iload_n 3, 1) := by decide +kernel
theorem dC_cell_46 : decode mC_cell.2.1 46 = .ok (.ifCond .lt 16, 3) := by decide +kernel
theorem dC_cell_49 : decode mC_cell.2.1 49 = .ok (.iload_n 3, 1) := by decide +kernel
theorem dC_cell_50 : decode mC_cell.2.1 50 = .ok (.aload_n 0, 1) := by decide +kernel
theorem dC_cell_51 : decode mC_cell.2.1 51 = .ok (.getfield 15, 3) := by decide +kernel
theorem dC_cell_54 : decode mC_cell.2.1 54 = .ok (.iload_n 1, 1) := by decide +kernel
theorem dC_cell_55 : decode mC_cell.2.1 55 = .ok (.aaload, 1) := by decide +kernel
theorem dC_cell_56 : decode mC_cell.2.1 56 = .ok (.getfield 89, 3) := by decide +kernel
theorem dC_cell_59 : decode mC_cell.2.1 59 = .ok (.if_icmp .lt 7, 3) := by decide +kernel
theorem dC_cell_62 : decode mC_cell.2.1 62 = .ok (.ldc2_w 123, 3) := by decide +kernel
theorem dC_cell_65 : decode mC_cell.2.1 65 = .ok (.lreturn, 1) := by decide +kernel
theorem dC_cell_66 : decode mC_cell.2.1 66 = .ok (.aload_n 0, 1) := by decide +kernel
theorem dC_cell_67 : decode mC_cell.2.1 67 = .ok (.iload_n 1, 1) := by decide +kernel
theorem dC_cell_68 : decode mC_cell.2.1 68 = .ok (.iload_n 2, 1) := by decide +kernel
theorem dC_cell_69 : decode mC_cell.2.1 69 = .ok (.iload_n 3, 1) := by decide +kernel
theorem dC_cell_70 : decode mC_cell.2.1 70 = .ok (.invokevirtual 125, 3) := by decide +kernel
theorem dC_cell_73 : decode mC_cell.2.1 73 = .ok (.i2l, 1) := by decide +kernel
theorem dC_cell_74 : decode mC_cell.2.1 74 = .ok (.lreturn, 1) := by decide +kernel
theorem dC_standIn_0 : decode mC_standIn.2.1 0 = .ok (.aload_n 0, 1) := by decide +kernel
theorem dC_standIn_1 : decode mC_standIn.2.1 1 = .ok (.iload_n 1, 1) := by decide +kernel
theorem dC_standIn_2 : decode mC_standIn.2.1 2 = .ok (.invokevirtual 67, 3) := by decide +kernel
theorem dC_standIn_5 : decode mC_standIn.2.1 5 = .ok (.ifCond .eq 12, 3) := by decide +kernel
theorem dC_standIn_8 : decode mC_standIn.2.1 8 = .ok (.aload_n 0, 1) := by decide +kernel
theorem dC_standIn_9 : decode mC_standIn.2.1 9 = .ok (.getfield 18, 3) := by decide +kernel
theorem dC_standIn_12 : decode mC_standIn.2.1 12 = .ok (.iload_n 1, 1) := by decide +kernel
theorem dC_standIn_13 : decode mC_standIn.2.1 13 = .ok (.iaload, 1) := by decide +kernel
theorem dC_standIn_14 : decode mC_standIn.2.1 14 = .ok (.goto 4, 3) := by decide +kernel
theorem dC_standIn_17 : decode mC_standIn.2.1 17 = .ok (.iconst (-1), 1) := by decide +kernel
theorem dC_standIn_18 : decode mC_standIn.2.1 18 = .ok (.ireturn, 1) := by decide +kernel
theorem dC_value_0 : decode mC_value.2.1 0 = .ok (.aload_n 0, 1) := by decide +kernel
theorem dC_value_1 : decode mC_value.2.1 1 = .ok (.iload_n 1, 1) := by decide +kernel
theorem dC_value_2 : decode mC_value.2.1 2 = .ok (.invokevirtual 67, 3) := by decide +kernel
theorem dC_value_5 : decode mC_value.2.1 5 = .ok (.ifCond .ne 5, 3) := by decide +kernel
theorem dC_value_8 : decode mC_value.2.1 8 = .ok (.iconst (-1), 1) := by decide +kernel
theorem dC_value_9 : decode mC_value.2.1 9 = .ok (.ireturn, 1) := by decide +kernel
theorem dC_value_10 : decode mC_value.2.1 10 = .ok (.aload_n 0, 1) := by decide +kernel
theorem dC_value_11 : decode mC_value.2.1 11 = .ok (.getfield 15, 3) := by decide +kernel
theorem dC_value_14 : decode mC_value.2.1 14 = .ok (.iload_n 1, 1) := by decide +kernel
theorem dC_value_15 : decode mC_value.2.1 15 = .ok (.aaload, 1) := by decide +kernel
theorem dC_value_16 : decode mC_value.2.1 16 = .ok (.astore_n 3, 1) := by decide +kernel
theorem dC_value_17 : decode mC_value.2.1 17 = .ok (.iload_n 2, 1) := by decide +kernel
theorem dC_value_18 : decode mC_value.2.1 18 = .ok (.tableswitch 96 0 7 #[46, 51, 56, 61, 66, 71, 76, 81], 46) := by decide +kernel
theorem dC_value_64 : decode mC_value.2.1 64 = .ok (.aload_n 3, 1) := by decide +kernel
theorem dC_value_65 : decode mC_value.2.1 65 = .ok (.getfield 129, 3) := by decide +kernel
theorem dC_value_68 : decode mC_value.2.1 68 = .ok (.ireturn, 1) := by decide +kernel
theorem dC_value_69 : decode mC_value.2.1 69 = .ok (.aload_n 3, 1) := by decide +kernel
theorem dC_value_70 : decode mC_value.2.1 70 = .ok (.getfield 83, 3) := by decide +kernel
theorem dC_value_73 : decode mC_value.2.1 73 = .ok (.ireturn, 1) := by decide +kernel
theorem dC_value_74 : decode mC_value.2.1 74 = .ok (.aload_n 3, 1) := by decide +kernel
theorem dC_value_75 : decode mC_value.2.1 75 = .ok (.getfield 89, 3) := by decide +kernel
theorem dC_value_78 : decode mC_value.2.1 78 = .ok (.ireturn, 1) := by decide +kernel
theorem dC_value_79 : decode mC_value.2.1 79 = .ok (.aload_n 3, 1) := by decide +kernel
theorem dC_value_80 : decode mC_value.2.1 80 = .ok (.getfield 132, 3) := by decide +kernel
theorem dC_value_83 : decode mC_value.2.1 83 = .ok (.ireturn, 1) := by decide +kernel
theorem dC_value_84 : decode mC_value.2.1 84 = .ok (.aload_n 3, 1) := by decide +kernel
theorem dC_value_85 : decode mC_value.2.1 85 = .ok (.getfield 135, 3) := by decide +kernel
theorem dC_value_88 : decode mC_value.2.1 88 = .ok (.ireturn, 1) := by decide +kernel
theorem dC_value_89 : decode mC_value.2.1 89 = .ok (.aload_n 3, 1) := by decide +kernel
theorem dC_value_90 : decode mC_value.2.1 90 = .ok (.getfield 138, 3) := by decide +kernel
theorem dC_value_93 : decode mC_value.2.1 93 = .ok (.ireturn, 1) := by decide +kernel
theorem dC_value_94 : decode mC_value.2.1 94 = .ok (.aload_n 3, 1) := by decide +kernel
theorem dC_value_95 : decode mC_value.2.1 95 = .ok (.getfield 141, 3) := by decide +kernel
theorem dC_value_98 : decode mC_value.2.1 98 = .ok (.ireturn, 1) := by decide +kernel
theorem dC_value_99 : decode mC_value.2.1 99 = .ok (.aload_n 0, 1) := by decide +kernel
theorem dC_value_100 : decode mC_value.2.1 100 = .ok (.getfield 26, 3) := by decide +kernel
theorem dC_value_103 : decode mC_value.2.1 103 = .ok (.iload_n 1, 1) := by decide +kernel
theorem dC_value_104 : decode mC_value.2.1 104 = .ok (.baload, 1) := by decide +kernel
theorem dC_value_105 : decode mC_value.2.1 105 = .ok (.ifCond .eq 7, 3) := by decide +kernel
theorem dC_value_108 : decode mC_value.2.1 108 = .ok (.iconst 1, 1) := by decide +kernel
theorem dC_value_109 : decode mC_value.2.1 109 = .ok (.goto 4, 3) := by decide +kernel
theorem dC_value_112 : decode mC_value.2.1 112 = .ok (.iconst 0, 1) := by decide +kernel
theorem dC_value_113 : decode mC_value.2.1 113 = .ok (.ireturn, 1) := by decide +kernel
theorem dC_value_114 : decode mC_value.2.1 114 = .ok (.iconst (-1), 1) := by decide +kernel
theorem dC_value_115 : decode mC_value.2.1 115 = .ok (.ireturn, 1) := by decide +kernel
theorem dC_count_0 : decode mC_count.2.1 0 = .ok (.iload_n 1, 1) := by decide +kernel
theorem dC_count_1 : decode mC_count.2.1 1 = .ok (.iconst 1, 1) := by decide +kernel
theorem dC_count_2 : decode mC_count.2.1 2 = .ok (.if_icmp .lt 16, 3) := by decide +kernel
theorem dC_count_5 : decode mC_count.2.1 5 = .ok (.iload_n 1, 1) := by decide +kernel
theorem dC_count_6 : decode mC_count.2.1 6 = .ok (.bipush 6, 2) := by decide +kernel
theorem dC_count_8 : decode mC_count.2.1 8 = .ok (.if_icmp .gt 10, 3) := by decide +kernel
theorem dC_count_11 : decode mC_count.2.1 11 = .ok (.aload_n 0, 1) := by decide +kernel
theorem dC_count_12 : decode mC_count.2.1 12 = .ok (.getfield 37, 3) := by decide +kernel
theorem dC_count_15 : decode mC_count.2.1 15 = .ok (.iload_n 1, 1) := by decide +kernel
theorem dC_count_16 : decode mC_count.2.1 16 = .ok (.iaload, 1) := by decide +kernel
theorem dC_count_17 : decode mC_count.2.1 17 = .ok (.ireturn, 1) := by decide +kernel
theorem dC_count_18 : decode mC_count.2.1 18 = .ok (.iload_n 1, 1) := by decide +kernel
theorem dC_count_19 : decode mC_count.2.1 19 = .ok (.tableswitch 81 0 9 #[53, 81, 81, 81, 81, 81, 81, 58, 63, 68], 53) := by decide +kernel
theorem dC_count_72 : decode mC_count.2.1 72 = .ok (.aload_n 0, 1) := by decide +kernel
theorem dC_count_73 : decode mC_count.2.1 73 = .ok (.getfield 40, 3) := by decide +kernel
theorem dC_count_76 : decode mC_count.2.1 76 = .ok (.ireturn, 1) := by decide +kernel
theorem dC_count_77 : decode mC_count.2.1 77 = .ok (.aload_n 0, 1) := by decide +kernel
theorem dC_count_78 : decode mC_count.2.1 78 = .ok (.invokevirtual 144, 3) := by decide +kernel
theorem dC_count_81 : decode mC_count.2.1 81 = .ok (.ireturn, 1) := by decide +kernel
theorem dC_count_82 : decode mC_count.2.1 82 = .ok (.aload_n 0, 1) := by decide +kernel
theorem dC_count_83 : decode mC_count.2.1 83 = .ok (.invokevirtual 119, 3) := by decide +kernel
theorem dC_count_86 : decode mC_count.2.1 86 = .ok (.ireturn, 1) := by decide +kernel
theorem dC_count_87 : decode mC_count.2.1 87 = .ok (.aload_n 0, 1) := by decide +kernel
theorem dC_count_88 : decode mC_count.2.1 88 = .ok (.getfield 44, 3) := by decide +kernel
theorem dC_count_91 : decode mC_count.2.1 91 = .ok (.ifCond .eq 7, 3) := by decide +kernel
theorem dC_count_94 : decode mC_count.2.1 94 = .ok (.iconst 1, 1) := by decide +kernel
theorem dC_count_95 : decode mC_count.2.1 95 = .ok (.goto 4, 3) := by decide +kernel
theorem dC_count_98 : decode mC_count.2.1 98 = .ok (.iconst 0, 1) := by decide +kernel
theorem dC_count_99 : decode mC_count.2.1 99 = .ok (.ireturn, 1) := by decide +kernel
theorem dC_count_100 : decode mC_count.2.1 100 = .ok (.iconst (-1), 1) := by decide +kernel
theorem dC_count_101 : decode mC_count.2.1 101 = .ok (.ireturn, 1) := by decide +kernel
theorem dC_isValue_0 : decode mC_isValue.2.1 0 = .ok (.iload_n 1, 1) := by decide +kernel
theorem dC_isValue_1 : decode mC_isValue.2.1 1 = .ok (.ifCond .lt 15, 3) := by decide +kernel
theorem dC_isValue_4 : decode mC_isValue.2.1 4 = .ok (.iload_n 1, 1) := by decide +kernel
theorem dC_isValue_5 : decode mC_isValue.2.1 5 = .ok (.aload_n 0, 1) := by decide +kernel
theorem dC_isValue_6 : decode mC_isValue.2.1 6 = .ok (.getfield 40, 3) := by decide +kernel
theorem dC_isValue_9 : decode mC_isValue.2.1 9 = .ok (.if_icmp .ge 7, 3) := by decide +kernel
theorem dC_isValue_12 : decode mC_isValue.2.1 12 = .ok (.iconst 1, 1) := by decide +kernel
theorem dC_isValue_13 : decode mC_isValue.2.1 13 = .ok (.goto 4, 3) := by decide +kernel
theorem dC_isValue_16 : decode mC_isValue.2.1 16 = .ok (.iconst 0, 1) := by decide +kernel
theorem dC_isValue_17 : decode mC_isValue.2.1 17 = .ok (.ireturn, 1) := by decide +kernel
theorem dC_isShape_0 : decode mC_isShape.2.1 0 = .ok (.iload_n 0, 1) := by decide +kernel
theorem dC_isShape_1 : decode mC_isShape.2.1 1 = .ok (.iconst 1, 1) := by decide +kernel
theorem dC_isShape_2 : decode mC_isShape.2.1 2 = .ok (.if_icmp .lt 22, 3) := by decide +kernel
theorem dC_isShape_5 : decode mC_isShape.2.1 5 = .ok (.iload_n 0, 1) := by decide +kernel
theorem dC_isShape_6 : decode mC_isShape.2.1 6 = .ok (.iconst 4, 1) := by decide +kernel
theorem dC_isShape_7 : decode mC_isShape.2.1 7 = .ok (.if_icmp .gt 17, 3) := by decide +kernel
theorem dC_isShape_10 : decode mC_isShape.2.1 10 = .ok (.iload_n 1, 1) := by decide +kernel
theorem dC_isShape_11 : decode mC_isShape.2.1 11 = .ok (.iconst 1, 1) := by decide +kernel
theorem dC_isShape_12 : decode mC_isShape.2.1 12 = .ok (.if_icmp .lt 12, 3) := by decide +kernel
theorem dC_isShape_15 : decode mC_isShape.2.1 15 = .ok (.iload_n 1, 1) := by decide +kernel
theorem dC_isShape_16 : decode mC_isShape.2.1 16 = .ok (.iconst 4, 1) := by decide +kernel
theorem dC_isShape_17 : decode mC_isShape.2.1 17 = .ok (.if_icmp .gt 7, 3) := by decide +kernel
theorem dC_isShape_20 : decode mC_isShape.2.1 20 = .ok (.iconst 1, 1) := by decide +kernel
theorem dC_isShape_21 : decode mC_isShape.2.1 21 = .ok (.goto 4, 3) := by decide +kernel
theorem dC_isShape_24 : decode mC_isShape.2.1 24 = .ok (.iconst 0, 1) := by decide +kernel
theorem dC_isShape_25 : decode mC_isShape.2.1 25 = .ok (.ireturn, 1) := by decide +kernel
theorem dC_isPlace_0 : decode mC_isPlace.2.1 0 = .ok (.iload_n 0, 1) := by decide +kernel
theorem dC_isPlace_1 : decode mC_isPlace.2.1 1 = .ok (.ifCond .lt 21, 3) := by decide +kernel
theorem dC_isPlace_4 : decode mC_isPlace.2.1 4 = .ok (.iload_n 0, 1) := by decide +kernel
theorem dC_isPlace_5 : decode mC_isPlace.2.1 5 = .ok (.iconst 4, 1) := by decide +kernel
theorem dC_isPlace_6 : decode mC_isPlace.2.1 6 = .ok (.if_icmp .ge 16, 3) := by decide +kernel
theorem dC_isPlace_9 : decode mC_isPlace.2.1 9 = .ok (.iload_n 1, 1) := by decide +kernel
theorem dC_isPlace_10 : decode mC_isPlace.2.1 10 = .ok (.ifCond .lt 12, 3) := by decide +kernel
theorem dC_isPlace_13 : decode mC_isPlace.2.1 13 = .ok (.iload_n 1, 1) := by decide +kernel
theorem dC_isPlace_14 : decode mC_isPlace.2.1 14 = .ok (.iconst 4, 1) := by decide +kernel
theorem dC_isPlace_15 : decode mC_isPlace.2.1 15 = .ok (.if_icmp .ge 7, 3) := by decide +kernel
theorem dC_isPlace_18 : decode mC_isPlace.2.1 18 = .ok (.iconst 1, 1) := by decide +kernel
theorem dC_isPlace_19 : decode mC_isPlace.2.1 19 = .ok (.goto 4, 3) := by decide +kernel
theorem dC_isPlace_22 : decode mC_isPlace.2.1 22 = .ok (.iconst 0, 1) := by decide +kernel
theorem dC_isPlace_23 : decode mC_isPlace.2.1 23 = .ok (.ireturn, 1) := by decide +kernel
theorem dC_isSourceNumber_0 : decode mC_isSourceNumber.2.1 0 = .ok (.iload_n 0, 1) := by decide +kernel
theorem dC_isSourceNumber_1 : decode mC_isSourceNumber.2.1 1 = .ok (.iconst 1, 1) := by decide +kernel
theorem dC_isSourceNumber_2 : decode mC_isSourceNumber.2.1 2 = .ok (.if_icmp .ne 5, 3) := by decide +kernel
theorem dC_isSourceNumber_5 : decode mC_isSourceNumber.2.1 5 = .ok (.iconst 1, 1) := by decide +kernel
theorem dC_isSourceNumber_6 : decode mC_isSourceNumber.2.1 6 = .ok (.ireturn, 1) := by decide +kernel
theorem dC_isSourceNumber_7 : decode mC_isSourceNumber.2.1 7 = .ok (.iload_n 1, 1) := by decide +kernel
theorem dC_isSourceNumber_8 : decode mC_isSourceNumber.2.1 8 = .ok (.ifCond .lt 20, 3) := by decide +kernel
theorem dC_isSourceNumber_11 : decode mC_isSourceNumber.2.1 11 = .ok (.iload_n 1, 1) := by decide +kernel
theorem dC_isSourceNumber_12 : decode mC_isSourceNumber.2.1 12 = .ok (.iload_n 0, 1) := by decide +kernel
theorem dC_isSourceNumber_13 : decode mC_isSourceNumber.2.1 13 = .ok (.ifCond .ne 7, 3) := by decide +kernel
theorem dC_isSourceNumber_16 : decode mC_isSourceNumber.2.1 16 = .ok (.iconst 4, 1) := by decide +kernel
theorem dC_isSourceNumber_17 : decode mC_isSourceNumber.2.1 17 = .ok (.goto 4, 3) := by decide +kernel
theorem dC_isSourceNumber_20 : decode mC_isSourceNumber.2.1 20 = .ok (.iconst 2, 1) := by decide +kernel
theorem dC_isSourceNumber_21 : decode mC_isSourceNumber.2.1 21 = .ok (.if_icmp .ge 7, 3) := by decide +kernel
theorem dC_isSourceNumber_24 : decode mC_isSourceNumber.2.1 24 = .ok (.iconst 1, 1) := by decide +kernel
theorem dC_isSourceNumber_25 : decode mC_isSourceNumber.2.1 25 = .ok (.goto 4, 3) := by decide +kernel
theorem dC_isSourceNumber_28 : decode mC_isSourceNumber.2.1 28 = .ok (.iconst 0, 1) := by decide +kernel
theorem dC_isSourceNumber_29 : decode mC_isSourceNumber.2.1 29 = .ok (.ireturn, 1) := by decide +kernel
theorem dC_spreads_0 : decode mC_spreads.2.1 0 = .ok (.iload_n 0, 1) := by decide +kernel
theorem dC_spreads_1 : decode mC_spreads.2.1 1 = .ok (.iconst 1, 1) := by decide +kernel
theorem dC_spreads_2 : decode mC_spreads.2.1 2 = .ok (.if_icmp .eq 8, 3) := by decide +kernel
theorem dC_spreads_5 : decode mC_spreads.2.1 5 = .ok (.iload_n 0, 1) := by decide +kernel
theorem dC_spreads_6 : decode mC_spreads.2.1 6 = .ok (.iload_n 1, 1) := by decide +kernel
theorem dC_spreads_7 : decode mC_spreads.2.1 7 = .ok (.if_icmp .ne 7, 3) := by decide +kernel
theorem dC_spreads_10 : decode mC_spreads.2.1 10 = .ok (.iconst 1, 1) := by decide +kernel
theorem dC_spreads_11 : decode mC_spreads.2.1 11 = .ok (.goto 4, 3) := by decide +kernel
theorem dC_spreads_14 : decode mC_spreads.2.1 14 = .ok (.iconst 0, 1) := by decide +kernel
theorem dC_spreads_15 : decode mC_spreads.2.1 15 = .ok (.ireturn, 1) := by decide +kernel
theorem dC_shapesFit_0 : decode mC_shapesFit.2.1 0 = .ok (.iload_n 0, 1) := by decide +kernel
theorem dC_shapesFit_1 : decode mC_shapesFit.2.1 1 = .ok (.bipush 8, 2) := by decide +kernel
theorem dC_shapesFit_3 : decode mC_shapesFit.2.1 3 = .ok (.if_icmp .ne 22, 3) := by decide +kernel
theorem dC_shapesFit_6 : decode mC_shapesFit.2.1 6 = .ok (.aload_n 1, 1) := by decide +kernel
theorem dC_shapesFit_7 : decode mC_shapesFit.2.1 7 = .ok (.getfield 89, 3) := by decide +kernel
theorem dC_shapesFit_10 : decode mC_shapesFit.2.1 10 = .ok (.aload_n 2, 1) := by decide +kernel
theorem dC_shapesFit_11 : decode mC_shapesFit.2.1 11 = .ok (.getfield 83, 3) := by decide +kernel
theorem dC_shapesFit_14 : decode mC_shapesFit.2.1 14 = .ok (.if_icmp .ne 7, 3) := by decide +kernel
theorem dC_shapesFit_17 : decode mC_shapesFit.2.1 17 = .ok (.iconst 1, 1) := by decide +kernel
theorem dC_shapesFit_18 : decode mC_shapesFit.2.1 18 = .ok (.goto 12, 3) := by decide +kernel
theorem dC_shapesFit_21 : decode mC_shapesFit.2.1 21 = .ok (.iconst 0, 1) := by decide +kernel
theorem dC_shapesFit_22 : decode mC_shapesFit.2.1 22 = .ok (.goto 8, 3) := by decide +kernel
theorem dC_shapesFit_25 : decode mC_shapesFit.2.1 25 = .ok (.aload_n 1, 1) := by decide +kernel
theorem dC_shapesFit_26 : decode mC_shapesFit.2.1 26 = .ok (.aload_n 2, 1) := by decide +kernel
theorem dC_shapesFit_27 : decode mC_shapesFit.2.1 27 = .ok (.invokevirtual 147, 3) := by decide +kernel
theorem dC_shapesFit_30 : decode mC_shapesFit.2.1 30 = .ok (.ireturn, 1) := by decide +kernel
theorem dC_rowsOf_0 : decode mC_rowsOf.2.1 0 = .ok (.iload_n 0, 1) := by decide +kernel
theorem dC_rowsOf_1 : decode mC_rowsOf.2.1 1 = .ok (.bipush 7, 2) := by decide +kernel
theorem dC_rowsOf_3 : decode mC_rowsOf.2.1 3 = .ok (.if_icmp .ne 8, 3) := by decide +kernel
theorem dC_rowsOf_6 : decode mC_rowsOf.2.1 6 = .ok (.aload_n 1, 1) := by decide +kernel
theorem dC_rowsOf_7 : decode mC_rowsOf.2.1 7 = .ok (.getfield 89, 3) := by decide +kernel
theorem dC_rowsOf_10 : decode mC_rowsOf.2.1 10 = .ok (.ireturn, 1) := by decide +kernel
theorem dC_rowsOf_11 : decode mC_rowsOf.2.1 11 = .ok (.iload_n 0, 1) := by decide +kernel
theorem dC_rowsOf_12 : decode mC_rowsOf.2.1 12 = .ok (.bipush 9, 2) := by decide +kernel
theorem dC_rowsOf_14 : decode mC_rowsOf.2.1 14 = .ok (.if_icmp .ne 11, 3) := by decide +kernel
theorem dC_rowsOf_17 : decode mC_rowsOf.2.1 17 = .ok (.iload_n 2, 1) := by decide +kernel
theorem dC_rowsOf_18 : decode mC_rowsOf.2.1 18 = .ok (.ifCond .ne 7, 3) := by decide +kernel
theorem dC_rowsOf_21 : decode mC_rowsOf.2.1 21 = .ok (.iconst 1, 1) := by decide +kernel
theorem dC_rowsOf_22 : decode mC_rowsOf.2.1 22 = .ok (.goto 7, 3) := by decide +kernel
theorem dC_rowsOf_25 : decode mC_rowsOf.2.1 25 = .ok (.aload_n 1, 1) := by decide +kernel
theorem dC_rowsOf_26 : decode mC_rowsOf.2.1 26 = .ok (.getfield 83, 3) := by decide +kernel
theorem dC_rowsOf_29 : decode mC_rowsOf.2.1 29 = .ok (.ireturn, 1) := by decide +kernel
theorem dC_columnsOf_0 : decode mC_columnsOf.2.1 0 = .ok (.iload_n 0, 1) := by decide +kernel
theorem dC_columnsOf_1 : decode mC_columnsOf.2.1 1 = .ok (.bipush 7, 2) := by decide +kernel
theorem dC_columnsOf_3 : decode mC_columnsOf.2.1 3 = .ok (.if_icmp .ne 8, 3) := by decide +kernel
theorem dC_columnsOf_6 : decode mC_columnsOf.2.1 6 = .ok (.aload_n 1, 1) := by decide +kernel
theorem dC_columnsOf_7 : decode mC_columnsOf.2.1 7 = .ok (.getfield 83, 3) := by decide +kernel
theorem dC_columnsOf_10 : decode mC_columnsOf.2.1 10 = .ok (.ireturn, 1) := by decide +kernel
theorem dC_columnsOf_11 : decode mC_columnsOf.2.1 11 = .ok (.iload_n 0, 1) := by decide +kernel
theorem dC_columnsOf_12 : decode mC_columnsOf.2.1 12 = .ok (.bipush 9, 2) := by decide +kernel
theorem dC_columnsOf_14 : decode mC_columnsOf.2.1 14 = .ok (.if_icmp .ne 12, 3) := by decide +kernel
theorem dC_columnsOf_17 : decode mC_columnsOf.2.1 17 = .ok (.iload_n 3, 1) := by decide +kernel
theorem dC_columnsOf_18 : decode mC_columnsOf.2.1 18 = .ok (.iconst 1, 1) := by decide +kernel
theorem dC_columnsOf_19 : decode mC_columnsOf.2.1 19 = .ok (.if_icmp .ne 7, 3) := by decide +kernel
theorem dC_columnsOf_22 : decode mC_columnsOf.2.1 22 = .ok (.iconst 1, 1) := by decide +kernel
theorem dC_columnsOf_23 : decode mC_columnsOf.2.1 23 = .ok (.goto 7, 3) := by decide +kernel
theorem dC_columnsOf_26 : decode mC_columnsOf.2.1 26 = .ok (.aload_n 2, 1) := by decide +kernel
theorem dC_columnsOf_27 : decode mC_columnsOf.2.1 27 = .ok (.getfield 89, 3) := by decide +kernel
theorem dC_columnsOf_30 : decode mC_columnsOf.2.1 30 = .ok (.ireturn, 1) := by decide +kernel
theorem dC_addWithShape_0 : decode mC_addWithShape.2.1 0 = .ok (.aload_n 0, 1) := by decide +kernel
theorem dC_addWithShape_1 : decode mC_addWithShape.2.1 1 = .ok (.getfield 40, 3) := by decide +kernel
theorem dC_addWithShape_4 : decode mC_addWithShape.2.1 4 = .ok (.istore_n 3, 1) := by decide +kernel
theorem dC_addWithShape_5 : decode mC_addWithShape.2.1 5 = .ok (.aload_n 0, 1) := by decide +kernel
theorem dC_addWithShape_6 : decode mC_addWithShape.2.1 6 = .ok (.getfield 11, 3) := by decide +kernel
theorem dC_addWithShape_9 : decode mC_addWithShape.2.1 9 = .ok (.iload_n 3, 1) := by decide +kernel
theorem dC_addWithShape_10 : decode mC_addWithShape.2.1 10 = .ok (.aaload, 1) := by decide +kernel
theorem dC_addWithShape_11 : decode mC_addWithShape.2.1 11 = .ok (.iload_n 1, 1) := by decide +kernel
theorem dC_addWithShape_12 : decode mC_addWithShape.2.1 12 = .ok (.iload_n 2, 1) := by decide +kernel
theorem dC_addWithShape_13 : decode mC_addWithShape.2.1 13 = .ok (.invokevirtual 151, 3) := by decide +kernel
theorem dC_addWithShape_16 : decode mC_addWithShape.2.1 16 = .ok (.aload_n 0, 1) := by decide +kernel
theorem dC_addWithShape_17 : decode mC_addWithShape.2.1 17 = .ok (.dup, 1) := by decide +kernel
theorem dC_addWithShape_18 : decode mC_addWithShape.2.1 18 = .ok (.getfield 40, 3) := by decide +kernel
theorem dC_addWithShape_21 : decode mC_addWithShape.2.1 21 = .ok (.iconst 1, 1) := by decide +kernel
theorem dC_addWithShape_22 : decode mC_addWithShape.2.1 22 = .ok (.iadd, 1) := by decide +kernel
theorem dC_addWithShape_23 : decode mC_addWithShape.2.1 23 = .ok (.putfield 40, 3) := by decide +kernel
theorem dC_addWithShape_26 : decode mC_addWithShape.2.1 26 = .ok (.aload_n 0, 1) := by decide +kernel
theorem dC_addWithShape_27 : decode mC_addWithShape.2.1 27 = .ok (.invokevirtual 95, 3) := by decide +kernel
theorem dC_addWithShape_30 : decode mC_addWithShape.2.1 30 = .ok (.iload_n 3, 1) := by decide +kernel
theorem dC_addWithShape_31 : decode mC_addWithShape.2.1 31 = .ok (.ireturn, 1) := by decide +kernel
end
section
theorem dC_undoSimplifying_0 : decode mC_undoSimplifying.2.1 0 = .ok (.iconst 0, 1) := by decide +kernel
theorem dC_undoSimplifying_1 : decode mC_undoSimplifying.2.1 1 = .ok (.istore_n 1, 1) := by decide +kernel
theorem dC_undoSimplifying_2 : decode mC_undoSimplifying.2.1 2 = .ok (.iload_n 1, 1) := by decide +kernel
theorem dC_undoSimplifying_3 : decode mC_undoSimplifying.2.1 3 = .ok (.aload_n 0, 1) := by decide +kernel
theorem dC_undoSimplifying_4 : decode mC_undoSimplifying.2.1 4 = .ok (.getfield 40, 3) := by decide +kernel
theorem dC_undoSimplifying_7 : decode mC_undoSimplifying.2.1 7 = .ok (.if_icmp .ge 31, 3) := by decide +kernel
theorem dC_undoSimplifying_10 : decode mC_undoSimplifying.2.1 10 = .ok (.aload_n 0, 1) := by decide +kernel
theorem dC_undoSimplifying_11 : decode mC_undoSimplifying.2.1 11 = .ok (.getfield 15, 3) := by decide +kernel
theorem dC_undoSimplifying_14 : decode mC_undoSimplifying.2.1 14 = .ok (.iload_n 1, 1) := by decide +kernel
theorem dC_undoSimplifying_15 : decode mC_undoSimplifying.2.1 15 = .ok (.aaload, 1) := by decide +kernel
theorem dC_undoSimplifying_16 : decode mC_undoSimplifying.2.1 16 = .ok (.aload_n 0, 1) := by decide +kernel
theorem dC_undoSimplifying_17 : decode mC_undoSimplifying.2.1 17 = .ok (.getfield 11, 3) := by decide +kernel
theorem dC_undoSimplifying_20 : decode mC_undoSimplifying.2.1 20 = .ok (.iload_n 1, 1) := by decide +kernel
theorem dC_undoSimplifying_21 : decode mC_undoSimplifying.2.1 21 = .ok (.aaload, 1) := by decide +kernel
theorem dC_undoSimplifying_22 : decode mC_undoSimplifying.2.1 22 = .ok (.invokevirtual 155, 3) := by decide +kernel
theorem dC_undoSimplifying_25 : decode mC_undoSimplifying.2.1 25 = .ok (.aload_n 0, 1) := by decide +kernel
theorem dC_undoSimplifying_26 : decode mC_undoSimplifying.2.1 26 = .ok (.getfield 18, 3) := by decide +kernel
theorem dC_undoSimplifying_29 : decode mC_undoSimplifying.2.1 29 = .ok (.iload_n 1, 1) := by decide +kernel
theorem dC_undoSimplifying_30 : decode mC_undoSimplifying.2.1 30 = .ok (.iload_n 1, 1) := by decide +kernel
theorem dC_undoSimplifying_31 : decode mC_undoSimplifying.2.1 31 = .ok (.iastore, 1) := by decide +kernel
theorem dC_undoSimplifying_32 : decode mC_undoSimplifying.2.1 32 = .ok (.iinc 1 1, 3) := by decide +kernel
theorem dC_undoSimplifying_35 : decode mC_undoSimplifying.2.1 35 = .ok (.goto (-33), 3) := by decide +kernel
theorem dC_undoSimplifying_38 : decode mC_undoSimplifying.2.1 38 = .ok (.aload_n 0, 1) := by decide +kernel
theorem dC_undoSimplifying_39 : decode mC_undoSimplifying.2.1 39 = .ok (.iconst 0, 1) := by decide +kernel
theorem dC_undoSimplifying_40 : decode mC_undoSimplifying.2.1 40 = .ok (.putfield 44, 3) := by decide +kernel
theorem dC_undoSimplifying_43 : decode mC_undoSimplifying.2.1 43 = .ok (.aload_n 0, 1) := by decide +kernel
theorem dC_undoSimplifying_44 : decode mC_undoSimplifying.2.1 44 = .ok (.iconst 0, 1) := by decide +kernel
theorem dC_undoSimplifying_45 : decode mC_undoSimplifying.2.1 45 = .ok (.putfield 48, 3) := by decide +kernel
theorem dC_undoSimplifying_48 : decode mC_undoSimplifying.2.1 48 = .ok (.aload_n 0, 1) := by decide +kernel
theorem dC_undoSimplifying_49 : decode mC_undoSimplifying.2.1 49 = .ok (.invokevirtual 112, 3) := by decide +kernel
theorem dC_undoSimplifying_52 : decode mC_undoSimplifying.2.1 52 = .ok (.return_, 1) := by decide +kernel
theorem dC_findLive_0 : decode mC_findLive.2.1 0 = .ok (.iconst 0, 1) := by decide +kernel
theorem dC_findLive_1 : decode mC_findLive.2.1 1 = .ok (.istore_n 1, 1) := by decide +kernel
theorem dC_findLive_2 : decode mC_findLive.2.1 2 = .ok (.iload_n 1, 1) := by decide +kernel
theorem dC_findLive_3 : decode mC_findLive.2.1 3 = .ok (.aload_n 0, 1) := by decide +kernel
theorem dC_findLive_4 : decode mC_findLive.2.1 4 = .ok (.getfield 40, 3) := by decide +kernel
theorem dC_findLive_7 : decode mC_findLive.2.1 7 = .ok (.if_icmp .ge 16, 3) := by decide +kernel
theorem dC_findLive_10 : decode mC_findLive.2.1 10 = .ok (.aload_n 0, 1) := by decide +kernel
theorem dC_findLive_11 : decode mC_findLive.2.1 11 = .ok (.getfield 26, 3) := by decide +kernel
theorem dC_findLive_14 : decode mC_findLive.2.1 14 = .ok (.iload_n 1, 1) := by decide +kernel
theorem dC_findLive_15 : decode mC_findLive.2.1 15 = .ok (.iconst 0, 1) := by decide +kernel
theorem dC_findLive_16 : decode mC_findLive.2.1 16 = .ok (.bastore, 1) := by decide +kernel
theorem dC_findLive_17 : decode mC_findLive.2.1 17 = .ok (.iinc 1 1, 3) := by decide +kernel
theorem dC_findLive_20 : decode mC_findLive.2.1 20 = .ok (.goto (-18), 3) := by decide +kernel
theorem dC_findLive_23 : decode mC_findLive.2.1 23 = .ok (.iconst 0, 1) := by decide +kernel
theorem dC_findLive_24 : decode mC_findLive.2.1 24 = .ok (.istore_n 1, 1) := by decide +kernel
theorem dC_findLive_25 : decode mC_findLive.2.1 25 = .ok (.iload_n 1, 1) := by decide +kernel
theorem dC_findLive_26 : decode mC_findLive.2.1 26 = .ok (.aload_n 0, 1) := by decide +kernel
theorem dC_findLive_27 : decode mC_findLive.2.1 27 = .ok (.getfield 40, 3) := by decide +kernel
theorem dC_findLive_30 : decode mC_findLive.2.1 30 = .ok (.if_icmp .ge 30, 3) := by decide +kernel
theorem dC_findLive_33 : decode mC_findLive.2.1 33 = .ok (.aload_n 0, 1) := by decide +kernel
theorem dC_findLive_34 : decode mC_findLive.2.1 34 = .ok (.getfield 22, 3) := by decide +kernel
theorem dC_findLive_37 : decode mC_findLive.2.1 37 = .ok (.iload_n 1, 1) := by decide +kernel
theorem dC_findLive_38 : decode mC_findLive.2.1 38 = .ok (.baload, 1) := by decide +kernel
theorem dC_findLive_39 : decode mC_findLive.2.1 39 = .ok (.ifCond .eq 15, 3) := by decide +kernel
theorem dC_findLive_42 : decode mC_findLive.2.1 42 = .ok (.aload_n 0, 1) := by decide +kernel
theorem dC_findLive_43 : decode mC_findLive.2.1 43 = .ok (.getfield 26, 3) := by decide +kernel
theorem dC_findLive_46 : decode mC_findLive.2.1 46 = .ok (.aload_n 0, 1) := by decide +kernel
theorem dC_findLive_47 : decode mC_findLive.2.1 47 = .ok (.getfield 18, 3) := by decide +kernel
theorem dC_findLive_50 : decode mC_findLive.2.1 50 = .ok (.iload_n 1, 1) := by decide +kernel
theorem dC_findLive_51 : decode mC_findLive.2.1 51 = .ok (.iaload, 1) := by decide +kernel
theorem dC_findLive_52 : decode mC_findLive.2.1 52 = .ok (.iconst 1, 1) := by decide +kernel
theorem dC_findLive_53 : decode mC_findLive.2.1 53 = .ok (.bastore, 1) := by decide +kernel
theorem dC_findLive_54 : decode mC_findLive.2.1 54 = .ok (.iinc 1 1, 3) := by decide +kernel
theorem dC_findLive_57 : decode mC_findLive.2.1 57 = .ok (.goto (-32), 3) := by decide +kernel
theorem dC_findLive_60 : decode mC_findLive.2.1 60 = .ok (.aload_n 0, 1) := by decide +kernel
theorem dC_findLive_61 : decode mC_findLive.2.1 61 = .ok (.getfield 40, 3) := by decide +kernel
theorem dC_findLive_64 : decode mC_findLive.2.1 64 = .ok (.iconst 1, 1) := by decide +kernel
theorem dC_findLive_65 : decode mC_findLive.2.1 65 = .ok (.isub, 1) := by decide +kernel
theorem dC_findLive_66 : decode mC_findLive.2.1 66 = .ok (.istore_n 1, 1) := by decide +kernel
theorem dC_findLive_67 : decode mC_findLive.2.1 67 = .ok (.iload_n 1, 1) := by decide +kernel
theorem dC_findLive_68 : decode mC_findLive.2.1 68 = .ok (.ifCond .lt 44, 3) := by decide +kernel
theorem dC_findLive_71 : decode mC_findLive.2.1 71 = .ok (.aload_n 0, 1) := by decide +kernel
theorem dC_findLive_72 : decode mC_findLive.2.1 72 = .ok (.getfield 26, 3) := by decide +kernel
theorem dC_findLive_75 : decode mC_findLive.2.1 75 = .ok (.iload_n 1, 1) := by decide +kernel
theorem dC_findLive_76 : decode mC_findLive.2.1 76 = .ok (.baload, 1) := by decide +kernel
theorem dC_findLive_77 : decode mC_findLive.2.1 77 = .ok (.ifCond .eq 29, 3) := by decide +kernel
theorem dC_findLive_80 : decode mC_findLive.2.1 80 = .ok (.aload_n 0, 1) := by decide +kernel
theorem dC_findLive_81 : decode mC_findLive.2.1 81 = .ok (.aload_n 0, 1) := by decide +kernel
theorem dC_findLive_82 : decode mC_findLive.2.1 82 = .ok (.getfield 15, 3) := by decide +kernel
theorem dC_findLive_85 : decode mC_findLive.2.1 85 = .ok (.iload_n 1, 1) := by decide +kernel
theorem dC_findLive_86 : decode mC_findLive.2.1 86 = .ok (.aaload, 1) := by decide +kernel
theorem dC_findLive_87 : decode mC_findLive.2.1 87 = .ok (.getfield 132, 3) := by decide +kernel
theorem dC_findLive_90 : decode mC_findLive.2.1 90 = .ok (.invokevirtual 158, 3) := by decide +kernel
theorem dC_findLive_93 : decode mC_findLive.2.1 93 = .ok (.aload_n 0, 1) := by decide +kernel
theorem dC_findLive_94 : decode mC_findLive.2.1 94 = .ok (.aload_n 0, 1) := by decide +kernel
theorem dC_findLive_95 : decode mC_findLive.2.1 95 = .ok (.getfield 15, 3) := by decide +kernel
theorem dC_findLive_98 : decode mC_findLive.2.1 98 = .ok (.iload_n 1, 1) := by decide +kernel
theorem dC_findLive_99 : decode mC_findLive.2.1 99 = .ok (.aaload, 1) := by decide +kernel
theorem dC_findLive_100 : decode mC_findLive.2.1 100 = .ok (.getfield 135, 3) := by decide +kernel
theorem dC_findLive_103 : decode mC_findLive.2.1 103 = .ok (.invokevirtual 158, 3) := by decide +kernel
theorem dC_findLive_106 : decode mC_findLive.2.1 106 = .ok (.iinc 1 (-1), 3) := by decide +kernel
theorem dC_findLive_109 : decode mC_findLive.2.1 109 = .ok (.goto (-42), 3) := by decide +kernel
theorem dC_findLive_112 : decode mC_findLive.2.1 112 = .ok (.return_, 1) := by decide +kernel
theorem dC_makeLive_0 : decode mC_makeLive.2.1 0 = .ok (.iload_n 1, 1) := by decide +kernel
theorem dC_makeLive_1 : decode mC_makeLive.2.1 1 = .ok (.iconst (-1), 1) := by decide +kernel
theorem dC_makeLive_2 : decode mC_makeLive.2.1 2 = .ok (.if_icmp .eq 10, 3) := by decide +kernel
theorem dC_makeLive_5 : decode mC_makeLive.2.1 5 = .ok (.aload_n 0, 1) := by decide +kernel
theorem dC_makeLive_6 : decode mC_makeLive.2.1 6 = .ok (.getfield 26, 3) := by decide +kernel
theorem dC_makeLive_9 : decode mC_makeLive.2.1 9 = .ok (.iload_n 1, 1) := by decide +kernel
theorem dC_makeLive_10 : decode mC_makeLive.2.1 10 = .ok (.iconst 1, 1) := by decide +kernel
theorem dC_makeLive_11 : decode mC_makeLive.2.1 11 = .ok (.bastore, 1) := by decide +kernel
theorem dC_makeLive_12 : decode mC_makeLive.2.1 12 = .ok (.return_, 1) := by decide +kernel
theorem dC_liveValues_0 : decode mC_liveValues.2.1 0 = .ok (.iconst 0, 1) := by decide +kernel
theorem dC_liveValues_1 : decode mC_liveValues.2.1 1 = .ok (.istore_n 1, 1) := by decide +kernel
theorem dC_liveValues_2 : decode mC_liveValues.2.1 2 = .ok (.iconst 0, 1) := by decide +kernel
theorem dC_liveValues_3 : decode mC_liveValues.2.1 3 = .ok (.istore_n 2, 1) := by decide +kernel
theorem dC_liveValues_4 : decode mC_liveValues.2.1 4 = .ok (.iload_n 2, 1) := by decide +kernel
theorem dC_liveValues_5 : decode mC_liveValues.2.1 5 = .ok (.aload_n 0, 1) := by decide +kernel
theorem dC_liveValues_6 : decode mC_liveValues.2.1 6 = .ok (.getfield 40, 3) := by decide +kernel
theorem dC_liveValues_9 : decode mC_liveValues.2.1 9 = .ok (.if_icmp .ge 21, 3) := by decide +kernel
theorem dC_liveValues_12 : decode mC_liveValues.2.1 12 = .ok (.aload_n 0, 1) := by decide +kernel
theorem dC_liveValues_13 : decode mC_liveValues.2.1 13 = .ok (.getfield 26, 3) := by decide +kernel
theorem dC_liveValues_16 : decode mC_liveValues.2.1 16 = .ok (.iload_n 2, 1) := by decide +kernel
theorem dC_liveValues_17 : decode mC_liveValues.2.1 17 = .ok (.baload, 1) := by decide +kernel
theorem dC_liveValues_18 : decode mC_liveValues.2.1 18 = .ok (.ifCond .eq 6, 3) := by decide +kernel
theorem dC_liveValues_21 : decode mC_liveValues.2.1 21 = .ok (.iinc 1 1, 3) := by decide +kernel
theorem dC_liveValues_24 : decode mC_liveValues.2.1 24 = .ok (.iinc 2 1, 3) := by decide +kernel
theorem dC_liveValues_27 : decode mC_liveValues.2.1 27 = .ok (.goto (-23), 3) := by decide +kernel
theorem dC_liveValues_30 : decode mC_liveValues.2.1 30 = .ok (.iload_n 1, 1) := by decide +kernel
theorem dC_liveValues_31 : decode mC_liveValues.2.1 31 = .ok (.ireturn, 1) := by decide +kernel
theorem dC_workOfLive_0 : decode mC_workOfLive.2.1 0 = .ok (.iconst 0, 1) := by decide +kernel
theorem dC_workOfLive_1 : decode mC_workOfLive.2.1 1 = .ok (.istore_n 1, 1) := by decide +kernel
theorem dC_workOfLive_2 : decode mC_workOfLive.2.1 2 = .ok (.iconst 0, 1) := by decide +kernel
theorem dC_workOfLive_3 : decode mC_workOfLive.2.1 3 = .ok (.istore_n 2, 1) := by decide +kernel
theorem dC_workOfLive_4 : decode mC_workOfLive.2.1 4 = .ok (.iload_n 2, 1) := by decide +kernel
theorem dC_workOfLive_5 : decode mC_workOfLive.2.1 5 = .ok (.aload_n 0, 1) := by decide +kernel
theorem dC_workOfLive_6 : decode mC_workOfLive.2.1 6 = .ok (.getfield 40, 3) := by decide +kernel
theorem dC_workOfLive_9 : decode mC_workOfLive.2.1 9 = .ok (.if_icmp .ge 31, 3) := by decide +kernel
theorem dC_workOfLive_12 : decode mC_workOfLive.2.1 12 = .ok (.aload_n 0, 1) := by decide +kernel
theorem dC_workOfLive_13 : decode mC_workOfLive.2.1 13 = .ok (.getfield 26, 3) := by decide +kernel
theorem dC_workOfLive_16 : decode mC_workOfLive.2.1 16 = .ok (.iload_n 2, 1) := by decide +kernel
theorem dC_workOfLive_17 : decode mC_workOfLive.2.1 17 = .ok (.baload, 1) := by decide +kernel
theorem dC_workOfLive_18 : decode mC_workOfLive.2.1 18 = .ok (.ifCond .eq 16, 3) := by decide +kernel
theorem dC_workOfLive_21 : decode mC_workOfLive.2.1 21 = .ok (.iload_n 1, 1) := by decide +kernel
theorem dC_workOfLive_22 : decode mC_workOfLive.2.1 22 = .ok (.aload_n 0, 1) := by decide +kernel
theorem dC_workOfLive_23 : decode mC_workOfLive.2.1 23 = .ok (.aload_n 0, 1) := by decide +kernel
theorem dC_workOfLive_24 : decode mC_workOfLive.2.1 24 = .ok (.getfield 15, 3) := by decide +kernel
theorem dC_workOfLive_27 : decode mC_workOfLive.2.1 27 = .ok (.iload_n 2, 1) := by decide +kernel
theorem dC_workOfLive_28 : decode mC_workOfLive.2.1 28 = .ok (.aaload, 1) := by decide +kernel
theorem dC_workOfLive_29 : decode mC_workOfLive.2.1 29 = .ok (.invokevirtual 161, 3) := by decide +kernel
theorem dC_workOfLive_32 : decode mC_workOfLive.2.1 32 = .ok (.iadd, 1) := by decide +kernel
theorem dC_workOfLive_33 : decode mC_workOfLive.2.1 33 = .ok (.istore_n 1, 1) := by decide +kernel
theorem dC_workOfLive_34 : decode mC_workOfLive.2.1 34 = .ok (.iinc 2 1, 3) := by decide +kernel
theorem dC_workOfLive_37 : decode mC_workOfLive.2.1 37 = .ok (.goto (-33), 3) := by decide +kernel
theorem dC_workOfLive_40 : decode mC_workOfLive.2.1 40 = .ok (.iload_n 1, 1) := by decide +kernel
theorem dC_workOfLive_41 : decode mC_workOfLive.2.1 41 = .ok (.ireturn, 1) := by decide +kernel
theorem dC_workOf_0 : decode mC_workOf.2.1 0 = .ok (.aload_n 1, 1) := by decide +kernel
theorem dC_workOf_1 : decode mC_workOf.2.1 1 = .ok (.getfield 129, 3) := by decide +kernel
theorem dC_workOf_4 : decode mC_workOf.2.1 4 = .ok (.iconst 2, 1) := by decide +kernel
theorem dC_workOf_5 : decode mC_workOf.2.1 5 = .ok (.if_icmp .gt 5, 3) := by decide +kernel
theorem dC_workOf_8 : decode mC_workOf.2.1 8 = .ok (.iconst 0, 1) := by decide +kernel
theorem dC_workOf_9 : decode mC_workOf.2.1 9 = .ok (.ireturn, 1) := by decide +kernel
theorem dC_workOf_10 : decode mC_workOf.2.1 10 = .ok (.aload_n 0, 1) := by decide +kernel
theorem dC_workOf_11 : decode mC_workOf.2.1 11 = .ok (.getfield 15, 3) := by decide +kernel
theorem dC_workOf_14 : decode mC_workOf.2.1 14 = .ok (.aload_n 1, 1) := by decide +kernel
theorem dC_workOf_15 : decode mC_workOf.2.1 15 = .ok (.getfield 132, 3) := by decide +kernel
theorem dC_workOf_18 : decode mC_workOf.2.1 18 = .ok (.aaload, 1) := by decide +kernel
theorem dC_workOf_19 : decode mC_workOf.2.1 19 = .ok (.astore_n 2, 1) := by decide +kernel
theorem dC_workOf_20 : decode mC_workOf.2.1 20 = .ok (.aload_n 1, 1) := by decide +kernel
theorem dC_workOf_21 : decode mC_workOf.2.1 21 = .ok (.getfield 129, 3) := by decide +kernel
theorem dC_workOf_24 : decode mC_workOf.2.1 24 = .ok (.bipush 8, 2) := by decide +kernel
theorem dC_workOf_26 : decode mC_workOf.2.1 26 = .ok (.if_icmp .ne 18, 3) := by decide +kernel
theorem dC_workOf_29 : decode mC_workOf.2.1 29 = .ok (.aload_n 1, 1) := by decide +kernel
theorem dC_workOf_30 : decode mC_workOf.2.1 30 = .ok (.getfield 83, 3) := by decide +kernel
theorem dC_workOf_33 : decode mC_workOf.2.1 33 = .ok (.aload_n 1, 1) := by decide +kernel
theorem dC_workOf_34 : decode mC_workOf.2.1 34 = .ok (.getfield 89, 3) := by decide +kernel
theorem dC_workOf_37 : decode mC_workOf.2.1 37 = .ok (.imul, 1) := by decide +kernel
theorem dC_workOf_38 : decode mC_workOf.2.1 38 = .ok (.aload_n 2, 1) := by decide +kernel
theorem dC_workOf_39 : decode mC_workOf.2.1 39 = .ok (.getfield 89, 3) := by decide +kernel
theorem dC_workOf_42 : decode mC_workOf.2.1 42 = .ok (.imul, 1) := by decide +kernel
theorem dC_workOf_43 : decode mC_workOf.2.1 43 = .ok (.ireturn, 1) := by decide +kernel
theorem dC_workOf_44 : decode mC_workOf.2.1 44 = .ok (.aload_n 1, 1) := by decide +kernel
theorem dC_workOf_45 : decode mC_workOf.2.1 45 = .ok (.getfield 129, 3) := by decide +kernel
theorem dC_workOf_48 : decode mC_workOf.2.1 48 = .ok (.bipush 9, 2) := by decide +kernel
theorem dC_workOf_50 : decode mC_workOf.2.1 50 = .ok (.if_icmp .ne 15, 3) := by decide +kernel
theorem dC_workOf_53 : decode mC_workOf.2.1 53 = .ok (.aload_n 2, 1) := by decide +kernel
theorem dC_workOf_54 : decode mC_workOf.2.1 54 = .ok (.getfield 83, 3) := by decide +kernel
theorem dC_workOf_57 : decode mC_workOf.2.1 57 = .ok (.aload_n 2, 1) := by decide +kernel
theorem dC_workOf_58 : decode mC_workOf.2.1 58 = .ok (.getfield 89, 3) := by decide +kernel
theorem dC_workOf_61 : decode mC_workOf.2.1 61 = .ok (.imul, 1) := by decide +kernel
theorem dC_workOf_62 : decode mC_workOf.2.1 62 = .ok (.goto 12, 3) := by decide +kernel
theorem dC_workOf_65 : decode mC_workOf.2.1 65 = .ok (.aload_n 1, 1) := by decide +kernel
theorem dC_workOf_66 : decode mC_workOf.2.1 66 = .ok (.getfield 83, 3) := by decide +kernel
theorem dC_workOf_69 : decode mC_workOf.2.1 69 = .ok (.aload_n 1, 1) := by decide +kernel
theorem dC_workOf_70 : decode mC_workOf.2.1 70 = .ok (.getfield 89, 3) := by decide +kernel
theorem dC_workOf_73 : decode mC_workOf.2.1 73 = .ok (.imul, 1) := by decide +kernel
theorem dC_workOf_74 : decode mC_workOf.2.1 74 = .ok (.ireturn, 1) := by decide +kernel
theorem dC_replaceArguments_0 : decode mC_replaceArguments.2.1 0 = .ok (.aload_n 1, 1) := by decide +kernel
theorem dC_replaceArguments_1 : decode mC_replaceArguments.2.1 1 = .ok (.getfield 132, 3) := by decide +kernel
theorem dC_replaceArguments_4 : decode mC_replaceArguments.2.1 4 = .ok (.iconst (-1), 1) := by decide +kernel
theorem dC_replaceArguments_5 : decode mC_replaceArguments.2.1 5 = .ok (.if_icmp .eq 16, 3) := by decide +kernel
theorem dC_replaceArguments_8 : decode mC_replaceArguments.2.1 8 = .ok (.aload_n 1, 1) := by decide +kernel
theorem dC_replaceArguments_9 : decode mC_replaceArguments.2.1 9 = .ok (.aload_n 0, 1) := by decide +kernel
theorem dC_replaceArguments_10 : decode mC_replaceArguments.2.1 10 = .ok (.getfield 18, 3) := by decide +kernel
theorem dC_replaceArguments_13 : decode mC_replaceArguments.2.1 13 = .ok (.aload_n 1, 1) := by decide +kernel
theorem dC_replaceArguments_14 : decode mC_replaceArguments.2.1 14 = .ok (.getfield 132, 3) := by decide +kernel
theorem dC_replaceArguments_17 : decode mC_replaceArguments.2.1 17 = .ok (.iaload, 1) := by decide +kernel
theorem dC_replaceArguments_18 : decode mC_replaceArguments.2.1 18 = .ok (.putfield 132, 3) := by decide +kernel
theorem dC_replaceArguments_21 : decode mC_replaceArguments.2.1 21 = .ok (.aload_n 1, 1) := by decide +kernel
theorem dC_replaceArguments_22 : decode mC_replaceArguments.2.1 22 = .ok (.getfield 135, 3) := by decide +kernel
theorem dC_replaceArguments_25 : decode mC_replaceArguments.2.1 25 = .ok (.iconst (-1), 1) := by decide +kernel
theorem dC_replaceArguments_26 : decode mC_replaceArguments.2.1 26 = .ok (.if_icmp .eq 16, 3) := by decide +kernel
theorem dC_replaceArguments_29 : decode mC_replaceArguments.2.1 29 = .ok (.aload_n 1, 1) := by decide +kernel
theorem dC_replaceArguments_30 : decode mC_replaceArguments.2.1 30 = .ok (.aload_n 0, 1) := by decide +kernel
theorem dC_replaceArguments_31 : decode mC_replaceArguments.2.1 31 = .ok (.getfield 18, 3) := by decide +kernel
theorem dC_replaceArguments_34 : decode mC_replaceArguments.2.1 34 = .ok (.aload_n 1, 1) := by decide +kernel
theorem dC_replaceArguments_35 : decode mC_replaceArguments.2.1 35 = .ok (.getfield 135, 3) := by decide +kernel
theorem dC_replaceArguments_38 : decode mC_replaceArguments.2.1 38 = .ok (.iaload, 1) := by decide +kernel
theorem dC_replaceArguments_39 : decode mC_replaceArguments.2.1 39 = .ok (.putfield 135, 3) := by decide +kernel
theorem dC_replaceArguments_42 : decode mC_replaceArguments.2.1 42 = .ok (.aload_n 1, 1) := by decide +kernel
theorem dC_replaceArguments_43 : decode mC_replaceArguments.2.1 43 = .ok (.invokevirtual 165, 3) := by decide +kernel
theorem dC_replaceArguments_46 : decode mC_replaceArguments.2.1 46 = .ok (.ifCond .eq 32, 3) := by decide +kernel
theorem dC_replaceArguments_49 : decode mC_replaceArguments.2.1 49 = .ok (.aload_n 1, 1) := by decide +kernel
theorem dC_replaceArguments_50 : decode mC_replaceArguments.2.1 50 = .ok (.getfield 132, 3) := by decide +kernel
theorem dC_replaceArguments_53 : decode mC_replaceArguments.2.1 53 = .ok (.aload_n 1, 1) := by decide +kernel
theorem dC_replaceArguments_54 : decode mC_replaceArguments.2.1 54 = .ok (.getfield 135, 3) := by decide +kernel
theorem dC_replaceArguments_57 : decode mC_replaceArguments.2.1 57 = .ok (.if_icmp .le 21, 3) := by decide +kernel
theorem dC_replaceArguments_60 : decode mC_replaceArguments.2.1 60 = .ok (.aload_n 1, 1) := by decide +kernel
theorem dC_replaceArguments_61 : decode mC_replaceArguments.2.1 61 = .ok (.getfield 132, 3) := by decide +kernel
theorem dC_replaceArguments_64 : decode mC_replaceArguments.2.1 64 = .ok (.istore_n 2, 1) := by decide +kernel
theorem dC_replaceArguments_65 : decode mC_replaceArguments.2.1 65 = .ok (.aload_n 1, 1) := by decide +kernel
theorem dC_replaceArguments_66 : decode mC_replaceArguments.2.1 66 = .ok (.aload_n 1, 1) := by decide +kernel
theorem dC_replaceArguments_67 : decode mC_replaceArguments.2.1 67 = .ok (.getfield 135, 3) := by decide +kernel
theorem dC_replaceArguments_70 : decode mC_replaceArguments.2.1 70 = .ok (.putfield 132, 3) := by decide +kernel
theorem dC_replaceArguments_73 : decode mC_replaceArguments.2.1 73 = .ok (.aload_n 1, 1) := by decide +kernel
theorem dC_replaceArguments_74 : decode mC_replaceArguments.2.1 74 = .ok (.iload_n 2, 1) := by decide +kernel
theorem dC_replaceArguments_75 : decode mC_replaceArguments.2.1 75 = .ok (.putfield 135, 3) := by decide +kernel
theorem dC_replaceArguments_78 : decode mC_replaceArguments.2.1 78 = .ok (.return_, 1) := by decide +kernel
theorem dC_standInByRules_0 : decode mC_standInByRules.2.1 0 = .ok (.aload_n 0, 1) := by decide +kernel
theorem dC_standInByRules_1 : decode mC_standInByRules.2.1 1 = .ok (.getfield 15, 3) := by decide +kernel
theorem dC_standInByRules_4 : decode mC_standInByRules.2.1 4 = .ok (.iload_n 1, 1) := by decide +kernel
theorem dC_standInByRules_5 : decode mC_standInByRules.2.1 5 = .ok (.aaload, 1) := by decide +kernel
theorem dC_standInByRules_6 : decode mC_standInByRules.2.1 6 = .ok (.astore_n 2, 1) := by decide +kernel
theorem dC_standInByRules_7 : decode mC_standInByRules.2.1 7 = .ok (.aload_n 0, 1) := by decide +kernel
theorem dC_standInByRules_8 : decode mC_standInByRules.2.1 8 = .ok (.aload_n 2, 1) := by decide +kernel
theorem dC_standInByRules_9 : decode mC_standInByRules.2.1 9 = .ok (.invokevirtual 169, 3) := by decide +kernel
theorem dC_standInByRules_12 : decode mC_standInByRules.2.1 12 = .ok (.ifCond .eq 28, 3) := by decide +kernel
theorem dC_standInByRules_15 : decode mC_standInByRules.2.1 15 = .ok (.aload_n 0, 1) := by decide +kernel
theorem dC_standInByRules_16 : decode mC_standInByRules.2.1 16 = .ok (.getfield 37, 3) := by decide +kernel
theorem dC_standInByRules_19 : decode mC_standInByRules.2.1 19 = .ok (.iconst 1, 1) := by decide +kernel
theorem dC_standInByRules_20 : decode mC_standInByRules.2.1 20 = .ok (.dup2, 1) := by decide +kernel
theorem dC_standInByRules_21 : decode mC_standInByRules.2.1 21 = .ok (.iaload, 1) := by decide +kernel
theorem dC_standInByRules_22 : decode mC_standInByRules.2.1 22 = .ok (.iconst 1, 1) := by decide +kernel
theorem dC_standInByRules_23 : decode mC_standInByRules.2.1 23 = .ok (.iadd, 1) := by decide +kernel
theorem dC_standInByRules_24 : decode mC_standInByRules.2.1 24 = .ok (.iastore, 1) := by decide +kernel
theorem dC_standInByRules_25 : decode mC_standInByRules.2.1 25 = .ok (.aload_n 2, 1) := by decide +kernel
theorem dC_standInByRules_26 : decode mC_standInByRules.2.1 26 = .ok (.aload_n 0, 1) := by decide +kernel
theorem dC_standInByRules_27 : decode mC_standInByRules.2.1 27 = .ok (.aload_n 2, 1) := by decide +kernel
theorem dC_standInByRules_28 : decode mC_standInByRules.2.1 28 = .ok (.invokevirtual 172, 3) := by decide +kernel
theorem dC_standInByRules_31 : decode mC_standInByRules.2.1 31 = .ok (.invokevirtual 175, 3) := by decide +kernel
theorem dC_standInByRules_34 : decode mC_standInByRules.2.1 34 = .ok (.aload_n 0, 1) := by decide +kernel
theorem dC_standInByRules_35 : decode mC_standInByRules.2.1 35 = .ok (.iload_n 1, 1) := by decide +kernel
theorem dC_standInByRules_36 : decode mC_standInByRules.2.1 36 = .ok (.invokevirtual 178, 3) := by decide +kernel
theorem dC_standInByRules_39 : decode mC_standInByRules.2.1 39 = .ok (.ireturn, 1) := by decide +kernel
theorem dC_standInByRules_40 : decode mC_standInByRules.2.1 40 = .ok (.aload_n 0, 1) := by decide +kernel
theorem dC_standInByRules_41 : decode mC_standInByRules.2.1 41 = .ok (.aload_n 2, 1) := by decide +kernel
theorem dC_standInByRules_42 : decode mC_standInByRules.2.1 42 = .ok (.invokevirtual 181, 3) := by decide +kernel
theorem dC_standInByRules_45 : decode mC_standInByRules.2.1 45 = .ok (.istore_n 3, 1) := by decide +kernel
theorem dC_standInByRules_46 : decode mC_standInByRules.2.1 46 = .ok (.iload_n 3, 1) := by decide +kernel
theorem dC_standInByRules_47 : decode mC_standInByRules.2.1 47 = .ok (.iconst (-1), 1) := by decide +kernel
theorem dC_standInByRules_48 : decode mC_standInByRules.2.1 48 = .ok (.if_icmp .eq 15, 3) := by decide +kernel
theorem dC_standInByRules_51 : decode mC_standInByRules.2.1 51 = .ok (.aload_n 0, 1) := by decide +kernel
theorem dC_standInByRules_52 : decode mC_standInByRules.2.1 52 = .ok (.getfield 37, 3) := by decide +kernel
theorem dC_standInByRules_55 : decode mC_standInByRules.2.1 55 = .ok (.iconst 2, 1) := by decide +kernel
theorem dC_standInByRules_56 : decode mC_standInByRules.2.1 56 = .ok (.dup2, 1) := by decide +kernel
theorem dC_standInByRules_57 : decode mC_standInByRules.2.1 57 = .ok (.iaload, 1) := by decide +kernel
theorem dC_standInByRules_58 : decode mC_standInByRules.2.1 58 = .ok (.iconst 1, 1) := by decide +kernel
theorem dC_standInByRules_59 : decode mC_standInByRules.2.1 59 = .ok (.iadd, 1) := by decide +kernel
theorem dC_standInByRules_60 : decode mC_standInByRules.2.1 60 = .ok (.iastore, 1) := by decide +kernel
theorem dC_standInByRules_61 : decode mC_standInByRules.2.1 61 = .ok (.iload_n 3, 1) := by decide +kernel
theorem dC_standInByRules_62 : decode mC_standInByRules.2.1 62 = .ok (.ireturn, 1) := by decide +kernel
theorem dC_standInByRules_63 : decode mC_standInByRules.2.1 63 = .ok (.aload_n 2, 1) := by decide +kernel
theorem dC_standInByRules_64 : decode mC_standInByRules.2.1 64 = .ok (.getfield 129, 3) := by decide +kernel
theorem dC_standInByRules_67 : decode mC_standInByRules.2.1 67 = .ok (.iconst 4, 1) := by decide +kernel
theorem dC_standInByRules_68 : decode mC_standInByRules.2.1 68 = .ok (.if_icmp .ne 48, 3) := by decide +kernel
theorem dC_standInByRules_71 : decode mC_standInByRules.2.1 71 = .ok (.aload_n 0, 1) := by decide +kernel
theorem dC_standInByRules_72 : decode mC_standInByRules.2.1 72 = .ok (.aload_n 2, 1) := by decide +kernel
theorem dC_standInByRules_73 : decode mC_standInByRules.2.1 73 = .ok (.getfield 132, 3) := by decide +kernel
theorem dC_standInByRules_76 : decode mC_standInByRules.2.1 76 = .ok (.iconst 0, 1) := by decide +kernel
theorem dC_standInByRules_77 : decode mC_standInByRules.2.1 77 = .ok (.invokevirtual 184, 3) := by decide +kernel
theorem dC_standInByRules_80 : decode mC_standInByRules.2.1 80 = .ok (.ifCond .ne 15, 3) := by decide +kernel
theorem dC_standInByRules_83 : decode mC_standInByRules.2.1 83 = .ok (.aload_n 0, 1) := by decide +kernel
theorem dC_standInByRules_84 : decode mC_standInByRules.2.1 84 = .ok (.aload_n 2, 1) := by decide +kernel
theorem dC_standInByRules_85 : decode mC_standInByRules.2.1 85 = .ok (.getfield 135, 3) := by decide +kernel
theorem dC_standInByRules_88 : decode mC_standInByRules.2.1 88 = .ok (.iconst 0, 1) := by decide +kernel
theorem dC_standInByRules_89 : decode mC_standInByRules.2.1 89 = .ok (.invokevirtual 184, 3) := by decide +kernel
theorem dC_standInByRules_92 : decode mC_standInByRules.2.1 92 = .ok (.ifCond .eq 24, 3) := by decide +kernel
theorem dC_standInByRules_95 : decode mC_standInByRules.2.1 95 = .ok (.aload_n 0, 1) := by decide +kernel
theorem dC_standInByRules_96 : decode mC_standInByRules.2.1 96 = .ok (.getfield 37, 3) := by decide +kernel
theorem dC_standInByRules_99 : decode mC_standInByRules.2.1 99 = .ok (.iconst 3, 1) := by decide +kernel
theorem dC_standInByRules_100 : decode mC_standInByRules.2.1 100 = .ok (.dup2, 1) := by decide +kernel
theorem dC_standInByRules_101 : decode mC_standInByRules.2.1 101 = .ok (.iaload, 1) := by decide +kernel
theorem dC_standInByRules_102 : decode mC_standInByRules.2.1 102 = .ok (.iconst 1, 1) := by decide +kernel
theorem dC_standInByRules_103 : decode mC_standInByRules.2.1 103 = .ok (.iadd, 1) := by decide +kernel
theorem dC_standInByRules_104 : decode mC_standInByRules.2.1 104 = .ok (.iastore, 1) := by decide +kernel
theorem dC_standInByRules_105 : decode mC_standInByRules.2.1 105 = .ok (.aload_n 2, 1) := by decide +kernel
theorem dC_standInByRules_106 : decode mC_standInByRules.2.1 106 = .ok (.iconst 0, 1) := by decide +kernel
theorem dC_standInByRules_107 : decode mC_standInByRules.2.1 107 = .ok (.invokevirtual 175, 3) := by decide +kernel
theorem dC_standInByRules_110 : decode mC_standInByRules.2.1 110 = .ok (.aload_n 0, 1) := by decide +kernel
theorem dC_standInByRules_111 : decode mC_standInByRules.2.1 111 = .ok (.iload_n 1, 1) := by decide +kernel
theorem dC_standInByRules_112 : decode mC_standInByRules.2.1 112 = .ok (.invokevirtual 178, 3) := by decide +kernel
theorem dC_standInByRules_115 : decode mC_standInByRules.2.1 115 = .ok (.ireturn, 1) := by decide +kernel
theorem dC_standInByRules_116 : decode mC_standInByRules.2.1 116 = .ok (.aload_n 2, 1) := by decide +kernel
theorem dC_standInByRules_117 : decode mC_standInByRules.2.1 117 = .ok (.getfield 129, 3) := by decide +kernel
theorem dC_standInByRules_120 : decode mC_standInByRules.2.1 120 = .ok (.iconst 5, 1) := by decide +kernel
theorem dC_standInByRules_121 : decode mC_standInByRules.2.1 121 = .ok (.if_icmp .ne 29, 3) := by decide +kernel
theorem dC_standInByRules_124 : decode mC_standInByRules.2.1 124 = .ok (.aload_n 2, 1) := by decide +kernel
theorem dC_standInByRules_125 : decode mC_standInByRules.2.1 125 = .ok (.getfield 132, 3) := by decide +kernel
theorem dC_standInByRules_128 : decode mC_standInByRules.2.1 128 = .ok (.aload_n 2, 1) := by decide +kernel
theorem dC_standInByRules_129 : decode mC_standInByRules.2.1 129 = .ok (.getfield 135, 3) := by decide +kernel
theorem dC_standInByRules_132 : decode mC_standInByRules.2.1 132 = .ok (.if_icmp .ne 18, 3) := by decide +kernel
theorem dC_standInByRules_135 : decode mC_standInByRules.2.1 135 = .ok (.aload_n 0, 1) := by decide +kernel
theorem dC_standInByRules_136 : decode mC_standInByRules.2.1 136 = .ok (.getfield 37, 3) := by decide +kernel
theorem dC_standInByRules_139 : decode mC_standInByRules.2.1 139 = .ok (.iconst 4, 1) := by decide +kernel
theorem dC_standInByRules_140 : decode mC_standInByRules.2.1 140 = .ok (.dup2, 1) := by decide +kernel
theorem dC_standInByRules_141 : decode mC_standInByRules.2.1 141 = .ok (.iaload, 1) := by decide +kernel
theorem dC_standInByRules_142 : decode mC_standInByRules.2.1 142 = .ok (.iconst 1, 1) := by decide +kernel
theorem dC_standInByRules_143 : decode mC_standInByRules.2.1 143 = .ok (.iadd, 1) := by decide +kernel
theorem dC_standInByRules_144 : decode mC_standInByRules.2.1 144 = .ok (.iastore, 1) := by decide +kernel
theorem dC_standInByRules_145 : decode mC_standInByRules.2.1 145 = .ok (.aload_n 2, 1) := by decide +kernel
theorem dC_standInByRules_146 : decode mC_standInByRules.2.1 146 = .ok (.getfield 132, 3) := by decide +kernel
theorem dC_standInByRules_149 : decode mC_standInByRules.2.1 149 = .ok (.ireturn, 1) := by decide +kernel
theorem dC_standInByRules_150 : decode mC_standInByRules.2.1 150 = .ok (.aload_n 0, 1) := by decide +kernel
theorem dC_standInByRules_151 : decode mC_standInByRules.2.1 151 = .ok (.aload_n 2, 1) := by decide +kernel
theorem dC_standInByRules_152 : decode mC_standInByRules.2.1 152 = .ok (.invokevirtual 187, 3) := by decide +kernel
theorem dC_standInByRules_155 : decode mC_standInByRules.2.1 155 = .ok (.istore 4, 2) := by decide +kernel
theorem dC_standInByRules_157 : decode mC_standInByRules.2.1 157 = .ok (.iload 4, 2) := by decide +kernel
theorem dC_standInByRules_159 : decode mC_standInByRules.2.1 159 = .ok (.iconst (-1), 1) := by decide +kernel
theorem dC_standInByRules_160 : decode mC_standInByRules.2.1 160 = .ok (.if_icmp .eq 36, 3) := by decide +kernel
theorem dC_standInByRules_163 : decode mC_standInByRules.2.1 163 = .ok (.aload_n 0, 1) := by decide +kernel
theorem dC_standInByRules_164 : decode mC_standInByRules.2.1 164 = .ok (.getfield 37, 3) := by decide +kernel
theorem dC_standInByRules_167 : decode mC_standInByRules.2.1 167 = .ok (.iconst 5, 1) := by decide +kernel
theorem dC_standInByRules_168 : decode mC_standInByRules.2.1 168 = .ok (.dup2, 1) := by decide +kernel
theorem dC_standInByRules_169 : decode mC_standInByRules.2.1 169 = .ok (.iaload, 1) := by decide +kernel
theorem dC_standInByRules_170 : decode mC_standInByRules.2.1 170 = .ok (.iconst 1, 1) := by decide +kernel
theorem dC_standInByRules_171 : decode mC_standInByRules.2.1 171 = .ok (.iadd, 1) := by decide +kernel
theorem dC_standInByRules_172 : decode mC_standInByRules.2.1 172 = .ok (.iastore, 1) := by decide +kernel
theorem dC_standInByRules_173 : decode mC_standInByRules.2.1 173 = .ok (.aload_n 2, 1) := by decide +kernel
theorem dC_standInByRules_174 : decode mC_standInByRules.2.1 174 = .ok (.aload_n 0, 1) := by decide +kernel
theorem dC_standInByRules_175 : decode mC_standInByRules.2.1 175 = .ok (.getfield 15, 3) := by decide +kernel
theorem dC_standInByRules_178 : decode mC_standInByRules.2.1 178 = .ok (.iload 4, 2) := by decide +kernel
theorem dC_standInByRules_180 : decode mC_standInByRules.2.1 180 = .ok (.aaload, 1) := by decide +kernel
theorem dC_standInByRules_181 : decode mC_standInByRules.2.1 181 = .ok (.invokevirtual 147, 3) := by decide +kernel
theorem dC_standInByRules_184 : decode mC_standInByRules.2.1 184 = .ok (.ifCond .eq 6, 3) := by decide +kernel
theorem dC_standInByRules_187 : decode mC_standInByRules.2.1 187 = .ok (.iload 4, 2) := by decide +kernel
theorem dC_standInByRules_189 : decode mC_standInByRules.2.1 189 = .ok (.ireturn, 1) := by decide +kernel
theorem dC_standInByRules_190 : decode mC_standInByRules.2.1 190 = .ok (.aload_n 2, 1) := by decide +kernel
theorem dC_standInByRules_191 : decode mC_standInByRules.2.1 191 = .ok (.iload 4, 2) := by decide +kernel
theorem dC_standInByRules_193 : decode mC_standInByRules.2.1 193 = .ok (.putfield 132, 3) := by decide +kernel
theorem dC_standInByRules_196 : decode mC_standInByRules.2.1 196 = .ok (.aload_n 0, 1) := by decide +kernel
theorem dC_standInByRules_197 : decode mC_standInByRules.2.1 197 = .ok (.iload_n 1, 1) := by decide +kernel
theorem dC_standInByRules_198 : decode mC_standInByRules.2.1 198 = .ok (.invokevirtual 178, 3) := by decide +kernel
theorem dC_standInByRules_201 : decode mC_standInByRules.2.1 201 = .ok (.ireturn, 1) := by decide +kernel
theorem dC_isSplat_0 : decode mC_isSplat.2.1 0 = .ok (.aload_n 0, 1) := by decide +kernel
theorem dC_isSplat_1 : decode mC_isSplat.2.1 1 = .ok (.getfield 15, 3) := by decide +kernel
theorem dC_isSplat_4 : decode mC_isSplat.2.1 4 = .ok (.iload_n 1, 1) := by decide +kernel
theorem dC_isSplat_5 : decode mC_isSplat.2.1 5 = .ok (.aaload, 1) := by decide +kernel
theorem dC_isSplat_6 : decode mC_isSplat.2.1 6 = .ok (.iload_n 2, 1) := by decide +kernel
theorem dC_isSplat_7 : decode mC_isSplat.2.1 7 = .ok (.invokevirtual 190, 3) := by decide +kernel
theorem dC_isSplat_10 : decode mC_isSplat.2.1 10 = .ok (.ireturn, 1) := by decide +kernel
theorem dC_hasOnlySplats_0 : decode mC_hasOnlySplats.2.1 0 = .ok (.aload_n 1, 1) := by decide +kernel
theorem dC_hasOnlySplats_1 : decode mC_hasOnlySplats.2.1 1 = .ok (.getfield 132, 3) := by decide +kernel
theorem dC_hasOnlySplats_4 : decode mC_hasOnlySplats.2.1 4 = .ok (.iconst (-1), 1) := by decide +kernel
theorem dC_hasOnlySplats_5 : decode mC_hasOnlySplats.2.1 5 = .ok (.if_icmp .eq 19, 3) := by decide +kernel
theorem dC_hasOnlySplats_8 : decode mC_hasOnlySplats.2.1 8 = .ok (.aload_n 0, 1) := by decide +kernel
theorem dC_hasOnlySplats_9 : decode mC_hasOnlySplats.2.1 9 = .ok (.getfield 15, 3) := by decide +kernel
theorem dC_hasOnlySplats_12 : decode mC_hasOnlySplats.2.1 12 = .ok (.aload_n 1, 1) := by decide +kernel
theorem dC_hasOnlySplats_13 : decode mC_hasOnlySplats.2.1 13 = .ok (.getfield 132, 3) := by decide +kernel
theorem dC_hasOnlySplats_16 : decode mC_hasOnlySplats.2.1 16 = .ok (.aaload, 1) := by decide +kernel
theorem dC_hasOnlySplats_17 : decode mC_hasOnlySplats.2.1 17 = .ok (.getfield 129, 3) := by decide +kernel
theorem dC_hasOnlySplats_20 : decode mC_hasOnlySplats.2.1 20 = .ok (.iconst 1, 1) := by decide +kernel
theorem dC_hasOnlySplats_21 : decode mC_hasOnlySplats.2.1 21 = .ok (.if_icmp .eq 5, 3) := by decide +kernel
theorem dC_hasOnlySplats_24 : decode mC_hasOnlySplats.2.1 24 = .ok (.iconst 0, 1) := by decide +kernel
theorem dC_hasOnlySplats_25 : decode mC_hasOnlySplats.2.1 25 = .ok (.ireturn, 1) := by decide +kernel
theorem dC_hasOnlySplats_26 : decode mC_hasOnlySplats.2.1 26 = .ok (.aload_n 1, 1) := by decide +kernel
theorem dC_hasOnlySplats_27 : decode mC_hasOnlySplats.2.1 27 = .ok (.getfield 135, 3) := by decide +kernel
theorem dC_hasOnlySplats_30 : decode mC_hasOnlySplats.2.1 30 = .ok (.iconst (-1), 1) := by decide +kernel
theorem dC_hasOnlySplats_31 : decode mC_hasOnlySplats.2.1 31 = .ok (.if_icmp .eq 19, 3) := by decide +kernel
theorem dC_hasOnlySplats_34 : decode mC_hasOnlySplats.2.1 34 = .ok (.aload_n 0, 1) := by decide +kernel
theorem dC_hasOnlySplats_35 : decode mC_hasOnlySplats.2.1 35 = .ok (.getfield 15, 3) := by decide +kernel
theorem dC_hasOnlySplats_38 : decode mC_hasOnlySplats.2.1 38 = .ok (.aload_n 1, 1) := by decide +kernel
theorem dC_hasOnlySplats_39 : decode mC_hasOnlySplats.2.1 39 = .ok (.getfield 135, 3) := by decide +kernel
theorem dC_hasOnlySplats_42 : decode mC_hasOnlySplats.2.1 42 = .ok (.aaload, 1) := by decide +kernel
theorem dC_hasOnlySplats_43 : decode mC_hasOnlySplats.2.1 43 = .ok (.getfield 129, 3) := by decide +kernel
theorem dC_hasOnlySplats_46 : decode mC_hasOnlySplats.2.1 46 = .ok (.iconst 1, 1) := by decide +kernel
theorem dC_hasOnlySplats_47 : decode mC_hasOnlySplats.2.1 47 = .ok (.if_icmp .ne 7, 3) := by decide +kernel
theorem dC_hasOnlySplats_50 : decode mC_hasOnlySplats.2.1 50 = .ok (.iconst 1, 1) := by decide +kernel
theorem dC_hasOnlySplats_51 : decode mC_hasOnlySplats.2.1 51 = .ok (.goto 4, 3) := by decide +kernel
theorem dC_hasOnlySplats_54 : decode mC_hasOnlySplats.2.1 54 = .ok (.iconst 0, 1) := by decide +kernel
theorem dC_hasOnlySplats_55 : decode mC_hasOnlySplats.2.1 55 = .ok (.ireturn, 1) := by decide +kernel
theorem dC_foldedCell_0 : decode mC_foldedCell.2.1 0 = .ok (.aload_n 0, 1) := by decide +kernel
theorem dC_foldedCell_1 : decode mC_foldedCell.2.1 1 = .ok (.getfield 15, 3) := by decide +kernel
theorem dC_foldedCell_4 : decode mC_foldedCell.2.1 4 = .ok (.aload_n 1, 1) := by decide +kernel
theorem dC_foldedCell_5 : decode mC_foldedCell.2.1 5 = .ok (.getfield 132, 3) := by decide +kernel
theorem dC_foldedCell_8 : decode mC_foldedCell.2.1 8 = .ok (.aaload, 1) := by decide +kernel
theorem dC_foldedCell_9 : decode mC_foldedCell.2.1 9 = .ok (.astore_n 2, 1) := by decide +kernel
theorem dC_foldedCell_10 : decode mC_foldedCell.2.1 10 = .ok (.aload_n 2, 1) := by decide +kernel
theorem dC_foldedCell_11 : decode mC_foldedCell.2.1 11 = .ok (.getfield 138, 3) := by decide +kernel
theorem dC_foldedCell_14 : decode mC_foldedCell.2.1 14 = .ok (.istore_n 3, 1) := by decide +kernel
theorem dC_foldedCell_15 : decode mC_foldedCell.2.1 15 = .ok (.aload_n 1, 1) := by decide +kernel
theorem dC_foldedCell_16 : decode mC_foldedCell.2.1 16 = .ok (.getfield 135, 3) := by decide +kernel
theorem dC_foldedCell_19 : decode mC_foldedCell.2.1 19 = .ok (.iconst (-1), 1) := by decide +kernel
theorem dC_foldedCell_20 : decode mC_foldedCell.2.1 20 = .ok (.if_icmp .ne 7, 3) := by decide +kernel
theorem dC_foldedCell_23 : decode mC_foldedCell.2.1 23 = .ok (.iconst 0, 1) := by decide +kernel
theorem dC_foldedCell_24 : decode mC_foldedCell.2.1 24 = .ok (.goto 15, 3) := by decide +kernel
theorem dC_foldedCell_27 : decode mC_foldedCell.2.1 27 = .ok (.aload_n 0, 1) := by decide +kernel
theorem dC_foldedCell_28 : decode mC_foldedCell.2.1 28 = .ok (.getfield 15, 3) := by decide +kernel
theorem dC_foldedCell_31 : decode mC_foldedCell.2.1 31 = .ok (.aload_n 1, 1) := by decide +kernel
theorem dC_foldedCell_32 : decode mC_foldedCell.2.1 32 = .ok (.getfield 135, 3) := by decide +kernel
theorem dC_foldedCell_35 : decode mC_foldedCell.2.1 35 = .ok (.aaload, 1) := by decide +kernel
theorem dC_foldedCell_36 : decode mC_foldedCell.2.1 36 = .ok (.getfield 138, 3) := by decide +kernel
theorem dC_foldedCell_39 : decode mC_foldedCell.2.1 39 = .ok (.istore 4, 2) := by decide +kernel
theorem dC_foldedCell_41 : decode mC_foldedCell.2.1 41 = .ok (.aload_n 1, 1) := by decide +kernel
theorem dC_foldedCell_42 : decode mC_foldedCell.2.1 42 = .ok (.getfield 129, 3) := by decide +kernel
theorem dC_foldedCell_45 : decode mC_foldedCell.2.1 45 = .ok (.tableswitch 94 3 9 #[43, 48, 53, 60, 94, 63, 73], 43) := by decide +kernel
theorem dC_foldedCell_88 : decode mC_foldedCell.2.1 88 = .ok (.iload_n 3, 1) := by decide +kernel
theorem dC_foldedCell_89 : decode mC_foldedCell.2.1 89 = .ok (.iload 4, 2) := by decide +kernel
theorem dC_foldedCell_91 : decode mC_foldedCell.2.1 91 = .ok (.iadd, 1) := by decide +kernel
theorem dC_foldedCell_92 : decode mC_foldedCell.2.1 92 = .ok (.ireturn, 1) := by decide +kernel
theorem dC_foldedCell_93 : decode mC_foldedCell.2.1 93 = .ok (.iload_n 3, 1) := by decide +kernel
theorem dC_foldedCell_94 : decode mC_foldedCell.2.1 94 = .ok (.iload 4, 2) := by decide +kernel
theorem dC_foldedCell_96 : decode mC_foldedCell.2.1 96 = .ok (.imul, 1) := by decide +kernel
theorem dC_foldedCell_97 : decode mC_foldedCell.2.1 97 = .ok (.ireturn, 1) := by decide +kernel
theorem dC_foldedCell_98 : decode mC_foldedCell.2.1 98 = .ok (.iload_n 3, 1) := by decide +kernel
theorem dC_foldedCell_99 : decode mC_foldedCell.2.1 99 = .ok (.iload 4, 2) := by decide +kernel
theorem dC_foldedCell_101 : decode mC_foldedCell.2.1 101 = .ok (.invokestatic 193, 3) := by decide +kernel
theorem dC_foldedCell_104 : decode mC_foldedCell.2.1 104 = .ok (.ireturn, 1) := by decide +kernel
theorem dC_foldedCell_105 : decode mC_foldedCell.2.1 105 = .ok (.iload_n 3, 1) := by decide +kernel
theorem dC_foldedCell_106 : decode mC_foldedCell.2.1 106 = .ok (.ineg, 1) := by decide +kernel
theorem dC_foldedCell_107 : decode mC_foldedCell.2.1 107 = .ok (.ireturn, 1) := by decide +kernel
theorem dC_foldedCell_108 : decode mC_foldedCell.2.1 108 = .ok (.iload_n 3, 1) := by decide +kernel
theorem dC_foldedCell_109 : decode mC_foldedCell.2.1 109 = .ok (.iload 4, 2) := by decide +kernel
theorem dC_foldedCell_111 : decode mC_foldedCell.2.1 111 = .ok (.imul, 1) := by decide +kernel
theorem dC_foldedCell_112 : decode mC_foldedCell.2.1 112 = .ok (.aload_n 2, 1) := by decide +kernel
theorem dC_foldedCell_113 : decode mC_foldedCell.2.1 113 = .ok (.getfield 89, 3) := by decide +kernel
theorem dC_foldedCell_116 : decode mC_foldedCell.2.1 116 = .ok (.imul, 1) := by decide +kernel
theorem dC_foldedCell_117 : decode mC_foldedCell.2.1 117 = .ok (.ireturn, 1) := by decide +kernel
theorem dC_foldedCell_118 : decode mC_foldedCell.2.1 118 = .ok (.iload_n 3, 1) := by decide +kernel
theorem dC_foldedCell_119 : decode mC_foldedCell.2.1 119 = .ok (.aload_n 1, 1) := by decide +kernel
theorem dC_foldedCell_120 : decode mC_foldedCell.2.1 120 = .ok (.getfield 138, 3) := by decide +kernel
theorem dC_foldedCell_123 : decode mC_foldedCell.2.1 123 = .ok (.ifCond .ne 10, 3) := by decide +kernel
theorem dC_foldedCell_126 : decode mC_foldedCell.2.1 126 = .ok (.aload_n 2, 1) := by decide +kernel
theorem dC_foldedCell_127 : decode mC_foldedCell.2.1 127 = .ok (.getfield 83, 3) := by decide +kernel
theorem dC_foldedCell_130 : decode mC_foldedCell.2.1 130 = .ok (.goto 7, 3) := by decide +kernel
theorem dC_foldedCell_133 : decode mC_foldedCell.2.1 133 = .ok (.aload_n 2, 1) := by decide +kernel
theorem dC_foldedCell_134 : decode mC_foldedCell.2.1 134 = .ok (.getfield 89, 3) := by decide +kernel
theorem dC_foldedCell_137 : decode mC_foldedCell.2.1 137 = .ok (.imul, 1) := by decide +kernel
theorem dC_foldedCell_138 : decode mC_foldedCell.2.1 138 = .ok (.ireturn, 1) := by decide +kernel
theorem dC_foldedCell_139 : decode mC_foldedCell.2.1 139 = .ok (.iload_n 3, 1) := by decide +kernel
theorem dC_foldedCell_140 : decode mC_foldedCell.2.1 140 = .ok (.ireturn, 1) := by decide +kernel
theorem dC_neutralOther_0 : decode mC_neutralOther.2.1 0 = .ok (.aload_n 1, 1) := by decide +kernel
theorem dC_neutralOther_1 : decode mC_neutralOther.2.1 1 = .ok (.invokevirtual 198, 3) := by decide +kernel
theorem dC_neutralOther_4 : decode mC_neutralOther.2.1 4 = .ok (.ifCond .eq 28, 3) := by decide +kernel
theorem dC_neutralOther_7 : decode mC_neutralOther.2.1 7 = .ok (.aload_n 1, 1) := by decide +kernel
theorem dC_neutralOther_8 : decode mC_neutralOther.2.1 8 = .ok (.aload_n 0, 1) := by decide +kernel
theorem dC_neutralOther_9 : decode mC_neutralOther.2.1 9 = .ok (.getfield 15, 3) := by decide +kernel
theorem dC_neutralOther_12 : decode mC_neutralOther.2.1 12 = .ok (.aload_n 1, 1) := by decide +kernel
theorem dC_neutralOther_13 : decode mC_neutralOther.2.1 13 = .ok (.getfield 132, 3) := by decide +kernel
theorem dC_neutralOther_16 : decode mC_neutralOther.2.1 16 = .ok (.aaload, 1) := by decide +kernel
theorem dC_neutralOther_17 : decode mC_neutralOther.2.1 17 = .ok (.invokevirtual 147, 3) := by decide +kernel
theorem dC_neutralOther_20 : decode mC_neutralOther.2.1 20 = .ok (.ifCond .eq 10, 3) := by decide +kernel
theorem dC_neutralOther_23 : decode mC_neutralOther.2.1 23 = .ok (.aload_n 1, 1) := by decide +kernel
theorem dC_neutralOther_24 : decode mC_neutralOther.2.1 24 = .ok (.getfield 132, 3) := by decide +kernel
theorem dC_neutralOther_27 : decode mC_neutralOther.2.1 27 = .ok (.goto 4, 3) := by decide +kernel
theorem dC_neutralOther_30 : decode mC_neutralOther.2.1 30 = .ok (.iconst (-1), 1) := by decide +kernel
theorem dC_neutralOther_31 : decode mC_neutralOther.2.1 31 = .ok (.ireturn, 1) := by decide +kernel
theorem dC_neutralOther_32 : decode mC_neutralOther.2.1 32 = .ok (.aload_n 1, 1) := by decide +kernel
theorem dC_neutralOther_33 : decode mC_neutralOther.2.1 33 = .ok (.getfield 129, 3) := by decide +kernel
theorem dC_neutralOther_36 : decode mC_neutralOther.2.1 36 = .ok (.iconst 3, 1) := by decide +kernel
theorem dC_neutralOther_37 : decode mC_neutralOther.2.1 37 = .ok (.if_icmp .eq 13, 3) := by decide +kernel
theorem dC_neutralOther_40 : decode mC_neutralOther.2.1 40 = .ok (.aload_n 1, 1) := by decide +kernel
theorem dC_neutralOther_41 : decode mC_neutralOther.2.1 41 = .ok (.getfield 129, 3) := by decide +kernel
theorem dC_neutralOther_44 : decode mC_neutralOther.2.1 44 = .ok (.iconst 4, 1) := by decide +kernel
theorem dC_neutralOther_45 : decode mC_neutralOther.2.1 45 = .ok (.if_icmp .eq 5, 3) := by decide +kernel
theorem dC_neutralOther_48 : decode mC_neutralOther.2.1 48 = .ok (.iconst (-1), 1) := by decide +kernel
theorem dC_neutralOther_49 : decode mC_neutralOther.2.1 49 = .ok (.ireturn, 1) := by decide +kernel
theorem dC_neutralOther_50 : decode mC_neutralOther.2.1 50 = .ok (.aload_n 1, 1) := by decide +kernel
theorem dC_neutralOther_51 : decode mC_neutralOther.2.1 51 = .ok (.getfield 129, 3) := by decide +kernel
theorem dC_neutralOther_54 : decode mC_neutralOther.2.1 54 = .ok (.iconst 3, 1) := by decide +kernel
theorem dC_neutralOther_55 : decode mC_neutralOther.2.1 55 = .ok (.if_icmp .ne 7, 3) := by decide +kernel
theorem dC_neutralOther_58 : decode mC_neutralOther.2.1 58 = .ok (.iconst 0, 1) := by decide +kernel
theorem dC_neutralOther_59 : decode mC_neutralOther.2.1 59 = .ok (.goto 4, 3) := by decide +kernel
theorem dC_neutralOther_62 : decode mC_neutralOther.2.1 62 = .ok (.iconst 1, 1) := by decide +kernel
theorem dC_neutralOther_63 : decode mC_neutralOther.2.1 63 = .ok (.istore_n 2, 1) := by decide +kernel
theorem dC_neutralOther_64 : decode mC_neutralOther.2.1 64 = .ok (.aload_n 0, 1) := by decide +kernel
theorem dC_neutralOther_65 : decode mC_neutralOther.2.1 65 = .ok (.aload_n 1, 1) := by decide +kernel
theorem dC_neutralOther_66 : decode mC_neutralOther.2.1 66 = .ok (.getfield 132, 3) := by decide +kernel
theorem dC_neutralOther_69 : decode mC_neutralOther.2.1 69 = .ok (.iload_n 2, 1) := by decide +kernel
theorem dC_neutralOther_70 : decode mC_neutralOther.2.1 70 = .ok (.invokevirtual 184, 3) := by decide +kernel
theorem dC_neutralOther_73 : decode mC_neutralOther.2.1 73 = .ok (.ifCond .eq 8, 3) := by decide +kernel
theorem dC_neutralOther_76 : decode mC_neutralOther.2.1 76 = .ok (.aload_n 1, 1) := by decide +kernel
theorem dC_neutralOther_77 : decode mC_neutralOther.2.1 77 = .ok (.getfield 135, 3) := by decide +kernel
theorem dC_neutralOther_80 : decode mC_neutralOther.2.1 80 = .ok (.ireturn, 1) := by decide +kernel
theorem dC_neutralOther_81 : decode mC_neutralOther.2.1 81 = .ok (.aload_n 0, 1) := by decide +kernel
theorem dC_neutralOther_82 : decode mC_neutralOther.2.1 82 = .ok (.aload_n 1, 1) := by decide +kernel
theorem dC_neutralOther_83 : decode mC_neutralOther.2.1 83 = .ok (.getfield 135, 3) := by decide +kernel
theorem dC_neutralOther_86 : decode mC_neutralOther.2.1 86 = .ok (.iload_n 2, 1) := by decide +kernel
theorem dC_neutralOther_87 : decode mC_neutralOther.2.1 87 = .ok (.invokevirtual 184, 3) := by decide +kernel
theorem dC_neutralOther_90 : decode mC_neutralOther.2.1 90 = .ok (.ifCond .eq 10, 3) := by decide +kernel
theorem dC_neutralOther_93 : decode mC_neutralOther.2.1 93 = .ok (.aload_n 1, 1) := by decide +kernel
theorem dC_neutralOther_94 : decode mC_neutralOther.2.1 94 = .ok (.getfield 132, 3) := by decide +kernel
theorem dC_neutralOther_97 : decode mC_neutralOther.2.1 97 = .ok (.goto 4, 3) := by decide +kernel
theorem dC_neutralOther_100 : decode mC_neutralOther.2.1 100 = .ok (.iconst (-1), 1) := by decide +kernel
theorem dC_neutralOther_101 : decode mC_neutralOther.2.1 101 = .ok (.ireturn, 1) := by decide +kernel
theorem dC_twiceInner_0 : decode mC_twiceInner.2.1 0 = .ok (.aload_n 1, 1) := by decide +kernel
theorem dC_twiceInner_1 : decode mC_twiceInner.2.1 1 = .ok (.getfield 129, 3) := by decide +kernel
theorem dC_twiceInner_4 : decode mC_twiceInner.2.1 4 = .ok (.bipush 6, 2) := by decide +kernel
theorem dC_twiceInner_6 : decode mC_twiceInner.2.1 6 = .ok (.if_icmp .eq 23, 3) := by decide +kernel
theorem dC_twiceInner_9 : decode mC_twiceInner.2.1 9 = .ok (.aload_n 1, 1) := by decide +kernel
theorem dC_twiceInner_10 : decode mC_twiceInner.2.1 10 = .ok (.getfield 129, 3) := by decide +kernel
theorem dC_twiceInner_13 : decode mC_twiceInner.2.1 13 = .ok (.bipush 7, 2) := by decide +kernel
theorem dC_twiceInner_15 : decode mC_twiceInner.2.1 15 = .ok (.if_icmp .eq 14, 3) := by decide +kernel
theorem dC_twiceInner_18 : decode mC_twiceInner.2.1 18 = .ok (.aload_n 1, 1) := by decide +kernel
theorem dC_twiceInner_19 : decode mC_twiceInner.2.1 19 = .ok (.getfield 129, 3) := by decide +kernel
theorem dC_twiceInner_22 : decode mC_twiceInner.2.1 22 = .ok (.bipush 11, 2) := by decide +kernel
theorem dC_twiceInner_24 : decode mC_twiceInner.2.1 24 = .ok (.if_icmp .eq 5, 3) := by decide +kernel
theorem dC_twiceInner_27 : decode mC_twiceInner.2.1 27 = .ok (.iconst (-1), 1) := by decide +kernel
theorem dC_twiceInner_28 : decode mC_twiceInner.2.1 28 = .ok (.ireturn, 1) := by decide +kernel
theorem dC_twiceInner_29 : decode mC_twiceInner.2.1 29 = .ok (.aload_n 0, 1) := by decide +kernel
theorem dC_twiceInner_30 : decode mC_twiceInner.2.1 30 = .ok (.getfield 15, 3) := by decide +kernel
theorem dC_twiceInner_33 : decode mC_twiceInner.2.1 33 = .ok (.aload_n 1, 1) := by decide +kernel
theorem dC_twiceInner_34 : decode mC_twiceInner.2.1 34 = .ok (.getfield 132, 3) := by decide +kernel
theorem dC_twiceInner_37 : decode mC_twiceInner.2.1 37 = .ok (.aaload, 1) := by decide +kernel
theorem dC_twiceInner_38 : decode mC_twiceInner.2.1 38 = .ok (.astore_n 2, 1) := by decide +kernel
theorem dC_twiceInner_39 : decode mC_twiceInner.2.1 39 = .ok (.aload_n 2, 1) := by decide +kernel
theorem dC_twiceInner_40 : decode mC_twiceInner.2.1 40 = .ok (.getfield 129, 3) := by decide +kernel
theorem dC_twiceInner_43 : decode mC_twiceInner.2.1 43 = .ok (.aload_n 1, 1) := by decide +kernel
theorem dC_twiceInner_44 : decode mC_twiceInner.2.1 44 = .ok (.getfield 129, 3) := by decide +kernel
theorem dC_twiceInner_47 : decode mC_twiceInner.2.1 47 = .ok (.if_icmp .ne 10, 3) := by decide +kernel
theorem dC_twiceInner_50 : decode mC_twiceInner.2.1 50 = .ok (.aload_n 2, 1) := by decide +kernel
theorem dC_twiceInner_51 : decode mC_twiceInner.2.1 51 = .ok (.getfield 132, 3) := by decide +kernel
theorem dC_twiceInner_54 : decode mC_twiceInner.2.1 54 = .ok (.goto 4, 3) := by decide +kernel
theorem dC_twiceInner_57 : decode mC_twiceInner.2.1 57 = .ok (.iconst (-1), 1) := by decide +kernel
theorem dC_twiceInner_58 : decode mC_twiceInner.2.1 58 = .ok (.ireturn, 1) := by decide +kernel
theorem dC_alikeOrItself_0 : decode mC_alikeOrItself.2.1 0 = .ok (.iconst 0, 1) := by decide +kernel
theorem dC_alikeOrItself_1 : decode mC_alikeOrItself.2.1 1 = .ok (.istore_n 2, 1) := by decide +kernel
theorem dC_alikeOrItself_2 : decode mC_alikeOrItself.2.1 2 = .ok (.iload_n 2, 1) := by decide +kernel
theorem dC_alikeOrItself_3 : decode mC_alikeOrItself.2.1 3 = .ok (.iload_n 1, 1) := by decide +kernel
theorem dC_alikeOrItself_4 : decode mC_alikeOrItself.2.1 4 = .ok (.if_icmp .ge 50, 3) := by decide +kernel
theorem dC_alikeOrItself_7 : decode mC_alikeOrItself.2.1 7 = .ok (.aload_n 0, 1) := by decide +kernel
theorem dC_alikeOrItself_8 : decode mC_alikeOrItself.2.1 8 = .ok (.getfield 18, 3) := by decide +kernel
theorem dC_alikeOrItself_11 : decode mC_alikeOrItself.2.1 11 = .ok (.iload_n 2, 1) := by decide +kernel
theorem dC_alikeOrItself_12 : decode mC_alikeOrItself.2.1 12 = .ok (.iaload, 1) := by decide +kernel
theorem dC_alikeOrItself_13 : decode mC_alikeOrItself.2.1 13 = .ok (.iload_n 2, 1) := by decide +kernel
theorem dC_alikeOrItself_14 : decode mC_alikeOrItself.2.1 14 = .ok (.if_icmp .ne 34, 3) := by decide +kernel
theorem dC_alikeOrItself_17 : decode mC_alikeOrItself.2.1 17 = .ok (.aload_n 0, 1) := by decide +kernel
theorem dC_alikeOrItself_18 : decode mC_alikeOrItself.2.1 18 = .ok (.getfield 15, 3) := by decide +kernel
theorem dC_alikeOrItself_21 : decode mC_alikeOrItself.2.1 21 = .ok (.iload_n 2, 1) := by decide +kernel
theorem dC_alikeOrItself_22 : decode mC_alikeOrItself.2.1 22 = .ok (.aaload, 1) := by decide +kernel
theorem dC_alikeOrItself_23 : decode mC_alikeOrItself.2.1 23 = .ok (.aload_n 0, 1) := by decide +kernel
theorem dC_alikeOrItself_24 : decode mC_alikeOrItself.2.1 24 = .ok (.getfield 15, 3) := by decide +kernel
theorem dC_alikeOrItself_27 : decode mC_alikeOrItself.2.1 27 = .ok (.iload_n 1, 1) := by decide +kernel
theorem dC_alikeOrItself_28 : decode mC_alikeOrItself.2.1 28 = .ok (.aaload, 1) := by decide +kernel
theorem dC_alikeOrItself_29 : decode mC_alikeOrItself.2.1 29 = .ok (.invokevirtual 201, 3) := by decide +kernel
theorem dC_alikeOrItself_32 : decode mC_alikeOrItself.2.1 32 = .ok (.ifCond .eq 16, 3) := by decide +kernel
theorem dC_alikeOrItself_35 : decode mC_alikeOrItself.2.1 35 = .ok (.aload_n 0, 1) := by decide +kernel
theorem dC_alikeOrItself_36 : decode mC_alikeOrItself.2.1 36 = .ok (.getfield 37, 3) := by decide +kernel
theorem dC_alikeOrItself_39 : decode mC_alikeOrItself.2.1 39 = .ok (.bipush 6, 2) := by decide +kernel
theorem dC_alikeOrItself_41 : decode mC_alikeOrItself.2.1 41 = .ok (.dup2, 1) := by decide +kernel
theorem dC_alikeOrItself_42 : decode mC_alikeOrItself.2.1 42 = .ok (.iaload, 1) := by decide +kernel
theorem dC_alikeOrItself_43 : decode mC_alikeOrItself.2.1 43 = .ok (.iconst 1, 1) := by decide +kernel
theorem dC_alikeOrItself_44 : decode mC_alikeOrItself.2.1 44 = .ok (.iadd, 1) := by decide +kernel
theorem dC_alikeOrItself_45 : decode mC_alikeOrItself.2.1 45 = .ok (.iastore, 1) := by decide +kernel
theorem dC_alikeOrItself_46 : decode mC_alikeOrItself.2.1 46 = .ok (.iload_n 2, 1) := by decide +kernel
theorem dC_alikeOrItself_47 : decode mC_alikeOrItself.2.1 47 = .ok (.ireturn, 1) := by decide +kernel
theorem dC_alikeOrItself_48 : decode mC_alikeOrItself.2.1 48 = .ok (.iinc 2 1, 3) := by decide +kernel
theorem dC_alikeOrItself_51 : decode mC_alikeOrItself.2.1 51 = .ok (.goto (-49), 3) := by decide +kernel
theorem dC_alikeOrItself_54 : decode mC_alikeOrItself.2.1 54 = .ok (.iload_n 1, 1) := by decide +kernel
theorem dC_alikeOrItself_55 : decode mC_alikeOrItself.2.1 55 = .ok (.ireturn, 1) := by decide +kernel
theorem dC_workOut_0 : decode mC_workOut.2.1 0 = .ok (.aload_n 0, 1) := by decide +kernel
theorem dC_workOut_1 : decode mC_workOut.2.1 1 = .ok (.getfield 15, 3) := by decide +kernel
theorem dC_workOut_4 : decode mC_workOut.2.1 4 = .ok (.iload_n 1, 1) := by decide +kernel
theorem dC_workOut_5 : decode mC_workOut.2.1 5 = .ok (.aaload, 1) := by decide +kernel
theorem dC_workOut_6 : decode mC_workOut.2.1 6 = .ok (.astore_n 2, 1) := by decide +kernel
theorem dC_workOut_7 : decode mC_workOut.2.1 7 = .ok (.iconst 0, 1) := by decide +kernel
theorem dC_workOut_8 : decode mC_workOut.2.1 8 = .ok (.istore_n 3, 1) := by decide +kernel
theorem dC_workOut_9 : decode mC_workOut.2.1 9 = .ok (.iload_n 3, 1) := by decide +kernel
theorem dC_workOut_10 : decode mC_workOut.2.1 10 = .ok (.aload_n 2, 1) := by decide +kernel
theorem dC_workOut_11 : decode mC_workOut.2.1 11 = .ok (.getfield 83, 3) := by decide +kernel
theorem dC_workOut_14 : decode mC_workOut.2.1 14 = .ok (.if_icmp .ge 51, 3) := by decide +kernel
theorem dC_workOut_17 : decode mC_workOut.2.1 17 = .ok (.iconst 0, 1) := by decide +kernel
theorem dC_workOut_18 : decode mC_workOut.2.1 18 = .ok (.istore 4, 2) := by decide +kernel
theorem dC_workOut_20 : decode mC_workOut.2.1 20 = .ok (.iload 4, 2) := by decide +kernel
theorem dC_workOut_22 : decode mC_workOut.2.1 22 = .ok (.aload_n 2, 1) := by decide +kernel
theorem dC_workOut_23 : decode mC_workOut.2.1 23 = .ok (.getfield 89, 3) := by decide +kernel
theorem dC_workOut_26 : decode mC_workOut.2.1 26 = .ok (.if_icmp .ge 33, 3) := by decide +kernel
theorem dC_workOut_29 : decode mC_workOut.2.1 29 = .ok (.aload_n 0, 1) := by decide +kernel
theorem dC_workOut_30 : decode mC_workOut.2.1 30 = .ok (.getfield 31, 3) := by decide +kernel
theorem dC_workOut_33 : decode mC_workOut.2.1 33 = .ok (.iload_n 1, 1) := by decide +kernel
theorem dC_workOut_34 : decode mC_workOut.2.1 34 = .ok (.aaload, 1) := by decide +kernel
theorem dC_workOut_35 : decode mC_workOut.2.1 35 = .ok (.iload_n 3, 1) := by decide +kernel
theorem dC_workOut_36 : decode mC_workOut.2.1 36 = .ok (.aload_n 2, 1) := by decide +kernel
theorem dC_workOut_37 : decode mC_workOut.2.1 37 = .ok (.getfield 89, 3) := by decide +kernel
theorem dC_workOut_40 : decode mC_workOut.2.1 40 = .ok (.imul, 1) := by decide +kernel
theorem dC_workOut_41 : decode mC_workOut.2.1 41 = .ok (.iload 4, 2) := by decide +kernel
theorem dC_workOut_43 : decode mC_workOut.2.1 43 = .ok (.iadd, 1) := by decide +kernel
theorem dC_workOut_44 : decode mC_workOut.2.1 44 = .ok (.aload_n 0, 1) := by decide +kernel
theorem dC_workOut_45 : decode mC_workOut.2.1 45 = .ok (.aload_n 2, 1) := by decide +kernel
theorem dC_workOut_46 : decode mC_workOut.2.1 46 = .ok (.iload_n 3, 1) := by decide +kernel
theorem dC_workOut_47 : decode mC_workOut.2.1 47 = .ok (.iload 4, 2) := by decide +kernel
theorem dC_workOut_49 : decode mC_workOut.2.1 49 = .ok (.invokevirtual 204, 3) := by decide +kernel
theorem dC_workOut_52 : decode mC_workOut.2.1 52 = .ok (.iastore, 1) := by decide +kernel
theorem dC_workOut_53 : decode mC_workOut.2.1 53 = .ok (.iinc 4 1, 3) := by decide +kernel
theorem dC_workOut_56 : decode mC_workOut.2.1 56 = .ok (.goto (-36), 3) := by decide +kernel
theorem dC_workOut_59 : decode mC_workOut.2.1 59 = .ok (.iinc 3 1, 3) := by decide +kernel
theorem dC_workOut_62 : decode mC_workOut.2.1 62 = .ok (.goto (-53), 3) := by decide +kernel
theorem dC_workOut_65 : decode mC_workOut.2.1 65 = .ok (.return_, 1) := by decide +kernel
theorem dC_workedCell_0 : decode mC_workedCell.2.1 0 = .ok (.aload_n 1, 1) := by decide +kernel
theorem dC_workedCell_1 : decode mC_workedCell.2.1 1 = .ok (.getfield 129, 3) := by decide +kernel
theorem dC_workedCell_4 : decode mC_workedCell.2.1 4 = .ok (.tableswitch 256 0 11 #[64, 80, 85, 98, 120, 142, 166, 178, 189, 197, 226, 237], 64) := by decide +kernel
theorem dC_workedCell_68 : decode mC_workedCell.2.1 68 = .ok (.aload_n 0, 1) := by decide +kernel
theorem dC_workedCell_69 : decode mC_workedCell.2.1 69 = .ok (.getfield 34, 3) := by decide +kernel
theorem dC_workedCell_72 : decode mC_workedCell.2.1 72 = .ok (.aload_n 1, 1) := by decide +kernel
theorem dC_workedCell_73 : decode mC_workedCell.2.1 73 = .ok (.getfield 138, 3) := by decide +kernel
theorem dC_workedCell_76 : decode mC_workedCell.2.1 76 = .ok (.aaload, 1) := by decide +kernel
theorem dC_workedCell_77 : decode mC_workedCell.2.1 77 = .ok (.iload_n 2, 1) := by decide +kernel
theorem dC_workedCell_78 : decode mC_workedCell.2.1 78 = .ok (.iconst 4, 1) := by decide +kernel
theorem dC_workedCell_79 : decode mC_workedCell.2.1 79 = .ok (.imul, 1) := by decide +kernel
theorem dC_workedCell_80 : decode mC_workedCell.2.1 80 = .ok (.iload_n 3, 1) := by decide +kernel
theorem dC_workedCell_81 : decode mC_workedCell.2.1 81 = .ok (.iadd, 1) := by decide +kernel
theorem dC_workedCell_82 : decode mC_workedCell.2.1 82 = .ok (.iaload, 1) := by decide +kernel
theorem dC_workedCell_83 : decode mC_workedCell.2.1 83 = .ok (.ireturn, 1) := by decide +kernel
theorem dC_workedCell_84 : decode mC_workedCell.2.1 84 = .ok (.aload_n 1, 1) := by decide +kernel
theorem dC_workedCell_85 : decode mC_workedCell.2.1 85 = .ok (.getfield 138, 3) := by decide +kernel
theorem dC_workedCell_88 : decode mC_workedCell.2.1 88 = .ok (.ireturn, 1) := by decide +kernel
theorem dC_workedCell_89 : decode mC_workedCell.2.1 89 = .ok (.aload_n 1, 1) := by decide +kernel
theorem dC_workedCell_90 : decode mC_workedCell.2.1 90 = .ok (.getfield 138, 3) := by decide +kernel
theorem dC_workedCell_93 : decode mC_workedCell.2.1 93 = .ok (.ifCond .ne 7, 3) := by decide +kernel
theorem dC_workedCell_96 : decode mC_workedCell.2.1 96 = .ok (.iload_n 2, 1) := by decide +kernel
theorem dC_workedCell_97 : decode mC_workedCell.2.1 97 = .ok (.goto 4, 3) := by decide +kernel
theorem dC_workedCell_100 : decode mC_workedCell.2.1 100 = .ok (.iload_n 3, 1) := by decide +kernel
theorem dC_workedCell_101 : decode mC_workedCell.2.1 101 = .ok (.ireturn, 1) := by decide +kernel
theorem dC_workedCell_102 : decode mC_workedCell.2.1 102 = .ok (.aload_n 0, 1) := by decide +kernel
theorem dC_workedCell_103 : decode mC_workedCell.2.1 103 = .ok (.aload_n 1, 1) := by decide +kernel
theorem dC_workedCell_104 : decode mC_workedCell.2.1 104 = .ok (.getfield 132, 3) := by decide +kernel
theorem dC_workedCell_107 : decode mC_workedCell.2.1 107 = .ok (.iload_n 2, 1) := by decide +kernel
theorem dC_workedCell_108 : decode mC_workedCell.2.1 108 = .ok (.iload_n 3, 1) := by decide +kernel
theorem dC_workedCell_109 : decode mC_workedCell.2.1 109 = .ok (.invokevirtual 125, 3) := by decide +kernel
theorem dC_workedCell_112 : decode mC_workedCell.2.1 112 = .ok (.aload_n 0, 1) := by decide +kernel
theorem dC_workedCell_113 : decode mC_workedCell.2.1 113 = .ok (.aload_n 1, 1) := by decide +kernel
theorem dC_workedCell_114 : decode mC_workedCell.2.1 114 = .ok (.getfield 135, 3) := by decide +kernel
theorem dC_workedCell_117 : decode mC_workedCell.2.1 117 = .ok (.iload_n 2, 1) := by decide +kernel
theorem dC_workedCell_118 : decode mC_workedCell.2.1 118 = .ok (.iload_n 3, 1) := by decide +kernel
theorem dC_workedCell_119 : decode mC_workedCell.2.1 119 = .ok (.invokevirtual 125, 3) := by decide +kernel
theorem dC_workedCell_122 : decode mC_workedCell.2.1 122 = .ok (.iadd, 1) := by decide +kernel
theorem dC_workedCell_123 : decode mC_workedCell.2.1 123 = .ok (.ireturn, 1) := by decide +kernel
theorem dC_workedCell_124 : decode mC_workedCell.2.1 124 = .ok (.aload_n 0, 1) := by decide +kernel
theorem dC_workedCell_125 : decode mC_workedCell.2.1 125 = .ok (.aload_n 1, 1) := by decide +kernel
theorem dC_workedCell_126 : decode mC_workedCell.2.1 126 = .ok (.getfield 132, 3) := by decide +kernel
theorem dC_workedCell_129 : decode mC_workedCell.2.1 129 = .ok (.iload_n 2, 1) := by decide +kernel
theorem dC_workedCell_130 : decode mC_workedCell.2.1 130 = .ok (.iload_n 3, 1) := by decide +kernel
theorem dC_workedCell_131 : decode mC_workedCell.2.1 131 = .ok (.invokevirtual 125, 3) := by decide +kernel
theorem dC_workedCell_134 : decode mC_workedCell.2.1 134 = .ok (.aload_n 0, 1) := by decide +kernel
theorem dC_workedCell_135 : decode mC_workedCell.2.1 135 = .ok (.aload_n 1, 1) := by decide +kernel
theorem dC_workedCell_136 : decode mC_workedCell.2.1 136 = .ok (.getfield 135, 3) := by decide +kernel
theorem dC_workedCell_139 : decode mC_workedCell.2.1 139 = .ok (.iload_n 2, 1) := by decide +kernel
theorem dC_workedCell_140 : decode mC_workedCell.2.1 140 = .ok (.iload_n 3, 1) := by decide +kernel
theorem dC_workedCell_141 : decode mC_workedCell.2.1 141 = .ok (.invokevirtual 125, 3) := by decide +kernel
theorem dC_workedCell_144 : decode mC_workedCell.2.1 144 = .ok (.imul, 1) := by decide +kernel
theorem dC_workedCell_145 : decode mC_workedCell.2.1 145 = .ok (.ireturn, 1) := by decide +kernel
theorem dC_workedCell_146 : decode mC_workedCell.2.1 146 = .ok (.aload_n 0, 1) := by decide +kernel
theorem dC_workedCell_147 : decode mC_workedCell.2.1 147 = .ok (.aload_n 1, 1) := by decide +kernel
theorem dC_workedCell_148 : decode mC_workedCell.2.1 148 = .ok (.getfield 132, 3) := by decide +kernel
theorem dC_workedCell_151 : decode mC_workedCell.2.1 151 = .ok (.iload_n 2, 1) := by decide +kernel
theorem dC_workedCell_152 : decode mC_workedCell.2.1 152 = .ok (.iload_n 3, 1) := by decide +kernel
theorem dC_workedCell_153 : decode mC_workedCell.2.1 153 = .ok (.invokevirtual 125, 3) := by decide +kernel
theorem dC_workedCell_156 : decode mC_workedCell.2.1 156 = .ok (.aload_n 0, 1) := by decide +kernel
theorem dC_workedCell_157 : decode mC_workedCell.2.1 157 = .ok (.aload_n 1, 1) := by decide +kernel
theorem dC_workedCell_158 : decode mC_workedCell.2.1 158 = .ok (.getfield 135, 3) := by decide +kernel
theorem dC_workedCell_161 : decode mC_workedCell.2.1 161 = .ok (.iload_n 2, 1) := by decide +kernel
theorem dC_workedCell_162 : decode mC_workedCell.2.1 162 = .ok (.iload_n 3, 1) := by decide +kernel
theorem dC_workedCell_163 : decode mC_workedCell.2.1 163 = .ok (.invokevirtual 125, 3) := by decide +kernel
theorem dC_workedCell_166 : decode mC_workedCell.2.1 166 = .ok (.invokestatic 193, 3) := by decide +kernel
theorem dC_workedCell_169 : decode mC_workedCell.2.1 169 = .ok (.ireturn, 1) := by decide +kernel
theorem dC_workedCell_170 : decode mC_workedCell.2.1 170 = .ok (.aload_n 0, 1) := by decide +kernel
theorem dC_workedCell_171 : decode mC_workedCell.2.1 171 = .ok (.aload_n 1, 1) := by decide +kernel
theorem dC_workedCell_172 : decode mC_workedCell.2.1 172 = .ok (.getfield 132, 3) := by decide +kernel
theorem dC_workedCell_175 : decode mC_workedCell.2.1 175 = .ok (.iload_n 2, 1) := by decide +kernel
theorem dC_workedCell_176 : decode mC_workedCell.2.1 176 = .ok (.iload_n 3, 1) := by decide +kernel
theorem dC_workedCell_177 : decode mC_workedCell.2.1 177 = .ok (.invokevirtual 125, 3) := by decide +kernel
theorem dC_workedCell_180 : decode mC_workedCell.2.1 180 = .ok (.ineg, 1) := by decide +kernel
theorem dC_workedCell_181 : decode mC_workedCell.2.1 181 = .ok (.ireturn, 1) := by decide +kernel
theorem dC_workedCell_182 : decode mC_workedCell.2.1 182 = .ok (.aload_n 0, 1) := by decide +kernel
theorem dC_workedCell_183 : decode mC_workedCell.2.1 183 = .ok (.aload_n 1, 1) := by decide +kernel
theorem dC_workedCell_184 : decode mC_workedCell.2.1 184 = .ok (.getfield 132, 3) := by decide +kernel
theorem dC_workedCell_187 : decode mC_workedCell.2.1 187 = .ok (.iload_n 3, 1) := by decide +kernel
theorem dC_workedCell_188 : decode mC_workedCell.2.1 188 = .ok (.iload_n 2, 1) := by decide +kernel
theorem dC_workedCell_189 : decode mC_workedCell.2.1 189 = .ok (.invokevirtual 125, 3) := by decide +kernel
theorem dC_workedCell_192 : decode mC_workedCell.2.1 192 = .ok (.ireturn, 1) := by decide +kernel
theorem dC_workedCell_193 : decode mC_workedCell.2.1 193 = .ok (.aload_n 0, 1) := by decide +kernel
theorem dC_workedCell_194 : decode mC_workedCell.2.1 194 = .ok (.aload_n 1, 1) := by decide +kernel
theorem dC_workedCell_195 : decode mC_workedCell.2.1 195 = .ok (.iload_n 2, 1) := by decide +kernel
theorem dC_workedCell_196 : decode mC_workedCell.2.1 196 = .ok (.iload_n 3, 1) := by decide +kernel
theorem dC_workedCell_197 : decode mC_workedCell.2.1 197 = .ok (.invokevirtual 208, 3) := by decide +kernel
theorem dC_workedCell_200 : decode mC_workedCell.2.1 200 = .ok (.ireturn, 1) := by decide +kernel
theorem dC_workedCell_201 : decode mC_workedCell.2.1 201 = .ok (.aload_n 1, 1) := by decide +kernel
theorem dC_workedCell_202 : decode mC_workedCell.2.1 202 = .ok (.getfield 138, 3) := by decide +kernel
theorem dC_workedCell_205 : decode mC_workedCell.2.1 205 = .ok (.ifCond .ne 15, 3) := by decide +kernel
theorem dC_workedCell_208 : decode mC_workedCell.2.1 208 = .ok (.aload_n 0, 1) := by decide +kernel
theorem dC_workedCell_209 : decode mC_workedCell.2.1 209 = .ok (.aload_n 1, 1) := by decide +kernel
theorem dC_workedCell_210 : decode mC_workedCell.2.1 210 = .ok (.getfield 132, 3) := by decide +kernel
theorem dC_workedCell_213 : decode mC_workedCell.2.1 213 = .ok (.iload_n 3, 1) := by decide +kernel
theorem dC_workedCell_214 : decode mC_workedCell.2.1 214 = .ok (.invokevirtual 211, 3) := by decide +kernel
theorem dC_workedCell_217 : decode mC_workedCell.2.1 217 = .ok (.goto 12, 3) := by decide +kernel
theorem dC_workedCell_220 : decode mC_workedCell.2.1 220 = .ok (.aload_n 0, 1) := by decide +kernel
theorem dC_workedCell_221 : decode mC_workedCell.2.1 221 = .ok (.aload_n 1, 1) := by decide +kernel
theorem dC_workedCell_222 : decode mC_workedCell.2.1 222 = .ok (.getfield 132, 3) := by decide +kernel
theorem dC_workedCell_225 : decode mC_workedCell.2.1 225 = .ok (.iload_n 2, 1) := by decide +kernel
theorem dC_workedCell_226 : decode mC_workedCell.2.1 226 = .ok (.invokevirtual 214, 3) := by decide +kernel
theorem dC_workedCell_229 : decode mC_workedCell.2.1 229 = .ok (.ireturn, 1) := by decide +kernel
theorem dC_workedCell_230 : decode mC_workedCell.2.1 230 = .ok (.aload_n 0, 1) := by decide +kernel
theorem dC_workedCell_231 : decode mC_workedCell.2.1 231 = .ok (.aload_n 1, 1) := by decide +kernel
theorem dC_workedCell_232 : decode mC_workedCell.2.1 232 = .ok (.getfield 132, 3) := by decide +kernel
theorem dC_workedCell_235 : decode mC_workedCell.2.1 235 = .ok (.iload_n 2, 1) := by decide +kernel
theorem dC_workedCell_236 : decode mC_workedCell.2.1 236 = .ok (.iload_n 3, 1) := by decide +kernel
theorem dC_workedCell_237 : decode mC_workedCell.2.1 237 = .ok (.invokevirtual 217, 3) := by decide +kernel
theorem dC_workedCell_240 : decode mC_workedCell.2.1 240 = .ok (.ireturn, 1) := by decide +kernel
theorem dC_workedCell_241 : decode mC_workedCell.2.1 241 = .ok (.aload_n 0, 1) := by decide +kernel
theorem dC_workedCell_242 : decode mC_workedCell.2.1 242 = .ok (.getfield 31, 3) := by decide +kernel
theorem dC_workedCell_245 : decode mC_workedCell.2.1 245 = .ok (.aload_n 1, 1) := by decide +kernel
theorem dC_workedCell_246 : decode mC_workedCell.2.1 246 = .ok (.getfield 132, 3) := by decide +kernel
theorem dC_workedCell_249 : decode mC_workedCell.2.1 249 = .ok (.aaload, 1) := by decide +kernel
theorem dC_workedCell_250 : decode mC_workedCell.2.1 250 = .ok (.iload_n 2, 1) := by decide +kernel
theorem dC_workedCell_251 : decode mC_workedCell.2.1 251 = .ok (.aload_n 1, 1) := by decide +kernel
theorem dC_workedCell_252 : decode mC_workedCell.2.1 252 = .ok (.getfield 89, 3) := by decide +kernel
theorem dC_workedCell_255 : decode mC_workedCell.2.1 255 = .ok (.imul, 1) := by decide +kernel
theorem dC_workedCell_256 : decode mC_workedCell.2.1 256 = .ok (.iload_n 3, 1) := by decide +kernel
theorem dC_workedCell_257 : decode mC_workedCell.2.1 257 = .ok (.iadd, 1) := by decide +kernel
theorem dC_workedCell_258 : decode mC_workedCell.2.1 258 = .ok (.iaload, 1) := by decide +kernel
theorem dC_workedCell_259 : decode mC_workedCell.2.1 259 = .ok (.ireturn, 1) := by decide +kernel
theorem dC_workedCell_260 : decode mC_workedCell.2.1 260 = .ok (.aload_n 0, 1) := by decide +kernel
theorem dC_workedCell_261 : decode mC_workedCell.2.1 261 = .ok (.aload_n 1, 1) := by decide +kernel
theorem dC_workedCell_262 : decode mC_workedCell.2.1 262 = .ok (.getfield 132, 3) := by decide +kernel
theorem dC_workedCell_265 : decode mC_workedCell.2.1 265 = .ok (.aload_n 1, 1) := by decide +kernel
theorem dC_workedCell_266 : decode mC_workedCell.2.1 266 = .ok (.getfield 138, 3) := by decide +kernel
theorem dC_workedCell_269 : decode mC_workedCell.2.1 269 = .ok (.iload_n 2, 1) := by decide +kernel
theorem dC_workedCell_270 : decode mC_workedCell.2.1 270 = .ok (.iadd, 1) := by decide +kernel
theorem dC_workedCell_271 : decode mC_workedCell.2.1 271 = .ok (.aload_n 1, 1) := by decide +kernel
theorem dC_workedCell_272 : decode mC_workedCell.2.1 272 = .ok (.getfield 141, 3) := by decide +kernel
theorem dC_workedCell_275 : decode mC_workedCell.2.1 275 = .ok (.iload_n 3, 1) := by decide +kernel
theorem dC_workedCell_276 : decode mC_workedCell.2.1 276 = .ok (.iadd, 1) := by decide +kernel
theorem dC_workedCell_277 : decode mC_workedCell.2.1 277 = .ok (.invokevirtual 125, 3) := by decide +kernel
theorem dC_workedCell_280 : decode mC_workedCell.2.1 280 = .ok (.ireturn, 1) := by decide +kernel
theorem dC_cellAt_0 : decode mC_cellAt.2.1 0 = .ok (.aload_n 0, 1) := by decide +kernel
theorem dC_cellAt_1 : decode mC_cellAt.2.1 1 = .ok (.getfield 31, 3) := by decide +kernel
theorem dC_cellAt_4 : decode mC_cellAt.2.1 4 = .ok (.iload_n 1, 1) := by decide +kernel
theorem dC_cellAt_5 : decode mC_cellAt.2.1 5 = .ok (.aaload, 1) := by decide +kernel
theorem dC_cellAt_6 : decode mC_cellAt.2.1 6 = .ok (.iload_n 2, 1) := by decide +kernel
theorem dC_cellAt_7 : decode mC_cellAt.2.1 7 = .ok (.aload_n 0, 1) := by decide +kernel
theorem dC_cellAt_8 : decode mC_cellAt.2.1 8 = .ok (.getfield 15, 3) := by decide +kernel
theorem dC_cellAt_11 : decode mC_cellAt.2.1 11 = .ok (.iload_n 1, 1) := by decide +kernel
theorem dC_cellAt_12 : decode mC_cellAt.2.1 12 = .ok (.aaload, 1) := by decide +kernel
theorem dC_cellAt_13 : decode mC_cellAt.2.1 13 = .ok (.getfield 89, 3) := by decide +kernel
theorem dC_cellAt_16 : decode mC_cellAt.2.1 16 = .ok (.imul, 1) := by decide +kernel
theorem dC_cellAt_17 : decode mC_cellAt.2.1 17 = .ok (.iload_n 3, 1) := by decide +kernel
theorem dC_cellAt_18 : decode mC_cellAt.2.1 18 = .ok (.iadd, 1) := by decide +kernel
theorem dC_cellAt_19 : decode mC_cellAt.2.1 19 = .ok (.iaload, 1) := by decide +kernel
theorem dC_cellAt_20 : decode mC_cellAt.2.1 20 = .ok (.ireturn, 1) := by decide +kernel
theorem dC_dotCell_0 : decode mC_dotCell.2.1 0 = .ok (.iconst 0, 1) := by decide +kernel
theorem dC_dotCell_1 : decode mC_dotCell.2.1 1 = .ok (.istore 4, 2) := by decide +kernel
theorem dC_dotCell_3 : decode mC_dotCell.2.1 3 = .ok (.iconst 0, 1) := by decide +kernel
theorem dC_dotCell_4 : decode mC_dotCell.2.1 4 = .ok (.istore 5, 2) := by decide +kernel
theorem dC_dotCell_6 : decode mC_dotCell.2.1 6 = .ok (.iload 5, 2) := by decide +kernel
theorem dC_dotCell_8 : decode mC_dotCell.2.1 8 = .ok (.aload_n 0, 1) := by decide +kernel
theorem dC_dotCell_9 : decode mC_dotCell.2.1 9 = .ok (.getfield 15, 3) := by decide +kernel
theorem dC_dotCell_12 : decode mC_dotCell.2.1 12 = .ok (.aload_n 1, 1) := by decide +kernel
theorem dC_dotCell_13 : decode mC_dotCell.2.1 13 = .ok (.getfield 132, 3) := by decide +kernel
theorem dC_dotCell_16 : decode mC_dotCell.2.1 16 = .ok (.aaload, 1) := by decide +kernel
theorem dC_dotCell_17 : decode mC_dotCell.2.1 17 = .ok (.getfield 89, 3) := by decide +kernel
theorem dC_dotCell_20 : decode mC_dotCell.2.1 20 = .ok (.if_icmp .ge 37, 3) := by decide +kernel
theorem dC_dotCell_23 : decode mC_dotCell.2.1 23 = .ok (.iload 4, 2) := by decide +kernel
theorem dC_dotCell_25 : decode mC_dotCell.2.1 25 = .ok (.aload_n 0, 1) := by decide +kernel
theorem dC_dotCell_26 : decode mC_dotCell.2.1 26 = .ok (.aload_n 1, 1) := by decide +kernel
theorem dC_dotCell_27 : decode mC_dotCell.2.1 27 = .ok (.getfield 132, 3) := by decide +kernel
theorem dC_dotCell_30 : decode mC_dotCell.2.1 30 = .ok (.iload_n 2, 1) := by decide +kernel
theorem dC_dotCell_31 : decode mC_dotCell.2.1 31 = .ok (.iload 5, 2) := by decide +kernel
theorem dC_dotCell_33 : decode mC_dotCell.2.1 33 = .ok (.invokevirtual 125, 3) := by decide +kernel
theorem dC_dotCell_36 : decode mC_dotCell.2.1 36 = .ok (.aload_n 0, 1) := by decide +kernel
theorem dC_dotCell_37 : decode mC_dotCell.2.1 37 = .ok (.aload_n 1, 1) := by decide +kernel
theorem dC_dotCell_38 : decode mC_dotCell.2.1 38 = .ok (.getfield 135, 3) := by decide +kernel
theorem dC_dotCell_41 : decode mC_dotCell.2.1 41 = .ok (.iload 5, 2) := by decide +kernel
theorem dC_dotCell_43 : decode mC_dotCell.2.1 43 = .ok (.iload_n 3, 1) := by decide +kernel
theorem dC_dotCell_44 : decode mC_dotCell.2.1 44 = .ok (.invokevirtual 125, 3) := by decide +kernel
theorem dC_dotCell_47 : decode mC_dotCell.2.1 47 = .ok (.imul, 1) := by decide +kernel
theorem dC_dotCell_48 : decode mC_dotCell.2.1 48 = .ok (.iadd, 1) := by decide +kernel
theorem dC_dotCell_49 : decode mC_dotCell.2.1 49 = .ok (.istore 4, 2) := by decide +kernel
theorem dC_dotCell_51 : decode mC_dotCell.2.1 51 = .ok (.iinc 5 1, 3) := by decide +kernel
theorem dC_dotCell_54 : decode mC_dotCell.2.1 54 = .ok (.goto (-48), 3) := by decide +kernel
theorem dC_dotCell_57 : decode mC_dotCell.2.1 57 = .ok (.iload 4, 2) := by decide +kernel
theorem dC_dotCell_59 : decode mC_dotCell.2.1 59 = .ok (.ireturn, 1) := by decide +kernel
theorem dC_sumOfColumn_0 : decode mC_sumOfColumn.2.1 0 = .ok (.iconst 0, 1) := by decide +kernel
theorem dC_sumOfColumn_1 : decode mC_sumOfColumn.2.1 1 = .ok (.istore_n 3, 1) := by decide +kernel
theorem dC_sumOfColumn_2 : decode mC_sumOfColumn.2.1 2 = .ok (.iconst 0, 1) := by decide +kernel
theorem dC_sumOfColumn_3 : decode mC_sumOfColumn.2.1 3 = .ok (.istore 4, 2) := by decide +kernel
theorem dC_sumOfColumn_5 : decode mC_sumOfColumn.2.1 5 = .ok (.iload 4, 2) := by decide +kernel
theorem dC_sumOfColumn_7 : decode mC_sumOfColumn.2.1 7 = .ok (.aload_n 0, 1) := by decide +kernel
theorem dC_sumOfColumn_8 : decode mC_sumOfColumn.2.1 8 = .ok (.getfield 15, 3) := by decide +kernel
theorem dC_sumOfColumn_11 : decode mC_sumOfColumn.2.1 11 = .ok (.iload_n 1, 1) := by decide +kernel
theorem dC_sumOfColumn_12 : decode mC_sumOfColumn.2.1 12 = .ok (.aaload, 1) := by decide +kernel
theorem dC_sumOfColumn_13 : decode mC_sumOfColumn.2.1 13 = .ok (.getfield 83, 3) := by decide +kernel
theorem dC_sumOfColumn_16 : decode mC_sumOfColumn.2.1 16 = .ok (.if_icmp .ge 20, 3) := by decide +kernel
theorem dC_sumOfColumn_19 : decode mC_sumOfColumn.2.1 19 = .ok (.iload_n 3, 1) := by decide +kernel
theorem dC_sumOfColumn_20 : decode mC_sumOfColumn.2.1 20 = .ok (.aload_n 0, 1) := by decide +kernel
theorem dC_sumOfColumn_21 : decode mC_sumOfColumn.2.1 21 = .ok (.iload_n 1, 1) := by decide +kernel
theorem dC_sumOfColumn_22 : decode mC_sumOfColumn.2.1 22 = .ok (.iload 4, 2) := by decide +kernel
theorem dC_sumOfColumn_24 : decode mC_sumOfColumn.2.1 24 = .ok (.iload_n 2, 1) := by decide +kernel
theorem dC_sumOfColumn_25 : decode mC_sumOfColumn.2.1 25 = .ok (.invokevirtual 125, 3) := by decide +kernel
theorem dC_sumOfColumn_28 : decode mC_sumOfColumn.2.1 28 = .ok (.iadd, 1) := by decide +kernel
theorem dC_sumOfColumn_29 : decode mC_sumOfColumn.2.1 29 = .ok (.istore_n 3, 1) := by decide +kernel
theorem dC_sumOfColumn_30 : decode mC_sumOfColumn.2.1 30 = .ok (.iinc 4 1, 3) := by decide +kernel
theorem dC_sumOfColumn_33 : decode mC_sumOfColumn.2.1 33 = .ok (.goto (-28), 3) := by decide +kernel
theorem dC_sumOfColumn_36 : decode mC_sumOfColumn.2.1 36 = .ok (.iload_n 3, 1) := by decide +kernel
theorem dC_sumOfColumn_37 : decode mC_sumOfColumn.2.1 37 = .ok (.ireturn, 1) := by decide +kernel
theorem dC_sumOfRow_0 : decode mC_sumOfRow.2.1 0 = .ok (.iconst 0, 1) := by decide +kernel
theorem dC_sumOfRow_1 : decode mC_sumOfRow.2.1 1 = .ok (.istore_n 3, 1) := by decide +kernel
theorem dC_sumOfRow_2 : decode mC_sumOfRow.2.1 2 = .ok (.iconst 0, 1) := by decide +kernel
theorem dC_sumOfRow_3 : decode mC_sumOfRow.2.1 3 = .ok (.istore 4, 2) := by decide +kernel
theorem dC_sumOfRow_5 : decode mC_sumOfRow.2.1 5 = .ok (.iload 4, 2) := by decide +kernel
theorem dC_sumOfRow_7 : decode mC_sumOfRow.2.1 7 = .ok (.aload_n 0, 1) := by decide +kernel
theorem dC_sumOfRow_8 : decode mC_sumOfRow.2.1 8 = .ok (.getfield 15, 3) := by decide +kernel
theorem dC_sumOfRow_11 : decode mC_sumOfRow.2.1 11 = .ok (.iload_n 1, 1) := by decide +kernel
theorem dC_sumOfRow_12 : decode mC_sumOfRow.2.1 12 = .ok (.aaload, 1) := by decide +kernel
theorem dC_sumOfRow_13 : decode mC_sumOfRow.2.1 13 = .ok (.getfield 89, 3) := by decide +kernel
theorem dC_sumOfRow_16 : decode mC_sumOfRow.2.1 16 = .ok (.if_icmp .ge 20, 3) := by decide +kernel
theorem dC_sumOfRow_19 : decode mC_sumOfRow.2.1 19 = .ok (.iload_n 3, 1) := by decide +kernel
theorem dC_sumOfRow_20 : decode mC_sumOfRow.2.1 20 = .ok (.aload_n 0, 1) := by decide +kernel
theorem dC_sumOfRow_21 : decode mC_sumOfRow.2.1 21 = .ok (.iload_n 1, 1) := by decide +kernel
theorem dC_sumOfRow_22 : decode mC_sumOfRow.2.1 22 = .ok (.iload_n 2, 1) := by decide +kernel
theorem dC_sumOfRow_23 : decode mC_sumOfRow.2.1 23 = .ok (.iload 4, 2) := by decide +kernel
theorem dC_sumOfRow_25 : decode mC_sumOfRow.2.1 25 = .ok (.invokevirtual 125, 3) := by decide +kernel
theorem dC_sumOfRow_28 : decode mC_sumOfRow.2.1 28 = .ok (.iadd, 1) := by decide +kernel
theorem dC_sumOfRow_29 : decode mC_sumOfRow.2.1 29 = .ok (.istore_n 3, 1) := by decide +kernel
theorem dC_sumOfRow_30 : decode mC_sumOfRow.2.1 30 = .ok (.iinc 4 1, 3) := by decide +kernel
theorem dC_sumOfRow_33 : decode mC_sumOfRow.2.1 33 = .ok (.goto (-28), 3) := by decide +kernel
theorem dC_sumOfRow_36 : decode mC_sumOfRow.2.1 36 = .ok (.iload_n 3, 1) := by decide +kernel
theorem dC_sumOfRow_37 : decode mC_sumOfRow.2.1 37 = .ok (.ireturn, 1) := by decide +kernel
theorem dC_spreadCell_0 : decode mC_spreadCell.2.1 0 = .ok (.aload_n 0, 1) := by decide +kernel
theorem dC_spreadCell_1 : decode mC_spreadCell.2.1 1 = .ok (.iload_n 1, 1) := by decide +kernel
theorem dC_spreadCell_2 : decode mC_spreadCell.2.1 2 = .ok (.aload_n 0, 1) := by decide +kernel
theorem dC_spreadCell_3 : decode mC_spreadCell.2.1 3 = .ok (.getfield 15, 3) := by decide +kernel
theorem dC_spreadCell_6 : decode mC_spreadCell.2.1 6 = .ok (.iload_n 1, 1) := by decide +kernel
theorem dC_spreadCell_7 : decode mC_spreadCell.2.1 7 = .ok (.aaload, 1) := by decide +kernel
theorem dC_spreadCell_8 : decode mC_spreadCell.2.1 8 = .ok (.getfield 83, 3) := by decide +kernel
theorem dC_spreadCell_11 : decode mC_spreadCell.2.1 11 = .ok (.iconst 1, 1) := by decide +kernel
theorem dC_spreadCell_12 : decode mC_spreadCell.2.1 12 = .ok (.if_icmp .ne 7, 3) := by decide +kernel
theorem dC_spreadCell_15 : decode mC_spreadCell.2.1 15 = .ok (.iconst 0, 1) := by decide +kernel
theorem dC_spreadCell_16 : decode mC_spreadCell.2.1 16 = .ok (.goto 4, 3) := by decide +kernel
theorem dC_spreadCell_19 : decode mC_spreadCell.2.1 19 = .ok (.iload_n 2, 1) := by decide +kernel
theorem dC_spreadCell_20 : decode mC_spreadCell.2.1 20 = .ok (.aload_n 0, 1) := by decide +kernel
theorem dC_spreadCell_21 : decode mC_spreadCell.2.1 21 = .ok (.getfield 15, 3) := by decide +kernel
theorem dC_spreadCell_24 : decode mC_spreadCell.2.1 24 = .ok (.iload_n 1, 1) := by decide +kernel
theorem dC_spreadCell_25 : decode mC_spreadCell.2.1 25 = .ok (.aaload, 1) := by decide +kernel
theorem dC_spreadCell_26 : decode mC_spreadCell.2.1 26 = .ok (.getfield 89, 3) := by decide +kernel
theorem dC_spreadCell_29 : decode mC_spreadCell.2.1 29 = .ok (.iconst 1, 1) := by decide +kernel
theorem dC_spreadCell_30 : decode mC_spreadCell.2.1 30 = .ok (.if_icmp .ne 7, 3) := by decide +kernel
theorem dC_spreadCell_33 : decode mC_spreadCell.2.1 33 = .ok (.iconst 0, 1) := by decide +kernel
theorem dC_spreadCell_34 : decode mC_spreadCell.2.1 34 = .ok (.goto 4, 3) := by decide +kernel
theorem dC_spreadCell_37 : decode mC_spreadCell.2.1 37 = .ok (.iload_n 3, 1) := by decide +kernel
theorem dC_spreadCell_38 : decode mC_spreadCell.2.1 38 = .ok (.invokevirtual 125, 3) := by decide +kernel
theorem dC_spreadCell_41 : decode mC_spreadCell.2.1 41 = .ok (.ireturn, 1) := by decide +kernel
end
section
theorem dM_init_0 : decode mM_init.2.1 0 = .ok (.aload_n 0, 1) := by decide +kernel
theorem dM_init_1 : decode mM_init.2.1 1 = .ok (.invokespecial 1, 3) := by decide +kernel
theorem dM_init_4 : decode mM_init.2.1 4 = .ok (.aload_n 0, 1) := by decide +kernel
theorem dM_init_5 : decode mM_init.2.1 5 = .ok (.bipush 56, 2) := by decide +kernel
theorem dM_init_7 : decode mM_init.2.1 7 = .ok (.newarray .int, 2) := by decide +kernel
theorem dM_init_9 : decode mM_init.2.1 9 = .ok (.putfield 7, 3) := by decide +kernel
theorem dM_init_12 : decode mM_init.2.1 12 = .ok (.aload_n 0, 1) := by decide +kernel
theorem dM_init_13 : decode mM_init.2.1 13 = .ok (.bipush 56, 2) := by decide +kernel
theorem dM_init_15 : decode mM_init.2.1 15 = .ok (.newarray .int, 2) := by decide +kernel
theorem dM_init_17 : decode mM_init.2.1 17 = .ok (.putfield 13, 3) := by decide +kernel
theorem dM_init_20 : decode mM_init.2.1 20 = .ok (.aload_n 0, 1) := by decide +kernel
theorem dM_init_21 : decode mM_init.2.1 21 = .ok (.bipush 56, 2) := by decide +kernel
theorem dM_init_23 : decode mM_init.2.1 23 = .ok (.newarray .int, 2) := by decide +kernel
theorem dM_init_25 : decode mM_init.2.1 25 = .ok (.putfield 16, 3) := by decide +kernel
theorem dM_init_28 : decode mM_init.2.1 28 = .ok (.aload_n 0, 1) := by decide +kernel
theorem dM_init_29 : decode mM_init.2.1 29 = .ok (.bipush 56, 2) := by decide +kernel
theorem dM_init_31 : decode mM_init.2.1 31 = .ok (.newarray .int, 2) := by decide +kernel
theorem dM_init_33 : decode mM_init.2.1 33 = .ok (.putfield 19, 3) := by decide +kernel
theorem dM_init_36 : decode mM_init.2.1 36 = .ok (.aload_n 0, 1) := by decide +kernel
theorem dM_init_37 : decode mM_init.2.1 37 = .ok (.bipush 56, 2) := by decide +kernel
theorem dM_init_39 : decode mM_init.2.1 39 = .ok (.newarray .int, 2) := by decide +kernel
theorem dM_init_41 : decode mM_init.2.1 41 = .ok (.putfield 22, 3) := by decide +kernel
theorem dM_init_44 : decode mM_init.2.1 44 = .ok (.aload_n 0, 1) := by decide +kernel
theorem dM_init_45 : decode mM_init.2.1 45 = .ok (.bipush 28, 2) := by decide +kernel
theorem dM_init_47 : decode mM_init.2.1 47 = .ok (.newarray .int, 2) := by decide +kernel
theorem dM_init_49 : decode mM_init.2.1 49 = .ok (.putfield 25, 3) := by decide +kernel
theorem dM_init_52 : decode mM_init.2.1 52 = .ok (.aload_n 0, 1) := by decide +kernel
theorem dM_init_53 : decode mM_init.2.1 53 = .ok (.bipush 28, 2) := by decide +kernel
theorem dM_init_55 : decode mM_init.2.1 55 = .ok (.newarray .int, 2) := by decide +kernel
theorem dM_init_57 : decode mM_init.2.1 57 = .ok (.putfield 28, 3) := by decide +kernel
theorem dM_init_60 : decode mM_init.2.1 60 = .ok (.aload_n 0, 1) := by decide +kernel
theorem dM_init_61 : decode mM_init.2.1 61 = .ok (.bipush 28, 2) := by decide +kernel
theorem dM_init_63 : decode mM_init.2.1 63 = .ok (.newarray .boolean, 2) := by decide +kernel
theorem dM_init_65 : decode mM_init.2.1 65 = .ok (.putfield 31, 3) := by decide +kernel
theorem dM_init_68 : decode mM_init.2.1 68 = .ok (.aload_n 0, 1) := by decide +kernel
theorem dM_init_69 : decode mM_init.2.1 69 = .ok (.bipush 28, 2) := by decide +kernel
theorem dM_init_71 : decode mM_init.2.1 71 = .ok (.newarray .int, 2) := by decide +kernel
theorem dM_init_73 : decode mM_init.2.1 73 = .ok (.putfield 35, 3) := by decide +kernel
theorem dM_init_76 : decode mM_init.2.1 76 = .ok (.aload_n 0, 1) := by decide +kernel
theorem dM_init_77 : decode mM_init.2.1 77 = .ok (.bipush 64, 2) := by decide +kernel
theorem dM_init_79 : decode mM_init.2.1 79 = .ok (.newarray .int, 2) := by decide +kernel
theorem dM_init_81 : decode mM_init.2.1 81 = .ok (.putfield 38, 3) := by decide +kernel
theorem dM_init_84 : decode mM_init.2.1 84 = .ok (.aload_n 0, 1) := by decide +kernel
theorem dM_init_85 : decode mM_init.2.1 85 = .ok (.sipush 448, 3) := by decide +kernel
theorem dM_init_88 : decode mM_init.2.1 88 = .ok (.newarray .int, 2) := by decide +kernel
theorem dM_init_90 : decode mM_init.2.1 90 = .ok (.putfield 41, 3) := by decide +kernel
theorem dM_init_93 : decode mM_init.2.1 93 = .ok (.aload_n 0, 1) := by decide +kernel
theorem dM_init_94 : decode mM_init.2.1 94 = .ok (.bipush 28, 2) := by decide +kernel
theorem dM_init_96 : decode mM_init.2.1 96 = .ok (.newarray .boolean, 2) := by decide +kernel
theorem dM_init_98 : decode mM_init.2.1 98 = .ok (.putfield 44, 3) := by decide +kernel
theorem dM_init_101 : decode mM_init.2.1 101 = .ok (.aload_n 0, 1) := by decide +kernel
theorem dM_init_102 : decode mM_init.2.1 102 = .ok (.bipush 7, 2) := by decide +kernel
theorem dM_init_104 : decode mM_init.2.1 104 = .ok (.newarray .int, 2) := by decide +kernel
theorem dM_init_106 : decode mM_init.2.1 106 = .ok (.putfield 47, 3) := by decide +kernel
theorem dM_init_109 : decode mM_init.2.1 109 = .ok (.return_, 1) := by decide +kernel
theorem dM_off_0 : decode mM_off.2.1 0 = .ok (.iload_n 1, 1) := by decide +kernel
theorem dM_off_1 : decode mM_off.2.1 1 = .ok (.iload_n 2, 1) := by decide +kernel
theorem dM_off_2 : decode mM_off.2.1 2 = .ok (.if_icmp .lt 8, 3) := by decide +kernel
theorem dM_off_5 : decode mM_off.2.1 5 = .ok (.iload_n 1, 1) := by decide +kernel
theorem dM_off_6 : decode mM_off.2.1 6 = .ok (.iload_n 3, 1) := by decide +kernel
theorem dM_off_7 : decode mM_off.2.1 7 = .ok (.if_icmp .le 7, 3) := by decide +kernel
theorem dM_off_10 : decode mM_off.2.1 10 = .ok (.iconst 1, 1) := by decide +kernel
theorem dM_off_11 : decode mM_off.2.1 11 = .ok (.goto 4, 3) := by decide +kernel
theorem dM_off_14 : decode mM_off.2.1 14 = .ok (.iconst 0, 1) := by decide +kernel
theorem dM_off_15 : decode mM_off.2.1 15 = .ok (.ireturn, 1) := by decide +kernel
theorem dM_no_0 : decode mM_no.2.1 0 = .ok (.iload_n 1, 1) := by decide +kernel
theorem dM_no_1 : decode mM_no.2.1 1 = .ok (.ifCond .lt 11, 3) := by decide +kernel
theorem dM_no_4 : decode mM_no.2.1 4 = .ok (.iload_n 1, 1) := by decide +kernel
theorem dM_no_5 : decode mM_no.2.1 5 = .ok (.aload_n 0, 1) := by decide +kernel
theorem dM_no_6 : decode mM_no.2.1 6 = .ok (.getfield 50, 3) := by decide +kernel
theorem dM_no_9 : decode mM_no.2.1 9 = .ok (.if_icmp .lt 7, 3) := by decide +kernel
theorem dM_no_12 : decode mM_no.2.1 12 = .ok (.iconst 1, 1) := by decide +kernel
theorem dM_no_13 : decode mM_no.2.1 13 = .ok (.goto 4, 3) := by decide +kernel
theorem dM_no_16 : decode mM_no.2.1 16 = .ok (.iconst 0, 1) := by decide +kernel
theorem dM_no_17 : decode mM_no.2.1 17 = .ok (.ireturn, 1) := by decide +kernel
theorem dM_unary_0 : decode mM_unary.2.1 0 = .ok (.iload_n 1, 1) := by decide +kernel
theorem dM_unary_1 : decode mM_unary.2.1 1 = .ok (.bipush 6, 2) := by decide +kernel
theorem dM_unary_3 : decode mM_unary.2.1 3 = .ok (.if_icmp .eq 15, 3) := by decide +kernel
theorem dM_unary_6 : decode mM_unary.2.1 6 = .ok (.iload_n 1, 1) := by decide +kernel
theorem dM_unary_7 : decode mM_unary.2.1 7 = .ok (.bipush 7, 2) := by decide +kernel
theorem dM_unary_9 : decode mM_unary.2.1 9 = .ok (.if_icmp .eq 9, 3) := by decide +kernel
theorem dM_unary_12 : decode mM_unary.2.1 12 = .ok (.iload_n 1, 1) := by decide +kernel
theorem dM_unary_13 : decode mM_unary.2.1 13 = .ok (.bipush 9, 2) := by decide +kernel
theorem dM_unary_15 : decode mM_unary.2.1 15 = .ok (.if_icmp .lt 7, 3) := by decide +kernel
theorem dM_unary_18 : decode mM_unary.2.1 18 = .ok (.iconst 1, 1) := by decide +kernel
theorem dM_unary_19 : decode mM_unary.2.1 19 = .ok (.goto 4, 3) := by decide +kernel
theorem dM_unary_22 : decode mM_unary.2.1 22 = .ok (.iconst 0, 1) := by decide +kernel
theorem dM_unary_23 : decode mM_unary.2.1 23 = .ok (.ireturn, 1) := by decide +kernel
theorem dM_restore_0 : decode mM_restore.2.1 0 = .ok (.aload_n 0, 1) := by decide +kernel
theorem dM_restore_1 : decode mM_restore.2.1 1 = .ok (.iconst 0, 1) := by decide +kernel
theorem dM_restore_2 : decode mM_restore.2.1 2 = .ok (.putfield 54, 3) := by decide +kernel
theorem dM_restore_5 : decode mM_restore.2.1 5 = .ok (.iconst 0, 1) := by decide +kernel
theorem dM_restore_6 : decode mM_restore.2.1 6 = .ok (.istore_n 1, 1) := by decide +kernel
theorem dM_restore_7 : decode mM_restore.2.1 7 = .ok (.iload_n 1, 1) := by decide +kernel
theorem dM_restore_8 : decode mM_restore.2.1 8 = .ok (.aload_n 0, 1) := by decide +kernel
theorem dM_restore_9 : decode mM_restore.2.1 9 = .ok (.getfield 50, 3) := by decide +kernel
theorem dM_restore_12 : decode mM_restore.2.1 12 = .ok (.if_icmp .ge 98, 3) := by decide +kernel
theorem dM_restore_15 : decode mM_restore.2.1 15 = .ok (.aload_n 0, 1) := by decide +kernel
theorem dM_restore_16 : decode mM_restore.2.1 16 = .ok (.getfield 7, 3) := by decide +kernel
theorem dM_restore_19 : decode mM_restore.2.1 19 = .ok (.iload_n 1, 1) := by decide +kernel
theorem dM_restore_20 : decode mM_restore.2.1 20 = .ok (.aload_n 0, 1) := by decide +kernel
theorem dM_restore_21 : decode mM_restore.2.1 21 = .ok (.getfield 7, 3) := by decide +kernel
theorem dM_restore_24 : decode mM_restore.2.1 24 = .ok (.bipush 28, 2) := by decide +kernel
theorem dM_restore_26 : decode mM_restore.2.1 26 = .ok (.iload_n 1, 1) := by decide +kernel
theorem dM_restore_27 : decode mM_restore.2.1 27 = .ok (.iadd, 1) := by decide +kernel
theorem dM_restore_28 : decode mM_restore.2.1 28 = .ok (.iaload, 1) := by decide +kernel
theorem dM_restore_29 : decode mM_restore.2.1 29 = .ok (.iastore, 1) := by decide +kernel
theorem dM_restore_30 : decode mM_restore.2.1 30 = .ok (.aload_n 0, 1) := by decide +kernel
theorem dM_restore_31 : decode mM_restore.2.1 31 = .ok (.getfield 13, 3) := by decide +kernel
theorem dM_restore_34 : decode mM_restore.2.1 34 = .ok (.iload_n 1, 1) := by decide +kernel
theorem dM_restore_35 : decode mM_restore.2.1 35 = .ok (.aload_n 0, 1) := by decide +kernel
theorem dM_restore_36 : decode mM_restore.2.1 36 = .ok (.getfield 13, 3) := by decide +kernel
theorem dM_restore_39 : decode mM_restore.2.1 39 = .ok (.bipush 28, 2) := by decide +kernel
theorem dM_restore_41 : decode mM_restore.2.1 41 = .ok (.iload_n 1, 1) := by decide +kernel
theorem dM_restore_42 : decode mM_restore.2.1 42 = .ok (.iadd, 1) := by decide +kernel
theorem dM_restore_43 : decode mM_restore.2.1 43 = .ok (.iaload, 1) := by decide +kernel
theorem dM_restore_44 : decode mM_restore.2.1 44 = .ok (.iastore, 1) := by decide +kernel
theorem dM_restore_45 : decode mM_restore.2.1 45 = .ok (.aload_n 0, 1) := by decide +kernel
theorem dM_restore_46 : decode mM_restore.2.1 46 = .ok (.getfield 16, 3) := by decide +kernel
theorem dM_restore_49 : decode mM_restore.2.1 49 = .ok (.iload_n 1, 1) := by decide +kernel
theorem dM_restore_50 : decode mM_restore.2.1 50 = .ok (.aload_n 0, 1) := by decide +kernel
theorem dM_restore_51 : decode mM_restore.2.1 51 = .ok (.getfield 16, 3) := by decide +kernel
theorem dM_restore_54 : decode mM_restore.2.1 54 = .ok (.bipush 28, 2) := by decide +kernel
theorem dM_restore_56 : decode mM_restore.2.1 56 = .ok (.iload_n 1, 1) := by decide +kernel
theorem dM_restore_57 : decode mM_restore.2.1 57 = .ok (.iadd, 1) := by decide +kernel
theorem dM_restore_58 : decode mM_restore.2.1 58 = .ok (.iaload, 1) := by decide +kernel
theorem dM_restore_59 : decode mM_restore.2.1 59 = .ok (.iastore, 1) := by decide +kernel
theorem dM_restore_60 : decode mM_restore.2.1 60 = .ok (.aload_n 0, 1) := by decide +kernel
theorem dM_restore_61 : decode mM_restore.2.1 61 = .ok (.getfield 19, 3) := by decide +kernel
theorem dM_restore_64 : decode mM_restore.2.1 64 = .ok (.iload_n 1, 1) := by decide +kernel
theorem dM_restore_65 : decode mM_restore.2.1 65 = .ok (.aload_n 0, 1) := by decide +kernel
theorem dM_restore_66 : decode mM_restore.2.1 66 = .ok (.getfield 19, 3) := by decide +kernel
theorem dM_restore_69 : decode mM_restore.2.1 69 = .ok (.bipush 28, 2) := by decide +kernel
theorem dM_restore_71 : decode mM_restore.2.1 71 = .ok (.iload_n 1, 1) := by decide +kernel
theorem dM_restore_72 : decode mM_restore.2.1 72 = .ok (.iadd, 1) := by decide +kernel
theorem dM_restore_73 : decode mM_restore.2.1 73 = .ok (.iaload, 1) := by decide +kernel
theorem dM_restore_74 : decode mM_restore.2.1 74 = .ok (.iastore, 1) := by decide +kernel
theorem dM_restore_75 : decode mM_restore.2.1 75 = .ok (.aload_n 0, 1) := by decide +kernel
theorem dM_restore_76 : decode mM_restore.2.1 76 = .ok (.getfield 22, 3) := by decide +kernel
theorem dM_restore_79 : decode mM_restore.2.1 79 = .ok (.iload_n 1, 1) := by decide +kernel
theorem dM_restore_80 : decode mM_restore.2.1 80 = .ok (.aload_n 0, 1) := by decide +kernel
theorem dM_restore_81 : decode mM_restore.2.1 81 = .ok (.getfield 22, 3) := by decide +kernel
theorem dM_restore_84 : decode mM_restore.2.1 84 = .ok (.bipush 28, 2) := by decide +kernel
theorem dM_restore_86 : decode mM_restore.2.1 86 = .ok (.iload_n 1, 1) := by decide +kernel
theorem dM_restore_87 : decode mM_restore.2.1 87 = .ok (.iadd, 1) := by decide +kernel
theorem dM_restore_88 : decode mM_restore.2.1 88 = .ok (.iaload, 1) := by decide +kernel
theorem dM_restore_89 : decode mM_restore.2.1 89 = .ok (.iastore, 1) := by decide +kernel
theorem dM_restore_90 : decode mM_restore.2.1 90 = .ok (.aload_n 0, 1) := by decide +kernel
theorem dM_restore_91 : decode mM_restore.2.1 91 = .ok (.getfield 35, 3) := by decide +kernel
theorem dM_restore_94 : decode mM_restore.2.1 94 = .ok (.iload_n 1, 1) := by decide +kernel
theorem dM_restore_95 : decode mM_restore.2.1 95 = .ok (.iload_n 1, 1) := by decide +kernel
theorem dM_restore_96 : decode mM_restore.2.1 96 = .ok (.iastore, 1) := by decide +kernel
theorem dM_restore_97 : decode mM_restore.2.1 97 = .ok (.aload_n 0, 1) := by decide +kernel
theorem dM_restore_98 : decode mM_restore.2.1 98 = .ok (.getfield 44, 3) := by decide +kernel
theorem dM_restore_101 : decode mM_restore.2.1 101 = .ok (.iload_n 1, 1) := by decide +kernel
theorem dM_restore_102 : decode mM_restore.2.1 102 = .ok (.iconst 0, 1) := by decide +kernel
theorem dM_restore_103 : decode mM_restore.2.1 103 = .ok (.bastore, 1) := by decide +kernel
theorem dM_restore_104 : decode mM_restore.2.1 104 = .ok (.iinc 1 1, 3) := by decide +kernel
theorem dM_restore_107 : decode mM_restore.2.1 107 = .ok (.goto (-100), 3) := by decide +kernel
theorem dM_restore_110 : decode mM_restore.2.1 110 = .ok (.return_, 1) := by decide +kernel
theorem dM_add_0 : decode mM_add.2.1 0 = .ok (.aload_n 0, 1) := by decide +kernel
theorem dM_add_1 : decode mM_add.2.1 1 = .ok (.getfield 50, 3) := by decide +kernel
theorem dM_add_4 : decode mM_add.2.1 4 = .ok (.bipush 28, 2) := by decide +kernel
theorem dM_add_6 : decode mM_add.2.1 6 = .ok (.if_icmp .ne 6, 3) := by decide +kernel
theorem dM_add_9 : decode mM_add.2.1 9 = .ok (.bipush (-2), 2) := by decide +kernel
theorem dM_add_11 : decode mM_add.2.1 11 = .ok (.ireturn, 1) := by decide +kernel
theorem dM_add_12 : decode mM_add.2.1 12 = .ok (.aload_n 0, 1) := by decide +kernel
theorem dM_add_13 : decode mM_add.2.1 13 = .ok (.getfield 7, 3) := by decide +kernel
theorem dM_add_16 : decode mM_add.2.1 16 = .ok (.bipush 28, 2) := by decide +kernel
theorem dM_add_18 : decode mM_add.2.1 18 = .ok (.aload_n 0, 1) := by decide +kernel
theorem dM_add_19 : decode mM_add.2.1 19 = .ok (.getfield 50, 3) := by decide +kernel
theorem dM_add_22 : decode mM_add.2.1 22 = .ok (.iadd, 1) := by decide +kernel
theorem dM_add_23 : decode mM_add.2.1 23 = .ok (.iload_n 1, 1) := by decide +kernel
theorem dM_add_24 : decode mM_add.2.1 24 = .ok (.iastore, 1) := by decide +kernel
theorem dM_add_25 : decode mM_add.2.1 25 = .ok (.aload_n 0, 1) := by decide +kernel
theorem dM_add_26 : decode mM_add.2.1 26 = .ok (.getfield 13, 3) := by decide +kernel
theorem dM_add_29 : decode mM_add.2.1 29 = .ok (.bipush 28, 2) := by decide +kernel
theorem dM_add_31 : decode mM_add.2.1 31 = .ok (.aload_n 0, 1) := by decide +kernel
theorem dM_add_32 : decode mM_add.2.1 32 = .ok (.getfield 50, 3) := by decide +kernel
theorem dM_add_35 : decode mM_add.2.1 35 = .ok (.iadd, 1) := by decide +kernel
theorem dM_add_36 : decode mM_add.2.1 36 = .ok (.iload_n 2, 1) := by decide +kernel
theorem dM_add_37 : decode mM_add.2.1 37 = .ok (.iastore, 1) := by decide +kernel
theorem dM_add_38 : decode mM_add.2.1 38 = .ok (.aload_n 0, 1) := by decide +kernel
theorem dM_add_39 : decode mM_add.2.1 39 = .ok (.getfield 16, 3) := by decide +kernel
theorem dM_add_42 : decode mM_add.2.1 42 = .ok (.bipush 28, 2) := by decide +kernel
theorem dM_add_44 : decode mM_add.2.1 44 = .ok (.aload_n 0, 1) := by decide +kernel
theorem dM_add_45 : decode mM_add.2.1 45 = .ok (.getfield 50, 3) := by decide +kernel
theorem dM_add_48 : decode mM_add.2.1 48 = .ok (.iadd, 1) := by decide +kernel
theorem dM_add_49 : decode mM_add.2.1 49 = .ok (.iload_n 3, 1) := by decide +kernel
theorem dM_add_50 : decode mM_add.2.1 50 = .ok (.iastore, 1) := by decide +kernel
theorem dM_add_51 : decode mM_add.2.1 51 = .ok (.aload_n 0, 1) := by decide +kernel
theorem dM_add_52 : decode mM_add.2.1 52 = .ok (.getfield 19, 3) := by decide +kernel
theorem dM_add_55 : decode mM_add.2.1 55 = .ok (.bipush 28, 2) := by decide +kernel
theorem dM_add_57 : decode mM_add.2.1 57 = .ok (.aload_n 0, 1) := by decide +kernel
theorem dM_add_58 : decode mM_add.2.1 58 = .ok (.getfield 50, 3) := by decide +kernel
theorem dM_add_61 : decode mM_add.2.1 61 = .ok (.iadd, 1) := by decide +kernel
theorem dM_add_62 : decode mM_add.2.1 62 = .ok (.iload 4, 2) := by decide +kernel
theorem dM_add_64 : decode mM_add.2.1 64 = .ok (.iastore, 1) := by decide +kernel
theorem dM_add_65 : decode mM_add.2.1 65 = .ok (.aload_n 0, 1) := by decide +kernel
theorem dM_add_66 : decode mM_add.2.1 66 = .ok (.getfield 22, 3) := by decide +kernel
theorem dM_add_69 : decode mM_add.2.1 69 = .ok (.bipush 28, 2) := by decide +kernel
theorem dM_add_71 : decode mM_add.2.1 71 = .ok (.aload_n 0, 1) := by decide +kernel
theorem dM_add_72 : decode mM_add.2.1 72 = .ok (.getfield 50, 3) := by decide +kernel
theorem dM_add_75 : decode mM_add.2.1 75 = .ok (.iadd, 1) := by decide +kernel
theorem dM_add_76 : decode mM_add.2.1 76 = .ok (.iload 5, 2) := by decide +kernel
theorem dM_add_78 : decode mM_add.2.1 78 = .ok (.iastore, 1) := by decide +kernel
theorem dM_add_79 : decode mM_add.2.1 79 = .ok (.aload_n 0, 1) := by decide +kernel
theorem dM_add_80 : decode mM_add.2.1 80 = .ok (.getfield 25, 3) := by decide +kernel
theorem dM_add_83 : decode mM_add.2.1 83 = .ok (.aload_n 0, 1) := by decide +kernel
theorem dM_add_84 : decode mM_add.2.1 84 = .ok (.getfield 50, 3) := by decide +kernel
theorem dM_add_87 : decode mM_add.2.1 87 = .ok (.iload 6, 2) := by decide +kernel
theorem dM_add_89 : decode mM_add.2.1 89 = .ok (.iastore, 1) := by decide +kernel
theorem dM_add_90 : decode mM_add.2.1 90 = .ok (.aload_n 0, 1) := by decide +kernel
theorem dM_add_91 : decode mM_add.2.1 91 = .ok (.getfield 28, 3) := by decide +kernel
theorem dM_add_94 : decode mM_add.2.1 94 = .ok (.aload_n 0, 1) := by decide +kernel
theorem dM_add_95 : decode mM_add.2.1 95 = .ok (.getfield 50, 3) := by decide +kernel
theorem dM_add_98 : decode mM_add.2.1 98 = .ok (.iload 7, 2) := by decide +kernel
theorem dM_add_100 : decode mM_add.2.1 100 = .ok (.iastore, 1) := by decide +kernel
theorem dM_add_101 : decode mM_add.2.1 101 = .ok (.aload_n 0, 1) := by decide +kernel
theorem dM_add_102 : decode mM_add.2.1 102 = .ok (.getfield 31, 3) := by decide +kernel
theorem dM_add_105 : decode mM_add.2.1 105 = .ok (.aload_n 0, 1) := by decide +kernel
theorem dM_add_106 : decode mM_add.2.1 106 = .ok (.getfield 50, 3) := by decide +kernel
theorem dM_add_109 : decode mM_add.2.1 109 = .ok (.iconst 0, 1) := by decide +kernel
theorem dM_add_110 : decode mM_add.2.1 110 = .ok (.bastore, 1) := by decide +kernel
theorem dM_add_111 : decode mM_add.2.1 111 = .ok (.aload_n 0, 1) := by decide +kernel
theorem dM_add_112 : decode mM_add.2.1 112 = .ok (.dup, 1) := by decide +kernel
theorem dM_add_113 : decode mM_add.2.1 113 = .ok (.getfield 50, 3) := by decide +kernel
theorem dM_add_116 : decode mM_add.2.1 116 = .ok (.iconst 1, 1) := by decide +kernel
theorem dM_add_117 : decode mM_add.2.1 117 = .ok (.iadd, 1) := by decide +kernel
theorem dM_add_118 : decode mM_add.2.1 118 = .ok (.putfield 50, 3) := by decide +kernel
theorem dM_add_121 : decode mM_add.2.1 121 = .ok (.aload_n 0, 1) := by decide +kernel
theorem dM_add_122 : decode mM_add.2.1 122 = .ok (.invokevirtual 58, 3) := by decide +kernel
theorem dM_add_125 : decode mM_add.2.1 125 = .ok (.aload_n 0, 1) := by decide +kernel
theorem dM_add_126 : decode mM_add.2.1 126 = .ok (.getfield 50, 3) := by decide +kernel
theorem dM_add_129 : decode mM_add.2.1 129 = .ok (.iconst 1, 1) := by decide +kernel
theorem dM_add_130 : decode mM_add.2.1 130 = .ok (.isub, 1) := by decide +kernel
theorem dM_add_131 : decode mM_add.2.1 131 = .ok (.ireturn, 1) := by decide +kernel
theorem dM_source_0 : decode mM_source.2.1 0 = .ok (.aload_n 0, 1) := by decide +kernel
theorem dM_source_1 : decode mM_source.2.1 1 = .ok (.iload_n 1, 1) := by decide +kernel
theorem dM_source_2 : decode mM_source.2.1 2 = .ok (.iconst 0, 1) := by decide +kernel
theorem dM_source_3 : decode mM_source.2.1 3 = .ok (.iconst 2, 1) := by decide +kernel
theorem dM_source_4 : decode mM_source.2.1 4 = .ok (.invokevirtual 61, 3) := by decide +kernel
theorem dM_source_7 : decode mM_source.2.1 7 = .ok (.ifCond .ne 23, 3) := by decide +kernel
theorem dM_source_10 : decode mM_source.2.1 10 = .ok (.aload_n 0, 1) := by decide +kernel
theorem dM_source_11 : decode mM_source.2.1 11 = .ok (.iload_n 2, 1) := by decide +kernel
theorem dM_source_12 : decode mM_source.2.1 12 = .ok (.iconst 1, 1) := by decide +kernel
theorem dM_source_13 : decode mM_source.2.1 13 = .ok (.iconst 4, 1) := by decide +kernel
theorem dM_source_14 : decode mM_source.2.1 14 = .ok (.invokevirtual 61, 3) := by decide +kernel
theorem dM_source_17 : decode mM_source.2.1 17 = .ok (.ifCond .ne 13, 3) := by decide +kernel
theorem dM_source_20 : decode mM_source.2.1 20 = .ok (.aload_n 0, 1) := by decide +kernel
theorem dM_source_21 : decode mM_source.2.1 21 = .ok (.iload_n 3, 1) := by decide +kernel
theorem dM_source_22 : decode mM_source.2.1 22 = .ok (.iconst 1, 1) := by decide +kernel
theorem dM_source_23 : decode mM_source.2.1 23 = .ok (.iconst 4, 1) := by decide +kernel
theorem dM_source_24 : decode mM_source.2.1 24 = .ok (.invokevirtual 61, 3) := by decide +kernel
theorem dM_source_27 : decode mM_source.2.1 27 = .ok (.ifCond .eq 5, 3) := by decide +kernel
theorem dM_source_30 : decode mM_source.2.1 30 = .ok (.iconst (-1), 1) := by decide +kernel
theorem dM_source_31 : decode mM_source.2.1 31 = .ok (.ireturn, 1) := by decide +kernel
theorem dM_source_32 : decode mM_source.2.1 32 = .ok (.iload_n 1, 1) := by decide +kernel
theorem dM_source_33 : decode mM_source.2.1 33 = .ok (.ifCond .ne 14, 3) := by decide +kernel
theorem dM_source_36 : decode mM_source.2.1 36 = .ok (.aload_n 0, 1) := by decide +kernel
theorem dM_source_37 : decode mM_source.2.1 37 = .ok (.iload 4, 2) := by decide +kernel
theorem dM_source_39 : decode mM_source.2.1 39 = .ok (.iconst 0, 1) := by decide +kernel
theorem dM_source_40 : decode mM_source.2.1 40 = .ok (.iconst 3, 1) := by decide +kernel
theorem dM_source_41 : decode mM_source.2.1 41 = .ok (.invokevirtual 61, 3) := by decide +kernel
theorem dM_source_44 : decode mM_source.2.1 44 = .ok (.ifCond .ne 19, 3) := by decide +kernel
theorem dM_source_47 : decode mM_source.2.1 47 = .ok (.iload_n 1, 1) := by decide +kernel
theorem dM_source_48 : decode mM_source.2.1 48 = .ok (.iconst 2, 1) := by decide +kernel
theorem dM_source_49 : decode mM_source.2.1 49 = .ok (.if_icmp .ne 16, 3) := by decide +kernel
theorem dM_source_52 : decode mM_source.2.1 52 = .ok (.aload_n 0, 1) := by decide +kernel
theorem dM_source_53 : decode mM_source.2.1 53 = .ok (.iload 4, 2) := by decide +kernel
theorem dM_source_55 : decode mM_source.2.1 55 = .ok (.iconst 0, 1) := by decide +kernel
theorem dM_source_56 : decode mM_source.2.1 56 = .ok (.iconst 1, 1) := by decide +kernel
theorem dM_source_57 : decode mM_source.2.1 57 = .ok (.invokevirtual 61, 3) := by decide +kernel
theorem dM_source_60 : decode mM_source.2.1 60 = .ok (.ifCond .eq 5, 3) := by decide +kernel
theorem dM_source_63 : decode mM_source.2.1 63 = .ok (.iconst (-1), 1) := by decide +kernel
theorem dM_source_64 : decode mM_source.2.1 64 = .ok (.ireturn, 1) := by decide +kernel
theorem dM_source_65 : decode mM_source.2.1 65 = .ok (.aload_n 0, 1) := by decide +kernel
theorem dM_source_66 : decode mM_source.2.1 66 = .ok (.iload_n 1, 1) := by decide +kernel
theorem dM_source_67 : decode mM_source.2.1 67 = .ok (.iconst (-1), 1) := by decide +kernel
theorem dM_source_68 : decode mM_source.2.1 68 = .ok (.iconst (-1), 1) := by decide +kernel
theorem dM_source_69 : decode mM_source.2.1 69 = .ok (.iload 4, 2) := by decide +kernel
theorem dM_source_71 : decode mM_source.2.1 71 = .ok (.iconst 0, 1) := by decide +kernel
theorem dM_source_72 : decode mM_source.2.1 72 = .ok (.iload_n 2, 1) := by decide +kernel
theorem dM_source_73 : decode mM_source.2.1 73 = .ok (.iload_n 3, 1) := by decide +kernel
theorem dM_source_74 : decode mM_source.2.1 74 = .ok (.invokevirtual 65, 3) := by decide +kernel
theorem dM_source_77 : decode mM_source.2.1 77 = .ok (.ireturn, 1) := by decide +kernel
theorem dM_operation_0 : decode mM_operation.2.1 0 = .ok (.aload_n 0, 1) := by decide +kernel
theorem dM_operation_1 : decode mM_operation.2.1 1 = .ok (.iload_n 1, 1) := by decide +kernel
theorem dM_operation_2 : decode mM_operation.2.1 2 = .ok (.iconst 3, 1) := by decide +kernel
theorem dM_operation_3 : decode mM_operation.2.1 3 = .ok (.bipush 9, 2) := by decide +kernel
theorem dM_operation_5 : decode mM_operation.2.1 5 = .ok (.invokevirtual 61, 3) := by decide +kernel
theorem dM_operation_8 : decode mM_operation.2.1 8 = .ok (.ifCond .ne 53, 3) := by decide +kernel
theorem dM_operation_11 : decode mM_operation.2.1 11 = .ok (.aload_n 0, 1) := by decide +kernel
theorem dM_operation_12 : decode mM_operation.2.1 12 = .ok (.iload_n 2, 1) := by decide +kernel
theorem dM_operation_13 : decode mM_operation.2.1 13 = .ok (.invokevirtual 69, 3) := by decide +kernel
theorem dM_operation_16 : decode mM_operation.2.1 16 = .ok (.ifCond .ne 45, 3) := by decide +kernel
theorem dM_operation_19 : decode mM_operation.2.1 19 = .ok (.aload_n 0, 1) := by decide +kernel
theorem dM_operation_20 : decode mM_operation.2.1 20 = .ok (.iload_n 3, 1) := by decide +kernel
theorem dM_operation_21 : decode mM_operation.2.1 21 = .ok (.invokevirtual 69, 3) := by decide +kernel
theorem dM_operation_24 : decode mM_operation.2.1 24 = .ok (.ifCond .ne 37, 3) := by decide +kernel
theorem dM_operation_27 : decode mM_operation.2.1 27 = .ok (.aload_n 0, 1) := by decide +kernel
theorem dM_operation_28 : decode mM_operation.2.1 28 = .ok (.iload_n 1, 1) := by decide +kernel
theorem dM_operation_29 : decode mM_operation.2.1 29 = .ok (.invokevirtual 73, 3) := by decide +kernel
theorem dM_operation_32 : decode mM_operation.2.1 32 = .ok (.ifCond .eq 8, 3) := by decide +kernel
theorem dM_operation_35 : decode mM_operation.2.1 35 = .ok (.iload_n 2, 1) := by decide +kernel
theorem dM_operation_36 : decode mM_operation.2.1 36 = .ok (.iload_n 3, 1) := by decide +kernel
theorem dM_operation_37 : decode mM_operation.2.1 37 = .ok (.if_icmp .ne 24, 3) := by decide +kernel
theorem dM_operation_40 : decode mM_operation.2.1 40 = .ok (.aload_n 0, 1) := by decide +kernel
theorem dM_operation_41 : decode mM_operation.2.1 41 = .ok (.iload 4, 2) := by decide +kernel
theorem dM_operation_43 : decode mM_operation.2.1 43 = .ok (.iconst 0, 1) := by decide +kernel
theorem dM_operation_44 : decode mM_operation.2.1 44 = .ok (.iload_n 1, 1) := by decide +kernel
theorem dM_operation_45 : decode mM_operation.2.1 45 = .ok (.bipush 9, 2) := by decide +kernel
theorem dM_operation_47 : decode mM_operation.2.1 47 = .ok (.if_icmp .ne 7, 3) := by decide +kernel
theorem dM_operation_50 : decode mM_operation.2.1 50 = .ok (.iconst 1, 1) := by decide +kernel
theorem dM_operation_51 : decode mM_operation.2.1 51 = .ok (.goto 4, 3) := by decide +kernel
theorem dM_operation_54 : decode mM_operation.2.1 54 = .ok (.iconst 0, 1) := by decide +kernel
theorem dM_operation_55 : decode mM_operation.2.1 55 = .ok (.invokevirtual 61, 3) := by decide +kernel
theorem dM_operation_58 : decode mM_operation.2.1 58 = .ok (.ifCond .eq 5, 3) := by decide +kernel
theorem dM_operation_61 : decode mM_operation.2.1 61 = .ok (.iconst (-1), 1) := by decide +kernel
theorem dM_operation_62 : decode mM_operation.2.1 62 = .ok (.ireturn, 1) := by decide +kernel
theorem dM_operation_63 : decode mM_operation.2.1 63 = .ok (.aload_n 0, 1) := by decide +kernel
theorem dM_operation_64 : decode mM_operation.2.1 64 = .ok (.getfield 25, 3) := by decide +kernel
theorem dM_operation_67 : decode mM_operation.2.1 67 = .ok (.iload_n 2, 1) := by decide +kernel
theorem dM_operation_68 : decode mM_operation.2.1 68 = .ok (.iaload, 1) := by decide +kernel
theorem dM_operation_69 : decode mM_operation.2.1 69 = .ok (.aload_n 0, 1) := by decide +kernel
theorem dM_operation_70 : decode mM_operation.2.1 70 = .ok (.getfield 25, 3) := by decide +kernel
theorem dM_operation_73 : decode mM_operation.2.1 73 = .ok (.iload_n 3, 1) := by decide +kernel
theorem dM_operation_74 : decode mM_operation.2.1 74 = .ok (.iaload, 1) := by decide +kernel
theorem dM_operation_75 : decode mM_operation.2.1 75 = .ok (.if_icmp .ne 22, 3) := by decide +kernel
theorem dM_operation_78 : decode mM_operation.2.1 78 = .ok (.aload_n 0, 1) := by decide +kernel
theorem dM_operation_79 : decode mM_operation.2.1 79 = .ok (.getfield 28, 3) := by decide +kernel
theorem dM_operation_82 : decode mM_operation.2.1 82 = .ok (.iload_n 2, 1) := by decide +kernel
theorem dM_operation_83 : decode mM_operation.2.1 83 = .ok (.iaload, 1) := by decide +kernel
theorem dM_operation_84 : decode mM_operation.2.1 84 = .ok (.aload_n 0, 1) := by decide +kernel
theorem dM_operation_85 : decode mM_operation.2.1 85 = .ok (.getfield 28, 3) := by decide +kernel
theorem dM_operation_88 : decode mM_operation.2.1 88 = .ok (.iload_n 3, 1) := by decide +kernel
theorem dM_operation_89 : decode mM_operation.2.1 89 = .ok (.iaload, 1) := by decide +kernel
theorem dM_operation_90 : decode mM_operation.2.1 90 = .ok (.if_icmp .ne 7, 3) := by decide +kernel
theorem dM_operation_93 : decode mM_operation.2.1 93 = .ok (.iconst 1, 1) := by decide +kernel
theorem dM_operation_94 : decode mM_operation.2.1 94 = .ok (.goto 4, 3) := by decide +kernel
theorem dM_operation_97 : decode mM_operation.2.1 97 = .ok (.iconst 0, 1) := by decide +kernel
theorem dM_operation_98 : decode mM_operation.2.1 98 = .ok (.istore 5, 2) := by decide +kernel
theorem dM_operation_100 : decode mM_operation.2.1 100 = .ok (.iload_n 1, 1) := by decide +kernel
theorem dM_operation_101 : decode mM_operation.2.1 101 = .ok (.bipush 6, 2) := by decide +kernel
theorem dM_operation_103 : decode mM_operation.2.1 103 = .ok (.if_icmp .ge 8, 3) := by decide +kernel
theorem dM_operation_106 : decode mM_operation.2.1 106 = .ok (.iload 5, 2) := by decide +kernel
theorem dM_operation_108 : decode mM_operation.2.1 108 = .ok (.ifCond .eq 24, 3) := by decide +kernel
theorem dM_operation_111 : decode mM_operation.2.1 111 = .ok (.iload_n 1, 1) := by decide +kernel
theorem dM_operation_112 : decode mM_operation.2.1 112 = .ok (.bipush 8, 2) := by decide +kernel
theorem dM_operation_114 : decode mM_operation.2.1 114 = .ok (.if_icmp .ne 21, 3) := by decide +kernel
theorem dM_operation_117 : decode mM_operation.2.1 117 = .ok (.aload_n 0, 1) := by decide +kernel
theorem dM_operation_118 : decode mM_operation.2.1 118 = .ok (.getfield 28, 3) := by decide +kernel
theorem dM_operation_121 : decode mM_operation.2.1 121 = .ok (.iload_n 2, 1) := by decide +kernel
theorem dM_operation_122 : decode mM_operation.2.1 122 = .ok (.iaload, 1) := by decide +kernel
theorem dM_operation_123 : decode mM_operation.2.1 123 = .ok (.aload_n 0, 1) := by decide +kernel
theorem dM_operation_124 : decode mM_operation.2.1 124 = .ok (.getfield 25, 3) := by decide +kernel
theorem dM_operation_127 : decode mM_operation.2.1 127 = .ok (.iload_n 3, 1) := by decide +kernel
theorem dM_operation_128 : decode mM_operation.2.1 128 = .ok (.iaload, 1) := by decide +kernel
theorem dM_operation_129 : decode mM_operation.2.1 129 = .ok (.if_icmp .eq 6, 3) := by decide +kernel
theorem dM_operation_132 : decode mM_operation.2.1 132 = .ok (.bipush (-3), 2) := by decide +kernel
theorem dM_operation_134 : decode mM_operation.2.1 134 = .ok (.ireturn, 1) := by decide +kernel
theorem dM_operation_135 : decode mM_operation.2.1 135 = .ok (.iload_n 1, 1) := by decide +kernel
theorem dM_operation_136 : decode mM_operation.2.1 136 = .ok (.bipush 7, 2) := by decide +kernel
theorem dM_operation_138 : decode mM_operation.2.1 138 = .ok (.if_icmp .ne 12, 3) := by decide +kernel
theorem dM_operation_141 : decode mM_operation.2.1 141 = .ok (.aload_n 0, 1) := by decide +kernel
theorem dM_operation_142 : decode mM_operation.2.1 142 = .ok (.getfield 28, 3) := by decide +kernel
theorem dM_operation_145 : decode mM_operation.2.1 145 = .ok (.iload_n 2, 1) := by decide +kernel
theorem dM_operation_146 : decode mM_operation.2.1 146 = .ok (.iaload, 1) := by decide +kernel
theorem dM_operation_147 : decode mM_operation.2.1 147 = .ok (.goto 24, 3) := by decide +kernel
theorem dM_operation_150 : decode mM_operation.2.1 150 = .ok (.iload_n 1, 1) := by decide +kernel
theorem dM_operation_151 : decode mM_operation.2.1 151 = .ok (.bipush 9, 2) := by decide +kernel
theorem dM_operation_153 : decode mM_operation.2.1 153 = .ok (.if_icmp .ne 12, 3) := by decide +kernel
theorem dM_operation_156 : decode mM_operation.2.1 156 = .ok (.iload 4, 2) := by decide +kernel
theorem dM_operation_158 : decode mM_operation.2.1 158 = .ok (.ifCond .ne 7, 3) := by decide +kernel
theorem dM_operation_161 : decode mM_operation.2.1 161 = .ok (.iconst 1, 1) := by decide +kernel
theorem dM_operation_162 : decode mM_operation.2.1 162 = .ok (.goto 9, 3) := by decide +kernel
theorem dM_operation_165 : decode mM_operation.2.1 165 = .ok (.aload_n 0, 1) := by decide +kernel
theorem dM_operation_166 : decode mM_operation.2.1 166 = .ok (.getfield 25, 3) := by decide +kernel
theorem dM_operation_169 : decode mM_operation.2.1 169 = .ok (.iload_n 2, 1) := by decide +kernel
theorem dM_operation_170 : decode mM_operation.2.1 170 = .ok (.iaload, 1) := by decide +kernel
theorem dM_operation_171 : decode mM_operation.2.1 171 = .ok (.istore 6, 2) := by decide +kernel
theorem dM_operation_173 : decode mM_operation.2.1 173 = .ok (.iload_n 1, 1) := by decide +kernel
theorem dM_operation_174 : decode mM_operation.2.1 174 = .ok (.bipush 7, 2) := by decide +kernel
theorem dM_operation_176 : decode mM_operation.2.1 176 = .ok (.if_icmp .ne 12, 3) := by decide +kernel
theorem dM_operation_179 : decode mM_operation.2.1 179 = .ok (.aload_n 0, 1) := by decide +kernel
theorem dM_operation_180 : decode mM_operation.2.1 180 = .ok (.getfield 25, 3) := by decide +kernel
theorem dM_operation_183 : decode mM_operation.2.1 183 = .ok (.iload_n 2, 1) := by decide +kernel
theorem dM_operation_184 : decode mM_operation.2.1 184 = .ok (.iaload, 1) := by decide +kernel
theorem dM_operation_185 : decode mM_operation.2.1 185 = .ok (.goto 40, 3) := by decide +kernel
theorem dM_operation_188 : decode mM_operation.2.1 188 = .ok (.iload_n 1, 1) := by decide +kernel
theorem dM_operation_189 : decode mM_operation.2.1 189 = .ok (.bipush 8, 2) := by decide +kernel
theorem dM_operation_191 : decode mM_operation.2.1 191 = .ok (.if_icmp .ne 12, 3) := by decide +kernel
theorem dM_operation_194 : decode mM_operation.2.1 194 = .ok (.aload_n 0, 1) := by decide +kernel
theorem dM_operation_195 : decode mM_operation.2.1 195 = .ok (.getfield 28, 3) := by decide +kernel
theorem dM_operation_198 : decode mM_operation.2.1 198 = .ok (.iload_n 3, 1) := by decide +kernel
theorem dM_operation_199 : decode mM_operation.2.1 199 = .ok (.iaload, 1) := by decide +kernel
theorem dM_operation_200 : decode mM_operation.2.1 200 = .ok (.goto 25, 3) := by decide +kernel
theorem dM_operation_203 : decode mM_operation.2.1 203 = .ok (.iload_n 1, 1) := by decide +kernel
theorem dM_operation_204 : decode mM_operation.2.1 204 = .ok (.bipush 9, 2) := by decide +kernel
theorem dM_operation_206 : decode mM_operation.2.1 206 = .ok (.if_icmp .ne 13, 3) := by decide +kernel
theorem dM_operation_209 : decode mM_operation.2.1 209 = .ok (.iload 4, 2) := by decide +kernel
theorem dM_operation_211 : decode mM_operation.2.1 211 = .ok (.iconst 1, 1) := by decide +kernel
theorem dM_operation_212 : decode mM_operation.2.1 212 = .ok (.if_icmp .ne 7, 3) := by decide +kernel
theorem dM_operation_215 : decode mM_operation.2.1 215 = .ok (.iconst 1, 1) := by decide +kernel
theorem dM_operation_216 : decode mM_operation.2.1 216 = .ok (.goto 9, 3) := by decide +kernel
theorem dM_operation_219 : decode mM_operation.2.1 219 = .ok (.aload_n 0, 1) := by decide +kernel
theorem dM_operation_220 : decode mM_operation.2.1 220 = .ok (.getfield 28, 3) := by decide +kernel
theorem dM_operation_223 : decode mM_operation.2.1 223 = .ok (.iload_n 2, 1) := by decide +kernel
theorem dM_operation_224 : decode mM_operation.2.1 224 = .ok (.iaload, 1) := by decide +kernel
theorem dM_operation_225 : decode mM_operation.2.1 225 = .ok (.istore 7, 2) := by decide +kernel
theorem dM_operation_227 : decode mM_operation.2.1 227 = .ok (.aload_n 0, 1) := by decide +kernel
theorem dM_operation_228 : decode mM_operation.2.1 228 = .ok (.iload_n 1, 1) := by decide +kernel
theorem dM_operation_229 : decode mM_operation.2.1 229 = .ok (.iload_n 2, 1) := by decide +kernel
theorem dM_operation_230 : decode mM_operation.2.1 230 = .ok (.aload_n 0, 1) := by decide +kernel
theorem dM_operation_231 : decode mM_operation.2.1 231 = .ok (.iload_n 1, 1) := by decide +kernel
theorem dM_operation_232 : decode mM_operation.2.1 232 = .ok (.invokevirtual 73, 3) := by decide +kernel
theorem dM_operation_235 : decode mM_operation.2.1 235 = .ok (.ifCond .eq 7, 3) := by decide +kernel
theorem dM_operation_238 : decode mM_operation.2.1 238 = .ok (.iconst (-1), 1) := by decide +kernel
theorem dM_operation_239 : decode mM_operation.2.1 239 = .ok (.goto 4, 3) := by decide +kernel
theorem dM_operation_242 : decode mM_operation.2.1 242 = .ok (.iload_n 3, 1) := by decide +kernel
theorem dM_operation_243 : decode mM_operation.2.1 243 = .ok (.iload 4, 2) := by decide +kernel
theorem dM_operation_245 : decode mM_operation.2.1 245 = .ok (.iconst 0, 1) := by decide +kernel
theorem dM_operation_246 : decode mM_operation.2.1 246 = .ok (.iload 6, 2) := by decide +kernel
theorem dM_operation_248 : decode mM_operation.2.1 248 = .ok (.iload 7, 2) := by decide +kernel
theorem dM_operation_250 : decode mM_operation.2.1 250 = .ok (.invokevirtual 65, 3) := by decide +kernel
theorem dM_operation_253 : decode mM_operation.2.1 253 = .ok (.ireturn, 1) := by decide +kernel
theorem dM_reshape_0 : decode mM_reshape.2.1 0 = .ok (.aload_n 0, 1) := by decide +kernel
theorem dM_reshape_1 : decode mM_reshape.2.1 1 = .ok (.iload_n 1, 1) := by decide +kernel
theorem dM_reshape_2 : decode mM_reshape.2.1 2 = .ok (.bipush 10, 2) := by decide +kernel
theorem dM_reshape_4 : decode mM_reshape.2.1 4 = .ok (.bipush 11, 2) := by decide +kernel
theorem dM_reshape_6 : decode mM_reshape.2.1 6 = .ok (.invokevirtual 61, 3) := by decide +kernel
theorem dM_reshape_9 : decode mM_reshape.2.1 9 = .ok (.ifCond .ne 32, 3) := by decide +kernel
theorem dM_reshape_12 : decode mM_reshape.2.1 12 = .ok (.aload_n 0, 1) := by decide +kernel
theorem dM_reshape_13 : decode mM_reshape.2.1 13 = .ok (.iload_n 2, 1) := by decide +kernel
theorem dM_reshape_14 : decode mM_reshape.2.1 14 = .ok (.invokevirtual 69, 3) := by decide +kernel
theorem dM_reshape_17 : decode mM_reshape.2.1 17 = .ok (.ifCond .ne 24, 3) := by decide +kernel
theorem dM_reshape_20 : decode mM_reshape.2.1 20 = .ok (.aload_n 0, 1) := by decide +kernel
theorem dM_reshape_21 : decode mM_reshape.2.1 21 = .ok (.iload_n 3, 1) := by decide +kernel
theorem dM_reshape_22 : decode mM_reshape.2.1 22 = .ok (.iconst 1, 1) := by decide +kernel
theorem dM_reshape_23 : decode mM_reshape.2.1 23 = .ok (.iconst 4, 1) := by decide +kernel
theorem dM_reshape_24 : decode mM_reshape.2.1 24 = .ok (.invokevirtual 61, 3) := by decide +kernel
theorem dM_reshape_27 : decode mM_reshape.2.1 27 = .ok (.ifCond .ne 14, 3) := by decide +kernel
theorem dM_reshape_30 : decode mM_reshape.2.1 30 = .ok (.aload_n 0, 1) := by decide +kernel
theorem dM_reshape_31 : decode mM_reshape.2.1 31 = .ok (.iload 4, 2) := by decide +kernel
theorem dM_reshape_33 : decode mM_reshape.2.1 33 = .ok (.iconst 1, 1) := by decide +kernel
theorem dM_reshape_34 : decode mM_reshape.2.1 34 = .ok (.iconst 4, 1) := by decide +kernel
theorem dM_reshape_35 : decode mM_reshape.2.1 35 = .ok (.invokevirtual 61, 3) := by decide +kernel
theorem dM_reshape_38 : decode mM_reshape.2.1 38 = .ok (.ifCond .eq 5, 3) := by decide +kernel
theorem dM_reshape_41 : decode mM_reshape.2.1 41 = .ok (.iconst (-1), 1) := by decide +kernel
theorem dM_reshape_42 : decode mM_reshape.2.1 42 = .ok (.ireturn, 1) := by decide +kernel
theorem dM_reshape_43 : decode mM_reshape.2.1 43 = .ok (.aload_n 0, 1) := by decide +kernel
theorem dM_reshape_44 : decode mM_reshape.2.1 44 = .ok (.getfield 25, 3) := by decide +kernel
theorem dM_reshape_47 : decode mM_reshape.2.1 47 = .ok (.iload_n 2, 1) := by decide +kernel
theorem dM_reshape_48 : decode mM_reshape.2.1 48 = .ok (.iaload, 1) := by decide +kernel
theorem dM_reshape_49 : decode mM_reshape.2.1 49 = .ok (.istore 5, 2) := by decide +kernel
theorem dM_reshape_51 : decode mM_reshape.2.1 51 = .ok (.aload_n 0, 1) := by decide +kernel
theorem dM_reshape_52 : decode mM_reshape.2.1 52 = .ok (.getfield 28, 3) := by decide +kernel
theorem dM_reshape_55 : decode mM_reshape.2.1 55 = .ok (.iload_n 2, 1) := by decide +kernel
theorem dM_reshape_56 : decode mM_reshape.2.1 56 = .ok (.iaload, 1) := by decide +kernel
theorem dM_reshape_57 : decode mM_reshape.2.1 57 = .ok (.istore 6, 2) := by decide +kernel
theorem dM_reshape_59 : decode mM_reshape.2.1 59 = .ok (.iload_n 1, 1) := by decide +kernel
theorem dM_reshape_60 : decode mM_reshape.2.1 60 = .ok (.bipush 10, 2) := by decide +kernel
theorem dM_reshape_62 : decode mM_reshape.2.1 62 = .ok (.if_icmp .ne 31, 3) := by decide +kernel
theorem dM_reshape_65 : decode mM_reshape.2.1 65 = .ok (.iload 5, 2) := by decide +kernel
theorem dM_reshape_67 : decode mM_reshape.2.1 67 = .ok (.iconst 1, 1) := by decide +kernel
theorem dM_reshape_68 : decode mM_reshape.2.1 68 = .ok (.if_icmp .eq 9, 3) := by decide +kernel
theorem dM_reshape_71 : decode mM_reshape.2.1 71 = .ok (.iload 5, 2) := by decide +kernel
theorem dM_reshape_73 : decode mM_reshape.2.1 73 = .ok (.iload_n 3, 1) := by decide +kernel
theorem dM_reshape_74 : decode mM_reshape.2.1 74 = .ok (.if_icmp .ne 31, 3) := by decide +kernel
theorem dM_reshape_77 : decode mM_reshape.2.1 77 = .ok (.iload 6, 2) := by decide +kernel
theorem dM_reshape_79 : decode mM_reshape.2.1 79 = .ok (.iconst 1, 1) := by decide +kernel
theorem dM_reshape_80 : decode mM_reshape.2.1 80 = .ok (.if_icmp .eq 28, 3) := by decide +kernel
theorem dM_reshape_83 : decode mM_reshape.2.1 83 = .ok (.iload 6, 2) := by decide +kernel
theorem dM_reshape_85 : decode mM_reshape.2.1 85 = .ok (.iload 4, 2) := by decide +kernel
theorem dM_reshape_87 : decode mM_reshape.2.1 87 = .ok (.if_icmp .eq 21, 3) := by decide +kernel
theorem dM_reshape_90 : decode mM_reshape.2.1 90 = .ok (.goto 15, 3) := by decide +kernel
theorem dM_reshape_93 : decode mM_reshape.2.1 93 = .ok (.iload 5, 2) := by decide +kernel
theorem dM_reshape_95 : decode mM_reshape.2.1 95 = .ok (.iload 6, 2) := by decide +kernel
theorem dM_reshape_97 : decode mM_reshape.2.1 97 = .ok (.imul, 1) := by decide +kernel
theorem dM_reshape_98 : decode mM_reshape.2.1 98 = .ok (.iload_n 3, 1) := by decide +kernel
theorem dM_reshape_99 : decode mM_reshape.2.1 99 = .ok (.iload 4, 2) := by decide +kernel
theorem dM_reshape_101 : decode mM_reshape.2.1 101 = .ok (.imul, 1) := by decide +kernel
theorem dM_reshape_102 : decode mM_reshape.2.1 102 = .ok (.if_icmp .eq 6, 3) := by decide +kernel
theorem dM_reshape_105 : decode mM_reshape.2.1 105 = .ok (.bipush (-3), 2) := by decide +kernel
theorem dM_reshape_107 : decode mM_reshape.2.1 107 = .ok (.ireturn, 1) := by decide +kernel
theorem dM_reshape_108 : decode mM_reshape.2.1 108 = .ok (.aload_n 0, 1) := by decide +kernel
theorem dM_reshape_109 : decode mM_reshape.2.1 109 = .ok (.iload_n 1, 1) := by decide +kernel
theorem dM_reshape_110 : decode mM_reshape.2.1 110 = .ok (.iload_n 2, 1) := by decide +kernel
theorem dM_reshape_111 : decode mM_reshape.2.1 111 = .ok (.iconst (-1), 1) := by decide +kernel
theorem dM_reshape_112 : decode mM_reshape.2.1 112 = .ok (.iconst 0, 1) := by decide +kernel
theorem dM_reshape_113 : decode mM_reshape.2.1 113 = .ok (.iconst 0, 1) := by decide +kernel
theorem dM_reshape_114 : decode mM_reshape.2.1 114 = .ok (.iload_n 3, 1) := by decide +kernel
theorem dM_reshape_115 : decode mM_reshape.2.1 115 = .ok (.iload 4, 2) := by decide +kernel
theorem dM_reshape_117 : decode mM_reshape.2.1 117 = .ok (.invokevirtual 65, 3) := by decide +kernel
theorem dM_reshape_120 : decode mM_reshape.2.1 120 = .ok (.ireturn, 1) := by decide +kernel
theorem dM_part_0 : decode mM_part.2.1 0 = .ok (.aload_n 0, 1) := by decide +kernel
theorem dM_part_1 : decode mM_part.2.1 1 = .ok (.iload_n 1, 1) := by decide +kernel
theorem dM_part_2 : decode mM_part.2.1 2 = .ok (.invokevirtual 69, 3) := by decide +kernel
theorem dM_part_5 : decode mM_part.2.1 5 = .ok (.ifCond .ne 45, 3) := by decide +kernel
theorem dM_part_8 : decode mM_part.2.1 8 = .ok (.aload_n 0, 1) := by decide +kernel
theorem dM_part_9 : decode mM_part.2.1 9 = .ok (.iload_n 2, 1) := by decide +kernel
theorem dM_part_10 : decode mM_part.2.1 10 = .ok (.iconst 0, 1) := by decide +kernel
theorem dM_part_11 : decode mM_part.2.1 11 = .ok (.iconst 3, 1) := by decide +kernel
theorem dM_part_12 : decode mM_part.2.1 12 = .ok (.invokevirtual 61, 3) := by decide +kernel
theorem dM_part_15 : decode mM_part.2.1 15 = .ok (.ifCond .ne 35, 3) := by decide +kernel
theorem dM_part_18 : decode mM_part.2.1 18 = .ok (.aload_n 0, 1) := by decide +kernel
theorem dM_part_19 : decode mM_part.2.1 19 = .ok (.iload_n 3, 1) := by decide +kernel
theorem dM_part_20 : decode mM_part.2.1 20 = .ok (.iconst 0, 1) := by decide +kernel
theorem dM_part_21 : decode mM_part.2.1 21 = .ok (.iconst 3, 1) := by decide +kernel
theorem dM_part_22 : decode mM_part.2.1 22 = .ok (.invokevirtual 61, 3) := by decide +kernel
theorem dM_part_25 : decode mM_part.2.1 25 = .ok (.ifCond .ne 25, 3) := by decide +kernel
theorem dM_part_28 : decode mM_part.2.1 28 = .ok (.aload_n 0, 1) := by decide +kernel
theorem dM_part_29 : decode mM_part.2.1 29 = .ok (.iload 4, 2) := by decide +kernel
theorem dM_part_31 : decode mM_part.2.1 31 = .ok (.iconst 1, 1) := by decide +kernel
theorem dM_part_32 : decode mM_part.2.1 32 = .ok (.iconst 4, 1) := by decide +kernel
theorem dM_part_33 : decode mM_part.2.1 33 = .ok (.invokevirtual 61, 3) := by decide +kernel
theorem dM_part_36 : decode mM_part.2.1 36 = .ok (.ifCond .ne 14, 3) := by decide +kernel
theorem dM_part_39 : decode mM_part.2.1 39 = .ok (.aload_n 0, 1) := by decide +kernel
theorem dM_part_40 : decode mM_part.2.1 40 = .ok (.iload 5, 2) := by decide +kernel
theorem dM_part_42 : decode mM_part.2.1 42 = .ok (.iconst 1, 1) := by decide +kernel
theorem dM_part_43 : decode mM_part.2.1 43 = .ok (.iconst 4, 1) := by decide +kernel
theorem dM_part_44 : decode mM_part.2.1 44 = .ok (.invokevirtual 61, 3) := by decide +kernel
theorem dM_part_47 : decode mM_part.2.1 47 = .ok (.ifCond .eq 5, 3) := by decide +kernel
theorem dM_part_50 : decode mM_part.2.1 50 = .ok (.iconst (-1), 1) := by decide +kernel
theorem dM_part_51 : decode mM_part.2.1 51 = .ok (.ireturn, 1) := by decide +kernel
theorem dM_part_52 : decode mM_part.2.1 52 = .ok (.iload_n 2, 1) := by decide +kernel
theorem dM_part_53 : decode mM_part.2.1 53 = .ok (.iload 4, 2) := by decide +kernel
theorem dM_part_55 : decode mM_part.2.1 55 = .ok (.iadd, 1) := by decide +kernel
theorem dM_part_56 : decode mM_part.2.1 56 = .ok (.aload_n 0, 1) := by decide +kernel
theorem dM_part_57 : decode mM_part.2.1 57 = .ok (.getfield 25, 3) := by decide +kernel
theorem dM_part_60 : decode mM_part.2.1 60 = .ok (.iload_n 1, 1) := by decide +kernel
theorem dM_part_61 : decode mM_part.2.1 61 = .ok (.iaload, 1) := by decide +kernel
theorem dM_part_62 : decode mM_part.2.1 62 = .ok (.if_icmp .gt 16, 3) := by decide +kernel
theorem dM_part_65 : decode mM_part.2.1 65 = .ok (.iload_n 3, 1) := by decide +kernel
theorem dM_part_66 : decode mM_part.2.1 66 = .ok (.iload 5, 2) := by decide +kernel
theorem dM_part_68 : decode mM_part.2.1 68 = .ok (.iadd, 1) := by decide +kernel
theorem dM_part_69 : decode mM_part.2.1 69 = .ok (.aload_n 0, 1) := by decide +kernel
theorem dM_part_70 : decode mM_part.2.1 70 = .ok (.getfield 28, 3) := by decide +kernel
theorem dM_part_73 : decode mM_part.2.1 73 = .ok (.iload_n 1, 1) := by decide +kernel
theorem dM_part_74 : decode mM_part.2.1 74 = .ok (.iaload, 1) := by decide +kernel
theorem dM_part_75 : decode mM_part.2.1 75 = .ok (.if_icmp .le 6, 3) := by decide +kernel
theorem dM_part_78 : decode mM_part.2.1 78 = .ok (.bipush (-3), 2) := by decide +kernel
theorem dM_part_80 : decode mM_part.2.1 80 = .ok (.ireturn, 1) := by decide +kernel
theorem dM_part_81 : decode mM_part.2.1 81 = .ok (.aload_n 0, 1) := by decide +kernel
theorem dM_part_82 : decode mM_part.2.1 82 = .ok (.bipush 12, 2) := by decide +kernel
theorem dM_part_84 : decode mM_part.2.1 84 = .ok (.iload_n 1, 1) := by decide +kernel
theorem dM_part_85 : decode mM_part.2.1 85 = .ok (.iconst (-1), 1) := by decide +kernel
theorem dM_part_86 : decode mM_part.2.1 86 = .ok (.iload_n 2, 1) := by decide +kernel
theorem dM_part_87 : decode mM_part.2.1 87 = .ok (.iload_n 3, 1) := by decide +kernel
theorem dM_part_88 : decode mM_part.2.1 88 = .ok (.iload 4, 2) := by decide +kernel
theorem dM_part_90 : decode mM_part.2.1 90 = .ok (.iload 5, 2) := by decide +kernel
theorem dM_part_92 : decode mM_part.2.1 92 = .ok (.invokevirtual 65, 3) := by decide +kernel
theorem dM_part_95 : decode mM_part.2.1 95 = .ok (.ireturn, 1) := by decide +kernel
theorem dM_mark_0 : decode mM_mark.2.1 0 = .ok (.aload_n 0, 1) := by decide +kernel
theorem dM_mark_1 : decode mM_mark.2.1 1 = .ok (.iload_n 1, 1) := by decide +kernel
theorem dM_mark_2 : decode mM_mark.2.1 2 = .ok (.invokevirtual 69, 3) := by decide +kernel
theorem dM_mark_5 : decode mM_mark.2.1 5 = .ok (.ifCond .eq 5, 3) := by decide +kernel
theorem dM_mark_8 : decode mM_mark.2.1 8 = .ok (.iconst (-1), 1) := by decide +kernel
theorem dM_mark_9 : decode mM_mark.2.1 9 = .ok (.ireturn, 1) := by decide +kernel
theorem dM_mark_10 : decode mM_mark.2.1 10 = .ok (.aload_n 0, 1) := by decide +kernel
theorem dM_mark_11 : decode mM_mark.2.1 11 = .ok (.getfield 31, 3) := by decide +kernel
theorem dM_mark_14 : decode mM_mark.2.1 14 = .ok (.iload_n 1, 1) := by decide +kernel
theorem dM_mark_15 : decode mM_mark.2.1 15 = .ok (.iload_n 2, 1) := by decide +kernel
theorem dM_mark_16 : decode mM_mark.2.1 16 = .ok (.bastore, 1) := by decide +kernel
theorem dM_mark_17 : decode mM_mark.2.1 17 = .ok (.aload_n 0, 1) := by decide +kernel
theorem dM_mark_18 : decode mM_mark.2.1 18 = .ok (.invokevirtual 58, 3) := by decide +kernel
theorem dM_mark_21 : decode mM_mark.2.1 21 = .ok (.iconst 0, 1) := by decide +kernel
theorem dM_mark_22 : decode mM_mark.2.1 22 = .ok (.ireturn, 1) := by decide +kernel
theorem dM_set_0 : decode mM_set.2.1 0 = .ok (.aload_n 0, 1) := by decide +kernel
theorem dM_set_1 : decode mM_set.2.1 1 = .ok (.iload_n 1, 1) := by decide +kernel
theorem dM_set_2 : decode mM_set.2.1 2 = .ok (.iconst 0, 1) := by decide +kernel
theorem dM_set_3 : decode mM_set.2.1 3 = .ok (.iconst 3, 1) := by decide +kernel
theorem dM_set_4 : decode mM_set.2.1 4 = .ok (.invokevirtual 61, 3) := by decide +kernel
theorem dM_set_7 : decode mM_set.2.1 7 = .ok (.ifCond .ne 23, 3) := by decide +kernel
theorem dM_set_10 : decode mM_set.2.1 10 = .ok (.aload_n 0, 1) := by decide +kernel
theorem dM_set_11 : decode mM_set.2.1 11 = .ok (.iload_n 2, 1) := by decide +kernel
theorem dM_set_12 : decode mM_set.2.1 12 = .ok (.iconst 0, 1) := by decide +kernel
theorem dM_set_13 : decode mM_set.2.1 13 = .ok (.iconst 3, 1) := by decide +kernel
theorem dM_set_14 : decode mM_set.2.1 14 = .ok (.invokevirtual 61, 3) := by decide +kernel
theorem dM_set_17 : decode mM_set.2.1 17 = .ok (.ifCond .ne 13, 3) := by decide +kernel
theorem dM_set_20 : decode mM_set.2.1 20 = .ok (.aload_n 0, 1) := by decide +kernel
theorem dM_set_21 : decode mM_set.2.1 21 = .ok (.iload_n 3, 1) := by decide +kernel
theorem dM_set_22 : decode mM_set.2.1 22 = .ok (.iconst 0, 1) := by decide +kernel
theorem dM_set_23 : decode mM_set.2.1 23 = .ok (.iconst 3, 1) := by decide +kernel
theorem dM_set_24 : decode mM_set.2.1 24 = .ok (.invokevirtual 61, 3) := by decide +kernel
theorem dM_set_27 : decode mM_set.2.1 27 = .ok (.ifCond .eq 5, 3) := by decide +kernel
theorem dM_set_30 : decode mM_set.2.1 30 = .ok (.iconst (-1), 1) := by decide +kernel
theorem dM_set_31 : decode mM_set.2.1 31 = .ok (.ireturn, 1) := by decide +kernel
theorem dM_set_32 : decode mM_set.2.1 32 = .ok (.aload_n 0, 1) := by decide +kernel
theorem dM_set_33 : decode mM_set.2.1 33 = .ok (.getfield 38, 3) := by decide +kernel
theorem dM_set_36 : decode mM_set.2.1 36 = .ok (.iload_n 1, 1) := by decide +kernel
theorem dM_set_37 : decode mM_set.2.1 37 = .ok (.bipush 16, 2) := by decide +kernel
theorem dM_set_39 : decode mM_set.2.1 39 = .ok (.imul, 1) := by decide +kernel
theorem dM_set_40 : decode mM_set.2.1 40 = .ok (.iload_n 2, 1) := by decide +kernel
theorem dM_set_41 : decode mM_set.2.1 41 = .ok (.iconst 4, 1) := by decide +kernel
theorem dM_set_42 : decode mM_set.2.1 42 = .ok (.imul, 1) := by decide +kernel
theorem dM_set_43 : decode mM_set.2.1 43 = .ok (.iadd, 1) := by decide +kernel
theorem dM_set_44 : decode mM_set.2.1 44 = .ok (.iload_n 3, 1) := by decide +kernel
theorem dM_set_45 : decode mM_set.2.1 45 = .ok (.iadd, 1) := by decide +kernel
theorem dM_set_46 : decode mM_set.2.1 46 = .ok (.iload 4, 2) := by decide +kernel
theorem dM_set_48 : decode mM_set.2.1 48 = .ok (.iastore, 1) := by decide +kernel
theorem dM_set_49 : decode mM_set.2.1 49 = .ok (.iconst 0, 1) := by decide +kernel
theorem dM_set_50 : decode mM_set.2.1 50 = .ok (.ireturn, 1) := by decide +kernel
theorem dM_splat_0 : decode mM_splat.2.1 0 = .ok (.aload_n 0, 1) := by decide +kernel
theorem dM_splat_1 : decode mM_splat.2.1 1 = .ok (.getfield 7, 3) := by decide +kernel
theorem dM_splat_4 : decode mM_splat.2.1 4 = .ok (.iload_n 1, 1) := by decide +kernel
theorem dM_splat_5 : decode mM_splat.2.1 5 = .ok (.iaload, 1) := by decide +kernel
theorem dM_splat_6 : decode mM_splat.2.1 6 = .ok (.iconst 1, 1) := by decide +kernel
theorem dM_splat_7 : decode mM_splat.2.1 7 = .ok (.if_icmp .ne 17, 3) := by decide +kernel
theorem dM_splat_10 : decode mM_splat.2.1 10 = .ok (.aload_n 0, 1) := by decide +kernel
theorem dM_splat_11 : decode mM_splat.2.1 11 = .ok (.getfield 19, 3) := by decide +kernel
theorem dM_splat_14 : decode mM_splat.2.1 14 = .ok (.iload_n 1, 1) := by decide +kernel
theorem dM_splat_15 : decode mM_splat.2.1 15 = .ok (.iaload, 1) := by decide +kernel
theorem dM_splat_16 : decode mM_splat.2.1 16 = .ok (.iload_n 2, 1) := by decide +kernel
theorem dM_splat_17 : decode mM_splat.2.1 17 = .ok (.if_icmp .ne 7, 3) := by decide +kernel
theorem dM_splat_20 : decode mM_splat.2.1 20 = .ok (.iconst 1, 1) := by decide +kernel
theorem dM_splat_21 : decode mM_splat.2.1 21 = .ok (.goto 4, 3) := by decide +kernel
theorem dM_splat_24 : decode mM_splat.2.1 24 = .ok (.iconst 0, 1) := by decide +kernel
theorem dM_splat_25 : decode mM_splat.2.1 25 = .ok (.ireturn, 1) := by decide +kernel
theorem dM_sameShape_0 : decode mM_sameShape.2.1 0 = .ok (.aload_n 0, 1) := by decide +kernel
theorem dM_sameShape_1 : decode mM_sameShape.2.1 1 = .ok (.getfield 25, 3) := by decide +kernel
theorem dM_sameShape_4 : decode mM_sameShape.2.1 4 = .ok (.iload_n 1, 1) := by decide +kernel
theorem dM_sameShape_5 : decode mM_sameShape.2.1 5 = .ok (.iaload, 1) := by decide +kernel
theorem dM_sameShape_6 : decode mM_sameShape.2.1 6 = .ok (.aload_n 0, 1) := by decide +kernel
theorem dM_sameShape_7 : decode mM_sameShape.2.1 7 = .ok (.getfield 25, 3) := by decide +kernel
theorem dM_sameShape_10 : decode mM_sameShape.2.1 10 = .ok (.iload_n 2, 1) := by decide +kernel
theorem dM_sameShape_11 : decode mM_sameShape.2.1 11 = .ok (.iaload, 1) := by decide +kernel
theorem dM_sameShape_12 : decode mM_sameShape.2.1 12 = .ok (.if_icmp .ne 22, 3) := by decide +kernel
theorem dM_sameShape_15 : decode mM_sameShape.2.1 15 = .ok (.aload_n 0, 1) := by decide +kernel
theorem dM_sameShape_16 : decode mM_sameShape.2.1 16 = .ok (.getfield 28, 3) := by decide +kernel
theorem dM_sameShape_19 : decode mM_sameShape.2.1 19 = .ok (.iload_n 1, 1) := by decide +kernel
theorem dM_sameShape_20 : decode mM_sameShape.2.1 20 = .ok (.iaload, 1) := by decide +kernel
theorem dM_sameShape_21 : decode mM_sameShape.2.1 21 = .ok (.aload_n 0, 1) := by decide +kernel
theorem dM_sameShape_22 : decode mM_sameShape.2.1 22 = .ok (.getfield 28, 3) := by decide +kernel
theorem dM_sameShape_25 : decode mM_sameShape.2.1 25 = .ok (.iload_n 2, 1) := by decide +kernel
theorem dM_sameShape_26 : decode mM_sameShape.2.1 26 = .ok (.iaload, 1) := by decide +kernel
theorem dM_sameShape_27 : decode mM_sameShape.2.1 27 = .ok (.if_icmp .ne 7, 3) := by decide +kernel
theorem dM_sameShape_30 : decode mM_sameShape.2.1 30 = .ok (.iconst 1, 1) := by decide +kernel
theorem dM_sameShape_31 : decode mM_sameShape.2.1 31 = .ok (.goto 4, 3) := by decide +kernel
theorem dM_sameShape_34 : decode mM_sameShape.2.1 34 = .ok (.iconst 0, 1) := by decide +kernel
theorem dM_sameShape_35 : decode mM_sameShape.2.1 35 = .ok (.ireturn, 1) := by decide +kernel
theorem dM_become_0 : decode mM_become.2.1 0 = .ok (.aload_n 0, 1) := by decide +kernel
theorem dM_become_1 : decode mM_become.2.1 1 = .ok (.getfield 7, 3) := by decide +kernel
theorem dM_become_4 : decode mM_become.2.1 4 = .ok (.iload_n 1, 1) := by decide +kernel
theorem dM_become_5 : decode mM_become.2.1 5 = .ok (.iconst 1, 1) := by decide +kernel
theorem dM_become_6 : decode mM_become.2.1 6 = .ok (.iastore, 1) := by decide +kernel
theorem dM_become_7 : decode mM_become.2.1 7 = .ok (.aload_n 0, 1) := by decide +kernel
theorem dM_become_8 : decode mM_become.2.1 8 = .ok (.getfield 13, 3) := by decide +kernel
theorem dM_become_11 : decode mM_become.2.1 11 = .ok (.iload_n 1, 1) := by decide +kernel
theorem dM_become_12 : decode mM_become.2.1 12 = .ok (.iconst (-1), 1) := by decide +kernel
theorem dM_become_13 : decode mM_become.2.1 13 = .ok (.iastore, 1) := by decide +kernel
theorem dM_become_14 : decode mM_become.2.1 14 = .ok (.aload_n 0, 1) := by decide +kernel
theorem dM_become_15 : decode mM_become.2.1 15 = .ok (.getfield 16, 3) := by decide +kernel
theorem dM_become_18 : decode mM_become.2.1 18 = .ok (.iload_n 1, 1) := by decide +kernel
theorem dM_become_19 : decode mM_become.2.1 19 = .ok (.iconst (-1), 1) := by decide +kernel
theorem dM_become_20 : decode mM_become.2.1 20 = .ok (.iastore, 1) := by decide +kernel
theorem dM_become_21 : decode mM_become.2.1 21 = .ok (.aload_n 0, 1) := by decide +kernel
theorem dM_become_22 : decode mM_become.2.1 22 = .ok (.getfield 19, 3) := by decide +kernel
theorem dM_become_25 : decode mM_become.2.1 25 = .ok (.iload_n 1, 1) := by decide +kernel
theorem dM_become_26 : decode mM_become.2.1 26 = .ok (.iload_n 2, 1) := by decide +kernel
theorem dM_become_27 : decode mM_become.2.1 27 = .ok (.iastore, 1) := by decide +kernel
theorem dM_become_28 : decode mM_become.2.1 28 = .ok (.aload_n 0, 1) := by decide +kernel
theorem dM_become_29 : decode mM_become.2.1 29 = .ok (.getfield 22, 3) := by decide +kernel
theorem dM_become_32 : decode mM_become.2.1 32 = .ok (.iload_n 1, 1) := by decide +kernel
theorem dM_become_33 : decode mM_become.2.1 33 = .ok (.iconst 0, 1) := by decide +kernel
theorem dM_become_34 : decode mM_become.2.1 34 = .ok (.iastore, 1) := by decide +kernel
theorem dM_become_35 : decode mM_become.2.1 35 = .ok (.return_, 1) := by decide +kernel
end
section
theorem dM_folded_0 : decode mM_folded.2.1 0 = .ok (.aload_n 0, 1) := by decide +kernel
theorem dM_folded_1 : decode mM_folded.2.1 1 = .ok (.getfield 19, 3) := by decide +kernel
theorem dM_folded_4 : decode mM_folded.2.1 4 = .ok (.aload_n 0, 1) := by decide +kernel
theorem dM_folded_5 : decode mM_folded.2.1 5 = .ok (.getfield 13, 3) := by decide +kernel
theorem dM_folded_8 : decode mM_folded.2.1 8 = .ok (.iload_n 1, 1) := by decide +kernel
theorem dM_folded_9 : decode mM_folded.2.1 9 = .ok (.iaload, 1) := by decide +kernel
theorem dM_folded_10 : decode mM_folded.2.1 10 = .ok (.iaload, 1) := by decide +kernel
theorem dM_folded_11 : decode mM_folded.2.1 11 = .ok (.istore_n 2, 1) := by decide +kernel
theorem dM_folded_12 : decode mM_folded.2.1 12 = .ok (.aload_n 0, 1) := by decide +kernel
theorem dM_folded_13 : decode mM_folded.2.1 13 = .ok (.getfield 16, 3) := by decide +kernel
theorem dM_folded_16 : decode mM_folded.2.1 16 = .ok (.iload_n 1, 1) := by decide +kernel
theorem dM_folded_17 : decode mM_folded.2.1 17 = .ok (.iaload, 1) := by decide +kernel
theorem dM_folded_18 : decode mM_folded.2.1 18 = .ok (.ifCond .ge 7, 3) := by decide +kernel
theorem dM_folded_21 : decode mM_folded.2.1 21 = .ok (.iconst 0, 1) := by decide +kernel
theorem dM_folded_22 : decode mM_folded.2.1 22 = .ok (.goto 14, 3) := by decide +kernel
theorem dM_folded_25 : decode mM_folded.2.1 25 = .ok (.aload_n 0, 1) := by decide +kernel
theorem dM_folded_26 : decode mM_folded.2.1 26 = .ok (.getfield 19, 3) := by decide +kernel
theorem dM_folded_29 : decode mM_folded.2.1 29 = .ok (.aload_n 0, 1) := by decide +kernel
theorem dM_folded_30 : decode mM_folded.2.1 30 = .ok (.getfield 16, 3) := by decide +kernel
theorem dM_folded_33 : decode mM_folded.2.1 33 = .ok (.iload_n 1, 1) := by decide +kernel
theorem dM_folded_34 : decode mM_folded.2.1 34 = .ok (.iaload, 1) := by decide +kernel
theorem dM_folded_35 : decode mM_folded.2.1 35 = .ok (.iaload, 1) := by decide +kernel
theorem dM_folded_36 : decode mM_folded.2.1 36 = .ok (.istore_n 3, 1) := by decide +kernel
theorem dM_folded_37 : decode mM_folded.2.1 37 = .ok (.aload_n 0, 1) := by decide +kernel
theorem dM_folded_38 : decode mM_folded.2.1 38 = .ok (.getfield 7, 3) := by decide +kernel
theorem dM_folded_41 : decode mM_folded.2.1 41 = .ok (.iload_n 1, 1) := by decide +kernel
theorem dM_folded_42 : decode mM_folded.2.1 42 = .ok (.iaload, 1) := by decide +kernel
theorem dM_folded_43 : decode mM_folded.2.1 43 = .ok (.istore 4, 2) := by decide +kernel
theorem dM_folded_45 : decode mM_folded.2.1 45 = .ok (.iload 4, 2) := by decide +kernel
theorem dM_folded_47 : decode mM_folded.2.1 47 = .ok (.iconst 3, 1) := by decide +kernel
theorem dM_folded_48 : decode mM_folded.2.1 48 = .ok (.if_icmp .ne 7, 3) := by decide +kernel
theorem dM_folded_51 : decode mM_folded.2.1 51 = .ok (.iload_n 2, 1) := by decide +kernel
theorem dM_folded_52 : decode mM_folded.2.1 52 = .ok (.iload_n 3, 1) := by decide +kernel
theorem dM_folded_53 : decode mM_folded.2.1 53 = .ok (.iadd, 1) := by decide +kernel
theorem dM_folded_54 : decode mM_folded.2.1 54 = .ok (.ireturn, 1) := by decide +kernel
theorem dM_folded_55 : decode mM_folded.2.1 55 = .ok (.iload 4, 2) := by decide +kernel
theorem dM_folded_57 : decode mM_folded.2.1 57 = .ok (.iconst 4, 1) := by decide +kernel
theorem dM_folded_58 : decode mM_folded.2.1 58 = .ok (.if_icmp .ne 7, 3) := by decide +kernel
theorem dM_folded_61 : decode mM_folded.2.1 61 = .ok (.iload_n 2, 1) := by decide +kernel
theorem dM_folded_62 : decode mM_folded.2.1 62 = .ok (.iload_n 3, 1) := by decide +kernel
theorem dM_folded_63 : decode mM_folded.2.1 63 = .ok (.imul, 1) := by decide +kernel
theorem dM_folded_64 : decode mM_folded.2.1 64 = .ok (.ireturn, 1) := by decide +kernel
theorem dM_folded_65 : decode mM_folded.2.1 65 = .ok (.iload 4, 2) := by decide +kernel
theorem dM_folded_67 : decode mM_folded.2.1 67 = .ok (.iconst 5, 1) := by decide +kernel
theorem dM_folded_68 : decode mM_folded.2.1 68 = .ok (.if_icmp .ne 14, 3) := by decide +kernel
theorem dM_folded_71 : decode mM_folded.2.1 71 = .ok (.iload_n 2, 1) := by decide +kernel
theorem dM_folded_72 : decode mM_folded.2.1 72 = .ok (.iload_n 3, 1) := by decide +kernel
theorem dM_folded_73 : decode mM_folded.2.1 73 = .ok (.if_icmp .le 7, 3) := by decide +kernel
theorem dM_folded_76 : decode mM_folded.2.1 76 = .ok (.iload_n 2, 1) := by decide +kernel
theorem dM_folded_77 : decode mM_folded.2.1 77 = .ok (.goto 4, 3) := by decide +kernel
theorem dM_folded_80 : decode mM_folded.2.1 80 = .ok (.iload_n 3, 1) := by decide +kernel
theorem dM_folded_81 : decode mM_folded.2.1 81 = .ok (.ireturn, 1) := by decide +kernel
theorem dM_folded_82 : decode mM_folded.2.1 82 = .ok (.iload 4, 2) := by decide +kernel
theorem dM_folded_84 : decode mM_folded.2.1 84 = .ok (.bipush 6, 2) := by decide +kernel
theorem dM_folded_86 : decode mM_folded.2.1 86 = .ok (.if_icmp .ne 6, 3) := by decide +kernel
theorem dM_folded_89 : decode mM_folded.2.1 89 = .ok (.iload_n 2, 1) := by decide +kernel
theorem dM_folded_90 : decode mM_folded.2.1 90 = .ok (.ineg, 1) := by decide +kernel
theorem dM_folded_91 : decode mM_folded.2.1 91 = .ok (.ireturn, 1) := by decide +kernel
theorem dM_folded_92 : decode mM_folded.2.1 92 = .ok (.iload 4, 2) := by decide +kernel
theorem dM_folded_94 : decode mM_folded.2.1 94 = .ok (.bipush 8, 2) := by decide +kernel
theorem dM_folded_96 : decode mM_folded.2.1 96 = .ok (.if_icmp .ne 19, 3) := by decide +kernel
theorem dM_folded_99 : decode mM_folded.2.1 99 = .ok (.iload_n 2, 1) := by decide +kernel
theorem dM_folded_100 : decode mM_folded.2.1 100 = .ok (.iload_n 3, 1) := by decide +kernel
theorem dM_folded_101 : decode mM_folded.2.1 101 = .ok (.imul, 1) := by decide +kernel
theorem dM_folded_102 : decode mM_folded.2.1 102 = .ok (.aload_n 0, 1) := by decide +kernel
theorem dM_folded_103 : decode mM_folded.2.1 103 = .ok (.getfield 28, 3) := by decide +kernel
theorem dM_folded_106 : decode mM_folded.2.1 106 = .ok (.aload_n 0, 1) := by decide +kernel
theorem dM_folded_107 : decode mM_folded.2.1 107 = .ok (.getfield 13, 3) := by decide +kernel
theorem dM_folded_110 : decode mM_folded.2.1 110 = .ok (.iload_n 1, 1) := by decide +kernel
theorem dM_folded_111 : decode mM_folded.2.1 111 = .ok (.iaload, 1) := by decide +kernel
theorem dM_folded_112 : decode mM_folded.2.1 112 = .ok (.iaload, 1) := by decide +kernel
theorem dM_folded_113 : decode mM_folded.2.1 113 = .ok (.imul, 1) := by decide +kernel
theorem dM_folded_114 : decode mM_folded.2.1 114 = .ok (.ireturn, 1) := by decide +kernel
theorem dM_folded_115 : decode mM_folded.2.1 115 = .ok (.iload 4, 2) := by decide +kernel
theorem dM_folded_117 : decode mM_folded.2.1 117 = .ok (.bipush 9, 2) := by decide +kernel
theorem dM_folded_119 : decode mM_folded.2.1 119 = .ok (.if_icmp .ne 40, 3) := by decide +kernel
theorem dM_folded_122 : decode mM_folded.2.1 122 = .ok (.iload_n 2, 1) := by decide +kernel
theorem dM_folded_123 : decode mM_folded.2.1 123 = .ok (.aload_n 0, 1) := by decide +kernel
theorem dM_folded_124 : decode mM_folded.2.1 124 = .ok (.getfield 19, 3) := by decide +kernel
theorem dM_folded_127 : decode mM_folded.2.1 127 = .ok (.iload_n 1, 1) := by decide +kernel
theorem dM_folded_128 : decode mM_folded.2.1 128 = .ok (.iaload, 1) := by decide +kernel
theorem dM_folded_129 : decode mM_folded.2.1 129 = .ok (.ifCond .ne 17, 3) := by decide +kernel
theorem dM_folded_132 : decode mM_folded.2.1 132 = .ok (.aload_n 0, 1) := by decide +kernel
theorem dM_folded_133 : decode mM_folded.2.1 133 = .ok (.getfield 25, 3) := by decide +kernel
theorem dM_folded_136 : decode mM_folded.2.1 136 = .ok (.aload_n 0, 1) := by decide +kernel
theorem dM_folded_137 : decode mM_folded.2.1 137 = .ok (.getfield 13, 3) := by decide +kernel
theorem dM_folded_140 : decode mM_folded.2.1 140 = .ok (.iload_n 1, 1) := by decide +kernel
theorem dM_folded_141 : decode mM_folded.2.1 141 = .ok (.iaload, 1) := by decide +kernel
theorem dM_folded_142 : decode mM_folded.2.1 142 = .ok (.iaload, 1) := by decide +kernel
theorem dM_folded_143 : decode mM_folded.2.1 143 = .ok (.goto 14, 3) := by decide +kernel
theorem dM_folded_146 : decode mM_folded.2.1 146 = .ok (.aload_n 0, 1) := by decide +kernel
theorem dM_folded_147 : decode mM_folded.2.1 147 = .ok (.getfield 28, 3) := by decide +kernel
theorem dM_folded_150 : decode mM_folded.2.1 150 = .ok (.aload_n 0, 1) := by decide +kernel
theorem dM_folded_151 : decode mM_folded.2.1 151 = .ok (.getfield 13, 3) := by decide +kernel
theorem dM_folded_154 : decode mM_folded.2.1 154 = .ok (.iload_n 1, 1) := by decide +kernel
theorem dM_folded_155 : decode mM_folded.2.1 155 = .ok (.iaload, 1) := by decide +kernel
theorem dM_folded_156 : decode mM_folded.2.1 156 = .ok (.iaload, 1) := by decide +kernel
theorem dM_folded_157 : decode mM_folded.2.1 157 = .ok (.imul, 1) := by decide +kernel
theorem dM_folded_158 : decode mM_folded.2.1 158 = .ok (.ireturn, 1) := by decide +kernel
theorem dM_folded_159 : decode mM_folded.2.1 159 = .ok (.iload_n 2, 1) := by decide +kernel
theorem dM_folded_160 : decode mM_folded.2.1 160 = .ok (.ireturn, 1) := by decide +kernel
theorem dM_rule_0 : decode mM_rule.2.1 0 = .ok (.aload_n 0, 1) := by decide +kernel
theorem dM_rule_1 : decode mM_rule.2.1 1 = .ok (.getfield 13, 3) := by decide +kernel
theorem dM_rule_4 : decode mM_rule.2.1 4 = .ok (.iload_n 1, 1) := by decide +kernel
theorem dM_rule_5 : decode mM_rule.2.1 5 = .ok (.iaload, 1) := by decide +kernel
theorem dM_rule_6 : decode mM_rule.2.1 6 = .ok (.istore_n 2, 1) := by decide +kernel
theorem dM_rule_7 : decode mM_rule.2.1 7 = .ok (.aload_n 0, 1) := by decide +kernel
theorem dM_rule_8 : decode mM_rule.2.1 8 = .ok (.getfield 16, 3) := by decide +kernel
theorem dM_rule_11 : decode mM_rule.2.1 11 = .ok (.iload_n 1, 1) := by decide +kernel
theorem dM_rule_12 : decode mM_rule.2.1 12 = .ok (.iaload, 1) := by decide +kernel
theorem dM_rule_13 : decode mM_rule.2.1 13 = .ok (.istore_n 3, 1) := by decide +kernel
theorem dM_rule_14 : decode mM_rule.2.1 14 = .ok (.aload_n 0, 1) := by decide +kernel
theorem dM_rule_15 : decode mM_rule.2.1 15 = .ok (.getfield 7, 3) := by decide +kernel
theorem dM_rule_18 : decode mM_rule.2.1 18 = .ok (.iload_n 1, 1) := by decide +kernel
theorem dM_rule_19 : decode mM_rule.2.1 19 = .ok (.iaload, 1) := by decide +kernel
theorem dM_rule_20 : decode mM_rule.2.1 20 = .ok (.istore 4, 2) := by decide +kernel
theorem dM_rule_22 : decode mM_rule.2.1 22 = .ok (.iload_n 2, 1) := by decide +kernel
theorem dM_rule_23 : decode mM_rule.2.1 23 = .ok (.ifCond .ge 5, 3) := by decide +kernel
theorem dM_rule_26 : decode mM_rule.2.1 26 = .ok (.iconst 0, 1) := by decide +kernel
theorem dM_rule_27 : decode mM_rule.2.1 27 = .ok (.ireturn, 1) := by decide +kernel
theorem dM_rule_28 : decode mM_rule.2.1 28 = .ok (.aload_n 0, 1) := by decide +kernel
theorem dM_rule_29 : decode mM_rule.2.1 29 = .ok (.getfield 7, 3) := by decide +kernel
theorem dM_rule_32 : decode mM_rule.2.1 32 = .ok (.iload_n 2, 1) := by decide +kernel
theorem dM_rule_33 : decode mM_rule.2.1 33 = .ok (.iaload, 1) := by decide +kernel
theorem dM_rule_34 : decode mM_rule.2.1 34 = .ok (.iconst 1, 1) := by decide +kernel
theorem dM_rule_35 : decode mM_rule.2.1 35 = .ok (.if_icmp .ne 29, 3) := by decide +kernel
theorem dM_rule_38 : decode mM_rule.2.1 38 = .ok (.iload_n 3, 1) := by decide +kernel
theorem dM_rule_39 : decode mM_rule.2.1 39 = .ok (.ifCond .lt 13, 3) := by decide +kernel
theorem dM_rule_42 : decode mM_rule.2.1 42 = .ok (.aload_n 0, 1) := by decide +kernel
theorem dM_rule_43 : decode mM_rule.2.1 43 = .ok (.getfield 7, 3) := by decide +kernel
theorem dM_rule_46 : decode mM_rule.2.1 46 = .ok (.iload_n 3, 1) := by decide +kernel
theorem dM_rule_47 : decode mM_rule.2.1 47 = .ok (.iaload, 1) := by decide +kernel
theorem dM_rule_48 : decode mM_rule.2.1 48 = .ok (.iconst 1, 1) := by decide +kernel
theorem dM_rule_49 : decode mM_rule.2.1 49 = .ok (.if_icmp .ne 15, 3) := by decide +kernel
theorem dM_rule_52 : decode mM_rule.2.1 52 = .ok (.aload_n 0, 1) := by decide +kernel
theorem dM_rule_53 : decode mM_rule.2.1 53 = .ok (.iload_n 1, 1) := by decide +kernel
theorem dM_rule_54 : decode mM_rule.2.1 54 = .ok (.aload_n 0, 1) := by decide +kernel
theorem dM_rule_55 : decode mM_rule.2.1 55 = .ok (.iload_n 1, 1) := by decide +kernel
theorem dM_rule_56 : decode mM_rule.2.1 56 = .ok (.invokevirtual 76, 3) := by decide +kernel
theorem dM_rule_59 : decode mM_rule.2.1 59 = .ok (.invokevirtual 80, 3) := by decide +kernel
theorem dM_rule_62 : decode mM_rule.2.1 62 = .ok (.iconst 1, 1) := by decide +kernel
theorem dM_rule_63 : decode mM_rule.2.1 63 = .ok (.ireturn, 1) := by decide +kernel
theorem dM_rule_64 : decode mM_rule.2.1 64 = .ok (.iload 4, 2) := by decide +kernel
theorem dM_rule_66 : decode mM_rule.2.1 66 = .ok (.iconst 3, 1) := by decide +kernel
theorem dM_rule_67 : decode mM_rule.2.1 67 = .ok (.if_icmp .eq 9, 3) := by decide +kernel
theorem dM_rule_70 : decode mM_rule.2.1 70 = .ok (.iload 4, 2) := by decide +kernel
theorem dM_rule_72 : decode mM_rule.2.1 72 = .ok (.iconst 4, 1) := by decide +kernel
theorem dM_rule_73 : decode mM_rule.2.1 73 = .ok (.if_icmp .ne 46, 3) := by decide +kernel
theorem dM_rule_76 : decode mM_rule.2.1 76 = .ok (.iload 4, 2) := by decide +kernel
theorem dM_rule_78 : decode mM_rule.2.1 78 = .ok (.iconst 3, 1) := by decide +kernel
theorem dM_rule_79 : decode mM_rule.2.1 79 = .ok (.isub, 1) := by decide +kernel
theorem dM_rule_80 : decode mM_rule.2.1 80 = .ok (.istore 5, 2) := by decide +kernel
theorem dM_rule_82 : decode mM_rule.2.1 82 = .ok (.aload_n 0, 1) := by decide +kernel
theorem dM_rule_83 : decode mM_rule.2.1 83 = .ok (.iload_n 2, 1) := by decide +kernel
theorem dM_rule_84 : decode mM_rule.2.1 84 = .ok (.iload 5, 2) := by decide +kernel
theorem dM_rule_86 : decode mM_rule.2.1 86 = .ok (.invokevirtual 84, 3) := by decide +kernel
theorem dM_rule_89 : decode mM_rule.2.1 89 = .ok (.ifCond .eq 13, 3) := by decide +kernel
theorem dM_rule_92 : decode mM_rule.2.1 92 = .ok (.aload_n 0, 1) := by decide +kernel
theorem dM_rule_93 : decode mM_rule.2.1 93 = .ok (.getfield 35, 3) := by decide +kernel
theorem dM_rule_96 : decode mM_rule.2.1 96 = .ok (.iload_n 1, 1) := by decide +kernel
theorem dM_rule_97 : decode mM_rule.2.1 97 = .ok (.iload_n 3, 1) := by decide +kernel
theorem dM_rule_98 : decode mM_rule.2.1 98 = .ok (.iastore, 1) := by decide +kernel
theorem dM_rule_99 : decode mM_rule.2.1 99 = .ok (.goto 20, 3) := by decide +kernel
theorem dM_rule_102 : decode mM_rule.2.1 102 = .ok (.aload_n 0, 1) := by decide +kernel
theorem dM_rule_103 : decode mM_rule.2.1 103 = .ok (.iload_n 3, 1) := by decide +kernel
theorem dM_rule_104 : decode mM_rule.2.1 104 = .ok (.iload 5, 2) := by decide +kernel
theorem dM_rule_106 : decode mM_rule.2.1 106 = .ok (.invokevirtual 84, 3) := by decide +kernel
theorem dM_rule_109 : decode mM_rule.2.1 109 = .ok (.ifCond .eq 10, 3) := by decide +kernel
theorem dM_rule_112 : decode mM_rule.2.1 112 = .ok (.aload_n 0, 1) := by decide +kernel
theorem dM_rule_113 : decode mM_rule.2.1 113 = .ok (.getfield 35, 3) := by decide +kernel
theorem dM_rule_116 : decode mM_rule.2.1 116 = .ok (.iload_n 1, 1) := by decide +kernel
theorem dM_rule_117 : decode mM_rule.2.1 117 = .ok (.iload_n 2, 1) := by decide +kernel
theorem dM_rule_118 : decode mM_rule.2.1 118 = .ok (.iastore, 1) := by decide +kernel
theorem dM_rule_119 : decode mM_rule.2.1 119 = .ok (.iload 4, 2) := by decide +kernel
theorem dM_rule_121 : decode mM_rule.2.1 121 = .ok (.bipush 10, 2) := by decide +kernel
theorem dM_rule_123 : decode mM_rule.2.1 123 = .ok (.if_icmp .lt 19, 3) := by decide +kernel
theorem dM_rule_126 : decode mM_rule.2.1 126 = .ok (.aload_n 0, 1) := by decide +kernel
theorem dM_rule_127 : decode mM_rule.2.1 127 = .ok (.iload_n 1, 1) := by decide +kernel
theorem dM_rule_128 : decode mM_rule.2.1 128 = .ok (.iload_n 2, 1) := by decide +kernel
theorem dM_rule_129 : decode mM_rule.2.1 129 = .ok (.invokevirtual 88, 3) := by decide +kernel
theorem dM_rule_132 : decode mM_rule.2.1 132 = .ok (.ifCond .eq 10, 3) := by decide +kernel
theorem dM_rule_135 : decode mM_rule.2.1 135 = .ok (.aload_n 0, 1) := by decide +kernel
theorem dM_rule_136 : decode mM_rule.2.1 136 = .ok (.getfield 35, 3) := by decide +kernel
theorem dM_rule_139 : decode mM_rule.2.1 139 = .ok (.iload_n 1, 1) := by decide +kernel
theorem dM_rule_140 : decode mM_rule.2.1 140 = .ok (.iload_n 2, 1) := by decide +kernel
theorem dM_rule_141 : decode mM_rule.2.1 141 = .ok (.iastore, 1) := by decide +kernel
theorem dM_rule_142 : decode mM_rule.2.1 142 = .ok (.aload_n 0, 1) := by decide +kernel
theorem dM_rule_143 : decode mM_rule.2.1 143 = .ok (.getfield 35, 3) := by decide +kernel
theorem dM_rule_146 : decode mM_rule.2.1 146 = .ok (.iload_n 1, 1) := by decide +kernel
theorem dM_rule_147 : decode mM_rule.2.1 147 = .ok (.iaload, 1) := by decide +kernel
theorem dM_rule_148 : decode mM_rule.2.1 148 = .ok (.iload_n 1, 1) := by decide +kernel
theorem dM_rule_149 : decode mM_rule.2.1 149 = .ok (.if_icmp .eq 5, 3) := by decide +kernel
theorem dM_rule_152 : decode mM_rule.2.1 152 = .ok (.iconst 2, 1) := by decide +kernel
theorem dM_rule_153 : decode mM_rule.2.1 153 = .ok (.ireturn, 1) := by decide +kernel
theorem dM_rule_154 : decode mM_rule.2.1 154 = .ok (.iload 4, 2) := by decide +kernel
theorem dM_rule_156 : decode mM_rule.2.1 156 = .ok (.iconst 4, 1) := by decide +kernel
theorem dM_rule_157 : decode mM_rule.2.1 157 = .ok (.if_icmp .ne 29, 3) := by decide +kernel
theorem dM_rule_160 : decode mM_rule.2.1 160 = .ok (.aload_n 0, 1) := by decide +kernel
theorem dM_rule_161 : decode mM_rule.2.1 161 = .ok (.iload_n 2, 1) := by decide +kernel
theorem dM_rule_162 : decode mM_rule.2.1 162 = .ok (.iconst 0, 1) := by decide +kernel
theorem dM_rule_163 : decode mM_rule.2.1 163 = .ok (.invokevirtual 84, 3) := by decide +kernel
theorem dM_rule_166 : decode mM_rule.2.1 166 = .ok (.ifCond .ne 12, 3) := by decide +kernel
theorem dM_rule_169 : decode mM_rule.2.1 169 = .ok (.aload_n 0, 1) := by decide +kernel
theorem dM_rule_170 : decode mM_rule.2.1 170 = .ok (.iload_n 3, 1) := by decide +kernel
theorem dM_rule_171 : decode mM_rule.2.1 171 = .ok (.iconst 0, 1) := by decide +kernel
theorem dM_rule_172 : decode mM_rule.2.1 172 = .ok (.invokevirtual 84, 3) := by decide +kernel
theorem dM_rule_175 : decode mM_rule.2.1 175 = .ok (.ifCond .eq 11, 3) := by decide +kernel
theorem dM_rule_178 : decode mM_rule.2.1 178 = .ok (.aload_n 0, 1) := by decide +kernel
theorem dM_rule_179 : decode mM_rule.2.1 179 = .ok (.iload_n 1, 1) := by decide +kernel
theorem dM_rule_180 : decode mM_rule.2.1 180 = .ok (.iconst 0, 1) := by decide +kernel
theorem dM_rule_181 : decode mM_rule.2.1 181 = .ok (.invokevirtual 80, 3) := by decide +kernel
theorem dM_rule_184 : decode mM_rule.2.1 184 = .ok (.iconst 3, 1) := by decide +kernel
theorem dM_rule_185 : decode mM_rule.2.1 185 = .ok (.ireturn, 1) := by decide +kernel
theorem dM_rule_186 : decode mM_rule.2.1 186 = .ok (.iload 4, 2) := by decide +kernel
theorem dM_rule_188 : decode mM_rule.2.1 188 = .ok (.iconst 5, 1) := by decide +kernel
theorem dM_rule_189 : decode mM_rule.2.1 189 = .ok (.if_icmp .ne 17, 3) := by decide +kernel
theorem dM_rule_192 : decode mM_rule.2.1 192 = .ok (.iload_n 2, 1) := by decide +kernel
theorem dM_rule_193 : decode mM_rule.2.1 193 = .ok (.iload_n 3, 1) := by decide +kernel
theorem dM_rule_194 : decode mM_rule.2.1 194 = .ok (.if_icmp .ne 12, 3) := by decide +kernel
theorem dM_rule_197 : decode mM_rule.2.1 197 = .ok (.aload_n 0, 1) := by decide +kernel
theorem dM_rule_198 : decode mM_rule.2.1 198 = .ok (.getfield 35, 3) := by decide +kernel
theorem dM_rule_201 : decode mM_rule.2.1 201 = .ok (.iload_n 1, 1) := by decide +kernel
theorem dM_rule_202 : decode mM_rule.2.1 202 = .ok (.iload_n 2, 1) := by decide +kernel
theorem dM_rule_203 : decode mM_rule.2.1 203 = .ok (.iastore, 1) := by decide +kernel
theorem dM_rule_204 : decode mM_rule.2.1 204 = .ok (.iconst 4, 1) := by decide +kernel
theorem dM_rule_205 : decode mM_rule.2.1 205 = .ok (.ireturn, 1) := by decide +kernel
theorem dM_rule_206 : decode mM_rule.2.1 206 = .ok (.iload 4, 2) := by decide +kernel
theorem dM_rule_208 : decode mM_rule.2.1 208 = .ok (.aload_n 0, 1) := by decide +kernel
theorem dM_rule_209 : decode mM_rule.2.1 209 = .ok (.getfield 7, 3) := by decide +kernel
theorem dM_rule_212 : decode mM_rule.2.1 212 = .ok (.iload_n 2, 1) := by decide +kernel
theorem dM_rule_213 : decode mM_rule.2.1 213 = .ok (.iaload, 1) := by decide +kernel
theorem dM_rule_214 : decode mM_rule.2.1 214 = .ok (.if_icmp .ne 24, 3) := by decide +kernel
theorem dM_rule_217 : decode mM_rule.2.1 217 = .ok (.iload 4, 2) := by decide +kernel
theorem dM_rule_219 : decode mM_rule.2.1 219 = .ok (.bipush 6, 2) := by decide +kernel
theorem dM_rule_221 : decode mM_rule.2.1 221 = .ok (.if_icmp .eq 19, 3) := by decide +kernel
theorem dM_rule_224 : decode mM_rule.2.1 224 = .ok (.iload 4, 2) := by decide +kernel
theorem dM_rule_226 : decode mM_rule.2.1 226 = .ok (.bipush 7, 2) := by decide +kernel
theorem dM_rule_228 : decode mM_rule.2.1 228 = .ok (.if_icmp .eq 12, 3) := by decide +kernel
theorem dM_rule_231 : decode mM_rule.2.1 231 = .ok (.iload 4, 2) := by decide +kernel
theorem dM_rule_233 : decode mM_rule.2.1 233 = .ok (.bipush 11, 2) := by decide +kernel
theorem dM_rule_235 : decode mM_rule.2.1 235 = .ok (.if_icmp .eq 5, 3) := by decide +kernel
theorem dM_rule_238 : decode mM_rule.2.1 238 = .ok (.iconst 0, 1) := by decide +kernel
theorem dM_rule_239 : decode mM_rule.2.1 239 = .ok (.ireturn, 1) := by decide +kernel
theorem dM_rule_240 : decode mM_rule.2.1 240 = .ok (.aload_n 0, 1) := by decide +kernel
theorem dM_rule_241 : decode mM_rule.2.1 241 = .ok (.getfield 13, 3) := by decide +kernel
theorem dM_rule_244 : decode mM_rule.2.1 244 = .ok (.iload_n 2, 1) := by decide +kernel
theorem dM_rule_245 : decode mM_rule.2.1 245 = .ok (.iaload, 1) := by decide +kernel
theorem dM_rule_246 : decode mM_rule.2.1 246 = .ok (.istore 5, 2) := by decide +kernel
theorem dM_rule_248 : decode mM_rule.2.1 248 = .ok (.iload 4, 2) := by decide +kernel
theorem dM_rule_250 : decode mM_rule.2.1 250 = .ok (.bipush 11, 2) := by decide +kernel
theorem dM_rule_252 : decode mM_rule.2.1 252 = .ok (.if_icmp .ne 13, 3) := by decide +kernel
theorem dM_rule_255 : decode mM_rule.2.1 255 = .ok (.aload_n 0, 1) := by decide +kernel
theorem dM_rule_256 : decode mM_rule.2.1 256 = .ok (.iload_n 1, 1) := by decide +kernel
theorem dM_rule_257 : decode mM_rule.2.1 257 = .ok (.iload 5, 2) := by decide +kernel
theorem dM_rule_259 : decode mM_rule.2.1 259 = .ok (.invokevirtual 88, 3) := by decide +kernel
theorem dM_rule_262 : decode mM_rule.2.1 262 = .ok (.ifCond .eq 14, 3) := by decide +kernel
theorem dM_rule_265 : decode mM_rule.2.1 265 = .ok (.aload_n 0, 1) := by decide +kernel
theorem dM_rule_266 : decode mM_rule.2.1 266 = .ok (.getfield 35, 3) := by decide +kernel
theorem dM_rule_269 : decode mM_rule.2.1 269 = .ok (.iload_n 1, 1) := by decide +kernel
theorem dM_rule_270 : decode mM_rule.2.1 270 = .ok (.iload 5, 2) := by decide +kernel
theorem dM_rule_272 : decode mM_rule.2.1 272 = .ok (.iastore, 1) := by decide +kernel
theorem dM_rule_273 : decode mM_rule.2.1 273 = .ok (.goto 11, 3) := by decide +kernel
theorem dM_rule_276 : decode mM_rule.2.1 276 = .ok (.aload_n 0, 1) := by decide +kernel
theorem dM_rule_277 : decode mM_rule.2.1 277 = .ok (.getfield 13, 3) := by decide +kernel
theorem dM_rule_280 : decode mM_rule.2.1 280 = .ok (.iload_n 1, 1) := by decide +kernel
theorem dM_rule_281 : decode mM_rule.2.1 281 = .ok (.iload 5, 2) := by decide +kernel
theorem dM_rule_283 : decode mM_rule.2.1 283 = .ok (.iastore, 1) := by decide +kernel
theorem dM_rule_284 : decode mM_rule.2.1 284 = .ok (.iconst 5, 1) := by decide +kernel
theorem dM_rule_285 : decode mM_rule.2.1 285 = .ok (.ireturn, 1) := by decide +kernel
theorem dM_alike_0 : decode mM_alike.2.1 0 = .ok (.aload_n 0, 1) := by decide +kernel
theorem dM_alike_1 : decode mM_alike.2.1 1 = .ok (.getfield 7, 3) := by decide +kernel
theorem dM_alike_4 : decode mM_alike.2.1 4 = .ok (.iload_n 1, 1) := by decide +kernel
theorem dM_alike_5 : decode mM_alike.2.1 5 = .ok (.iaload, 1) := by decide +kernel
theorem dM_alike_6 : decode mM_alike.2.1 6 = .ok (.aload_n 0, 1) := by decide +kernel
theorem dM_alike_7 : decode mM_alike.2.1 7 = .ok (.getfield 7, 3) := by decide +kernel
theorem dM_alike_10 : decode mM_alike.2.1 10 = .ok (.iload_n 2, 1) := by decide +kernel
theorem dM_alike_11 : decode mM_alike.2.1 11 = .ok (.iaload, 1) := by decide +kernel
theorem dM_alike_12 : decode mM_alike.2.1 12 = .ok (.if_icmp .ne 76, 3) := by decide +kernel
theorem dM_alike_15 : decode mM_alike.2.1 15 = .ok (.aload_n 0, 1) := by decide +kernel
theorem dM_alike_16 : decode mM_alike.2.1 16 = .ok (.getfield 13, 3) := by decide +kernel
theorem dM_alike_19 : decode mM_alike.2.1 19 = .ok (.iload_n 1, 1) := by decide +kernel
theorem dM_alike_20 : decode mM_alike.2.1 20 = .ok (.iaload, 1) := by decide +kernel
theorem dM_alike_21 : decode mM_alike.2.1 21 = .ok (.aload_n 0, 1) := by decide +kernel
theorem dM_alike_22 : decode mM_alike.2.1 22 = .ok (.getfield 13, 3) := by decide +kernel
theorem dM_alike_25 : decode mM_alike.2.1 25 = .ok (.iload_n 2, 1) := by decide +kernel
theorem dM_alike_26 : decode mM_alike.2.1 26 = .ok (.iaload, 1) := by decide +kernel
theorem dM_alike_27 : decode mM_alike.2.1 27 = .ok (.if_icmp .ne 61, 3) := by decide +kernel
theorem dM_alike_30 : decode mM_alike.2.1 30 = .ok (.aload_n 0, 1) := by decide +kernel
theorem dM_alike_31 : decode mM_alike.2.1 31 = .ok (.getfield 16, 3) := by decide +kernel
theorem dM_alike_34 : decode mM_alike.2.1 34 = .ok (.iload_n 1, 1) := by decide +kernel
theorem dM_alike_35 : decode mM_alike.2.1 35 = .ok (.iaload, 1) := by decide +kernel
theorem dM_alike_36 : decode mM_alike.2.1 36 = .ok (.aload_n 0, 1) := by decide +kernel
theorem dM_alike_37 : decode mM_alike.2.1 37 = .ok (.getfield 16, 3) := by decide +kernel
theorem dM_alike_40 : decode mM_alike.2.1 40 = .ok (.iload_n 2, 1) := by decide +kernel
theorem dM_alike_41 : decode mM_alike.2.1 41 = .ok (.iaload, 1) := by decide +kernel
theorem dM_alike_42 : decode mM_alike.2.1 42 = .ok (.if_icmp .ne 46, 3) := by decide +kernel
theorem dM_alike_45 : decode mM_alike.2.1 45 = .ok (.aload_n 0, 1) := by decide +kernel
theorem dM_alike_46 : decode mM_alike.2.1 46 = .ok (.getfield 19, 3) := by decide +kernel
theorem dM_alike_49 : decode mM_alike.2.1 49 = .ok (.iload_n 1, 1) := by decide +kernel
theorem dM_alike_50 : decode mM_alike.2.1 50 = .ok (.iaload, 1) := by decide +kernel
theorem dM_alike_51 : decode mM_alike.2.1 51 = .ok (.aload_n 0, 1) := by decide +kernel
theorem dM_alike_52 : decode mM_alike.2.1 52 = .ok (.getfield 19, 3) := by decide +kernel
theorem dM_alike_55 : decode mM_alike.2.1 55 = .ok (.iload_n 2, 1) := by decide +kernel
theorem dM_alike_56 : decode mM_alike.2.1 56 = .ok (.iaload, 1) := by decide +kernel
theorem dM_alike_57 : decode mM_alike.2.1 57 = .ok (.if_icmp .ne 31, 3) := by decide +kernel
theorem dM_alike_60 : decode mM_alike.2.1 60 = .ok (.aload_n 0, 1) := by decide +kernel
theorem dM_alike_61 : decode mM_alike.2.1 61 = .ok (.getfield 22, 3) := by decide +kernel
theorem dM_alike_64 : decode mM_alike.2.1 64 = .ok (.iload_n 1, 1) := by decide +kernel
theorem dM_alike_65 : decode mM_alike.2.1 65 = .ok (.iaload, 1) := by decide +kernel
theorem dM_alike_66 : decode mM_alike.2.1 66 = .ok (.aload_n 0, 1) := by decide +kernel
theorem dM_alike_67 : decode mM_alike.2.1 67 = .ok (.getfield 22, 3) := by decide +kernel
theorem dM_alike_70 : decode mM_alike.2.1 70 = .ok (.iload_n 2, 1) := by decide +kernel
theorem dM_alike_71 : decode mM_alike.2.1 71 = .ok (.iaload, 1) := by decide +kernel
theorem dM_alike_72 : decode mM_alike.2.1 72 = .ok (.if_icmp .ne 16, 3) := by decide +kernel
theorem dM_alike_75 : decode mM_alike.2.1 75 = .ok (.aload_n 0, 1) := by decide +kernel
theorem dM_alike_76 : decode mM_alike.2.1 76 = .ok (.iload_n 1, 1) := by decide +kernel
theorem dM_alike_77 : decode mM_alike.2.1 77 = .ok (.iload_n 2, 1) := by decide +kernel
theorem dM_alike_78 : decode mM_alike.2.1 78 = .ok (.invokevirtual 88, 3) := by decide +kernel
theorem dM_alike_81 : decode mM_alike.2.1 81 = .ok (.ifCond .eq 7, 3) := by decide +kernel
theorem dM_alike_84 : decode mM_alike.2.1 84 = .ok (.iconst 1, 1) := by decide +kernel
theorem dM_alike_85 : decode mM_alike.2.1 85 = .ok (.goto 4, 3) := by decide +kernel
theorem dM_alike_88 : decode mM_alike.2.1 88 = .ok (.iconst 0, 1) := by decide +kernel
theorem dM_alike_89 : decode mM_alike.2.1 89 = .ok (.ireturn, 1) := by decide +kernel
theorem dM_simplifyOne_0 : decode mM_simplifyOne.2.1 0 = .ok (.aload_n 0, 1) := by decide +kernel
theorem dM_simplifyOne_1 : decode mM_simplifyOne.2.1 1 = .ok (.getfield 13, 3) := by decide +kernel
theorem dM_simplifyOne_4 : decode mM_simplifyOne.2.1 4 = .ok (.iload_n 1, 1) := by decide +kernel
theorem dM_simplifyOne_5 : decode mM_simplifyOne.2.1 5 = .ok (.iaload, 1) := by decide +kernel
theorem dM_simplifyOne_6 : decode mM_simplifyOne.2.1 6 = .ok (.ifCond .lt 20, 3) := by decide +kernel
theorem dM_simplifyOne_9 : decode mM_simplifyOne.2.1 9 = .ok (.aload_n 0, 1) := by decide +kernel
theorem dM_simplifyOne_10 : decode mM_simplifyOne.2.1 10 = .ok (.getfield 13, 3) := by decide +kernel
theorem dM_simplifyOne_13 : decode mM_simplifyOne.2.1 13 = .ok (.iload_n 1, 1) := by decide +kernel
theorem dM_simplifyOne_14 : decode mM_simplifyOne.2.1 14 = .ok (.aload_n 0, 1) := by decide +kernel
theorem dM_simplifyOne_15 : decode mM_simplifyOne.2.1 15 = .ok (.getfield 35, 3) := by decide +kernel
theorem dM_simplifyOne_18 : decode mM_simplifyOne.2.1 18 = .ok (.aload_n 0, 1) := by decide +kernel
theorem dM_simplifyOne_19 : decode mM_simplifyOne.2.1 19 = .ok (.getfield 13, 3) := by decide +kernel
theorem dM_simplifyOne_22 : decode mM_simplifyOne.2.1 22 = .ok (.iload_n 1, 1) := by decide +kernel
theorem dM_simplifyOne_23 : decode mM_simplifyOne.2.1 23 = .ok (.iaload, 1) := by decide +kernel
theorem dM_simplifyOne_24 : decode mM_simplifyOne.2.1 24 = .ok (.iaload, 1) := by decide +kernel
theorem dM_simplifyOne_25 : decode mM_simplifyOne.2.1 25 = .ok (.iastore, 1) := by decide +kernel
theorem dM_simplifyOne_26 : decode mM_simplifyOne.2.1 26 = .ok (.aload_n 0, 1) := by decide +kernel
theorem dM_simplifyOne_27 : decode mM_simplifyOne.2.1 27 = .ok (.getfield 16, 3) := by decide +kernel
theorem dM_simplifyOne_30 : decode mM_simplifyOne.2.1 30 = .ok (.iload_n 1, 1) := by decide +kernel
theorem dM_simplifyOne_31 : decode mM_simplifyOne.2.1 31 = .ok (.iaload, 1) := by decide +kernel
theorem dM_simplifyOne_32 : decode mM_simplifyOne.2.1 32 = .ok (.ifCond .lt 20, 3) := by decide +kernel
theorem dM_simplifyOne_35 : decode mM_simplifyOne.2.1 35 = .ok (.aload_n 0, 1) := by decide +kernel
theorem dM_simplifyOne_36 : decode mM_simplifyOne.2.1 36 = .ok (.getfield 16, 3) := by decide +kernel
theorem dM_simplifyOne_39 : decode mM_simplifyOne.2.1 39 = .ok (.iload_n 1, 1) := by decide +kernel
theorem dM_simplifyOne_40 : decode mM_simplifyOne.2.1 40 = .ok (.aload_n 0, 1) := by decide +kernel
theorem dM_simplifyOne_41 : decode mM_simplifyOne.2.1 41 = .ok (.getfield 35, 3) := by decide +kernel
theorem dM_simplifyOne_44 : decode mM_simplifyOne.2.1 44 = .ok (.aload_n 0, 1) := by decide +kernel
theorem dM_simplifyOne_45 : decode mM_simplifyOne.2.1 45 = .ok (.getfield 16, 3) := by decide +kernel
theorem dM_simplifyOne_48 : decode mM_simplifyOne.2.1 48 = .ok (.iload_n 1, 1) := by decide +kernel
theorem dM_simplifyOne_49 : decode mM_simplifyOne.2.1 49 = .ok (.iaload, 1) := by decide +kernel
theorem dM_simplifyOne_50 : decode mM_simplifyOne.2.1 50 = .ok (.iaload, 1) := by decide +kernel
theorem dM_simplifyOne_51 : decode mM_simplifyOne.2.1 51 = .ok (.iastore, 1) := by decide +kernel
theorem dM_simplifyOne_52 : decode mM_simplifyOne.2.1 52 = .ok (.aload_n 0, 1) := by decide +kernel
theorem dM_simplifyOne_53 : decode mM_simplifyOne.2.1 53 = .ok (.getfield 7, 3) := by decide +kernel
theorem dM_simplifyOne_56 : decode mM_simplifyOne.2.1 56 = .ok (.iload_n 1, 1) := by decide +kernel
theorem dM_simplifyOne_57 : decode mM_simplifyOne.2.1 57 = .ok (.iaload, 1) := by decide +kernel
theorem dM_simplifyOne_58 : decode mM_simplifyOne.2.1 58 = .ok (.iconst 3, 1) := by decide +kernel
theorem dM_simplifyOne_59 : decode mM_simplifyOne.2.1 59 = .ok (.if_icmp .lt 54, 3) := by decide +kernel
theorem dM_simplifyOne_62 : decode mM_simplifyOne.2.1 62 = .ok (.aload_n 0, 1) := by decide +kernel
theorem dM_simplifyOne_63 : decode mM_simplifyOne.2.1 63 = .ok (.getfield 7, 3) := by decide +kernel
theorem dM_simplifyOne_66 : decode mM_simplifyOne.2.1 66 = .ok (.iload_n 1, 1) := by decide +kernel
theorem dM_simplifyOne_67 : decode mM_simplifyOne.2.1 67 = .ok (.iaload, 1) := by decide +kernel
theorem dM_simplifyOne_68 : decode mM_simplifyOne.2.1 68 = .ok (.iconst 5, 1) := by decide +kernel
theorem dM_simplifyOne_69 : decode mM_simplifyOne.2.1 69 = .ok (.if_icmp .gt 44, 3) := by decide +kernel
theorem dM_simplifyOne_72 : decode mM_simplifyOne.2.1 72 = .ok (.aload_n 0, 1) := by decide +kernel
theorem dM_simplifyOne_73 : decode mM_simplifyOne.2.1 73 = .ok (.getfield 13, 3) := by decide +kernel
theorem dM_simplifyOne_76 : decode mM_simplifyOne.2.1 76 = .ok (.iload_n 1, 1) := by decide +kernel
theorem dM_simplifyOne_77 : decode mM_simplifyOne.2.1 77 = .ok (.iaload, 1) := by decide +kernel
theorem dM_simplifyOne_78 : decode mM_simplifyOne.2.1 78 = .ok (.aload_n 0, 1) := by decide +kernel
theorem dM_simplifyOne_79 : decode mM_simplifyOne.2.1 79 = .ok (.getfield 16, 3) := by decide +kernel
theorem dM_simplifyOne_82 : decode mM_simplifyOne.2.1 82 = .ok (.iload_n 1, 1) := by decide +kernel
theorem dM_simplifyOne_83 : decode mM_simplifyOne.2.1 83 = .ok (.iaload, 1) := by decide +kernel
theorem dM_simplifyOne_84 : decode mM_simplifyOne.2.1 84 = .ok (.if_icmp .le 29, 3) := by decide +kernel
theorem dM_simplifyOne_87 : decode mM_simplifyOne.2.1 87 = .ok (.aload_n 0, 1) := by decide +kernel
theorem dM_simplifyOne_88 : decode mM_simplifyOne.2.1 88 = .ok (.getfield 13, 3) := by decide +kernel
theorem dM_simplifyOne_91 : decode mM_simplifyOne.2.1 91 = .ok (.iload_n 1, 1) := by decide +kernel
theorem dM_simplifyOne_92 : decode mM_simplifyOne.2.1 92 = .ok (.iaload, 1) := by decide +kernel
theorem dM_simplifyOne_93 : decode mM_simplifyOne.2.1 93 = .ok (.istore_n 2, 1) := by decide +kernel
theorem dM_simplifyOne_94 : decode mM_simplifyOne.2.1 94 = .ok (.aload_n 0, 1) := by decide +kernel
theorem dM_simplifyOne_95 : decode mM_simplifyOne.2.1 95 = .ok (.getfield 13, 3) := by decide +kernel
theorem dM_simplifyOne_98 : decode mM_simplifyOne.2.1 98 = .ok (.iload_n 1, 1) := by decide +kernel
theorem dM_simplifyOne_99 : decode mM_simplifyOne.2.1 99 = .ok (.aload_n 0, 1) := by decide +kernel
theorem dM_simplifyOne_100 : decode mM_simplifyOne.2.1 100 = .ok (.getfield 16, 3) := by decide +kernel
theorem dM_simplifyOne_103 : decode mM_simplifyOne.2.1 103 = .ok (.iload_n 1, 1) := by decide +kernel
theorem dM_simplifyOne_104 : decode mM_simplifyOne.2.1 104 = .ok (.iaload, 1) := by decide +kernel
theorem dM_simplifyOne_105 : decode mM_simplifyOne.2.1 105 = .ok (.iastore, 1) := by decide +kernel
theorem dM_simplifyOne_106 : decode mM_simplifyOne.2.1 106 = .ok (.aload_n 0, 1) := by decide +kernel
theorem dM_simplifyOne_107 : decode mM_simplifyOne.2.1 107 = .ok (.getfield 16, 3) := by decide +kernel
theorem dM_simplifyOne_110 : decode mM_simplifyOne.2.1 110 = .ok (.iload_n 1, 1) := by decide +kernel
theorem dM_simplifyOne_111 : decode mM_simplifyOne.2.1 111 = .ok (.iload_n 2, 1) := by decide +kernel
theorem dM_simplifyOne_112 : decode mM_simplifyOne.2.1 112 = .ok (.iastore, 1) := by decide +kernel
theorem dM_simplifyOne_113 : decode mM_simplifyOne.2.1 113 = .ok (.aload_n 0, 1) := by decide +kernel
theorem dM_simplifyOne_114 : decode mM_simplifyOne.2.1 114 = .ok (.iload_n 1, 1) := by decide +kernel
theorem dM_simplifyOne_115 : decode mM_simplifyOne.2.1 115 = .ok (.invokevirtual 91, 3) := by decide +kernel
theorem dM_simplifyOne_118 : decode mM_simplifyOne.2.1 118 = .ok (.istore_n 2, 1) := by decide +kernel
theorem dM_simplifyOne_119 : decode mM_simplifyOne.2.1 119 = .ok (.iload_n 2, 1) := by decide +kernel
theorem dM_simplifyOne_120 : decode mM_simplifyOne.2.1 120 = .ok (.ifCond .le 13, 3) := by decide +kernel
theorem dM_simplifyOne_123 : decode mM_simplifyOne.2.1 123 = .ok (.aload_n 0, 1) := by decide +kernel
theorem dM_simplifyOne_124 : decode mM_simplifyOne.2.1 124 = .ok (.getfield 47, 3) := by decide +kernel
theorem dM_simplifyOne_127 : decode mM_simplifyOne.2.1 127 = .ok (.iload_n 2, 1) := by decide +kernel
theorem dM_simplifyOne_128 : decode mM_simplifyOne.2.1 128 = .ok (.dup2, 1) := by decide +kernel
theorem dM_simplifyOne_129 : decode mM_simplifyOne.2.1 129 = .ok (.iaload, 1) := by decide +kernel
theorem dM_simplifyOne_130 : decode mM_simplifyOne.2.1 130 = .ok (.iconst 1, 1) := by decide +kernel
theorem dM_simplifyOne_131 : decode mM_simplifyOne.2.1 131 = .ok (.iadd, 1) := by decide +kernel
theorem dM_simplifyOne_132 : decode mM_simplifyOne.2.1 132 = .ok (.iastore, 1) := by decide +kernel
theorem dM_simplifyOne_133 : decode mM_simplifyOne.2.1 133 = .ok (.aload_n 0, 1) := by decide +kernel
theorem dM_simplifyOne_134 : decode mM_simplifyOne.2.1 134 = .ok (.getfield 35, 3) := by decide +kernel
theorem dM_simplifyOne_137 : decode mM_simplifyOne.2.1 137 = .ok (.iload_n 1, 1) := by decide +kernel
theorem dM_simplifyOne_138 : decode mM_simplifyOne.2.1 138 = .ok (.iaload, 1) := by decide +kernel
theorem dM_simplifyOne_139 : decode mM_simplifyOne.2.1 139 = .ok (.iload_n 1, 1) := by decide +kernel
theorem dM_simplifyOne_140 : decode mM_simplifyOne.2.1 140 = .ok (.if_icmp .eq 4, 3) := by decide +kernel
theorem dM_simplifyOne_143 : decode mM_simplifyOne.2.1 143 = .ok (.return_, 1) := by decide +kernel
theorem dM_simplifyOne_144 : decode mM_simplifyOne.2.1 144 = .ok (.iload_n 1, 1) := by decide +kernel
theorem dM_simplifyOne_145 : decode mM_simplifyOne.2.1 145 = .ok (.iconst 1, 1) := by decide +kernel
theorem dM_simplifyOne_146 : decode mM_simplifyOne.2.1 146 = .ok (.isub, 1) := by decide +kernel
theorem dM_simplifyOne_147 : decode mM_simplifyOne.2.1 147 = .ok (.istore_n 3, 1) := by decide +kernel
theorem dM_simplifyOne_148 : decode mM_simplifyOne.2.1 148 = .ok (.iload_n 3, 1) := by decide +kernel
theorem dM_simplifyOne_149 : decode mM_simplifyOne.2.1 149 = .ok (.ifCond .lt 35, 3) := by decide +kernel
theorem dM_simplifyOne_152 : decode mM_simplifyOne.2.1 152 = .ok (.aload_n 0, 1) := by decide +kernel
theorem dM_simplifyOne_153 : decode mM_simplifyOne.2.1 153 = .ok (.getfield 35, 3) := by decide +kernel
theorem dM_simplifyOne_156 : decode mM_simplifyOne.2.1 156 = .ok (.iload_n 3, 1) := by decide +kernel
theorem dM_simplifyOne_157 : decode mM_simplifyOne.2.1 157 = .ok (.iaload, 1) := by decide +kernel
theorem dM_simplifyOne_158 : decode mM_simplifyOne.2.1 158 = .ok (.iload_n 3, 1) := by decide +kernel
theorem dM_simplifyOne_159 : decode mM_simplifyOne.2.1 159 = .ok (.if_icmp .ne 19, 3) := by decide +kernel
theorem dM_simplifyOne_162 : decode mM_simplifyOne.2.1 162 = .ok (.aload_n 0, 1) := by decide +kernel
theorem dM_simplifyOne_163 : decode mM_simplifyOne.2.1 163 = .ok (.iload_n 1, 1) := by decide +kernel
theorem dM_simplifyOne_164 : decode mM_simplifyOne.2.1 164 = .ok (.iload_n 3, 1) := by decide +kernel
theorem dM_simplifyOne_165 : decode mM_simplifyOne.2.1 165 = .ok (.invokevirtual 94, 3) := by decide +kernel
theorem dM_simplifyOne_168 : decode mM_simplifyOne.2.1 168 = .ok (.ifCond .eq 10, 3) := by decide +kernel
theorem dM_simplifyOne_171 : decode mM_simplifyOne.2.1 171 = .ok (.aload_n 0, 1) := by decide +kernel
theorem dM_simplifyOne_172 : decode mM_simplifyOne.2.1 172 = .ok (.getfield 35, 3) := by decide +kernel
theorem dM_simplifyOne_175 : decode mM_simplifyOne.2.1 175 = .ok (.iload_n 1, 1) := by decide +kernel
theorem dM_simplifyOne_176 : decode mM_simplifyOne.2.1 176 = .ok (.iload_n 3, 1) := by decide +kernel
theorem dM_simplifyOne_177 : decode mM_simplifyOne.2.1 177 = .ok (.iastore, 1) := by decide +kernel
theorem dM_simplifyOne_178 : decode mM_simplifyOne.2.1 178 = .ok (.iinc 3 (-1), 3) := by decide +kernel
theorem dM_simplifyOne_181 : decode mM_simplifyOne.2.1 181 = .ok (.goto (-33), 3) := by decide +kernel
theorem dM_simplifyOne_184 : decode mM_simplifyOne.2.1 184 = .ok (.aload_n 0, 1) := by decide +kernel
theorem dM_simplifyOne_185 : decode mM_simplifyOne.2.1 185 = .ok (.getfield 35, 3) := by decide +kernel
theorem dM_simplifyOne_188 : decode mM_simplifyOne.2.1 188 = .ok (.iload_n 1, 1) := by decide +kernel
theorem dM_simplifyOne_189 : decode mM_simplifyOne.2.1 189 = .ok (.iaload, 1) := by decide +kernel
theorem dM_simplifyOne_190 : decode mM_simplifyOne.2.1 190 = .ok (.iload_n 1, 1) := by decide +kernel
theorem dM_simplifyOne_191 : decode mM_simplifyOne.2.1 191 = .ok (.if_icmp .eq 14, 3) := by decide +kernel
theorem dM_simplifyOne_194 : decode mM_simplifyOne.2.1 194 = .ok (.aload_n 0, 1) := by decide +kernel
theorem dM_simplifyOne_195 : decode mM_simplifyOne.2.1 195 = .ok (.getfield 47, 3) := by decide +kernel
theorem dM_simplifyOne_198 : decode mM_simplifyOne.2.1 198 = .ok (.bipush 6, 2) := by decide +kernel
theorem dM_simplifyOne_200 : decode mM_simplifyOne.2.1 200 = .ok (.dup2, 1) := by decide +kernel
theorem dM_simplifyOne_201 : decode mM_simplifyOne.2.1 201 = .ok (.iaload, 1) := by decide +kernel
theorem dM_simplifyOne_202 : decode mM_simplifyOne.2.1 202 = .ok (.iconst 1, 1) := by decide +kernel
theorem dM_simplifyOne_203 : decode mM_simplifyOne.2.1 203 = .ok (.iadd, 1) := by decide +kernel
theorem dM_simplifyOne_204 : decode mM_simplifyOne.2.1 204 = .ok (.iastore, 1) := by decide +kernel
theorem dM_simplifyOne_205 : decode mM_simplifyOne.2.1 205 = .ok (.return_, 1) := by decide +kernel
theorem dM_simplify_0 : decode mM_simplify.2.1 0 = .ok (.aload_n 0, 1) := by decide +kernel
theorem dM_simplify_1 : decode mM_simplify.2.1 1 = .ok (.getfield 54, 3) := by decide +kernel
theorem dM_simplify_4 : decode mM_simplify.2.1 4 = .ok (.ifCond .eq 6, 3) := by decide +kernel
theorem dM_simplify_7 : decode mM_simplify.2.1 7 = .ok (.bipush (-4), 2) := by decide +kernel
theorem dM_simplify_9 : decode mM_simplify.2.1 9 = .ok (.ireturn, 1) := by decide +kernel
theorem dM_simplify_10 : decode mM_simplify.2.1 10 = .ok (.aload_n 0, 1) := by decide +kernel
theorem dM_simplify_11 : decode mM_simplify.2.1 11 = .ok (.invokevirtual 58, 3) := by decide +kernel
theorem dM_simplify_14 : decode mM_simplify.2.1 14 = .ok (.iconst 0, 1) := by decide +kernel
theorem dM_simplify_15 : decode mM_simplify.2.1 15 = .ok (.istore_n 1, 1) := by decide +kernel
theorem dM_simplify_16 : decode mM_simplify.2.1 16 = .ok (.iload_n 1, 1) := by decide +kernel
theorem dM_simplify_17 : decode mM_simplify.2.1 17 = .ok (.bipush 7, 2) := by decide +kernel
theorem dM_simplify_19 : decode mM_simplify.2.1 19 = .ok (.if_icmp .ge 16, 3) := by decide +kernel
theorem dM_simplify_22 : decode mM_simplify.2.1 22 = .ok (.aload_n 0, 1) := by decide +kernel
theorem dM_simplify_23 : decode mM_simplify.2.1 23 = .ok (.getfield 47, 3) := by decide +kernel
theorem dM_simplify_26 : decode mM_simplify.2.1 26 = .ok (.iload_n 1, 1) := by decide +kernel
theorem dM_simplify_27 : decode mM_simplify.2.1 27 = .ok (.iconst 0, 1) := by decide +kernel
theorem dM_simplify_28 : decode mM_simplify.2.1 28 = .ok (.iastore, 1) := by decide +kernel
theorem dM_simplify_29 : decode mM_simplify.2.1 29 = .ok (.iinc 1 1, 3) := by decide +kernel
theorem dM_simplify_32 : decode mM_simplify.2.1 32 = .ok (.goto (-16), 3) := by decide +kernel
theorem dM_simplify_35 : decode mM_simplify.2.1 35 = .ok (.iconst 0, 1) := by decide +kernel
theorem dM_simplify_36 : decode mM_simplify.2.1 36 = .ok (.istore_n 1, 1) := by decide +kernel
theorem dM_simplify_37 : decode mM_simplify.2.1 37 = .ok (.iconst 0, 1) := by decide +kernel
theorem dM_simplify_38 : decode mM_simplify.2.1 38 = .ok (.istore_n 2, 1) := by decide +kernel
theorem dM_simplify_39 : decode mM_simplify.2.1 39 = .ok (.iload_n 2, 1) := by decide +kernel
theorem dM_simplify_40 : decode mM_simplify.2.1 40 = .ok (.aload_n 0, 1) := by decide +kernel
theorem dM_simplify_41 : decode mM_simplify.2.1 41 = .ok (.getfield 50, 3) := by decide +kernel
theorem dM_simplify_44 : decode mM_simplify.2.1 44 = .ok (.if_icmp .ge 27, 3) := by decide +kernel
theorem dM_simplify_47 : decode mM_simplify.2.1 47 = .ok (.aload_n 0, 1) := by decide +kernel
theorem dM_simplify_48 : decode mM_simplify.2.1 48 = .ok (.iload_n 2, 1) := by decide +kernel
theorem dM_simplify_49 : decode mM_simplify.2.1 49 = .ok (.invokevirtual 97, 3) := by decide +kernel
theorem dM_simplify_52 : decode mM_simplify.2.1 52 = .ok (.aload_n 0, 1) := by decide +kernel
theorem dM_simplify_53 : decode mM_simplify.2.1 53 = .ok (.getfield 35, 3) := by decide +kernel
theorem dM_simplify_56 : decode mM_simplify.2.1 56 = .ok (.iload_n 2, 1) := by decide +kernel
theorem dM_simplify_57 : decode mM_simplify.2.1 57 = .ok (.iaload, 1) := by decide +kernel
theorem dM_simplify_58 : decode mM_simplify.2.1 58 = .ok (.iload_n 2, 1) := by decide +kernel
theorem dM_simplify_59 : decode mM_simplify.2.1 59 = .ok (.if_icmp .ne 6, 3) := by decide +kernel
theorem dM_simplify_62 : decode mM_simplify.2.1 62 = .ok (.iinc 1 1, 3) := by decide +kernel
theorem dM_simplify_65 : decode mM_simplify.2.1 65 = .ok (.iinc 2 1, 3) := by decide +kernel
theorem dM_simplify_68 : decode mM_simplify.2.1 68 = .ok (.goto (-29), 3) := by decide +kernel
theorem dM_simplify_71 : decode mM_simplify.2.1 71 = .ok (.aload_n 0, 1) := by decide +kernel
theorem dM_simplify_72 : decode mM_simplify.2.1 72 = .ok (.iconst 1, 1) := by decide +kernel
theorem dM_simplify_73 : decode mM_simplify.2.1 73 = .ok (.putfield 54, 3) := by decide +kernel
theorem dM_simplify_76 : decode mM_simplify.2.1 76 = .ok (.iload_n 1, 1) := by decide +kernel
theorem dM_simplify_77 : decode mM_simplify.2.1 77 = .ok (.ireturn, 1) := by decide +kernel
theorem dM_isLive_0 : decode mM_isLive.2.1 0 = .ok (.iconst 0, 1) := by decide +kernel
theorem dM_isLive_1 : decode mM_isLive.2.1 1 = .ok (.istore_n 2, 1) := by decide +kernel
theorem dM_isLive_2 : decode mM_isLive.2.1 2 = .ok (.iconst 0, 1) := by decide +kernel
theorem dM_isLive_3 : decode mM_isLive.2.1 3 = .ok (.istore_n 3, 1) := by decide +kernel
theorem dM_isLive_4 : decode mM_isLive.2.1 4 = .ok (.iload_n 3, 1) := by decide +kernel
theorem dM_isLive_5 : decode mM_isLive.2.1 5 = .ok (.aload_n 0, 1) := by decide +kernel
theorem dM_isLive_6 : decode mM_isLive.2.1 6 = .ok (.getfield 50, 3) := by decide +kernel
theorem dM_isLive_9 : decode mM_isLive.2.1 9 = .ok (.if_icmp .ge 29, 3) := by decide +kernel
theorem dM_isLive_12 : decode mM_isLive.2.1 12 = .ok (.aload_n 0, 1) := by decide +kernel
theorem dM_isLive_13 : decode mM_isLive.2.1 13 = .ok (.getfield 31, 3) := by decide +kernel
theorem dM_isLive_16 : decode mM_isLive.2.1 16 = .ok (.iload_n 3, 1) := by decide +kernel
theorem dM_isLive_17 : decode mM_isLive.2.1 17 = .ok (.baload, 1) := by decide +kernel
theorem dM_isLive_18 : decode mM_isLive.2.1 18 = .ok (.ifCond .eq 14, 3) := by decide +kernel
theorem dM_isLive_21 : decode mM_isLive.2.1 21 = .ok (.iload_n 2, 1) := by decide +kernel
theorem dM_isLive_22 : decode mM_isLive.2.1 22 = .ok (.iconst 1, 1) := by decide +kernel
theorem dM_isLive_23 : decode mM_isLive.2.1 23 = .ok (.aload_n 0, 1) := by decide +kernel
theorem dM_isLive_24 : decode mM_isLive.2.1 24 = .ok (.getfield 35, 3) := by decide +kernel
theorem dM_isLive_27 : decode mM_isLive.2.1 27 = .ok (.iload_n 3, 1) := by decide +kernel
theorem dM_isLive_28 : decode mM_isLive.2.1 28 = .ok (.iaload, 1) := by decide +kernel
theorem dM_isLive_29 : decode mM_isLive.2.1 29 = .ok (.ishl, 1) := by decide +kernel
theorem dM_isLive_30 : decode mM_isLive.2.1 30 = .ok (.ior, 1) := by decide +kernel
theorem dM_isLive_31 : decode mM_isLive.2.1 31 = .ok (.istore_n 2, 1) := by decide +kernel
theorem dM_isLive_32 : decode mM_isLive.2.1 32 = .ok (.iinc 3 1, 3) := by decide +kernel
theorem dM_isLive_35 : decode mM_isLive.2.1 35 = .ok (.goto (-31), 3) := by decide +kernel
theorem dM_isLive_38 : decode mM_isLive.2.1 38 = .ok (.aload_n 0, 1) := by decide +kernel
theorem dM_isLive_39 : decode mM_isLive.2.1 39 = .ok (.getfield 50, 3) := by decide +kernel
theorem dM_isLive_42 : decode mM_isLive.2.1 42 = .ok (.iconst 1, 1) := by decide +kernel
theorem dM_isLive_43 : decode mM_isLive.2.1 43 = .ok (.isub, 1) := by decide +kernel
theorem dM_isLive_44 : decode mM_isLive.2.1 44 = .ok (.istore_n 3, 1) := by decide +kernel
theorem dM_isLive_45 : decode mM_isLive.2.1 45 = .ok (.iload_n 3, 1) := by decide +kernel
theorem dM_isLive_46 : decode mM_isLive.2.1 46 = .ok (.iload_n 1, 1) := by decide +kernel
theorem dM_isLive_47 : decode mM_isLive.2.1 47 = .ok (.if_icmp .le 65, 3) := by decide +kernel
theorem dM_isLive_50 : decode mM_isLive.2.1 50 = .ok (.iload_n 2, 1) := by decide +kernel
theorem dM_isLive_51 : decode mM_isLive.2.1 51 = .ok (.iload_n 3, 1) := by decide +kernel
theorem dM_isLive_52 : decode mM_isLive.2.1 52 = .ok (.ishr, 1) := by decide +kernel
theorem dM_isLive_53 : decode mM_isLive.2.1 53 = .ok (.iconst 1, 1) := by decide +kernel
theorem dM_isLive_54 : decode mM_isLive.2.1 54 = .ok (.iand, 1) := by decide +kernel
theorem dM_isLive_55 : decode mM_isLive.2.1 55 = .ok (.ifCond .eq 23, 3) := by decide +kernel
theorem dM_isLive_58 : decode mM_isLive.2.1 58 = .ok (.aload_n 0, 1) := by decide +kernel
theorem dM_isLive_59 : decode mM_isLive.2.1 59 = .ok (.getfield 13, 3) := by decide +kernel
theorem dM_isLive_62 : decode mM_isLive.2.1 62 = .ok (.iload_n 3, 1) := by decide +kernel
theorem dM_isLive_63 : decode mM_isLive.2.1 63 = .ok (.iaload, 1) := by decide +kernel
theorem dM_isLive_64 : decode mM_isLive.2.1 64 = .ok (.ifCond .lt 14, 3) := by decide +kernel
theorem dM_isLive_67 : decode mM_isLive.2.1 67 = .ok (.iload_n 2, 1) := by decide +kernel
theorem dM_isLive_68 : decode mM_isLive.2.1 68 = .ok (.iconst 1, 1) := by decide +kernel
theorem dM_isLive_69 : decode mM_isLive.2.1 69 = .ok (.aload_n 0, 1) := by decide +kernel
theorem dM_isLive_70 : decode mM_isLive.2.1 70 = .ok (.getfield 13, 3) := by decide +kernel
theorem dM_isLive_73 : decode mM_isLive.2.1 73 = .ok (.iload_n 3, 1) := by decide +kernel
theorem dM_isLive_74 : decode mM_isLive.2.1 74 = .ok (.iaload, 1) := by decide +kernel
theorem dM_isLive_75 : decode mM_isLive.2.1 75 = .ok (.ishl, 1) := by decide +kernel
theorem dM_isLive_76 : decode mM_isLive.2.1 76 = .ok (.ior, 1) := by decide +kernel
theorem dM_isLive_77 : decode mM_isLive.2.1 77 = .ok (.istore_n 2, 1) := by decide +kernel
theorem dM_isLive_78 : decode mM_isLive.2.1 78 = .ok (.iload_n 2, 1) := by decide +kernel
theorem dM_isLive_79 : decode mM_isLive.2.1 79 = .ok (.iload_n 3, 1) := by decide +kernel
theorem dM_isLive_80 : decode mM_isLive.2.1 80 = .ok (.ishr, 1) := by decide +kernel
theorem dM_isLive_81 : decode mM_isLive.2.1 81 = .ok (.iconst 1, 1) := by decide +kernel
theorem dM_isLive_82 : decode mM_isLive.2.1 82 = .ok (.iand, 1) := by decide +kernel
theorem dM_isLive_83 : decode mM_isLive.2.1 83 = .ok (.ifCond .eq 23, 3) := by decide +kernel
theorem dM_isLive_86 : decode mM_isLive.2.1 86 = .ok (.aload_n 0, 1) := by decide +kernel
theorem dM_isLive_87 : decode mM_isLive.2.1 87 = .ok (.getfield 16, 3) := by decide +kernel
theorem dM_isLive_90 : decode mM_isLive.2.1 90 = .ok (.iload_n 3, 1) := by decide +kernel
theorem dM_isLive_91 : decode mM_isLive.2.1 91 = .ok (.iaload, 1) := by decide +kernel
theorem dM_isLive_92 : decode mM_isLive.2.1 92 = .ok (.ifCond .lt 14, 3) := by decide +kernel
theorem dM_isLive_95 : decode mM_isLive.2.1 95 = .ok (.iload_n 2, 1) := by decide +kernel
theorem dM_isLive_96 : decode mM_isLive.2.1 96 = .ok (.iconst 1, 1) := by decide +kernel
theorem dM_isLive_97 : decode mM_isLive.2.1 97 = .ok (.aload_n 0, 1) := by decide +kernel
theorem dM_isLive_98 : decode mM_isLive.2.1 98 = .ok (.getfield 16, 3) := by decide +kernel
theorem dM_isLive_101 : decode mM_isLive.2.1 101 = .ok (.iload_n 3, 1) := by decide +kernel
theorem dM_isLive_102 : decode mM_isLive.2.1 102 = .ok (.iaload, 1) := by decide +kernel
theorem dM_isLive_103 : decode mM_isLive.2.1 103 = .ok (.ishl, 1) := by decide +kernel
theorem dM_isLive_104 : decode mM_isLive.2.1 104 = .ok (.ior, 1) := by decide +kernel
theorem dM_isLive_105 : decode mM_isLive.2.1 105 = .ok (.istore_n 2, 1) := by decide +kernel
theorem dM_isLive_106 : decode mM_isLive.2.1 106 = .ok (.iinc 3 (-1), 3) := by decide +kernel
theorem dM_isLive_109 : decode mM_isLive.2.1 109 = .ok (.goto (-64), 3) := by decide +kernel
theorem dM_isLive_112 : decode mM_isLive.2.1 112 = .ok (.iload_n 2, 1) := by decide +kernel
theorem dM_isLive_113 : decode mM_isLive.2.1 113 = .ok (.iload_n 1, 1) := by decide +kernel
theorem dM_isLive_114 : decode mM_isLive.2.1 114 = .ok (.ishr, 1) := by decide +kernel
theorem dM_isLive_115 : decode mM_isLive.2.1 115 = .ok (.iconst 1, 1) := by decide +kernel
theorem dM_isLive_116 : decode mM_isLive.2.1 116 = .ok (.iand, 1) := by decide +kernel
theorem dM_isLive_117 : decode mM_isLive.2.1 117 = .ok (.ifCond .eq 7, 3) := by decide +kernel
theorem dM_isLive_120 : decode mM_isLive.2.1 120 = .ok (.iconst 1, 1) := by decide +kernel
theorem dM_isLive_121 : decode mM_isLive.2.1 121 = .ok (.goto 4, 3) := by decide +kernel
theorem dM_isLive_124 : decode mM_isLive.2.1 124 = .ok (.iconst 0, 1) := by decide +kernel
theorem dM_isLive_125 : decode mM_isLive.2.1 125 = .ok (.ireturn, 1) := by decide +kernel
theorem dM_workOf_0 : decode mM_workOf.2.1 0 = .ok (.aload_n 0, 1) := by decide +kernel
theorem dM_workOf_1 : decode mM_workOf.2.1 1 = .ok (.getfield 7, 3) := by decide +kernel
theorem dM_workOf_4 : decode mM_workOf.2.1 4 = .ok (.iload_n 1, 1) := by decide +kernel
theorem dM_workOf_5 : decode mM_workOf.2.1 5 = .ok (.iaload, 1) := by decide +kernel
theorem dM_workOf_6 : decode mM_workOf.2.1 6 = .ok (.iconst 3, 1) := by decide +kernel
theorem dM_workOf_7 : decode mM_workOf.2.1 7 = .ok (.if_icmp .ge 5, 3) := by decide +kernel
theorem dM_workOf_10 : decode mM_workOf.2.1 10 = .ok (.iconst 0, 1) := by decide +kernel
theorem dM_workOf_11 : decode mM_workOf.2.1 11 = .ok (.ireturn, 1) := by decide +kernel
theorem dM_workOf_12 : decode mM_workOf.2.1 12 = .ok (.aload_n 0, 1) := by decide +kernel
theorem dM_workOf_13 : decode mM_workOf.2.1 13 = .ok (.getfield 7, 3) := by decide +kernel
theorem dM_workOf_16 : decode mM_workOf.2.1 16 = .ok (.iload_n 1, 1) := by decide +kernel
theorem dM_workOf_17 : decode mM_workOf.2.1 17 = .ok (.iaload, 1) := by decide +kernel
theorem dM_workOf_18 : decode mM_workOf.2.1 18 = .ok (.bipush 9, 2) := by decide +kernel
theorem dM_workOf_20 : decode mM_workOf.2.1 20 = .ok (.if_icmp .ne 27, 3) := by decide +kernel
theorem dM_workOf_23 : decode mM_workOf.2.1 23 = .ok (.aload_n 0, 1) := by decide +kernel
theorem dM_workOf_24 : decode mM_workOf.2.1 24 = .ok (.getfield 25, 3) := by decide +kernel
theorem dM_workOf_27 : decode mM_workOf.2.1 27 = .ok (.aload_n 0, 1) := by decide +kernel
theorem dM_workOf_28 : decode mM_workOf.2.1 28 = .ok (.getfield 13, 3) := by decide +kernel
theorem dM_workOf_31 : decode mM_workOf.2.1 31 = .ok (.iload_n 1, 1) := by decide +kernel
theorem dM_workOf_32 : decode mM_workOf.2.1 32 = .ok (.iaload, 1) := by decide +kernel
theorem dM_workOf_33 : decode mM_workOf.2.1 33 = .ok (.iaload, 1) := by decide +kernel
theorem dM_workOf_34 : decode mM_workOf.2.1 34 = .ok (.aload_n 0, 1) := by decide +kernel
theorem dM_workOf_35 : decode mM_workOf.2.1 35 = .ok (.getfield 28, 3) := by decide +kernel
theorem dM_workOf_38 : decode mM_workOf.2.1 38 = .ok (.aload_n 0, 1) := by decide +kernel
theorem dM_workOf_39 : decode mM_workOf.2.1 39 = .ok (.getfield 13, 3) := by decide +kernel
theorem dM_workOf_42 : decode mM_workOf.2.1 42 = .ok (.iload_n 1, 1) := by decide +kernel
theorem dM_workOf_43 : decode mM_workOf.2.1 43 = .ok (.iaload, 1) := by decide +kernel
theorem dM_workOf_44 : decode mM_workOf.2.1 44 = .ok (.iaload, 1) := by decide +kernel
theorem dM_workOf_45 : decode mM_workOf.2.1 45 = .ok (.imul, 1) := by decide +kernel
theorem dM_workOf_46 : decode mM_workOf.2.1 46 = .ok (.ireturn, 1) := by decide +kernel
theorem dM_workOf_47 : decode mM_workOf.2.1 47 = .ok (.aload_n 0, 1) := by decide +kernel
theorem dM_workOf_48 : decode mM_workOf.2.1 48 = .ok (.getfield 25, 3) := by decide +kernel
theorem dM_workOf_51 : decode mM_workOf.2.1 51 = .ok (.iload_n 1, 1) := by decide +kernel
theorem dM_workOf_52 : decode mM_workOf.2.1 52 = .ok (.iaload, 1) := by decide +kernel
theorem dM_workOf_53 : decode mM_workOf.2.1 53 = .ok (.aload_n 0, 1) := by decide +kernel
theorem dM_workOf_54 : decode mM_workOf.2.1 54 = .ok (.getfield 28, 3) := by decide +kernel
theorem dM_workOf_57 : decode mM_workOf.2.1 57 = .ok (.iload_n 1, 1) := by decide +kernel
theorem dM_workOf_58 : decode mM_workOf.2.1 58 = .ok (.iaload, 1) := by decide +kernel
theorem dM_workOf_59 : decode mM_workOf.2.1 59 = .ok (.imul, 1) := by decide +kernel
theorem dM_workOf_60 : decode mM_workOf.2.1 60 = .ok (.aload_n 0, 1) := by decide +kernel
theorem dM_workOf_61 : decode mM_workOf.2.1 61 = .ok (.getfield 7, 3) := by decide +kernel
theorem dM_workOf_64 : decode mM_workOf.2.1 64 = .ok (.iload_n 1, 1) := by decide +kernel
theorem dM_workOf_65 : decode mM_workOf.2.1 65 = .ok (.iaload, 1) := by decide +kernel
theorem dM_workOf_66 : decode mM_workOf.2.1 66 = .ok (.bipush 8, 2) := by decide +kernel
theorem dM_workOf_68 : decode mM_workOf.2.1 68 = .ok (.if_icmp .ne 17, 3) := by decide +kernel
theorem dM_workOf_71 : decode mM_workOf.2.1 71 = .ok (.aload_n 0, 1) := by decide +kernel
theorem dM_workOf_72 : decode mM_workOf.2.1 72 = .ok (.getfield 28, 3) := by decide +kernel
theorem dM_workOf_75 : decode mM_workOf.2.1 75 = .ok (.aload_n 0, 1) := by decide +kernel
theorem dM_workOf_76 : decode mM_workOf.2.1 76 = .ok (.getfield 13, 3) := by decide +kernel
theorem dM_workOf_79 : decode mM_workOf.2.1 79 = .ok (.iload_n 1, 1) := by decide +kernel
theorem dM_workOf_80 : decode mM_workOf.2.1 80 = .ok (.iaload, 1) := by decide +kernel
theorem dM_workOf_81 : decode mM_workOf.2.1 81 = .ok (.iaload, 1) := by decide +kernel
theorem dM_workOf_82 : decode mM_workOf.2.1 82 = .ok (.goto 4, 3) := by decide +kernel
theorem dM_workOf_85 : decode mM_workOf.2.1 85 = .ok (.iconst 1, 1) := by decide +kernel
theorem dM_workOf_86 : decode mM_workOf.2.1 86 = .ok (.imul, 1) := by decide +kernel
theorem dM_workOf_87 : decode mM_workOf.2.1 87 = .ok (.ireturn, 1) := by decide +kernel
theorem dM_at_0 : decode mM_at.2.1 0 = .ok (.aload_n 0, 1) := by decide +kernel
theorem dM_at_1 : decode mM_at.2.1 1 = .ok (.getfield 41, 3) := by decide +kernel
theorem dM_at_4 : decode mM_at.2.1 4 = .ok (.iload_n 1, 1) := by decide +kernel
theorem dM_at_5 : decode mM_at.2.1 5 = .ok (.bipush 16, 2) := by decide +kernel
theorem dM_at_7 : decode mM_at.2.1 7 = .ok (.imul, 1) := by decide +kernel
theorem dM_at_8 : decode mM_at.2.1 8 = .ok (.iload_n 2, 1) := by decide +kernel
theorem dM_at_9 : decode mM_at.2.1 9 = .ok (.iconst 4, 1) := by decide +kernel
theorem dM_at_10 : decode mM_at.2.1 10 = .ok (.imul, 1) := by decide +kernel
theorem dM_at_11 : decode mM_at.2.1 11 = .ok (.iadd, 1) := by decide +kernel
theorem dM_at_12 : decode mM_at.2.1 12 = .ok (.iload_n 3, 1) := by decide +kernel
theorem dM_at_13 : decode mM_at.2.1 13 = .ok (.iadd, 1) := by decide +kernel
theorem dM_at_14 : decode mM_at.2.1 14 = .ok (.iaload, 1) := by decide +kernel
theorem dM_at_15 : decode mM_at.2.1 15 = .ok (.ireturn, 1) := by decide +kernel
theorem dM_made_0 : decode mM_made.2.1 0 = .ok (.aload_n 0, 1) := by decide +kernel
theorem dM_made_1 : decode mM_made.2.1 1 = .ok (.getfield 13, 3) := by decide +kernel
theorem dM_made_4 : decode mM_made.2.1 4 = .ok (.iload_n 1, 1) := by decide +kernel
theorem dM_made_5 : decode mM_made.2.1 5 = .ok (.iaload, 1) := by decide +kernel
theorem dM_made_6 : decode mM_made.2.1 6 = .ok (.istore 4, 2) := by decide +kernel
theorem dM_made_8 : decode mM_made.2.1 8 = .ok (.aload_n 0, 1) := by decide +kernel
theorem dM_made_9 : decode mM_made.2.1 9 = .ok (.getfield 16, 3) := by decide +kernel
theorem dM_made_12 : decode mM_made.2.1 12 = .ok (.iload_n 1, 1) := by decide +kernel
theorem dM_made_13 : decode mM_made.2.1 13 = .ok (.iaload, 1) := by decide +kernel
theorem dM_made_14 : decode mM_made.2.1 14 = .ok (.istore 5, 2) := by decide +kernel
theorem dM_made_16 : decode mM_made.2.1 16 = .ok (.aload_n 0, 1) := by decide +kernel
theorem dM_made_17 : decode mM_made.2.1 17 = .ok (.getfield 7, 3) := by decide +kernel
theorem dM_made_20 : decode mM_made.2.1 20 = .ok (.iload_n 1, 1) := by decide +kernel
theorem dM_made_21 : decode mM_made.2.1 21 = .ok (.iaload, 1) := by decide +kernel
theorem dM_made_22 : decode mM_made.2.1 22 = .ok (.tableswitch 297 0 11 #[62, 83, 90, 105, 123, 141, 180, 190, 199, 207, 215, 254], 62) := by decide +kernel
theorem dM_made_84 : decode mM_made.2.1 84 = .ok (.aload_n 0, 1) := by decide +kernel
theorem dM_made_85 : decode mM_made.2.1 85 = .ok (.getfield 38, 3) := by decide +kernel
theorem dM_made_88 : decode mM_made.2.1 88 = .ok (.aload_n 0, 1) := by decide +kernel
theorem dM_made_89 : decode mM_made.2.1 89 = .ok (.getfield 19, 3) := by decide +kernel
theorem dM_made_92 : decode mM_made.2.1 92 = .ok (.iload_n 1, 1) := by decide +kernel
theorem dM_made_93 : decode mM_made.2.1 93 = .ok (.iaload, 1) := by decide +kernel
theorem dM_made_94 : decode mM_made.2.1 94 = .ok (.bipush 16, 2) := by decide +kernel
theorem dM_made_96 : decode mM_made.2.1 96 = .ok (.imul, 1) := by decide +kernel
theorem dM_made_97 : decode mM_made.2.1 97 = .ok (.iload_n 2, 1) := by decide +kernel
theorem dM_made_98 : decode mM_made.2.1 98 = .ok (.iconst 4, 1) := by decide +kernel
theorem dM_made_99 : decode mM_made.2.1 99 = .ok (.imul, 1) := by decide +kernel
theorem dM_made_100 : decode mM_made.2.1 100 = .ok (.iadd, 1) := by decide +kernel
theorem dM_made_101 : decode mM_made.2.1 101 = .ok (.iload_n 3, 1) := by decide +kernel
theorem dM_made_102 : decode mM_made.2.1 102 = .ok (.iadd, 1) := by decide +kernel
theorem dM_made_103 : decode mM_made.2.1 103 = .ok (.iaload, 1) := by decide +kernel
theorem dM_made_104 : decode mM_made.2.1 104 = .ok (.ireturn, 1) := by decide +kernel
theorem dM_made_105 : decode mM_made.2.1 105 = .ok (.aload_n 0, 1) := by decide +kernel
theorem dM_made_106 : decode mM_made.2.1 106 = .ok (.getfield 19, 3) := by decide +kernel
theorem dM_made_109 : decode mM_made.2.1 109 = .ok (.iload_n 1, 1) := by decide +kernel
theorem dM_made_110 : decode mM_made.2.1 110 = .ok (.iaload, 1) := by decide +kernel
theorem dM_made_111 : decode mM_made.2.1 111 = .ok (.ireturn, 1) := by decide +kernel
theorem dM_made_112 : decode mM_made.2.1 112 = .ok (.aload_n 0, 1) := by decide +kernel
theorem dM_made_113 : decode mM_made.2.1 113 = .ok (.getfield 19, 3) := by decide +kernel
theorem dM_made_116 : decode mM_made.2.1 116 = .ok (.iload_n 1, 1) := by decide +kernel
theorem dM_made_117 : decode mM_made.2.1 117 = .ok (.iaload, 1) := by decide +kernel
theorem dM_made_118 : decode mM_made.2.1 118 = .ok (.ifCond .ne 7, 3) := by decide +kernel
theorem dM_made_121 : decode mM_made.2.1 121 = .ok (.iload_n 2, 1) := by decide +kernel
theorem dM_made_122 : decode mM_made.2.1 122 = .ok (.goto 4, 3) := by decide +kernel
theorem dM_made_125 : decode mM_made.2.1 125 = .ok (.iload_n 3, 1) := by decide +kernel
theorem dM_made_126 : decode mM_made.2.1 126 = .ok (.ireturn, 1) := by decide +kernel
theorem dM_made_127 : decode mM_made.2.1 127 = .ok (.aload_n 0, 1) := by decide +kernel
theorem dM_made_128 : decode mM_made.2.1 128 = .ok (.iload 4, 2) := by decide +kernel
theorem dM_made_130 : decode mM_made.2.1 130 = .ok (.iload_n 2, 1) := by decide +kernel
theorem dM_made_131 : decode mM_made.2.1 131 = .ok (.iload_n 3, 1) := by decide +kernel
theorem dM_made_132 : decode mM_made.2.1 132 = .ok (.invokevirtual 101, 3) := by decide +kernel
theorem dM_made_135 : decode mM_made.2.1 135 = .ok (.aload_n 0, 1) := by decide +kernel
theorem dM_made_136 : decode mM_made.2.1 136 = .ok (.iload 5, 2) := by decide +kernel
theorem dM_made_138 : decode mM_made.2.1 138 = .ok (.iload_n 2, 1) := by decide +kernel
theorem dM_made_139 : decode mM_made.2.1 139 = .ok (.iload_n 3, 1) := by decide +kernel
theorem dM_made_140 : decode mM_made.2.1 140 = .ok (.invokevirtual 101, 3) := by decide +kernel
theorem dM_made_143 : decode mM_made.2.1 143 = .ok (.iadd, 1) := by decide +kernel
theorem dM_made_144 : decode mM_made.2.1 144 = .ok (.ireturn, 1) := by decide +kernel
theorem dM_made_145 : decode mM_made.2.1 145 = .ok (.aload_n 0, 1) := by decide +kernel
theorem dM_made_146 : decode mM_made.2.1 146 = .ok (.iload 4, 2) := by decide +kernel
theorem dM_made_148 : decode mM_made.2.1 148 = .ok (.iload_n 2, 1) := by decide +kernel
theorem dM_made_149 : decode mM_made.2.1 149 = .ok (.iload_n 3, 1) := by decide +kernel
theorem dM_made_150 : decode mM_made.2.1 150 = .ok (.invokevirtual 101, 3) := by decide +kernel
theorem dM_made_153 : decode mM_made.2.1 153 = .ok (.aload_n 0, 1) := by decide +kernel
theorem dM_made_154 : decode mM_made.2.1 154 = .ok (.iload 5, 2) := by decide +kernel
theorem dM_made_156 : decode mM_made.2.1 156 = .ok (.iload_n 2, 1) := by decide +kernel
theorem dM_made_157 : decode mM_made.2.1 157 = .ok (.iload_n 3, 1) := by decide +kernel
theorem dM_made_158 : decode mM_made.2.1 158 = .ok (.invokevirtual 101, 3) := by decide +kernel
theorem dM_made_161 : decode mM_made.2.1 161 = .ok (.imul, 1) := by decide +kernel
theorem dM_made_162 : decode mM_made.2.1 162 = .ok (.ireturn, 1) := by decide +kernel
theorem dM_made_163 : decode mM_made.2.1 163 = .ok (.aload_n 0, 1) := by decide +kernel
theorem dM_made_164 : decode mM_made.2.1 164 = .ok (.iload 4, 2) := by decide +kernel
theorem dM_made_166 : decode mM_made.2.1 166 = .ok (.iload_n 2, 1) := by decide +kernel
theorem dM_made_167 : decode mM_made.2.1 167 = .ok (.iload_n 3, 1) := by decide +kernel
theorem dM_made_168 : decode mM_made.2.1 168 = .ok (.invokevirtual 101, 3) := by decide +kernel
theorem dM_made_171 : decode mM_made.2.1 171 = .ok (.aload_n 0, 1) := by decide +kernel
theorem dM_made_172 : decode mM_made.2.1 172 = .ok (.iload 5, 2) := by decide +kernel
theorem dM_made_174 : decode mM_made.2.1 174 = .ok (.iload_n 2, 1) := by decide +kernel
theorem dM_made_175 : decode mM_made.2.1 175 = .ok (.iload_n 3, 1) := by decide +kernel
theorem dM_made_176 : decode mM_made.2.1 176 = .ok (.invokevirtual 101, 3) := by decide +kernel
theorem dM_made_179 : decode mM_made.2.1 179 = .ok (.if_icmp .le 14, 3) := by decide +kernel
theorem dM_made_182 : decode mM_made.2.1 182 = .ok (.aload_n 0, 1) := by decide +kernel
theorem dM_made_183 : decode mM_made.2.1 183 = .ok (.iload 4, 2) := by decide +kernel
theorem dM_made_185 : decode mM_made.2.1 185 = .ok (.iload_n 2, 1) := by decide +kernel
theorem dM_made_186 : decode mM_made.2.1 186 = .ok (.iload_n 3, 1) := by decide +kernel
theorem dM_made_187 : decode mM_made.2.1 187 = .ok (.invokevirtual 101, 3) := by decide +kernel
theorem dM_made_190 : decode mM_made.2.1 190 = .ok (.goto 11, 3) := by decide +kernel
theorem dM_made_193 : decode mM_made.2.1 193 = .ok (.aload_n 0, 1) := by decide +kernel
theorem dM_made_194 : decode mM_made.2.1 194 = .ok (.iload 5, 2) := by decide +kernel
theorem dM_made_196 : decode mM_made.2.1 196 = .ok (.iload_n 2, 1) := by decide +kernel
theorem dM_made_197 : decode mM_made.2.1 197 = .ok (.iload_n 3, 1) := by decide +kernel
theorem dM_made_198 : decode mM_made.2.1 198 = .ok (.invokevirtual 101, 3) := by decide +kernel
theorem dM_made_201 : decode mM_made.2.1 201 = .ok (.ireturn, 1) := by decide +kernel
theorem dM_made_202 : decode mM_made.2.1 202 = .ok (.aload_n 0, 1) := by decide +kernel
theorem dM_made_203 : decode mM_made.2.1 203 = .ok (.iload 4, 2) := by decide +kernel
theorem dM_made_205 : decode mM_made.2.1 205 = .ok (.iload_n 2, 1) := by decide +kernel
theorem dM_made_206 : decode mM_made.2.1 206 = .ok (.iload_n 3, 1) := by decide +kernel
theorem dM_made_207 : decode mM_made.2.1 207 = .ok (.invokevirtual 101, 3) := by decide +kernel
theorem dM_made_210 : decode mM_made.2.1 210 = .ok (.ineg, 1) := by decide +kernel
theorem dM_made_211 : decode mM_made.2.1 211 = .ok (.ireturn, 1) := by decide +kernel
theorem dM_made_212 : decode mM_made.2.1 212 = .ok (.aload_n 0, 1) := by decide +kernel
theorem dM_made_213 : decode mM_made.2.1 213 = .ok (.iload 4, 2) := by decide +kernel
theorem dM_made_215 : decode mM_made.2.1 215 = .ok (.iload_n 3, 1) := by decide +kernel
theorem dM_made_216 : decode mM_made.2.1 216 = .ok (.iload_n 2, 1) := by decide +kernel
theorem dM_made_217 : decode mM_made.2.1 217 = .ok (.invokevirtual 101, 3) := by decide +kernel
theorem dM_made_220 : decode mM_made.2.1 220 = .ok (.ireturn, 1) := by decide +kernel
theorem dM_made_221 : decode mM_made.2.1 221 = .ok (.aload_n 0, 1) := by decide +kernel
theorem dM_made_222 : decode mM_made.2.1 222 = .ok (.iload_n 1, 1) := by decide +kernel
theorem dM_made_223 : decode mM_made.2.1 223 = .ok (.iload_n 2, 1) := by decide +kernel
theorem dM_made_224 : decode mM_made.2.1 224 = .ok (.iload_n 3, 1) := by decide +kernel
theorem dM_made_225 : decode mM_made.2.1 225 = .ok (.invokevirtual 105, 3) := by decide +kernel
theorem dM_made_228 : decode mM_made.2.1 228 = .ok (.ireturn, 1) := by decide +kernel
theorem dM_made_229 : decode mM_made.2.1 229 = .ok (.aload_n 0, 1) := by decide +kernel
theorem dM_made_230 : decode mM_made.2.1 230 = .ok (.iload_n 1, 1) := by decide +kernel
theorem dM_made_231 : decode mM_made.2.1 231 = .ok (.iload_n 2, 1) := by decide +kernel
theorem dM_made_232 : decode mM_made.2.1 232 = .ok (.iload_n 3, 1) := by decide +kernel
theorem dM_made_233 : decode mM_made.2.1 233 = .ok (.invokevirtual 105, 3) := by decide +kernel
theorem dM_made_236 : decode mM_made.2.1 236 = .ok (.ireturn, 1) := by decide +kernel
theorem dM_made_237 : decode mM_made.2.1 237 = .ok (.aload_n 0, 1) := by decide +kernel
theorem dM_made_238 : decode mM_made.2.1 238 = .ok (.iload 4, 2) := by decide +kernel
theorem dM_made_240 : decode mM_made.2.1 240 = .ok (.aload_n 0, 1) := by decide +kernel
theorem dM_made_241 : decode mM_made.2.1 241 = .ok (.getfield 25, 3) := by decide +kernel
theorem dM_made_244 : decode mM_made.2.1 244 = .ok (.iload 4, 2) := by decide +kernel
theorem dM_made_246 : decode mM_made.2.1 246 = .ok (.iaload, 1) := by decide +kernel
theorem dM_made_247 : decode mM_made.2.1 247 = .ok (.iconst 1, 1) := by decide +kernel
theorem dM_made_248 : decode mM_made.2.1 248 = .ok (.if_icmp .ne 7, 3) := by decide +kernel
theorem dM_made_251 : decode mM_made.2.1 251 = .ok (.iconst 0, 1) := by decide +kernel
theorem dM_made_252 : decode mM_made.2.1 252 = .ok (.goto 4, 3) := by decide +kernel
theorem dM_made_255 : decode mM_made.2.1 255 = .ok (.iload_n 2, 1) := by decide +kernel
theorem dM_made_256 : decode mM_made.2.1 256 = .ok (.aload_n 0, 1) := by decide +kernel
theorem dM_made_257 : decode mM_made.2.1 257 = .ok (.getfield 28, 3) := by decide +kernel
theorem dM_made_260 : decode mM_made.2.1 260 = .ok (.iload 4, 2) := by decide +kernel
theorem dM_made_262 : decode mM_made.2.1 262 = .ok (.iaload, 1) := by decide +kernel
theorem dM_made_263 : decode mM_made.2.1 263 = .ok (.iconst 1, 1) := by decide +kernel
theorem dM_made_264 : decode mM_made.2.1 264 = .ok (.if_icmp .ne 7, 3) := by decide +kernel
theorem dM_made_267 : decode mM_made.2.1 267 = .ok (.iconst 0, 1) := by decide +kernel
theorem dM_made_268 : decode mM_made.2.1 268 = .ok (.goto 4, 3) := by decide +kernel
theorem dM_made_271 : decode mM_made.2.1 271 = .ok (.iload_n 3, 1) := by decide +kernel
theorem dM_made_272 : decode mM_made.2.1 272 = .ok (.invokevirtual 101, 3) := by decide +kernel
theorem dM_made_275 : decode mM_made.2.1 275 = .ok (.ireturn, 1) := by decide +kernel
theorem dM_made_276 : decode mM_made.2.1 276 = .ok (.aload_n 0, 1) := by decide +kernel
theorem dM_made_277 : decode mM_made.2.1 277 = .ok (.iload 4, 2) := by decide +kernel
theorem dM_made_279 : decode mM_made.2.1 279 = .ok (.iload_n 2, 1) := by decide +kernel
theorem dM_made_280 : decode mM_made.2.1 280 = .ok (.aload_n 0, 1) := by decide +kernel
theorem dM_made_281 : decode mM_made.2.1 281 = .ok (.getfield 28, 3) := by decide +kernel
theorem dM_made_284 : decode mM_made.2.1 284 = .ok (.iload_n 1, 1) := by decide +kernel
theorem dM_made_285 : decode mM_made.2.1 285 = .ok (.iaload, 1) := by decide +kernel
theorem dM_made_286 : decode mM_made.2.1 286 = .ok (.imul, 1) := by decide +kernel
theorem dM_made_287 : decode mM_made.2.1 287 = .ok (.iload_n 3, 1) := by decide +kernel
theorem dM_made_288 : decode mM_made.2.1 288 = .ok (.iadd, 1) := by decide +kernel
theorem dM_made_289 : decode mM_made.2.1 289 = .ok (.aload_n 0, 1) := by decide +kernel
theorem dM_made_290 : decode mM_made.2.1 290 = .ok (.getfield 28, 3) := by decide +kernel
theorem dM_made_293 : decode mM_made.2.1 293 = .ok (.iload 4, 2) := by decide +kernel
theorem dM_made_295 : decode mM_made.2.1 295 = .ok (.iaload, 1) := by decide +kernel
theorem dM_made_296 : decode mM_made.2.1 296 = .ok (.idiv, 1) := by decide +kernel
theorem dM_made_297 : decode mM_made.2.1 297 = .ok (.iload_n 2, 1) := by decide +kernel
theorem dM_made_298 : decode mM_made.2.1 298 = .ok (.aload_n 0, 1) := by decide +kernel
theorem dM_made_299 : decode mM_made.2.1 299 = .ok (.getfield 28, 3) := by decide +kernel
theorem dM_made_302 : decode mM_made.2.1 302 = .ok (.iload_n 1, 1) := by decide +kernel
theorem dM_made_303 : decode mM_made.2.1 303 = .ok (.iaload, 1) := by decide +kernel
theorem dM_made_304 : decode mM_made.2.1 304 = .ok (.imul, 1) := by decide +kernel
theorem dM_made_305 : decode mM_made.2.1 305 = .ok (.iload_n 3, 1) := by decide +kernel
theorem dM_made_306 : decode mM_made.2.1 306 = .ok (.iadd, 1) := by decide +kernel
theorem dM_made_307 : decode mM_made.2.1 307 = .ok (.aload_n 0, 1) := by decide +kernel
theorem dM_made_308 : decode mM_made.2.1 308 = .ok (.getfield 28, 3) := by decide +kernel
theorem dM_made_311 : decode mM_made.2.1 311 = .ok (.iload 4, 2) := by decide +kernel
theorem dM_made_313 : decode mM_made.2.1 313 = .ok (.iaload, 1) := by decide +kernel
theorem dM_made_314 : decode mM_made.2.1 314 = .ok (.irem, 1) := by decide +kernel
theorem dM_made_315 : decode mM_made.2.1 315 = .ok (.invokevirtual 101, 3) := by decide +kernel
theorem dM_made_318 : decode mM_made.2.1 318 = .ok (.ireturn, 1) := by decide +kernel
theorem dM_made_319 : decode mM_made.2.1 319 = .ok (.aload_n 0, 1) := by decide +kernel
theorem dM_made_320 : decode mM_made.2.1 320 = .ok (.iload 4, 2) := by decide +kernel
theorem dM_made_322 : decode mM_made.2.1 322 = .ok (.iload_n 2, 1) := by decide +kernel
theorem dM_made_323 : decode mM_made.2.1 323 = .ok (.aload_n 0, 1) := by decide +kernel
theorem dM_made_324 : decode mM_made.2.1 324 = .ok (.getfield 19, 3) := by decide +kernel
theorem dM_made_327 : decode mM_made.2.1 327 = .ok (.iload_n 1, 1) := by decide +kernel
theorem dM_made_328 : decode mM_made.2.1 328 = .ok (.iaload, 1) := by decide +kernel
theorem dM_made_329 : decode mM_made.2.1 329 = .ok (.iadd, 1) := by decide +kernel
theorem dM_made_330 : decode mM_made.2.1 330 = .ok (.iload_n 3, 1) := by decide +kernel
theorem dM_made_331 : decode mM_made.2.1 331 = .ok (.aload_n 0, 1) := by decide +kernel
theorem dM_made_332 : decode mM_made.2.1 332 = .ok (.getfield 22, 3) := by decide +kernel
theorem dM_made_335 : decode mM_made.2.1 335 = .ok (.iload_n 1, 1) := by decide +kernel
theorem dM_made_336 : decode mM_made.2.1 336 = .ok (.iaload, 1) := by decide +kernel
theorem dM_made_337 : decode mM_made.2.1 337 = .ok (.iadd, 1) := by decide +kernel
theorem dM_made_338 : decode mM_made.2.1 338 = .ok (.invokevirtual 101, 3) := by decide +kernel
theorem dM_made_341 : decode mM_made.2.1 341 = .ok (.ireturn, 1) := by decide +kernel
theorem dM_total_0 : decode mM_total.2.1 0 = .ok (.aload_n 0, 1) := by decide +kernel
theorem dM_total_1 : decode mM_total.2.1 1 = .ok (.getfield 13, 3) := by decide +kernel
theorem dM_total_4 : decode mM_total.2.1 4 = .ok (.iload_n 1, 1) := by decide +kernel
theorem dM_total_5 : decode mM_total.2.1 5 = .ok (.iaload, 1) := by decide +kernel
theorem dM_total_6 : decode mM_total.2.1 6 = .ok (.istore 4, 2) := by decide +kernel
theorem dM_total_8 : decode mM_total.2.1 8 = .ok (.iconst 0, 1) := by decide +kernel
theorem dM_total_9 : decode mM_total.2.1 9 = .ok (.istore 5, 2) := by decide +kernel
theorem dM_total_11 : decode mM_total.2.1 11 = .ok (.aload_n 0, 1) := by decide +kernel
theorem dM_total_12 : decode mM_total.2.1 12 = .ok (.getfield 7, 3) := by decide +kernel
theorem dM_total_15 : decode mM_total.2.1 15 = .ok (.iload_n 1, 1) := by decide +kernel
theorem dM_total_16 : decode mM_total.2.1 16 = .ok (.iaload, 1) := by decide +kernel
theorem dM_total_17 : decode mM_total.2.1 17 = .ok (.bipush 8, 2) := by decide +kernel
theorem dM_total_19 : decode mM_total.2.1 19 = .ok (.if_icmp .ne 7, 3) := by decide +kernel
theorem dM_total_22 : decode mM_total.2.1 22 = .ok (.iconst 1, 1) := by decide +kernel
theorem dM_total_23 : decode mM_total.2.1 23 = .ok (.goto 4, 3) := by decide +kernel
theorem dM_total_26 : decode mM_total.2.1 26 = .ok (.iconst 0, 1) := by decide +kernel
theorem dM_total_27 : decode mM_total.2.1 27 = .ok (.istore 6, 2) := by decide +kernel
theorem dM_total_29 : decode mM_total.2.1 29 = .ok (.iload 6, 2) := by decide +kernel
theorem dM_total_31 : decode mM_total.2.1 31 = .ok (.ifCond .ne 13, 3) := by decide +kernel
theorem dM_total_34 : decode mM_total.2.1 34 = .ok (.aload_n 0, 1) := by decide +kernel
theorem dM_total_35 : decode mM_total.2.1 35 = .ok (.getfield 19, 3) := by decide +kernel
theorem dM_total_38 : decode mM_total.2.1 38 = .ok (.iload_n 1, 1) := by decide +kernel
theorem dM_total_39 : decode mM_total.2.1 39 = .ok (.iaload, 1) := by decide +kernel
theorem dM_total_40 : decode mM_total.2.1 40 = .ok (.iconst 1, 1) := by decide +kernel
theorem dM_total_41 : decode mM_total.2.1 41 = .ok (.if_icmp .ne 13, 3) := by decide +kernel
theorem dM_total_44 : decode mM_total.2.1 44 = .ok (.aload_n 0, 1) := by decide +kernel
theorem dM_total_45 : decode mM_total.2.1 45 = .ok (.getfield 28, 3) := by decide +kernel
theorem dM_total_48 : decode mM_total.2.1 48 = .ok (.iload 4, 2) := by decide +kernel
theorem dM_total_50 : decode mM_total.2.1 50 = .ok (.iaload, 1) := by decide +kernel
theorem dM_total_51 : decode mM_total.2.1 51 = .ok (.goto 10, 3) := by decide +kernel
theorem dM_total_54 : decode mM_total.2.1 54 = .ok (.aload_n 0, 1) := by decide +kernel
theorem dM_total_55 : decode mM_total.2.1 55 = .ok (.getfield 25, 3) := by decide +kernel
theorem dM_total_58 : decode mM_total.2.1 58 = .ok (.iload 4, 2) := by decide +kernel
theorem dM_total_60 : decode mM_total.2.1 60 = .ok (.iaload, 1) := by decide +kernel
theorem dM_total_61 : decode mM_total.2.1 61 = .ok (.istore 7, 2) := by decide +kernel
theorem dM_total_63 : decode mM_total.2.1 63 = .ok (.iconst 0, 1) := by decide +kernel
theorem dM_total_64 : decode mM_total.2.1 64 = .ok (.istore 8, 2) := by decide +kernel
theorem dM_total_66 : decode mM_total.2.1 66 = .ok (.iload 8, 2) := by decide +kernel
theorem dM_total_68 : decode mM_total.2.1 68 = .ok (.iload 7, 2) := by decide +kernel
theorem dM_total_70 : decode mM_total.2.1 70 = .ok (.if_icmp .ge 76, 3) := by decide +kernel
theorem dM_total_73 : decode mM_total.2.1 73 = .ok (.iload 5, 2) := by decide +kernel
theorem dM_total_75 : decode mM_total.2.1 75 = .ok (.iload 6, 2) := by decide +kernel
theorem dM_total_77 : decode mM_total.2.1 77 = .ok (.ifCond .eq 29, 3) := by decide +kernel
theorem dM_total_80 : decode mM_total.2.1 80 = .ok (.aload_n 0, 1) := by decide +kernel
theorem dM_total_81 : decode mM_total.2.1 81 = .ok (.iload 4, 2) := by decide +kernel
theorem dM_total_83 : decode mM_total.2.1 83 = .ok (.iload_n 2, 1) := by decide +kernel
theorem dM_total_84 : decode mM_total.2.1 84 = .ok (.iload 8, 2) := by decide +kernel
theorem dM_total_86 : decode mM_total.2.1 86 = .ok (.invokevirtual 101, 3) := by decide +kernel
theorem dM_total_89 : decode mM_total.2.1 89 = .ok (.aload_n 0, 1) := by decide +kernel
theorem dM_total_90 : decode mM_total.2.1 90 = .ok (.aload_n 0, 1) := by decide +kernel
theorem dM_total_91 : decode mM_total.2.1 91 = .ok (.getfield 16, 3) := by decide +kernel
theorem dM_total_94 : decode mM_total.2.1 94 = .ok (.iload_n 1, 1) := by decide +kernel
theorem dM_total_95 : decode mM_total.2.1 95 = .ok (.iaload, 1) := by decide +kernel
theorem dM_total_96 : decode mM_total.2.1 96 = .ok (.iload 8, 2) := by decide +kernel
theorem dM_total_98 : decode mM_total.2.1 98 = .ok (.iload_n 3, 1) := by decide +kernel
theorem dM_total_99 : decode mM_total.2.1 99 = .ok (.invokevirtual 101, 3) := by decide +kernel
theorem dM_total_102 : decode mM_total.2.1 102 = .ok (.imul, 1) := by decide +kernel
theorem dM_total_103 : decode mM_total.2.1 103 = .ok (.goto 34, 3) := by decide +kernel
theorem dM_total_106 : decode mM_total.2.1 106 = .ok (.aload_n 0, 1) := by decide +kernel
theorem dM_total_107 : decode mM_total.2.1 107 = .ok (.getfield 19, 3) := by decide +kernel
theorem dM_total_110 : decode mM_total.2.1 110 = .ok (.iload_n 1, 1) := by decide +kernel
theorem dM_total_111 : decode mM_total.2.1 111 = .ok (.iaload, 1) := by decide +kernel
theorem dM_total_112 : decode mM_total.2.1 112 = .ok (.iconst 1, 1) := by decide +kernel
theorem dM_total_113 : decode mM_total.2.1 113 = .ok (.if_icmp .ne 15, 3) := by decide +kernel
theorem dM_total_116 : decode mM_total.2.1 116 = .ok (.aload_n 0, 1) := by decide +kernel
theorem dM_total_117 : decode mM_total.2.1 117 = .ok (.iload 4, 2) := by decide +kernel
theorem dM_total_119 : decode mM_total.2.1 119 = .ok (.iload_n 2, 1) := by decide +kernel
theorem dM_total_120 : decode mM_total.2.1 120 = .ok (.iload 8, 2) := by decide +kernel
theorem dM_total_122 : decode mM_total.2.1 122 = .ok (.invokevirtual 101, 3) := by decide +kernel
theorem dM_total_125 : decode mM_total.2.1 125 = .ok (.goto 12, 3) := by decide +kernel
theorem dM_total_128 : decode mM_total.2.1 128 = .ok (.aload_n 0, 1) := by decide +kernel
theorem dM_total_129 : decode mM_total.2.1 129 = .ok (.iload 4, 2) := by decide +kernel
theorem dM_total_131 : decode mM_total.2.1 131 = .ok (.iload 8, 2) := by decide +kernel
theorem dM_total_133 : decode mM_total.2.1 133 = .ok (.iload_n 3, 1) := by decide +kernel
theorem dM_total_134 : decode mM_total.2.1 134 = .ok (.invokevirtual 101, 3) := by decide +kernel
theorem dM_total_137 : decode mM_total.2.1 137 = .ok (.iadd, 1) := by decide +kernel
theorem dM_total_138 : decode mM_total.2.1 138 = .ok (.istore 5, 2) := by decide +kernel
theorem dM_total_140 : decode mM_total.2.1 140 = .ok (.iinc 8 1, 3) := by decide +kernel
theorem dM_total_143 : decode mM_total.2.1 143 = .ok (.goto (-77), 3) := by decide +kernel
theorem dM_total_146 : decode mM_total.2.1 146 = .ok (.iload 5, 2) := by decide +kernel
theorem dM_total_148 : decode mM_total.2.1 148 = .ok (.ireturn, 1) := by decide +kernel
theorem dM_work_0 : decode mM_work.2.1 0 = .ok (.iconst 0, 1) := by decide +kernel
theorem dM_work_1 : decode mM_work.2.1 1 = .ok (.istore_n 1, 1) := by decide +kernel
theorem dM_work_2 : decode mM_work.2.1 2 = .ok (.iconst 0, 1) := by decide +kernel
theorem dM_work_3 : decode mM_work.2.1 3 = .ok (.istore_n 2, 1) := by decide +kernel
theorem dM_work_4 : decode mM_work.2.1 4 = .ok (.iload_n 2, 1) := by decide +kernel
theorem dM_work_5 : decode mM_work.2.1 5 = .ok (.aload_n 0, 1) := by decide +kernel
theorem dM_work_6 : decode mM_work.2.1 6 = .ok (.getfield 50, 3) := by decide +kernel
theorem dM_work_9 : decode mM_work.2.1 9 = .ok (.if_icmp .ge 112, 3) := by decide +kernel
theorem dM_work_12 : decode mM_work.2.1 12 = .ok (.aload_n 0, 1) := by decide +kernel
theorem dM_work_13 : decode mM_work.2.1 13 = .ok (.getfield 44, 3) := by decide +kernel
theorem dM_work_16 : decode mM_work.2.1 16 = .ok (.iload_n 2, 1) := by decide +kernel
theorem dM_work_17 : decode mM_work.2.1 17 = .ok (.aload_n 0, 1) := by decide +kernel
theorem dM_work_18 : decode mM_work.2.1 18 = .ok (.iload_n 2, 1) := by decide +kernel
theorem dM_work_19 : decode mM_work.2.1 19 = .ok (.invokevirtual 108, 3) := by decide +kernel
theorem dM_work_22 : decode mM_work.2.1 22 = .ok (.bastore, 1) := by decide +kernel
theorem dM_work_23 : decode mM_work.2.1 23 = .ok (.aload_n 0, 1) := by decide +kernel
theorem dM_work_24 : decode mM_work.2.1 24 = .ok (.getfield 44, 3) := by decide +kernel
theorem dM_work_27 : decode mM_work.2.1 27 = .ok (.iload_n 2, 1) := by decide +kernel
theorem dM_work_28 : decode mM_work.2.1 28 = .ok (.baload, 1) := by decide +kernel
theorem dM_work_29 : decode mM_work.2.1 29 = .ok (.ifCond .eq 86, 3) := by decide +kernel
theorem dM_work_32 : decode mM_work.2.1 32 = .ok (.iload_n 1, 1) := by decide +kernel
theorem dM_work_33 : decode mM_work.2.1 33 = .ok (.aload_n 0, 1) := by decide +kernel
theorem dM_work_34 : decode mM_work.2.1 34 = .ok (.iload_n 2, 1) := by decide +kernel
theorem dM_work_35 : decode mM_work.2.1 35 = .ok (.invokevirtual 111, 3) := by decide +kernel
theorem dM_work_38 : decode mM_work.2.1 38 = .ok (.iadd, 1) := by decide +kernel
theorem dM_work_39 : decode mM_work.2.1 39 = .ok (.istore_n 1, 1) := by decide +kernel
theorem dM_work_40 : decode mM_work.2.1 40 = .ok (.iconst 0, 1) := by decide +kernel
theorem dM_work_41 : decode mM_work.2.1 41 = .ok (.istore_n 3, 1) := by decide +kernel
theorem dM_work_42 : decode mM_work.2.1 42 = .ok (.iload_n 3, 1) := by decide +kernel
theorem dM_work_43 : decode mM_work.2.1 43 = .ok (.aload_n 0, 1) := by decide +kernel
theorem dM_work_44 : decode mM_work.2.1 44 = .ok (.getfield 25, 3) := by decide +kernel
theorem dM_work_47 : decode mM_work.2.1 47 = .ok (.iload_n 2, 1) := by decide +kernel
theorem dM_work_48 : decode mM_work.2.1 48 = .ok (.iaload, 1) := by decide +kernel
theorem dM_work_49 : decode mM_work.2.1 49 = .ok (.aload_n 0, 1) := by decide +kernel
theorem dM_work_50 : decode mM_work.2.1 50 = .ok (.getfield 28, 3) := by decide +kernel
theorem dM_work_53 : decode mM_work.2.1 53 = .ok (.iload_n 2, 1) := by decide +kernel
theorem dM_work_54 : decode mM_work.2.1 54 = .ok (.iaload, 1) := by decide +kernel
theorem dM_work_55 : decode mM_work.2.1 55 = .ok (.imul, 1) := by decide +kernel
theorem dM_work_56 : decode mM_work.2.1 56 = .ok (.if_icmp .ge 59, 3) := by decide +kernel
theorem dM_work_59 : decode mM_work.2.1 59 = .ok (.aload_n 0, 1) := by decide +kernel
theorem dM_work_60 : decode mM_work.2.1 60 = .ok (.getfield 41, 3) := by decide +kernel
theorem dM_work_63 : decode mM_work.2.1 63 = .ok (.iload_n 2, 1) := by decide +kernel
theorem dM_work_64 : decode mM_work.2.1 64 = .ok (.bipush 16, 2) := by decide +kernel
theorem dM_work_66 : decode mM_work.2.1 66 = .ok (.imul, 1) := by decide +kernel
theorem dM_work_67 : decode mM_work.2.1 67 = .ok (.iload_n 3, 1) := by decide +kernel
theorem dM_work_68 : decode mM_work.2.1 68 = .ok (.aload_n 0, 1) := by decide +kernel
theorem dM_work_69 : decode mM_work.2.1 69 = .ok (.getfield 28, 3) := by decide +kernel
theorem dM_work_72 : decode mM_work.2.1 72 = .ok (.iload_n 2, 1) := by decide +kernel
theorem dM_work_73 : decode mM_work.2.1 73 = .ok (.iaload, 1) := by decide +kernel
theorem dM_work_74 : decode mM_work.2.1 74 = .ok (.idiv, 1) := by decide +kernel
theorem dM_work_75 : decode mM_work.2.1 75 = .ok (.iconst 4, 1) := by decide +kernel
theorem dM_work_76 : decode mM_work.2.1 76 = .ok (.imul, 1) := by decide +kernel
theorem dM_work_77 : decode mM_work.2.1 77 = .ok (.iadd, 1) := by decide +kernel
theorem dM_work_78 : decode mM_work.2.1 78 = .ok (.iload_n 3, 1) := by decide +kernel
theorem dM_work_79 : decode mM_work.2.1 79 = .ok (.aload_n 0, 1) := by decide +kernel
theorem dM_work_80 : decode mM_work.2.1 80 = .ok (.getfield 28, 3) := by decide +kernel
theorem dM_work_83 : decode mM_work.2.1 83 = .ok (.iload_n 2, 1) := by decide +kernel
theorem dM_work_84 : decode mM_work.2.1 84 = .ok (.iaload, 1) := by decide +kernel
theorem dM_work_85 : decode mM_work.2.1 85 = .ok (.irem, 1) := by decide +kernel
theorem dM_work_86 : decode mM_work.2.1 86 = .ok (.iadd, 1) := by decide +kernel
theorem dM_work_87 : decode mM_work.2.1 87 = .ok (.aload_n 0, 1) := by decide +kernel
theorem dM_work_88 : decode mM_work.2.1 88 = .ok (.iload_n 2, 1) := by decide +kernel
theorem dM_work_89 : decode mM_work.2.1 89 = .ok (.iload_n 3, 1) := by decide +kernel
theorem dM_work_90 : decode mM_work.2.1 90 = .ok (.aload_n 0, 1) := by decide +kernel
theorem dM_work_91 : decode mM_work.2.1 91 = .ok (.getfield 28, 3) := by decide +kernel
theorem dM_work_94 : decode mM_work.2.1 94 = .ok (.iload_n 2, 1) := by decide +kernel
theorem dM_work_95 : decode mM_work.2.1 95 = .ok (.iaload, 1) := by decide +kernel
theorem dM_work_96 : decode mM_work.2.1 96 = .ok (.idiv, 1) := by decide +kernel
theorem dM_work_97 : decode mM_work.2.1 97 = .ok (.iload_n 3, 1) := by decide +kernel
theorem dM_work_98 : decode mM_work.2.1 98 = .ok (.aload_n 0, 1) := by decide +kernel
theorem dM_work_99 : decode mM_work.2.1 99 = .ok (.getfield 28, 3) := by decide +kernel
theorem dM_work_102 : decode mM_work.2.1 102 = .ok (.iload_n 2, 1) := by decide +kernel
theorem dM_work_103 : decode mM_work.2.1 103 = .ok (.iaload, 1) := by decide +kernel
theorem dM_work_104 : decode mM_work.2.1 104 = .ok (.irem, 1) := by decide +kernel
theorem dM_work_105 : decode mM_work.2.1 105 = .ok (.invokevirtual 114, 3) := by decide +kernel
theorem dM_work_108 : decode mM_work.2.1 108 = .ok (.iastore, 1) := by decide +kernel
theorem dM_work_109 : decode mM_work.2.1 109 = .ok (.iinc 3 1, 3) := by decide +kernel
theorem dM_work_112 : decode mM_work.2.1 112 = .ok (.goto (-70), 3) := by decide +kernel
theorem dM_work_115 : decode mM_work.2.1 115 = .ok (.iinc 2 1, 3) := by decide +kernel
theorem dM_work_118 : decode mM_work.2.1 118 = .ok (.goto (-114), 3) := by decide +kernel
theorem dM_work_121 : decode mM_work.2.1 121 = .ok (.iload_n 1, 1) := by decide +kernel
theorem dM_work_122 : decode mM_work.2.1 122 = .ok (.ireturn, 1) := by decide +kernel
theorem dM_cell_0 : decode mM_cell.2.1 0 = .ok (.aload_n 0, 1) := by decide +kernel
theorem dM_cell_1 : decode mM_cell.2.1 1 = .ok (.iload_n 1, 1) := by decide +kernel
theorem dM_cell_2 : decode mM_cell.2.1 2 = .ok (.invokevirtual 69, 3) := by decide +kernel
theorem dM_cell_5 : decode mM_cell.2.1 5 = .ok (.ifCond .ne 40, 3) := by decide +kernel
theorem dM_cell_8 : decode mM_cell.2.1 8 = .ok (.aload_n 0, 1) := by decide +kernel
theorem dM_cell_9 : decode mM_cell.2.1 9 = .ok (.getfield 44, 3) := by decide +kernel
theorem dM_cell_12 : decode mM_cell.2.1 12 = .ok (.iload_n 1, 1) := by decide +kernel
theorem dM_cell_13 : decode mM_cell.2.1 13 = .ok (.baload, 1) := by decide +kernel
theorem dM_cell_14 : decode mM_cell.2.1 14 = .ok (.ifCond .eq 31, 3) := by decide +kernel
theorem dM_cell_17 : decode mM_cell.2.1 17 = .ok (.iload_n 2, 1) := by decide +kernel
theorem dM_cell_18 : decode mM_cell.2.1 18 = .ok (.ifCond .lt 27, 3) := by decide +kernel
theorem dM_cell_21 : decode mM_cell.2.1 21 = .ok (.iload_n 2, 1) := by decide +kernel
theorem dM_cell_22 : decode mM_cell.2.1 22 = .ok (.aload_n 0, 1) := by decide +kernel
theorem dM_cell_23 : decode mM_cell.2.1 23 = .ok (.getfield 25, 3) := by decide +kernel
theorem dM_cell_26 : decode mM_cell.2.1 26 = .ok (.iload_n 1, 1) := by decide +kernel
theorem dM_cell_27 : decode mM_cell.2.1 27 = .ok (.iaload, 1) := by decide +kernel
theorem dM_cell_28 : decode mM_cell.2.1 28 = .ok (.if_icmp .ge 17, 3) := by decide +kernel
theorem dM_cell_31 : decode mM_cell.2.1 31 = .ok (.iload_n 3, 1) := by decide +kernel
theorem dM_cell_32 : decode mM_cell.2.1 32 = .ok (.ifCond .lt 13, 3) := by decide +kernel
theorem dM_cell_35 : decode mM_cell.2.1 35 = .ok (.iload_n 3, 1) := by decide +kernel
theorem dM_cell_36 : decode mM_cell.2.1 36 = .ok (.aload_n 0, 1) := by decide +kernel
theorem dM_cell_37 : decode mM_cell.2.1 37 = .ok (.getfield 28, 3) := by decide +kernel
theorem dM_cell_40 : decode mM_cell.2.1 40 = .ok (.iload_n 1, 1) := by decide +kernel
theorem dM_cell_41 : decode mM_cell.2.1 41 = .ok (.iaload, 1) := by decide +kernel
theorem dM_cell_42 : decode mM_cell.2.1 42 = .ok (.if_icmp .lt 7, 3) := by decide +kernel
theorem dM_cell_45 : decode mM_cell.2.1 45 = .ok (.ldc2_w 117, 3) := by decide +kernel
theorem dM_cell_48 : decode mM_cell.2.1 48 = .ok (.lreturn, 1) := by decide +kernel
theorem dM_cell_49 : decode mM_cell.2.1 49 = .ok (.aload_n 0, 1) := by decide +kernel
theorem dM_cell_50 : decode mM_cell.2.1 50 = .ok (.iload_n 1, 1) := by decide +kernel
theorem dM_cell_51 : decode mM_cell.2.1 51 = .ok (.iload_n 2, 1) := by decide +kernel
theorem dM_cell_52 : decode mM_cell.2.1 52 = .ok (.iload_n 3, 1) := by decide +kernel
theorem dM_cell_53 : decode mM_cell.2.1 53 = .ok (.invokevirtual 101, 3) := by decide +kernel
theorem dM_cell_56 : decode mM_cell.2.1 56 = .ok (.i2l, 1) := by decide +kernel
theorem dM_cell_57 : decode mM_cell.2.1 57 = .ok (.lreturn, 1) := by decide +kernel
theorem dM_standIn_0 : decode mM_standIn.2.1 0 = .ok (.aload_n 0, 1) := by decide +kernel
theorem dM_standIn_1 : decode mM_standIn.2.1 1 = .ok (.iload_n 1, 1) := by decide +kernel
theorem dM_standIn_2 : decode mM_standIn.2.1 2 = .ok (.invokevirtual 69, 3) := by decide +kernel
theorem dM_standIn_5 : decode mM_standIn.2.1 5 = .ok (.ifCond .eq 7, 3) := by decide +kernel
theorem dM_standIn_8 : decode mM_standIn.2.1 8 = .ok (.iconst (-1), 1) := by decide +kernel
theorem dM_standIn_9 : decode mM_standIn.2.1 9 = .ok (.goto 9, 3) := by decide +kernel
theorem dM_standIn_12 : decode mM_standIn.2.1 12 = .ok (.aload_n 0, 1) := by decide +kernel
theorem dM_standIn_13 : decode mM_standIn.2.1 13 = .ok (.getfield 35, 3) := by decide +kernel
theorem dM_standIn_16 : decode mM_standIn.2.1 16 = .ok (.iload_n 1, 1) := by decide +kernel
theorem dM_standIn_17 : decode mM_standIn.2.1 17 = .ok (.iaload, 1) := by decide +kernel
theorem dM_standIn_18 : decode mM_standIn.2.1 18 = .ok (.ireturn, 1) := by decide +kernel
theorem dM_value_0 : decode mM_value.2.1 0 = .ok (.aload_n 0, 1) := by decide +kernel
theorem dM_value_1 : decode mM_value.2.1 1 = .ok (.iload_n 1, 1) := by decide +kernel
theorem dM_value_2 : decode mM_value.2.1 2 = .ok (.invokevirtual 69, 3) := by decide +kernel
theorem dM_value_5 : decode mM_value.2.1 5 = .ok (.ifCond .ne 14, 3) := by decide +kernel
theorem dM_value_8 : decode mM_value.2.1 8 = .ok (.aload_n 0, 1) := by decide +kernel
theorem dM_value_9 : decode mM_value.2.1 9 = .ok (.iload_n 2, 1) := by decide +kernel
theorem dM_value_10 : decode mM_value.2.1 10 = .ok (.iconst 0, 1) := by decide +kernel
theorem dM_value_11 : decode mM_value.2.1 11 = .ok (.bipush 7, 2) := by decide +kernel
theorem dM_value_13 : decode mM_value.2.1 13 = .ok (.invokevirtual 61, 3) := by decide +kernel
theorem dM_value_16 : decode mM_value.2.1 16 = .ok (.ifCond .eq 5, 3) := by decide +kernel
theorem dM_value_19 : decode mM_value.2.1 19 = .ok (.iconst (-1), 1) := by decide +kernel
theorem dM_value_20 : decode mM_value.2.1 20 = .ok (.ireturn, 1) := by decide +kernel
theorem dM_value_21 : decode mM_value.2.1 21 = .ok (.iload_n 2, 1) := by decide +kernel
theorem dM_value_22 : decode mM_value.2.1 22 = .ok (.tableswitch 91 0 6 #[42, 49, 56, 63, 70, 77, 84], 42) := by decide +kernel
theorem dM_value_64 : decode mM_value.2.1 64 = .ok (.aload_n 0, 1) := by decide +kernel
theorem dM_value_65 : decode mM_value.2.1 65 = .ok (.getfield 7, 3) := by decide +kernel
theorem dM_value_68 : decode mM_value.2.1 68 = .ok (.iload_n 1, 1) := by decide +kernel
theorem dM_value_69 : decode mM_value.2.1 69 = .ok (.iaload, 1) := by decide +kernel
theorem dM_value_70 : decode mM_value.2.1 70 = .ok (.ireturn, 1) := by decide +kernel
theorem dM_value_71 : decode mM_value.2.1 71 = .ok (.aload_n 0, 1) := by decide +kernel
theorem dM_value_72 : decode mM_value.2.1 72 = .ok (.getfield 25, 3) := by decide +kernel
theorem dM_value_75 : decode mM_value.2.1 75 = .ok (.iload_n 1, 1) := by decide +kernel
theorem dM_value_76 : decode mM_value.2.1 76 = .ok (.iaload, 1) := by decide +kernel
theorem dM_value_77 : decode mM_value.2.1 77 = .ok (.ireturn, 1) := by decide +kernel
theorem dM_value_78 : decode mM_value.2.1 78 = .ok (.aload_n 0, 1) := by decide +kernel
theorem dM_value_79 : decode mM_value.2.1 79 = .ok (.getfield 28, 3) := by decide +kernel
theorem dM_value_82 : decode mM_value.2.1 82 = .ok (.iload_n 1, 1) := by decide +kernel
theorem dM_value_83 : decode mM_value.2.1 83 = .ok (.iaload, 1) := by decide +kernel
theorem dM_value_84 : decode mM_value.2.1 84 = .ok (.ireturn, 1) := by decide +kernel
theorem dM_value_85 : decode mM_value.2.1 85 = .ok (.aload_n 0, 1) := by decide +kernel
theorem dM_value_86 : decode mM_value.2.1 86 = .ok (.getfield 13, 3) := by decide +kernel
theorem dM_value_89 : decode mM_value.2.1 89 = .ok (.iload_n 1, 1) := by decide +kernel
theorem dM_value_90 : decode mM_value.2.1 90 = .ok (.iaload, 1) := by decide +kernel
theorem dM_value_91 : decode mM_value.2.1 91 = .ok (.ireturn, 1) := by decide +kernel
theorem dM_value_92 : decode mM_value.2.1 92 = .ok (.aload_n 0, 1) := by decide +kernel
theorem dM_value_93 : decode mM_value.2.1 93 = .ok (.getfield 16, 3) := by decide +kernel
theorem dM_value_96 : decode mM_value.2.1 96 = .ok (.iload_n 1, 1) := by decide +kernel
theorem dM_value_97 : decode mM_value.2.1 97 = .ok (.iaload, 1) := by decide +kernel
theorem dM_value_98 : decode mM_value.2.1 98 = .ok (.ireturn, 1) := by decide +kernel
theorem dM_value_99 : decode mM_value.2.1 99 = .ok (.aload_n 0, 1) := by decide +kernel
theorem dM_value_100 : decode mM_value.2.1 100 = .ok (.getfield 19, 3) := by decide +kernel
theorem dM_value_103 : decode mM_value.2.1 103 = .ok (.iload_n 1, 1) := by decide +kernel
theorem dM_value_104 : decode mM_value.2.1 104 = .ok (.iaload, 1) := by decide +kernel
theorem dM_value_105 : decode mM_value.2.1 105 = .ok (.ireturn, 1) := by decide +kernel
theorem dM_value_106 : decode mM_value.2.1 106 = .ok (.aload_n 0, 1) := by decide +kernel
theorem dM_value_107 : decode mM_value.2.1 107 = .ok (.getfield 22, 3) := by decide +kernel
theorem dM_value_110 : decode mM_value.2.1 110 = .ok (.iload_n 1, 1) := by decide +kernel
theorem dM_value_111 : decode mM_value.2.1 111 = .ok (.iaload, 1) := by decide +kernel
theorem dM_value_112 : decode mM_value.2.1 112 = .ok (.ireturn, 1) := by decide +kernel
theorem dM_value_113 : decode mM_value.2.1 113 = .ok (.aload_n 0, 1) := by decide +kernel
theorem dM_value_114 : decode mM_value.2.1 114 = .ok (.iload_n 1, 1) := by decide +kernel
theorem dM_value_115 : decode mM_value.2.1 115 = .ok (.invokevirtual 108, 3) := by decide +kernel
theorem dM_value_118 : decode mM_value.2.1 118 = .ok (.ifCond .eq 7, 3) := by decide +kernel
theorem dM_value_121 : decode mM_value.2.1 121 = .ok (.iconst 1, 1) := by decide +kernel
theorem dM_value_122 : decode mM_value.2.1 122 = .ok (.goto 4, 3) := by decide +kernel
theorem dM_value_125 : decode mM_value.2.1 125 = .ok (.iconst 0, 1) := by decide +kernel
theorem dM_value_126 : decode mM_value.2.1 126 = .ok (.ireturn, 1) := by decide +kernel
theorem dM_count_0 : decode mM_count.2.1 0 = .ok (.iload_n 1, 1) := by decide +kernel
theorem dM_count_1 : decode mM_count.2.1 1 = .ok (.iconst 1, 1) := by decide +kernel
theorem dM_count_2 : decode mM_count.2.1 2 = .ok (.if_icmp .lt 16, 3) := by decide +kernel
theorem dM_count_5 : decode mM_count.2.1 5 = .ok (.iload_n 1, 1) := by decide +kernel
theorem dM_count_6 : decode mM_count.2.1 6 = .ok (.bipush 6, 2) := by decide +kernel
theorem dM_count_8 : decode mM_count.2.1 8 = .ok (.if_icmp .gt 10, 3) := by decide +kernel
theorem dM_count_11 : decode mM_count.2.1 11 = .ok (.aload_n 0, 1) := by decide +kernel
theorem dM_count_12 : decode mM_count.2.1 12 = .ok (.getfield 47, 3) := by decide +kernel
theorem dM_count_15 : decode mM_count.2.1 15 = .ok (.iload_n 1, 1) := by decide +kernel
theorem dM_count_16 : decode mM_count.2.1 16 = .ok (.iaload, 1) := by decide +kernel
theorem dM_count_17 : decode mM_count.2.1 17 = .ok (.ireturn, 1) := by decide +kernel
theorem dM_count_18 : decode mM_count.2.1 18 = .ok (.iload_n 1, 1) := by decide +kernel
theorem dM_count_19 : decode mM_count.2.1 19 = .ok (.ifCond .ne 8, 3) := by decide +kernel
theorem dM_count_22 : decode mM_count.2.1 22 = .ok (.aload_n 0, 1) := by decide +kernel
theorem dM_count_23 : decode mM_count.2.1 23 = .ok (.getfield 50, 3) := by decide +kernel
theorem dM_count_26 : decode mM_count.2.1 26 = .ok (.ireturn, 1) := by decide +kernel
theorem dM_count_27 : decode mM_count.2.1 27 = .ok (.iload_n 1, 1) := by decide +kernel
theorem dM_count_28 : decode mM_count.2.1 28 = .ok (.bipush 9, 2) := by decide +kernel
theorem dM_count_30 : decode mM_count.2.1 30 = .ok (.if_icmp .ne 16, 3) := by decide +kernel
theorem dM_count_33 : decode mM_count.2.1 33 = .ok (.aload_n 0, 1) := by decide +kernel
theorem dM_count_34 : decode mM_count.2.1 34 = .ok (.getfield 54, 3) := by decide +kernel
theorem dM_count_37 : decode mM_count.2.1 37 = .ok (.ifCond .eq 7, 3) := by decide +kernel
theorem dM_count_40 : decode mM_count.2.1 40 = .ok (.iconst 1, 1) := by decide +kernel
theorem dM_count_41 : decode mM_count.2.1 41 = .ok (.goto 4, 3) := by decide +kernel
theorem dM_count_44 : decode mM_count.2.1 44 = .ok (.iconst 0, 1) := by decide +kernel
theorem dM_count_45 : decode mM_count.2.1 45 = .ok (.ireturn, 1) := by decide +kernel
theorem dM_count_46 : decode mM_count.2.1 46 = .ok (.iload_n 1, 1) := by decide +kernel
theorem dM_count_47 : decode mM_count.2.1 47 = .ok (.bipush 7, 2) := by decide +kernel
theorem dM_count_49 : decode mM_count.2.1 49 = .ok (.if_icmp .eq 11, 3) := by decide +kernel
theorem dM_count_52 : decode mM_count.2.1 52 = .ok (.iload_n 1, 1) := by decide +kernel
theorem dM_count_53 : decode mM_count.2.1 53 = .ok (.bipush 8, 2) := by decide +kernel
theorem dM_count_55 : decode mM_count.2.1 55 = .ok (.if_icmp .eq 5, 3) := by decide +kernel
theorem dM_count_58 : decode mM_count.2.1 58 = .ok (.iconst (-1), 1) := by decide +kernel
theorem dM_count_59 : decode mM_count.2.1 59 = .ok (.ireturn, 1) := by decide +kernel
theorem dM_count_60 : decode mM_count.2.1 60 = .ok (.iconst 0, 1) := by decide +kernel
theorem dM_count_61 : decode mM_count.2.1 61 = .ok (.istore_n 2, 1) := by decide +kernel
theorem dM_count_62 : decode mM_count.2.1 62 = .ok (.iconst 0, 1) := by decide +kernel
theorem dM_count_63 : decode mM_count.2.1 63 = .ok (.istore_n 3, 1) := by decide +kernel
theorem dM_count_64 : decode mM_count.2.1 64 = .ok (.iload_n 3, 1) := by decide +kernel
theorem dM_count_65 : decode mM_count.2.1 65 = .ok (.aload_n 0, 1) := by decide +kernel
theorem dM_count_66 : decode mM_count.2.1 66 = .ok (.getfield 50, 3) := by decide +kernel
theorem dM_count_69 : decode mM_count.2.1 69 = .ok (.if_icmp .ge 35, 3) := by decide +kernel
theorem dM_count_72 : decode mM_count.2.1 72 = .ok (.aload_n 0, 1) := by decide +kernel
theorem dM_count_73 : decode mM_count.2.1 73 = .ok (.iload_n 3, 1) := by decide +kernel
theorem dM_count_74 : decode mM_count.2.1 74 = .ok (.invokevirtual 108, 3) := by decide +kernel
theorem dM_count_77 : decode mM_count.2.1 77 = .ok (.ifCond .eq 21, 3) := by decide +kernel
theorem dM_count_80 : decode mM_count.2.1 80 = .ok (.iload_n 2, 1) := by decide +kernel
theorem dM_count_81 : decode mM_count.2.1 81 = .ok (.iload_n 1, 1) := by decide +kernel
theorem dM_count_82 : decode mM_count.2.1 82 = .ok (.bipush 7, 2) := by decide +kernel
theorem dM_count_84 : decode mM_count.2.1 84 = .ok (.if_icmp .ne 7, 3) := by decide +kernel
theorem dM_count_87 : decode mM_count.2.1 87 = .ok (.iconst 1, 1) := by decide +kernel
theorem dM_count_88 : decode mM_count.2.1 88 = .ok (.goto 8, 3) := by decide +kernel
theorem dM_count_91 : decode mM_count.2.1 91 = .ok (.aload_n 0, 1) := by decide +kernel
theorem dM_count_92 : decode mM_count.2.1 92 = .ok (.iload_n 3, 1) := by decide +kernel
theorem dM_count_93 : decode mM_count.2.1 93 = .ok (.invokevirtual 111, 3) := by decide +kernel
theorem dM_count_96 : decode mM_count.2.1 96 = .ok (.iadd, 1) := by decide +kernel
theorem dM_count_97 : decode mM_count.2.1 97 = .ok (.istore_n 2, 1) := by decide +kernel
theorem dM_count_98 : decode mM_count.2.1 98 = .ok (.iinc 3 1, 3) := by decide +kernel
theorem dM_count_101 : decode mM_count.2.1 101 = .ok (.goto (-37), 3) := by decide +kernel
theorem dM_count_104 : decode mM_count.2.1 104 = .ok (.iload_n 2, 1) := by decide +kernel
theorem dM_count_105 : decode mM_count.2.1 105 = .ok (.ireturn, 1) := by decide +kernel
theorem dL_law_0 : decode mL_law.2.1 0 = .ok (.new 7, 3) := by decide +kernel
theorem dL_law_3 : decode mL_law.2.1 3 = .ok (.dup, 1) := by decide +kernel
theorem dL_law_4 : decode mL_law.2.1 4 = .ok (.invokespecial 9, 3) := by decide +kernel
theorem dL_law_7 : decode mL_law.2.1 7 = .ok (.astore_n 1, 1) := by decide +kernel
theorem dL_law_8 : decode mL_law.2.1 8 = .ok (.new 10, 3) := by decide +kernel
theorem dL_law_11 : decode mL_law.2.1 11 = .ok (.dup, 1) := by decide +kernel
theorem dL_law_12 : decode mL_law.2.1 12 = .ok (.invokespecial 12, 3) := by decide +kernel
theorem dL_law_15 : decode mL_law.2.1 15 = .ok (.astore_n 2, 1) := by decide +kernel
theorem dL_law_16 : decode mL_law.2.1 16 = .ok (.iconst 0, 1) := by decide +kernel
theorem dL_law_17 : decode mL_law.2.1 17 = .ok (.istore_n 3, 1) := by decide +kernel
theorem dL_law_18 : decode mL_law.2.1 18 = .ok (.iload_n 3, 1) := by decide +kernel
theorem dL_law_19 : decode mL_law.2.1 19 = .ok (.aload_n 0, 1) := by decide +kernel
theorem dL_law_20 : decode mL_law.2.1 20 = .ok (.arraylength, 1) := by decide +kernel
theorem dL_law_21 : decode mL_law.2.1 21 = .ok (.bipush 6, 2) := by decide +kernel
theorem dL_law_23 : decode mL_law.2.1 23 = .ok (.isub, 1) := by decide +kernel
theorem dL_law_24 : decode mL_law.2.1 24 = .ok (.if_icmp .gt 551, 3) := by decide +kernel
theorem dL_law_27 : decode mL_law.2.1 27 = .ok (.aload_n 0, 1) := by decide +kernel
theorem dL_law_28 : decode mL_law.2.1 28 = .ok (.iload_n 3, 1) := by decide +kernel
theorem dL_law_29 : decode mL_law.2.1 29 = .ok (.iaload, 1) := by decide +kernel
theorem dL_law_30 : decode mL_law.2.1 30 = .ok (.bipush 15, 2) := by decide +kernel
theorem dL_law_32 : decode mL_law.2.1 32 = .ok (.iand, 1) := by decide +kernel
theorem dL_law_33 : decode mL_law.2.1 33 = .ok (.tableswitch 536 0 11 #[63, 116, 169, 222, 285, 334, 387, 400, 413, 457, 480, 513], 63) := by decide +kernel
theorem dL_law_96 : decode mL_law.2.1 96 = .ok (.aload_n 1, 1) := by decide +kernel
theorem dL_law_97 : decode mL_law.2.1 97 = .ok (.aload_n 0, 1) := by decide +kernel
theorem dL_law_98 : decode mL_law.2.1 98 = .ok (.iload_n 3, 1) := by decide +kernel
theorem dL_law_99 : decode mL_law.2.1 99 = .ok (.iconst 1, 1) := by decide +kernel
theorem dL_law_100 : decode mL_law.2.1 100 = .ok (.iadd, 1) := by decide +kernel
theorem dL_law_101 : decode mL_law.2.1 101 = .ok (.iaload, 1) := by decide +kernel
theorem dL_law_102 : decode mL_law.2.1 102 = .ok (.aload_n 0, 1) := by decide +kernel
theorem dL_law_103 : decode mL_law.2.1 103 = .ok (.iload_n 3, 1) := by decide +kernel
theorem dL_law_104 : decode mL_law.2.1 104 = .ok (.iconst 2, 1) := by decide +kernel
theorem dL_law_105 : decode mL_law.2.1 105 = .ok (.iadd, 1) := by decide +kernel
theorem dL_law_106 : decode mL_law.2.1 106 = .ok (.iaload, 1) := by decide +kernel
theorem dL_law_107 : decode mL_law.2.1 107 = .ok (.aload_n 0, 1) := by decide +kernel
theorem dL_law_108 : decode mL_law.2.1 108 = .ok (.iload_n 3, 1) := by decide +kernel
theorem dL_law_109 : decode mL_law.2.1 109 = .ok (.iconst 3, 1) := by decide +kernel
theorem dL_law_110 : decode mL_law.2.1 110 = .ok (.iadd, 1) := by decide +kernel
theorem dL_law_111 : decode mL_law.2.1 111 = .ok (.iaload, 1) := by decide +kernel
theorem dL_law_112 : decode mL_law.2.1 112 = .ok (.aload_n 0, 1) := by decide +kernel
theorem dL_law_113 : decode mL_law.2.1 113 = .ok (.iload_n 3, 1) := by decide +kernel
theorem dL_law_114 : decode mL_law.2.1 114 = .ok (.iconst 4, 1) := by decide +kernel
theorem dL_law_115 : decode mL_law.2.1 115 = .ok (.iadd, 1) := by decide +kernel
theorem dL_law_116 : decode mL_law.2.1 116 = .ok (.iaload, 1) := by decide +kernel
theorem dL_law_117 : decode mL_law.2.1 117 = .ok (.invokevirtual 13, 3) := by decide +kernel
theorem dL_law_120 : decode mL_law.2.1 120 = .ok (.aload_n 2, 1) := by decide +kernel
theorem dL_law_121 : decode mL_law.2.1 121 = .ok (.aload_n 0, 1) := by decide +kernel
theorem dL_law_122 : decode mL_law.2.1 122 = .ok (.iload_n 3, 1) := by decide +kernel
theorem dL_law_123 : decode mL_law.2.1 123 = .ok (.iconst 1, 1) := by decide +kernel
theorem dL_law_124 : decode mL_law.2.1 124 = .ok (.iadd, 1) := by decide +kernel
theorem dL_law_125 : decode mL_law.2.1 125 = .ok (.iaload, 1) := by decide +kernel
theorem dL_law_126 : decode mL_law.2.1 126 = .ok (.aload_n 0, 1) := by decide +kernel
theorem dL_law_127 : decode mL_law.2.1 127 = .ok (.iload_n 3, 1) := by decide +kernel
theorem dL_law_128 : decode mL_law.2.1 128 = .ok (.iconst 2, 1) := by decide +kernel
theorem dL_law_129 : decode mL_law.2.1 129 = .ok (.iadd, 1) := by decide +kernel
theorem dL_law_130 : decode mL_law.2.1 130 = .ok (.iaload, 1) := by decide +kernel
theorem dL_law_131 : decode mL_law.2.1 131 = .ok (.aload_n 0, 1) := by decide +kernel
theorem dL_law_132 : decode mL_law.2.1 132 = .ok (.iload_n 3, 1) := by decide +kernel
theorem dL_law_133 : decode mL_law.2.1 133 = .ok (.iconst 3, 1) := by decide +kernel
theorem dL_law_134 : decode mL_law.2.1 134 = .ok (.iadd, 1) := by decide +kernel
theorem dL_law_135 : decode mL_law.2.1 135 = .ok (.iaload, 1) := by decide +kernel
theorem dL_law_136 : decode mL_law.2.1 136 = .ok (.aload_n 0, 1) := by decide +kernel
theorem dL_law_137 : decode mL_law.2.1 137 = .ok (.iload_n 3, 1) := by decide +kernel
theorem dL_law_138 : decode mL_law.2.1 138 = .ok (.iconst 4, 1) := by decide +kernel
theorem dL_law_139 : decode mL_law.2.1 139 = .ok (.iadd, 1) := by decide +kernel
theorem dL_law_140 : decode mL_law.2.1 140 = .ok (.iaload, 1) := by decide +kernel
theorem dL_law_141 : decode mL_law.2.1 141 = .ok (.invokevirtual 17, 3) := by decide +kernel
theorem dL_law_144 : decode mL_law.2.1 144 = .ok (.if_icmp .eq 425, 3) := by decide +kernel
theorem dL_law_147 : decode mL_law.2.1 147 = .ok (.iconst 0, 1) := by decide +kernel
theorem dL_law_148 : decode mL_law.2.1 148 = .ok (.ireturn, 1) := by decide +kernel
theorem dL_law_149 : decode mL_law.2.1 149 = .ok (.aload_n 1, 1) := by decide +kernel
theorem dL_law_150 : decode mL_law.2.1 150 = .ok (.aload_n 0, 1) := by decide +kernel
theorem dL_law_151 : decode mL_law.2.1 151 = .ok (.iload_n 3, 1) := by decide +kernel
theorem dL_law_152 : decode mL_law.2.1 152 = .ok (.iconst 1, 1) := by decide +kernel
theorem dL_law_153 : decode mL_law.2.1 153 = .ok (.iadd, 1) := by decide +kernel
theorem dL_law_154 : decode mL_law.2.1 154 = .ok (.iaload, 1) := by decide +kernel
theorem dL_law_155 : decode mL_law.2.1 155 = .ok (.aload_n 0, 1) := by decide +kernel
theorem dL_law_156 : decode mL_law.2.1 156 = .ok (.iload_n 3, 1) := by decide +kernel
theorem dL_law_157 : decode mL_law.2.1 157 = .ok (.iconst 2, 1) := by decide +kernel
theorem dL_law_158 : decode mL_law.2.1 158 = .ok (.iadd, 1) := by decide +kernel
theorem dL_law_159 : decode mL_law.2.1 159 = .ok (.iaload, 1) := by decide +kernel
theorem dL_law_160 : decode mL_law.2.1 160 = .ok (.aload_n 0, 1) := by decide +kernel
theorem dL_law_161 : decode mL_law.2.1 161 = .ok (.iload_n 3, 1) := by decide +kernel
theorem dL_law_162 : decode mL_law.2.1 162 = .ok (.iconst 3, 1) := by decide +kernel
theorem dL_law_163 : decode mL_law.2.1 163 = .ok (.iadd, 1) := by decide +kernel
theorem dL_law_164 : decode mL_law.2.1 164 = .ok (.iaload, 1) := by decide +kernel
theorem dL_law_165 : decode mL_law.2.1 165 = .ok (.aload_n 0, 1) := by decide +kernel
theorem dL_law_166 : decode mL_law.2.1 166 = .ok (.iload_n 3, 1) := by decide +kernel
theorem dL_law_167 : decode mL_law.2.1 167 = .ok (.iconst 4, 1) := by decide +kernel
theorem dL_law_168 : decode mL_law.2.1 168 = .ok (.iadd, 1) := by decide +kernel
theorem dL_law_169 : decode mL_law.2.1 169 = .ok (.iaload, 1) := by decide +kernel
theorem dL_law_170 : decode mL_law.2.1 170 = .ok (.invokevirtual 18, 3) := by decide +kernel
theorem dL_law_173 : decode mL_law.2.1 173 = .ok (.aload_n 2, 1) := by decide +kernel
theorem dL_law_174 : decode mL_law.2.1 174 = .ok (.aload_n 0, 1) := by decide +kernel
theorem dL_law_175 : decode mL_law.2.1 175 = .ok (.iload_n 3, 1) := by decide +kernel
theorem dL_law_176 : decode mL_law.2.1 176 = .ok (.iconst 1, 1) := by decide +kernel
theorem dL_law_177 : decode mL_law.2.1 177 = .ok (.iadd, 1) := by decide +kernel
theorem dL_law_178 : decode mL_law.2.1 178 = .ok (.iaload, 1) := by decide +kernel
theorem dL_law_179 : decode mL_law.2.1 179 = .ok (.aload_n 0, 1) := by decide +kernel
theorem dL_law_180 : decode mL_law.2.1 180 = .ok (.iload_n 3, 1) := by decide +kernel
theorem dL_law_181 : decode mL_law.2.1 181 = .ok (.iconst 2, 1) := by decide +kernel
theorem dL_law_182 : decode mL_law.2.1 182 = .ok (.iadd, 1) := by decide +kernel
theorem dL_law_183 : decode mL_law.2.1 183 = .ok (.iaload, 1) := by decide +kernel
theorem dL_law_184 : decode mL_law.2.1 184 = .ok (.aload_n 0, 1) := by decide +kernel
theorem dL_law_185 : decode mL_law.2.1 185 = .ok (.iload_n 3, 1) := by decide +kernel
theorem dL_law_186 : decode mL_law.2.1 186 = .ok (.iconst 3, 1) := by decide +kernel
theorem dL_law_187 : decode mL_law.2.1 187 = .ok (.iadd, 1) := by decide +kernel
theorem dL_law_188 : decode mL_law.2.1 188 = .ok (.iaload, 1) := by decide +kernel
theorem dL_law_189 : decode mL_law.2.1 189 = .ok (.aload_n 0, 1) := by decide +kernel
theorem dL_law_190 : decode mL_law.2.1 190 = .ok (.iload_n 3, 1) := by decide +kernel
theorem dL_law_191 : decode mL_law.2.1 191 = .ok (.iconst 4, 1) := by decide +kernel
theorem dL_law_192 : decode mL_law.2.1 192 = .ok (.iadd, 1) := by decide +kernel
theorem dL_law_193 : decode mL_law.2.1 193 = .ok (.iaload, 1) := by decide +kernel
theorem dL_law_194 : decode mL_law.2.1 194 = .ok (.invokevirtual 21, 3) := by decide +kernel
theorem dL_law_197 : decode mL_law.2.1 197 = .ok (.if_icmp .eq 372, 3) := by decide +kernel
theorem dL_law_200 : decode mL_law.2.1 200 = .ok (.iconst 0, 1) := by decide +kernel
theorem dL_law_201 : decode mL_law.2.1 201 = .ok (.ireturn, 1) := by decide +kernel
theorem dL_law_202 : decode mL_law.2.1 202 = .ok (.aload_n 1, 1) := by decide +kernel
theorem dL_law_203 : decode mL_law.2.1 203 = .ok (.aload_n 0, 1) := by decide +kernel
theorem dL_law_204 : decode mL_law.2.1 204 = .ok (.iload_n 3, 1) := by decide +kernel
theorem dL_law_205 : decode mL_law.2.1 205 = .ok (.iconst 1, 1) := by decide +kernel
theorem dL_law_206 : decode mL_law.2.1 206 = .ok (.iadd, 1) := by decide +kernel
theorem dL_law_207 : decode mL_law.2.1 207 = .ok (.iaload, 1) := by decide +kernel
theorem dL_law_208 : decode mL_law.2.1 208 = .ok (.aload_n 0, 1) := by decide +kernel
theorem dL_law_209 : decode mL_law.2.1 209 = .ok (.iload_n 3, 1) := by decide +kernel
theorem dL_law_210 : decode mL_law.2.1 210 = .ok (.iconst 2, 1) := by decide +kernel
theorem dL_law_211 : decode mL_law.2.1 211 = .ok (.iadd, 1) := by decide +kernel
theorem dL_law_212 : decode mL_law.2.1 212 = .ok (.iaload, 1) := by decide +kernel
theorem dL_law_213 : decode mL_law.2.1 213 = .ok (.aload_n 0, 1) := by decide +kernel
theorem dL_law_214 : decode mL_law.2.1 214 = .ok (.iload_n 3, 1) := by decide +kernel
theorem dL_law_215 : decode mL_law.2.1 215 = .ok (.iconst 3, 1) := by decide +kernel
theorem dL_law_216 : decode mL_law.2.1 216 = .ok (.iadd, 1) := by decide +kernel
theorem dL_law_217 : decode mL_law.2.1 217 = .ok (.iaload, 1) := by decide +kernel
theorem dL_law_218 : decode mL_law.2.1 218 = .ok (.aload_n 0, 1) := by decide +kernel
theorem dL_law_219 : decode mL_law.2.1 219 = .ok (.iload_n 3, 1) := by decide +kernel
theorem dL_law_220 : decode mL_law.2.1 220 = .ok (.iconst 4, 1) := by decide +kernel
theorem dL_law_221 : decode mL_law.2.1 221 = .ok (.iadd, 1) := by decide +kernel
theorem dL_law_222 : decode mL_law.2.1 222 = .ok (.iaload, 1) := by decide +kernel
theorem dL_law_223 : decode mL_law.2.1 223 = .ok (.invokevirtual 22, 3) := by decide +kernel
theorem dL_law_226 : decode mL_law.2.1 226 = .ok (.aload_n 2, 1) := by decide +kernel
theorem dL_law_227 : decode mL_law.2.1 227 = .ok (.aload_n 0, 1) := by decide +kernel
theorem dL_law_228 : decode mL_law.2.1 228 = .ok (.iload_n 3, 1) := by decide +kernel
theorem dL_law_229 : decode mL_law.2.1 229 = .ok (.iconst 1, 1) := by decide +kernel
theorem dL_law_230 : decode mL_law.2.1 230 = .ok (.iadd, 1) := by decide +kernel
theorem dL_law_231 : decode mL_law.2.1 231 = .ok (.iaload, 1) := by decide +kernel
theorem dL_law_232 : decode mL_law.2.1 232 = .ok (.aload_n 0, 1) := by decide +kernel
theorem dL_law_233 : decode mL_law.2.1 233 = .ok (.iload_n 3, 1) := by decide +kernel
theorem dL_law_234 : decode mL_law.2.1 234 = .ok (.iconst 2, 1) := by decide +kernel
theorem dL_law_235 : decode mL_law.2.1 235 = .ok (.iadd, 1) := by decide +kernel
theorem dL_law_236 : decode mL_law.2.1 236 = .ok (.iaload, 1) := by decide +kernel
theorem dL_law_237 : decode mL_law.2.1 237 = .ok (.aload_n 0, 1) := by decide +kernel
theorem dL_law_238 : decode mL_law.2.1 238 = .ok (.iload_n 3, 1) := by decide +kernel
theorem dL_law_239 : decode mL_law.2.1 239 = .ok (.iconst 3, 1) := by decide +kernel
theorem dL_law_240 : decode mL_law.2.1 240 = .ok (.iadd, 1) := by decide +kernel
theorem dL_law_241 : decode mL_law.2.1 241 = .ok (.iaload, 1) := by decide +kernel
theorem dL_law_242 : decode mL_law.2.1 242 = .ok (.aload_n 0, 1) := by decide +kernel
theorem dL_law_243 : decode mL_law.2.1 243 = .ok (.iload_n 3, 1) := by decide +kernel
theorem dL_law_244 : decode mL_law.2.1 244 = .ok (.iconst 4, 1) := by decide +kernel
theorem dL_law_245 : decode mL_law.2.1 245 = .ok (.iadd, 1) := by decide +kernel
theorem dL_law_246 : decode mL_law.2.1 246 = .ok (.iaload, 1) := by decide +kernel
theorem dL_law_247 : decode mL_law.2.1 247 = .ok (.invokevirtual 25, 3) := by decide +kernel
theorem dL_law_250 : decode mL_law.2.1 250 = .ok (.if_icmp .eq 319, 3) := by decide +kernel
theorem dL_law_253 : decode mL_law.2.1 253 = .ok (.iconst 0, 1) := by decide +kernel
theorem dL_law_254 : decode mL_law.2.1 254 = .ok (.ireturn, 1) := by decide +kernel
theorem dL_law_255 : decode mL_law.2.1 255 = .ok (.aload_n 1, 1) := by decide +kernel
theorem dL_law_256 : decode mL_law.2.1 256 = .ok (.aload_n 0, 1) := by decide +kernel
theorem dL_law_257 : decode mL_law.2.1 257 = .ok (.iload_n 3, 1) := by decide +kernel
theorem dL_law_258 : decode mL_law.2.1 258 = .ok (.iconst 1, 1) := by decide +kernel
theorem dL_law_259 : decode mL_law.2.1 259 = .ok (.iadd, 1) := by decide +kernel
theorem dL_law_260 : decode mL_law.2.1 260 = .ok (.iaload, 1) := by decide +kernel
theorem dL_law_261 : decode mL_law.2.1 261 = .ok (.aload_n 0, 1) := by decide +kernel
theorem dL_law_262 : decode mL_law.2.1 262 = .ok (.iload_n 3, 1) := by decide +kernel
theorem dL_law_263 : decode mL_law.2.1 263 = .ok (.iconst 2, 1) := by decide +kernel
theorem dL_law_264 : decode mL_law.2.1 264 = .ok (.iadd, 1) := by decide +kernel
theorem dL_law_265 : decode mL_law.2.1 265 = .ok (.iaload, 1) := by decide +kernel
theorem dL_law_266 : decode mL_law.2.1 266 = .ok (.aload_n 0, 1) := by decide +kernel
theorem dL_law_267 : decode mL_law.2.1 267 = .ok (.iload_n 3, 1) := by decide +kernel
theorem dL_law_268 : decode mL_law.2.1 268 = .ok (.iconst 3, 1) := by decide +kernel
theorem dL_law_269 : decode mL_law.2.1 269 = .ok (.iadd, 1) := by decide +kernel
theorem dL_law_270 : decode mL_law.2.1 270 = .ok (.iaload, 1) := by decide +kernel
theorem dL_law_271 : decode mL_law.2.1 271 = .ok (.aload_n 0, 1) := by decide +kernel
theorem dL_law_272 : decode mL_law.2.1 272 = .ok (.iload_n 3, 1) := by decide +kernel
theorem dL_law_273 : decode mL_law.2.1 273 = .ok (.iconst 4, 1) := by decide +kernel
theorem dL_law_274 : decode mL_law.2.1 274 = .ok (.iadd, 1) := by decide +kernel
theorem dL_law_275 : decode mL_law.2.1 275 = .ok (.iaload, 1) := by decide +kernel
theorem dL_law_276 : decode mL_law.2.1 276 = .ok (.aload_n 0, 1) := by decide +kernel
theorem dL_law_277 : decode mL_law.2.1 277 = .ok (.iload_n 3, 1) := by decide +kernel
theorem dL_law_278 : decode mL_law.2.1 278 = .ok (.iconst 5, 1) := by decide +kernel
theorem dL_law_279 : decode mL_law.2.1 279 = .ok (.iadd, 1) := by decide +kernel
theorem dL_law_280 : decode mL_law.2.1 280 = .ok (.iaload, 1) := by decide +kernel
theorem dL_law_281 : decode mL_law.2.1 281 = .ok (.invokevirtual 26, 3) := by decide +kernel
theorem dL_law_284 : decode mL_law.2.1 284 = .ok (.aload_n 2, 1) := by decide +kernel
theorem dL_law_285 : decode mL_law.2.1 285 = .ok (.aload_n 0, 1) := by decide +kernel
theorem dL_law_286 : decode mL_law.2.1 286 = .ok (.iload_n 3, 1) := by decide +kernel
theorem dL_law_287 : decode mL_law.2.1 287 = .ok (.iconst 1, 1) := by decide +kernel
theorem dL_law_288 : decode mL_law.2.1 288 = .ok (.iadd, 1) := by decide +kernel
theorem dL_law_289 : decode mL_law.2.1 289 = .ok (.iaload, 1) := by decide +kernel
theorem dL_law_290 : decode mL_law.2.1 290 = .ok (.aload_n 0, 1) := by decide +kernel
theorem dL_law_291 : decode mL_law.2.1 291 = .ok (.iload_n 3, 1) := by decide +kernel
theorem dL_law_292 : decode mL_law.2.1 292 = .ok (.iconst 2, 1) := by decide +kernel
theorem dL_law_293 : decode mL_law.2.1 293 = .ok (.iadd, 1) := by decide +kernel
theorem dL_law_294 : decode mL_law.2.1 294 = .ok (.iaload, 1) := by decide +kernel
theorem dL_law_295 : decode mL_law.2.1 295 = .ok (.aload_n 0, 1) := by decide +kernel
theorem dL_law_296 : decode mL_law.2.1 296 = .ok (.iload_n 3, 1) := by decide +kernel
theorem dL_law_297 : decode mL_law.2.1 297 = .ok (.iconst 3, 1) := by decide +kernel
theorem dL_law_298 : decode mL_law.2.1 298 = .ok (.iadd, 1) := by decide +kernel
theorem dL_law_299 : decode mL_law.2.1 299 = .ok (.iaload, 1) := by decide +kernel
theorem dL_law_300 : decode mL_law.2.1 300 = .ok (.aload_n 0, 1) := by decide +kernel
theorem dL_law_301 : decode mL_law.2.1 301 = .ok (.iload_n 3, 1) := by decide +kernel
theorem dL_law_302 : decode mL_law.2.1 302 = .ok (.iconst 4, 1) := by decide +kernel
theorem dL_law_303 : decode mL_law.2.1 303 = .ok (.iadd, 1) := by decide +kernel
theorem dL_law_304 : decode mL_law.2.1 304 = .ok (.iaload, 1) := by decide +kernel
theorem dL_law_305 : decode mL_law.2.1 305 = .ok (.aload_n 0, 1) := by decide +kernel
theorem dL_law_306 : decode mL_law.2.1 306 = .ok (.iload_n 3, 1) := by decide +kernel
theorem dL_law_307 : decode mL_law.2.1 307 = .ok (.iconst 5, 1) := by decide +kernel
theorem dL_law_308 : decode mL_law.2.1 308 = .ok (.iadd, 1) := by decide +kernel
theorem dL_law_309 : decode mL_law.2.1 309 = .ok (.iaload, 1) := by decide +kernel
theorem dL_law_310 : decode mL_law.2.1 310 = .ok (.invokevirtual 30, 3) := by decide +kernel
theorem dL_law_313 : decode mL_law.2.1 313 = .ok (.if_icmp .eq 256, 3) := by decide +kernel
theorem dL_law_316 : decode mL_law.2.1 316 = .ok (.iconst 0, 1) := by decide +kernel
theorem dL_law_317 : decode mL_law.2.1 317 = .ok (.ireturn, 1) := by decide +kernel
theorem dL_law_318 : decode mL_law.2.1 318 = .ok (.aload_n 1, 1) := by decide +kernel
theorem dL_law_319 : decode mL_law.2.1 319 = .ok (.aload_n 0, 1) := by decide +kernel
theorem dL_law_320 : decode mL_law.2.1 320 = .ok (.iload_n 3, 1) := by decide +kernel
theorem dL_law_321 : decode mL_law.2.1 321 = .ok (.iconst 1, 1) := by decide +kernel
theorem dL_law_322 : decode mL_law.2.1 322 = .ok (.iadd, 1) := by decide +kernel
theorem dL_law_323 : decode mL_law.2.1 323 = .ok (.iaload, 1) := by decide +kernel
theorem dL_law_324 : decode mL_law.2.1 324 = .ok (.aload_n 0, 1) := by decide +kernel
theorem dL_law_325 : decode mL_law.2.1 325 = .ok (.iload_n 3, 1) := by decide +kernel
theorem dL_law_326 : decode mL_law.2.1 326 = .ok (.iconst 2, 1) := by decide +kernel
theorem dL_law_327 : decode mL_law.2.1 327 = .ok (.iadd, 1) := by decide +kernel
theorem dL_law_328 : decode mL_law.2.1 328 = .ok (.iaload, 1) := by decide +kernel
theorem dL_law_329 : decode mL_law.2.1 329 = .ok (.ifCond .eq 7, 3) := by decide +kernel
theorem dL_law_332 : decode mL_law.2.1 332 = .ok (.iconst 1, 1) := by decide +kernel
theorem dL_law_333 : decode mL_law.2.1 333 = .ok (.goto 4, 3) := by decide +kernel
theorem dL_law_336 : decode mL_law.2.1 336 = .ok (.iconst 0, 1) := by decide +kernel
theorem dL_law_337 : decode mL_law.2.1 337 = .ok (.invokevirtual 31, 3) := by decide +kernel
theorem dL_law_340 : decode mL_law.2.1 340 = .ok (.aload_n 2, 1) := by decide +kernel
theorem dL_law_341 : decode mL_law.2.1 341 = .ok (.aload_n 0, 1) := by decide +kernel
theorem dL_law_342 : decode mL_law.2.1 342 = .ok (.iload_n 3, 1) := by decide +kernel
theorem dL_law_343 : decode mL_law.2.1 343 = .ok (.iconst 1, 1) := by decide +kernel
theorem dL_law_344 : decode mL_law.2.1 344 = .ok (.iadd, 1) := by decide +kernel
theorem dL_law_345 : decode mL_law.2.1 345 = .ok (.iaload, 1) := by decide +kernel
theorem dL_law_346 : decode mL_law.2.1 346 = .ok (.aload_n 0, 1) := by decide +kernel
theorem dL_law_347 : decode mL_law.2.1 347 = .ok (.iload_n 3, 1) := by decide +kernel
theorem dL_law_348 : decode mL_law.2.1 348 = .ok (.iconst 2, 1) := by decide +kernel
theorem dL_law_349 : decode mL_law.2.1 349 = .ok (.iadd, 1) := by decide +kernel
theorem dL_law_350 : decode mL_law.2.1 350 = .ok (.iaload, 1) := by decide +kernel
theorem dL_law_351 : decode mL_law.2.1 351 = .ok (.ifCond .eq 7, 3) := by decide +kernel
theorem dL_law_354 : decode mL_law.2.1 354 = .ok (.iconst 1, 1) := by decide +kernel
theorem dL_law_355 : decode mL_law.2.1 355 = .ok (.goto 4, 3) := by decide +kernel
theorem dL_law_358 : decode mL_law.2.1 358 = .ok (.iconst 0, 1) := by decide +kernel
theorem dL_law_359 : decode mL_law.2.1 359 = .ok (.invokevirtual 35, 3) := by decide +kernel
theorem dL_law_362 : decode mL_law.2.1 362 = .ok (.if_icmp .eq 207, 3) := by decide +kernel
theorem dL_law_365 : decode mL_law.2.1 365 = .ok (.iconst 0, 1) := by decide +kernel
theorem dL_law_366 : decode mL_law.2.1 366 = .ok (.ireturn, 1) := by decide +kernel
theorem dL_law_367 : decode mL_law.2.1 367 = .ok (.aload_n 1, 1) := by decide +kernel
theorem dL_law_368 : decode mL_law.2.1 368 = .ok (.aload_n 0, 1) := by decide +kernel
theorem dL_law_369 : decode mL_law.2.1 369 = .ok (.iload_n 3, 1) := by decide +kernel
theorem dL_law_370 : decode mL_law.2.1 370 = .ok (.iconst 1, 1) := by decide +kernel
theorem dL_law_371 : decode mL_law.2.1 371 = .ok (.iadd, 1) := by decide +kernel
theorem dL_law_372 : decode mL_law.2.1 372 = .ok (.iaload, 1) := by decide +kernel
theorem dL_law_373 : decode mL_law.2.1 373 = .ok (.aload_n 0, 1) := by decide +kernel
theorem dL_law_374 : decode mL_law.2.1 374 = .ok (.iload_n 3, 1) := by decide +kernel
theorem dL_law_375 : decode mL_law.2.1 375 = .ok (.iconst 2, 1) := by decide +kernel
theorem dL_law_376 : decode mL_law.2.1 376 = .ok (.iadd, 1) := by decide +kernel
theorem dL_law_377 : decode mL_law.2.1 377 = .ok (.iaload, 1) := by decide +kernel
theorem dL_law_378 : decode mL_law.2.1 378 = .ok (.aload_n 0, 1) := by decide +kernel
theorem dL_law_379 : decode mL_law.2.1 379 = .ok (.iload_n 3, 1) := by decide +kernel
theorem dL_law_380 : decode mL_law.2.1 380 = .ok (.iconst 3, 1) := by decide +kernel
theorem dL_law_381 : decode mL_law.2.1 381 = .ok (.iadd, 1) := by decide +kernel
theorem dL_law_382 : decode mL_law.2.1 382 = .ok (.iaload, 1) := by decide +kernel
theorem dL_law_383 : decode mL_law.2.1 383 = .ok (.aload_n 0, 1) := by decide +kernel
theorem dL_law_384 : decode mL_law.2.1 384 = .ok (.iload_n 3, 1) := by decide +kernel
theorem dL_law_385 : decode mL_law.2.1 385 = .ok (.iconst 4, 1) := by decide +kernel
theorem dL_law_386 : decode mL_law.2.1 386 = .ok (.iadd, 1) := by decide +kernel
theorem dL_law_387 : decode mL_law.2.1 387 = .ok (.iaload, 1) := by decide +kernel
theorem dL_law_388 : decode mL_law.2.1 388 = .ok (.invokevirtual 36, 3) := by decide +kernel
theorem dL_law_391 : decode mL_law.2.1 391 = .ok (.aload_n 2, 1) := by decide +kernel
theorem dL_law_392 : decode mL_law.2.1 392 = .ok (.aload_n 0, 1) := by decide +kernel
theorem dL_law_393 : decode mL_law.2.1 393 = .ok (.iload_n 3, 1) := by decide +kernel
theorem dL_law_394 : decode mL_law.2.1 394 = .ok (.iconst 1, 1) := by decide +kernel
theorem dL_law_395 : decode mL_law.2.1 395 = .ok (.iadd, 1) := by decide +kernel
theorem dL_law_396 : decode mL_law.2.1 396 = .ok (.iaload, 1) := by decide +kernel
theorem dL_law_397 : decode mL_law.2.1 397 = .ok (.aload_n 0, 1) := by decide +kernel
theorem dL_law_398 : decode mL_law.2.1 398 = .ok (.iload_n 3, 1) := by decide +kernel
theorem dL_law_399 : decode mL_law.2.1 399 = .ok (.iconst 2, 1) := by decide +kernel
theorem dL_law_400 : decode mL_law.2.1 400 = .ok (.iadd, 1) := by decide +kernel
theorem dL_law_401 : decode mL_law.2.1 401 = .ok (.iaload, 1) := by decide +kernel
theorem dL_law_402 : decode mL_law.2.1 402 = .ok (.aload_n 0, 1) := by decide +kernel
theorem dL_law_403 : decode mL_law.2.1 403 = .ok (.iload_n 3, 1) := by decide +kernel
theorem dL_law_404 : decode mL_law.2.1 404 = .ok (.iconst 3, 1) := by decide +kernel
theorem dL_law_405 : decode mL_law.2.1 405 = .ok (.iadd, 1) := by decide +kernel
theorem dL_law_406 : decode mL_law.2.1 406 = .ok (.iaload, 1) := by decide +kernel
theorem dL_law_407 : decode mL_law.2.1 407 = .ok (.aload_n 0, 1) := by decide +kernel
theorem dL_law_408 : decode mL_law.2.1 408 = .ok (.iload_n 3, 1) := by decide +kernel
theorem dL_law_409 : decode mL_law.2.1 409 = .ok (.iconst 4, 1) := by decide +kernel
theorem dL_law_410 : decode mL_law.2.1 410 = .ok (.iadd, 1) := by decide +kernel
theorem dL_law_411 : decode mL_law.2.1 411 = .ok (.iaload, 1) := by decide +kernel
theorem dL_law_412 : decode mL_law.2.1 412 = .ok (.invokevirtual 39, 3) := by decide +kernel
theorem dL_law_415 : decode mL_law.2.1 415 = .ok (.if_icmp .eq 154, 3) := by decide +kernel
theorem dL_law_418 : decode mL_law.2.1 418 = .ok (.iconst 0, 1) := by decide +kernel
theorem dL_law_419 : decode mL_law.2.1 419 = .ok (.ireturn, 1) := by decide +kernel
theorem dL_law_420 : decode mL_law.2.1 420 = .ok (.aload_n 1, 1) := by decide +kernel
theorem dL_law_421 : decode mL_law.2.1 421 = .ok (.invokevirtual 40, 3) := by decide +kernel
theorem dL_law_424 : decode mL_law.2.1 424 = .ok (.aload_n 2, 1) := by decide +kernel
theorem dL_law_425 : decode mL_law.2.1 425 = .ok (.invokevirtual 44, 3) := by decide +kernel
theorem dL_law_428 : decode mL_law.2.1 428 = .ok (.if_icmp .eq 141, 3) := by decide +kernel
theorem dL_law_431 : decode mL_law.2.1 431 = .ok (.iconst 0, 1) := by decide +kernel
theorem dL_law_432 : decode mL_law.2.1 432 = .ok (.ireturn, 1) := by decide +kernel
theorem dL_law_433 : decode mL_law.2.1 433 = .ok (.aload_n 1, 1) := by decide +kernel
theorem dL_law_434 : decode mL_law.2.1 434 = .ok (.invokevirtual 45, 3) := by decide +kernel
theorem dL_law_437 : decode mL_law.2.1 437 = .ok (.aload_n 2, 1) := by decide +kernel
theorem dL_law_438 : decode mL_law.2.1 438 = .ok (.invokevirtual 48, 3) := by decide +kernel
theorem dL_law_441 : decode mL_law.2.1 441 = .ok (.if_icmp .eq 128, 3) := by decide +kernel
theorem dL_law_444 : decode mL_law.2.1 444 = .ok (.iconst 0, 1) := by decide +kernel
theorem dL_law_445 : decode mL_law.2.1 445 = .ok (.ireturn, 1) := by decide +kernel
theorem dL_law_446 : decode mL_law.2.1 446 = .ok (.aload_n 1, 1) := by decide +kernel
theorem dL_law_447 : decode mL_law.2.1 447 = .ok (.aload_n 0, 1) := by decide +kernel
theorem dL_law_448 : decode mL_law.2.1 448 = .ok (.iload_n 3, 1) := by decide +kernel
theorem dL_law_449 : decode mL_law.2.1 449 = .ok (.iconst 1, 1) := by decide +kernel
theorem dL_law_450 : decode mL_law.2.1 450 = .ok (.iadd, 1) := by decide +kernel
theorem dL_law_451 : decode mL_law.2.1 451 = .ok (.iaload, 1) := by decide +kernel
theorem dL_law_452 : decode mL_law.2.1 452 = .ok (.aload_n 0, 1) := by decide +kernel
theorem dL_law_453 : decode mL_law.2.1 453 = .ok (.iload_n 3, 1) := by decide +kernel
theorem dL_law_454 : decode mL_law.2.1 454 = .ok (.iconst 2, 1) := by decide +kernel
theorem dL_law_455 : decode mL_law.2.1 455 = .ok (.iadd, 1) := by decide +kernel
theorem dL_law_456 : decode mL_law.2.1 456 = .ok (.iaload, 1) := by decide +kernel
theorem dL_law_457 : decode mL_law.2.1 457 = .ok (.aload_n 0, 1) := by decide +kernel
theorem dL_law_458 : decode mL_law.2.1 458 = .ok (.iload_n 3, 1) := by decide +kernel
theorem dL_law_459 : decode mL_law.2.1 459 = .ok (.iconst 3, 1) := by decide +kernel
theorem dL_law_460 : decode mL_law.2.1 460 = .ok (.iadd, 1) := by decide +kernel
theorem dL_law_461 : decode mL_law.2.1 461 = .ok (.iaload, 1) := by decide +kernel
theorem dL_law_462 : decode mL_law.2.1 462 = .ok (.invokevirtual 49, 3) := by decide +kernel
theorem dL_law_465 : decode mL_law.2.1 465 = .ok (.aload_n 2, 1) := by decide +kernel
theorem dL_law_466 : decode mL_law.2.1 466 = .ok (.aload_n 0, 1) := by decide +kernel
theorem dL_law_467 : decode mL_law.2.1 467 = .ok (.iload_n 3, 1) := by decide +kernel
theorem dL_law_468 : decode mL_law.2.1 468 = .ok (.iconst 1, 1) := by decide +kernel
theorem dL_law_469 : decode mL_law.2.1 469 = .ok (.iadd, 1) := by decide +kernel
theorem dL_law_470 : decode mL_law.2.1 470 = .ok (.iaload, 1) := by decide +kernel
theorem dL_law_471 : decode mL_law.2.1 471 = .ok (.aload_n 0, 1) := by decide +kernel
theorem dL_law_472 : decode mL_law.2.1 472 = .ok (.iload_n 3, 1) := by decide +kernel
theorem dL_law_473 : decode mL_law.2.1 473 = .ok (.iconst 2, 1) := by decide +kernel
theorem dL_law_474 : decode mL_law.2.1 474 = .ok (.iadd, 1) := by decide +kernel
theorem dL_law_475 : decode mL_law.2.1 475 = .ok (.iaload, 1) := by decide +kernel
theorem dL_law_476 : decode mL_law.2.1 476 = .ok (.aload_n 0, 1) := by decide +kernel
theorem dL_law_477 : decode mL_law.2.1 477 = .ok (.iload_n 3, 1) := by decide +kernel
theorem dL_law_478 : decode mL_law.2.1 478 = .ok (.iconst 3, 1) := by decide +kernel
theorem dL_law_479 : decode mL_law.2.1 479 = .ok (.iadd, 1) := by decide +kernel
theorem dL_law_480 : decode mL_law.2.1 480 = .ok (.iaload, 1) := by decide +kernel
theorem dL_law_481 : decode mL_law.2.1 481 = .ok (.invokevirtual 53, 3) := by decide +kernel
theorem dL_law_484 : decode mL_law.2.1 484 = .ok (.lcmp, 1) := by decide +kernel
theorem dL_law_485 : decode mL_law.2.1 485 = .ok (.ifCond .eq 84, 3) := by decide +kernel
theorem dL_law_488 : decode mL_law.2.1 488 = .ok (.iconst 0, 1) := by decide +kernel
theorem dL_law_489 : decode mL_law.2.1 489 = .ok (.ireturn, 1) := by decide +kernel
theorem dL_law_490 : decode mL_law.2.1 490 = .ok (.aload_n 1, 1) := by decide +kernel
theorem dL_law_491 : decode mL_law.2.1 491 = .ok (.aload_n 0, 1) := by decide +kernel
theorem dL_law_492 : decode mL_law.2.1 492 = .ok (.iload_n 3, 1) := by decide +kernel
theorem dL_law_493 : decode mL_law.2.1 493 = .ok (.iconst 1, 1) := by decide +kernel
theorem dL_law_494 : decode mL_law.2.1 494 = .ok (.iadd, 1) := by decide +kernel
theorem dL_law_495 : decode mL_law.2.1 495 = .ok (.iaload, 1) := by decide +kernel
theorem dL_law_496 : decode mL_law.2.1 496 = .ok (.invokevirtual 54, 3) := by decide +kernel
theorem dL_law_499 : decode mL_law.2.1 499 = .ok (.aload_n 2, 1) := by decide +kernel
theorem dL_law_500 : decode mL_law.2.1 500 = .ok (.aload_n 0, 1) := by decide +kernel
theorem dL_law_501 : decode mL_law.2.1 501 = .ok (.iload_n 3, 1) := by decide +kernel
theorem dL_law_502 : decode mL_law.2.1 502 = .ok (.iconst 1, 1) := by decide +kernel
theorem dL_law_503 : decode mL_law.2.1 503 = .ok (.iadd, 1) := by decide +kernel
theorem dL_law_504 : decode mL_law.2.1 504 = .ok (.iaload, 1) := by decide +kernel
theorem dL_law_505 : decode mL_law.2.1 505 = .ok (.invokevirtual 58, 3) := by decide +kernel
theorem dL_law_508 : decode mL_law.2.1 508 = .ok (.if_icmp .eq 61, 3) := by decide +kernel
theorem dL_law_511 : decode mL_law.2.1 511 = .ok (.iconst 0, 1) := by decide +kernel
theorem dL_law_512 : decode mL_law.2.1 512 = .ok (.ireturn, 1) := by decide +kernel
theorem dL_law_513 : decode mL_law.2.1 513 = .ok (.aload_n 1, 1) := by decide +kernel
theorem dL_law_514 : decode mL_law.2.1 514 = .ok (.aload_n 0, 1) := by decide +kernel
theorem dL_law_515 : decode mL_law.2.1 515 = .ok (.iload_n 3, 1) := by decide +kernel
theorem dL_law_516 : decode mL_law.2.1 516 = .ok (.iconst 1, 1) := by decide +kernel
theorem dL_law_517 : decode mL_law.2.1 517 = .ok (.iadd, 1) := by decide +kernel
theorem dL_law_518 : decode mL_law.2.1 518 = .ok (.iaload, 1) := by decide +kernel
theorem dL_law_519 : decode mL_law.2.1 519 = .ok (.aload_n 0, 1) := by decide +kernel
theorem dL_law_520 : decode mL_law.2.1 520 = .ok (.iload_n 3, 1) := by decide +kernel
theorem dL_law_521 : decode mL_law.2.1 521 = .ok (.iconst 2, 1) := by decide +kernel
theorem dL_law_522 : decode mL_law.2.1 522 = .ok (.iadd, 1) := by decide +kernel
theorem dL_law_523 : decode mL_law.2.1 523 = .ok (.iaload, 1) := by decide +kernel
theorem dL_law_524 : decode mL_law.2.1 524 = .ok (.invokevirtual 59, 3) := by decide +kernel
theorem dL_law_527 : decode mL_law.2.1 527 = .ok (.aload_n 2, 1) := by decide +kernel
theorem dL_law_528 : decode mL_law.2.1 528 = .ok (.aload_n 0, 1) := by decide +kernel
theorem dL_law_529 : decode mL_law.2.1 529 = .ok (.iload_n 3, 1) := by decide +kernel
theorem dL_law_530 : decode mL_law.2.1 530 = .ok (.iconst 1, 1) := by decide +kernel
theorem dL_law_531 : decode mL_law.2.1 531 = .ok (.iadd, 1) := by decide +kernel
theorem dL_law_532 : decode mL_law.2.1 532 = .ok (.iaload, 1) := by decide +kernel
theorem dL_law_533 : decode mL_law.2.1 533 = .ok (.aload_n 0, 1) := by decide +kernel
theorem dL_law_534 : decode mL_law.2.1 534 = .ok (.iload_n 3, 1) := by decide +kernel
theorem dL_law_535 : decode mL_law.2.1 535 = .ok (.iconst 2, 1) := by decide +kernel
theorem dL_law_536 : decode mL_law.2.1 536 = .ok (.iadd, 1) := by decide +kernel
theorem dL_law_537 : decode mL_law.2.1 537 = .ok (.iaload, 1) := by decide +kernel
theorem dL_law_538 : decode mL_law.2.1 538 = .ok (.invokevirtual 63, 3) := by decide +kernel
theorem dL_law_541 : decode mL_law.2.1 541 = .ok (.if_icmp .eq 28, 3) := by decide +kernel
theorem dL_law_544 : decode mL_law.2.1 544 = .ok (.iconst 0, 1) := by decide +kernel
theorem dL_law_545 : decode mL_law.2.1 545 = .ok (.ireturn, 1) := by decide +kernel
theorem dL_law_546 : decode mL_law.2.1 546 = .ok (.aload_n 1, 1) := by decide +kernel
theorem dL_law_547 : decode mL_law.2.1 547 = .ok (.aload_n 0, 1) := by decide +kernel
theorem dL_law_548 : decode mL_law.2.1 548 = .ok (.iload_n 3, 1) := by decide +kernel
theorem dL_law_549 : decode mL_law.2.1 549 = .ok (.iconst 1, 1) := by decide +kernel
theorem dL_law_550 : decode mL_law.2.1 550 = .ok (.iadd, 1) := by decide +kernel
theorem dL_law_551 : decode mL_law.2.1 551 = .ok (.iaload, 1) := by decide +kernel
theorem dL_law_552 : decode mL_law.2.1 552 = .ok (.invokevirtual 64, 3) := by decide +kernel
theorem dL_law_555 : decode mL_law.2.1 555 = .ok (.aload_n 2, 1) := by decide +kernel
theorem dL_law_556 : decode mL_law.2.1 556 = .ok (.aload_n 0, 1) := by decide +kernel
theorem dL_law_557 : decode mL_law.2.1 557 = .ok (.iload_n 3, 1) := by decide +kernel
theorem dL_law_558 : decode mL_law.2.1 558 = .ok (.iconst 1, 1) := by decide +kernel
theorem dL_law_559 : decode mL_law.2.1 559 = .ok (.iadd, 1) := by decide +kernel
theorem dL_law_560 : decode mL_law.2.1 560 = .ok (.iaload, 1) := by decide +kernel
theorem dL_law_561 : decode mL_law.2.1 561 = .ok (.invokevirtual 67, 3) := by decide +kernel
theorem dL_law_564 : decode mL_law.2.1 564 = .ok (.if_icmp .eq 5, 3) := by decide +kernel
theorem dL_law_567 : decode mL_law.2.1 567 = .ok (.iconst 0, 1) := by decide +kernel
theorem dL_law_568 : decode mL_law.2.1 568 = .ok (.ireturn, 1) := by decide +kernel
theorem dL_law_569 : decode mL_law.2.1 569 = .ok (.iinc 3 6, 3) := by decide +kernel
theorem dL_law_572 : decode mL_law.2.1 572 = .ok (.goto (-554), 3) := by decide +kernel
theorem dL_law_575 : decode mL_law.2.1 575 = .ok (.iconst 1, 1) := by decide +kernel
theorem dL_law_576 : decode mL_law.2.1 576 = .ok (.ireturn, 1) := by decide +kernel
end
section
/-! ===== am: an abstract machine over the kit: values, a heap of regions, frames ===== -/
abbrev am_V : Type := Int32 ⊕ (Int64 ⊕ Option (Nat × Nat))
abbrev am_I (x : Int32) : am_V := .inl x
abbrev am_J (x : Int64) : am_V := .inr (.inl x)
abbrev am_O (r i : Nat) : am_V := .inr (.inr (some (r, i)))
abbrev am_N : am_V := .inr (.inr none)
abbrev am_E : Type := (Nat ⊕ FieldType) × Nat
abbrev am_H : Type := Nat × (Nat → Nat → Option am_E) × (Nat → Nat → Nat → am_V)
/-- launch, class numbers and slots, array classes, the first new address, the script's address and cell -/
abbrev am_G : Type := Launch × va_G × (FieldType → ClassId) × Nat × Nat × Cell
abbrev am_M : Type := MethodName × ByteArray × Nat × Option FieldType
abbrev gm_l (g : am_G) : Launch := g.1
abbrev gm_D (g : am_G) : va_G := g.2.1
abbrev gm_A (g : am_G) : FieldType → ClassId := g.2.2.1
abbrev gm_n (g : am_G) : Nat := g.2.2.2.1
abbrev gm_b (g : am_G) : Nat := g.2.2.2.2.1
abbrev gm_s (g : am_G) : Cell := g.2.2.2.2.2
def am_ad (g : am_G) (r i : Nat) : Nat := if r = 100 then gm_b g else gm_n g + am_pos r i
def am_c (g : am_G) (v : am_V) : Value := match v with
  | .inl x => .int x
  | .inr (.inl x) => .long x
  | .inr (.inr none) => .null
  | .inr (.inr (some q)) => .ref (am_ad g q.1 q.2)
def am_cat (v : am_V) : Nat := match v with
  | .inr (.inl _) => 2
  | _ => 1
theorem am_cat_c (g : am_G) (v : am_V) : (am_c g v).category = am_cat v := by
  rcases v with x | x | _ | q <;> rfl
theorem am_cat_sum (g : am_G) (l : List am_V) : ((l.map (am_c g)).map fun v => v.category).sum = (l.map am_cat).sum := by
  induction l with
  | nil => rfl
  | cons a l ih => simp only [List.map_cons, List.sum_cons, am_cat_c, ih]
/-- what a cell holds -/
def am_at (g : am_G) (kn : am_E) (m : Nat → am_V) (a : Nat) (H : Heap) : Prop := match kn.1 with
  | .inl ci => ∃ q : vw_C, am_cl[ci]? = some q ∧ kn.2 = q.2.2 ∧ t_OB a ((gm_D g).1 ci) q.2.2 ((gm_D g).2 ci) H (fun k => am_c g (m k))
  | .inr ty => H[a]? = some (arrV (gm_A g ty) kn.2 (fun j => am_c g (m j)))
def am_R (g : am_G) (h : am_H) (H : Heap) : Prop :=
  H.size = gm_n g + h.1 ∧ gm_b g < gm_n g ∧ H[gm_b g]? = some (gm_s g) ∧
  (∀ (r i : Nat) (kn : am_E), h.2.1 r i = some kn → gm_n g ≤ am_ad g r i ∧ am_at g kn (h.2.2 r i) (am_ad g r i) H) ∧
  (∀ (r i r' i' : Nat) (x y : am_E), h.2.1 r i = some x → h.2.1 r' i' = some y → am_ad g r i = am_ad g r' i' → r = r' ∧ i = i')
/-- what the tables say -/
def am_K (g : am_G) (U : State) : Prop :=
  va_K (gm_D g) am_cl [] U ∧ (∀ ty ∈ am_tys, ArrOfT U (gm_A g ty) ty ∧ va_RA U (gm_A g ty) ty) ∧
  (∀ w ∈ am_NF, va_Nw (.fieldLinkNest w.1 w.2.1 w.2.2.1 w.2.2.2.1 w.2.2.2.2.1 w.2.2.2.2.2) U) ∧ (∀ w ∈ am_NM, va_Nw (.methodLinkNest w.1 w.2.1 w.2.2.1 w.2.2.2) U) ∧
  (∀ C ∈ am_AO, va_AO C U) ∧ U.isArrayOf (gm_s g) .int ∧ (gm_s g).vm ≠ .unknown
theorem am_K.moved {g : am_G} {s U : State} (hW : s.WarmedH U.vm) (h : am_K g s) : am_K g U := by
  obtain ⟨h1, h2, h3, h4, h5, h6, h7⟩ := h
  exact ⟨va_K.moved hW.alike h1, fun ty ht => ⟨arrOfT_moved hW.alike (h2 ty ht).1, va_RA.moved hW.alike (h2 ty ht).2⟩, fun w hw => va_Nw.warmF hW (h3 w hw), fun w hw => va_Nw.warmM hW (h4 w hw), fun C hC => va_AO.moved hW.alike (h5 C hC), State.isArrayOf_alike hW.alike h6, h7⟩
theorem am_K.same {g : am_G} {u U : State} (hv : u.vm = U.vm) (h : am_K g u) : am_K g U := by
  obtain ⟨h1, h2, h3, h4, h5, h6, h7⟩ := h
  have ha : u.vm.Alike U.vm := by rw [hv]; exact Vm.Alike.refl _
  exact ⟨va_K.moved ha h1, fun ty ht => ⟨arrOfT_moved ha (h2 ty ht).1, va_RA.moved ha (h2 ty ht).2⟩, fun w hw => va_Nw.same rfl hv (h3 w hw), fun w hw => va_Nw.same rfl hv (h4 w hw), fun C hC => va_AO.moved ha (h5 C hC), State.isArrayOf_alike ha h6, h7⟩
/-- the locals -/
def am_Lv (g : am_G) (ls : Array Slot) (nL : Nat) (lv : List (Option am_V)) : Prop := ls.size = nL ∧ lv_wf ls ∧ ∀ (i : Nat) (v : am_V), lv[i]? = some (some v) → ls[i]? = some (.val (am_c g v)) ∧ am_cat v = 1
def am_prs (g : am_G) (lv : List (Option am_V)) : List (Nat × Value) := (List.range lv.length).filterMap (fun i => match lv[i]? with
  | some (some v) => some (i, am_c g v)
  | _ => none)
theorem am_prs_in {g : am_G} {lv : List (Option am_V)} {i : Nat} {v : am_V} (h : lv[i]? = some (some v)) : (i, am_c g v) ∈ am_prs g lv := by
  unfold am_prs
  refine List.mem_filterMap.mpr ⟨i, List.mem_range.mpr (List.getElem?_eq_some_iff.mp h).1, ?_⟩
  simp only [h]
theorem am_prs_of {g : am_G} {lv : List (Option am_V)} {q : Nat × Value} (h : q ∈ am_prs g lv) : ∃ v, lv[q.1]? = some (some v) ∧ q.2 = am_c g v := by
  unfold am_prs at h
  obtain ⟨i, -, hi⟩ := List.mem_filterMap.mp h
  split at hi
  next v hv => cases hi; exact ⟨v, hv, rfl⟩
  next => cases hi
theorem am_Lv.has {g : am_G} {ls : Array Slot} {nL : Nat} {lv : List (Option am_V)} (h : am_Lv g ls nL lv) : lv_has ls nL (am_prs g lv) := by
  refine ⟨h.1, h.2.1, fun q hq => ?_⟩
  obtain ⟨v, h1, h2⟩ := am_prs_of hq
  rw [h2]
  exact (h.2.2 _ _ h1).1
theorem am_Lv.put {g : am_G} {ls ls' : Array Slot} {nL i : Nat} {lv : List (Option am_V)} {v : am_V} {x : Value} (h : am_Lv g ls nL lv) (hx : am_c g v = x) (hc : am_cat v = 1)
    (h' : lv_has ls' nL ((i, x) :: (am_prs g lv).filter (fun q => !(q.1 == i) && !(q.1 + 1 == i && q.2.category == 2)))) : am_Lv g ls' nL (lv.set i (some v)) := by
  subst hx
  refine ⟨h'.1, h'.2.1, fun j u hj => ?_⟩
  rw [List.getElem?_set] at hj
  split at hj
  next e =>
    subst e
    split at hj
    next => cases hj; exact ⟨h'.2.2 (i, am_c g v) List.mem_cons_self, hc⟩
    next => cases hj
  next e =>
    have h3 := (h.2.2 j u hj).2
    refine ⟨h'.2.2 (j, am_c g u) (List.mem_cons_of_mem _ (List.mem_filter.mpr ⟨am_prs_in hj, ?_⟩)), h3⟩
    have e1 : (j == i) = false := by simpa using Ne.symm e
    have e2 : ((am_c g u).category == 2) = false := by rw [am_cat_c, h3]; rfl
    simp only [e1, e2, Bool.and_false, Bool.not_false, Bool.and_self]
theorem am_lv_args (g : am_G) (as : List am_V) : ∀ n : Nat, (∀ v ∈ as, am_cat v = 1) → ∀ (i : Nat) (v : am_V), as[i]? = some v → (n + i, am_c g v) ∈ lv_args n (as.map (am_c g)) := by
  induction as with
  | nil => intro n _ i v h; simp at h
  | cons a l ih =>
    intro n hc i v h
    have ha : ¬ (am_c g a).category = 2 := by rw [am_cat_c, hc a List.mem_cons_self]; decide
    show _ ∈ lv_args n (am_c g a :: l.map (am_c g))
    unfold lv_args
    rw [if_neg ha]
    cases i with
    | zero => cases h; exact List.mem_cons_self
    | succ i =>
      have := ih (n + 1) (fun v hv => hc v (List.mem_cons_of_mem _ hv)) i v (by simpa using h)
      rw [show n + (i + 1) = n + 1 + i by omega]
      exact List.mem_cons_of_mem _ this
theorem am_Lv.entry (g : am_G) (as : List am_V) (n : Nat) {lv : List (Option am_V)} (hlv : lv = as.map some ++ List.replicate (n - as.length) none) (hc : ∀ v ∈ as, am_cat v = 1) (hn : as.length ≤ n) : am_Lv g ((lg_sl (as.map (am_c g)) ++ List.replicate (n - (lg_sl (as.map (am_c g))).length) Slot.unset).toArray) n lv := by
  have hlen : (lg_sl (as.map (am_c g))).length = as.length := by
    clear hn hlv
    induction as with
    | nil => rfl
    | cons a l ih =>
      have ha : ¬ (am_c g a).category = 2 := by rw [am_cat_c, hc a List.mem_cons_self]; decide
      have := ih (fun v hv => hc v (List.mem_cons_of_mem _ hv))
      unfold lg_sl at this ⊢
      simp only [List.map_cons, List.flatMap_cons, if_neg ha, List.length_append, this, List.length_cons, List.length_nil]
      omega
  obtain ⟨h1, h2, h3⟩ := lv_entry (as.map (am_c g)) (n := n) (by rw [hlen]; exact hn)
  refine ⟨h1, h2, fun i v hi => ?_⟩
  subst hlv
  rw [List.getElem?_append] at hi
  split at hi
  next hl =>
    rw [List.getElem?_map] at hi
    cases hv : as[i]? with
    | none => rw [hv] at hi; cases hi
    | some u =>
      rw [hv] at hi
      cases hi
      have := am_lv_args g as 0 hc i v hv
      rw [Nat.zero_add] at this
      exact ⟨h3 _ this, hc v (List.mem_of_getElem? hv)⟩
  next =>
    rw [List.getElem?_replicate] at hi
    split at hi
    next => cases hi
    next => cases hi
abbrev am_cond (μ : am_M) : Cond := .code μ.1 μ.2.1 μ.2.2.1 μ.2.2.2
abbrev am_ws (μ : am_M) : List Cond := am_cond μ :: am_TW
abbrev am_rm (d mc ms : Nat) : Room := { frames := d, cells := mc, slots := ms, locals := 46 * d }
abbrev am_A (g : am_G) : Nat → Prop := fun q => gm_n g ≤ q
def am_Qc (g : am_G) (Q : Option am_V → am_H → Prop) : Array Value → State → Outcome → State → Prop := fun _ st o t =>
  (∃ (v : Option am_V) (h : am_H), o = .returned (v.map (am_c g)) ∧ Q v h ∧ am_R g h t.heap) ∧ va_F (am_A g) st t
def am_X (g : am_G) (μ : am_M) (p : Program) (s : State) (m : MethodId) (args : Array Value) (meth : Method) (c : Code) : Prop :=
  p.tables.exec = Jvm.exec ∧ c.code = μ.2.1 ∧ s.vm.findClass μ.1.cls = some m.cls ∧ (∀ w ∈ am_TW, w.before args s = true) ∧ am_K g s ∧ gm_n g ≤ s.heap.size ∧ c.maxLocals = μ.2.2.1 ∧ meth.sig.returnType = μ.2.2.2 ∧ meth.locks = false ∧ (μ.1.name = "<init>" → meth.name = "<init>")
/-- a frame: whatever the machine is, if the heap holds h, it comes to an end with Q; ac cells of as slots may still be made, d calls be open -/
def am_T (g : am_G) (μ : am_M) (d ac as pc : Nat) (lv : List (Option am_V)) (st : List am_V) (h : am_H) (Q : Option am_V → am_H → Prop) : Prop :=
  ∀ (R : Room) (mc ms : Nat) (p : Program) (e : Env) (s : State) (m : MethodId) (args : Array Value) (below : List Frame) (meth : Method) (c : Code) (H : Heap) (locs : List Loc) (cells slots : Nat) (ls : Array Slot),
    (d ≤ R.frames ∧ 46 * d ≤ R.locals ∧ mc ≤ R.cells ∧ ms ≤ R.slots) → am_X g μ p s m args meth c → am_R g h H → va_S (am_A g) s.heap H locs → am_Lv g ls μ.2.2.1 lv → cells + ac ≤ mc → slots + as ≤ ms →
    W p (gm_l g) e R s m args below meth c H locs cells slots (MQ below (am_Qc g Q) args s mc ms (am_A g)) (F0 m pc ls (st.map (am_c g)))
/-- a call -/
def am_C (g : am_G) (μ : am_M) (d mc ms : Nat) (as : List am_V) (h : am_H) (Q : Option am_V → am_H → Prop) : Prop :=
  Met (gm_l g) μ.1 (am_ws μ) (am_rm d mc ms) (fun a U => a = (as.map (am_c g)).toArray ∧ am_K g U ∧ am_R g h U.heap) (am_Qc g Q) mc ms (am_A g)
theorem am_blind (g : am_G) (as : List am_V) (h : am_H) : FrameBlind (fun a U => a = (as.map (am_c g)).toArray ∧ am_K g U ∧ am_R g h U.heap) := by
  intro a U f mk hq
  exact ⟨hq.1, am_K.same (u := U) (U := U.calling f mk a) rfl hq.2.1, hq.2.2⟩
theorem am_enter {g : am_G} {μ : am_M} {d mc ms : Nat} {as : List am_V} {lv : List (Option am_V)} {h : am_H} {Q : Option am_V → am_H → Prop} (hy : plainName μ.1.cls = true) (hlv : lv = as.map some ++ List.replicate (μ.2.2.1 - as.length) none) (hc : ∀ v ∈ as, am_cat v = 1) (hn : as.length ≤ μ.2.2.1)
    (k : am_T g μ d mc ms 0 lv [] h Q) : am_C g μ d mc ms as h Q := by
  refine Met.ofW (cc := μ.2.1) (maxL := μ.2.2.1) (ret := μ.2.2.2) (ws' := am_TW) hy rfl ?_
  intro p e s m args below meth c s₁ B hml hv
  obtain ⟨rfl, hK, hR⟩ := hv
  have hts := atoms_spec (ws := am_ws μ) B.pre
  rw [lg_entry_eq]
  exact k (am_rm d mc ms) mc ms p e s m _ below meth c s.heap [] 0 0 _ ⟨Nat.le_refl _, Nat.le_refl _, Nat.le_refl _, Nat.le_refl _⟩
    ⟨B.exec, B.bytes, findClass_of_methodNamed B.named, fun w hw => hts w (List.mem_cons_of_mem _ hw), hK, by rw [hR.1]; exact Nat.le_add_right _ _, hml, B.returns, B.notSynchronized, fun q => by rw [(name_of_methodNamed B.named B.method).1]; exact q⟩
    hR va_S.rf (am_Lv.entry g as _ hlv hc hn) (by omega) (by omega)
/-! ===== rows: the stack and the locals ===== -/
theorem am_iconst {g : am_G} {μ : am_M} {d ac as pc : Nat} {lv : List (Option am_V)} {st : List am_V} {h : am_H} {Q : Option am_V → am_H → Prop} {n : Int} {v : Int32} (hd : decode μ.2.1 pc = .ok (.iconst n, 1)) (hv : Int32.ofInt n = v) (k : am_T g μ d ac as (pc + 1) lv (am_I v :: st) h Q) : am_T g μ d ac as pc lv st h Q :=
  fun R mc ms p e s m args below meth c H locs cells slots ls hR hX hh hS hl h1 h2 => lv_iconst hX.1 hX.2.1 hd hv (k R mc ms p e s m args below meth c H locs cells slots ls hR hX hh hS hl h1 h2)
theorem am_bipush {g : am_G} {μ : am_M} {d ac as pc : Nat} {lv : List (Option am_V)} {st : List am_V} {h : am_H} {Q : Option am_V → am_H → Prop} {n : Int} {v : Int32} (hd : decode μ.2.1 pc = .ok (.bipush n, 2)) (hv : (Int8.ofInt n).toInt32 = v) (k : am_T g μ d ac as (pc + 2) lv (am_I v :: st) h Q) : am_T g μ d ac as pc lv st h Q :=
  fun R mc ms p e s m args below meth c H locs cells slots ls hR hX hh hS hl h1 h2 => lv_bipush hX.1 hX.2.1 hd hv (k R mc ms p e s m args below meth c H locs cells slots ls hR hX hh hS hl h1 h2)
theorem am_sipush {g : am_G} {μ : am_M} {d ac as pc : Nat} {lv : List (Option am_V)} {st : List am_V} {h : am_H} {Q : Option am_V → am_H → Prop} {n : Int} {v : Int32} (hd : decode μ.2.1 pc = .ok (.sipush n, 3)) (hv : (Int16.ofInt n).toInt32 = v) (k : am_T g μ d ac as (pc + 3) lv (am_I v :: st) h Q) : am_T g μ d ac as pc lv st h Q :=
  fun R mc ms p e s m args below meth c H locs cells slots ls hR hX hh hS hl h1 h2 => lv_sipush hX.1 hX.2.1 hd hv (k R mc ms p e s m args below meth c H locs cells slots ls hR hX hh hS hl h1 h2)
theorem am_iadd {g : am_G} {μ : am_M} {d ac as pc : Nat} {lv : List (Option am_V)} {st : List am_V} {h : am_H} {Q : Option am_V → am_H → Prop} {x y : Int32} (hd : decode μ.2.1 pc = .ok (.iadd, 1)) (k : am_T g μ d ac as (pc + 1) lv (am_I (x + y) :: st) h Q) : am_T g μ d ac as pc lv (am_I y :: am_I x :: st) h Q :=
  fun R mc ms p e s m args below meth c H locs cells slots ls hR hX hh hS hl h1 h2 => lv_iadd hX.1 hX.2.1 hd (k R mc ms p e s m args below meth c H locs cells slots ls hR hX hh hS hl h1 h2)
theorem am_isub {g : am_G} {μ : am_M} {d ac as pc : Nat} {lv : List (Option am_V)} {st : List am_V} {h : am_H} {Q : Option am_V → am_H → Prop} {x y : Int32} (hd : decode μ.2.1 pc = .ok (.isub, 1)) (k : am_T g μ d ac as (pc + 1) lv (am_I (x - y) :: st) h Q) : am_T g μ d ac as pc lv (am_I y :: am_I x :: st) h Q :=
  fun R mc ms p e s m args below meth c H locs cells slots ls hR hX hh hS hl h1 h2 => lv_isub hX.1 hX.2.1 hd (k R mc ms p e s m args below meth c H locs cells slots ls hR hX hh hS hl h1 h2)
theorem am_imul {g : am_G} {μ : am_M} {d ac as pc : Nat} {lv : List (Option am_V)} {st : List am_V} {h : am_H} {Q : Option am_V → am_H → Prop} {x y : Int32} (hd : decode μ.2.1 pc = .ok (.imul, 1)) (k : am_T g μ d ac as (pc + 1) lv (am_I (x * y) :: st) h Q) : am_T g μ d ac as pc lv (am_I y :: am_I x :: st) h Q :=
  fun R mc ms p e s m args below meth c H locs cells slots ls hR hX hh hS hl h1 h2 => lv_imul hX.1 hX.2.1 hd (k R mc ms p e s m args below meth c H locs cells slots ls hR hX hh hS hl h1 h2)
theorem am_iand {g : am_G} {μ : am_M} {d ac as pc : Nat} {lv : List (Option am_V)} {st : List am_V} {h : am_H} {Q : Option am_V → am_H → Prop} {x y : Int32} (hd : decode μ.2.1 pc = .ok (.iand, 1)) (k : am_T g μ d ac as (pc + 1) lv (am_I (x &&& y) :: st) h Q) : am_T g μ d ac as pc lv (am_I y :: am_I x :: st) h Q :=
  fun R mc ms p e s m args below meth c H locs cells slots ls hR hX hh hS hl h1 h2 => lv_iand hX.1 hX.2.1 hd (k R mc ms p e s m args below meth c H locs cells slots ls hR hX hh hS hl h1 h2)
theorem am_ior {g : am_G} {μ : am_M} {d ac as pc : Nat} {lv : List (Option am_V)} {st : List am_V} {h : am_H} {Q : Option am_V → am_H → Prop} {x y : Int32} (hd : decode μ.2.1 pc = .ok (.ior, 1)) (k : am_T g μ d ac as (pc + 1) lv (am_I (x ||| y) :: st) h Q) : am_T g μ d ac as pc lv (am_I y :: am_I x :: st) h Q :=
  fun R mc ms p e s m args below meth c H locs cells slots ls hR hX hh hS hl h1 h2 => lv_ior hX.1 hX.2.1 hd (k R mc ms p e s m args below meth c H locs cells slots ls hR hX hh hS hl h1 h2)
theorem am_ixor {g : am_G} {μ : am_M} {d ac as pc : Nat} {lv : List (Option am_V)} {st : List am_V} {h : am_H} {Q : Option am_V → am_H → Prop} {x y : Int32} (hd : decode μ.2.1 pc = .ok (.ixor, 1)) (k : am_T g μ d ac as (pc + 1) lv (am_I (x ^^^ y) :: st) h Q) : am_T g μ d ac as pc lv (am_I y :: am_I x :: st) h Q :=
  fun R mc ms p e s m args below meth c H locs cells slots ls hR hX hh hS hl h1 h2 => lv_ixor hX.1 hX.2.1 hd (k R mc ms p e s m args below meth c H locs cells slots ls hR hX hh hS hl h1 h2)
theorem am_ineg {g : am_G} {μ : am_M} {d ac as pc : Nat} {lv : List (Option am_V)} {st : List am_V} {h : am_H} {Q : Option am_V → am_H → Prop} {x : Int32} (hd : decode μ.2.1 pc = .ok (.ineg, 1)) (k : am_T g μ d ac as (pc + 1) lv (am_I (-x) :: st) h Q) : am_T g μ d ac as pc lv (am_I x :: st) h Q :=
  fun R mc ms p e s m args below meth c H locs cells slots ls hR hX hh hS hl h1 h2 => lv_ineg hX.1 hX.2.1 hd (k R mc ms p e s m args below meth c H locs cells slots ls hR hX hh hS hl h1 h2)
theorem am_ladd {g : am_G} {μ : am_M} {d ac as pc : Nat} {lv : List (Option am_V)} {st : List am_V} {h : am_H} {Q : Option am_V → am_H → Prop} {x y : Int64} (hd : decode μ.2.1 pc = .ok (.ladd, 1)) (k : am_T g μ d ac as (pc + 1) lv (am_J (x + y) :: st) h Q) : am_T g μ d ac as pc lv (am_J y :: am_J x :: st) h Q :=
  fun R mc ms p e s m args below meth c H locs cells slots ls hR hX hh hS hl h1 h2 => lv_ladd hX.1 hX.2.1 hd (k R mc ms p e s m args below meth c H locs cells slots ls hR hX hh hS hl h1 h2)
theorem am_lsub {g : am_G} {μ : am_M} {d ac as pc : Nat} {lv : List (Option am_V)} {st : List am_V} {h : am_H} {Q : Option am_V → am_H → Prop} {x y : Int64} (hd : decode μ.2.1 pc = .ok (.lsub, 1)) (k : am_T g μ d ac as (pc + 1) lv (am_J (x - y) :: st) h Q) : am_T g μ d ac as pc lv (am_J y :: am_J x :: st) h Q :=
  fun R mc ms p e s m args below meth c H locs cells slots ls hR hX hh hS hl h1 h2 => lv_lsub hX.1 hX.2.1 hd (k R mc ms p e s m args below meth c H locs cells slots ls hR hX hh hS hl h1 h2)
theorem am_lmul {g : am_G} {μ : am_M} {d ac as pc : Nat} {lv : List (Option am_V)} {st : List am_V} {h : am_H} {Q : Option am_V → am_H → Prop} {x y : Int64} (hd : decode μ.2.1 pc = .ok (.lmul, 1)) (k : am_T g μ d ac as (pc + 1) lv (am_J (x * y) :: st) h Q) : am_T g μ d ac as pc lv (am_J y :: am_J x :: st) h Q :=
  fun R mc ms p e s m args below meth c H locs cells slots ls hR hX hh hS hl h1 h2 => lv_lmul hX.1 hX.2.1 hd (k R mc ms p e s m args below meth c H locs cells slots ls hR hX hh hS hl h1 h2)
theorem am_i2l {g : am_G} {μ : am_M} {d ac as pc : Nat} {lv : List (Option am_V)} {st : List am_V} {h : am_H} {Q : Option am_V → am_H → Prop} {x : Int32} (hd : decode μ.2.1 pc = .ok (.i2l, 1)) (k : am_T g μ d ac as (pc + 1) lv (am_J x.toInt64 :: st) h Q) : am_T g μ d ac as pc lv (am_I x :: st) h Q :=
  fun R mc ms p e s m args below meth c H locs cells slots ls hR hX hh hS hl h1 h2 => lv_i2l hX.1 hX.2.1 hd rfl (k R mc ms p e s m args below meth c H locs cells slots ls hR hX hh hS hl h1 h2)
theorem am_l2i {g : am_G} {μ : am_M} {d ac as pc : Nat} {lv : List (Option am_V)} {st : List am_V} {h : am_H} {Q : Option am_V → am_H → Prop} {x : Int64} (hd : decode μ.2.1 pc = .ok (.l2i, 1)) (k : am_T g μ d ac as (pc + 1) lv (am_I x.toInt32 :: st) h Q) : am_T g μ d ac as pc lv (am_J x :: st) h Q :=
  fun R mc ms p e s m args below meth c H locs cells slots ls hR hX hh hS hl h1 h2 => lv_l2i hX.1 hX.2.1 hd rfl (k R mc ms p e s m args below meth c H locs cells slots ls hR hX hh hS hl h1 h2)
theorem am_lcmp {g : am_G} {μ : am_M} {d ac as pc : Nat} {lv : List (Option am_V)} {st : List am_V} {h : am_H} {Q : Option am_V → am_H → Prop} {x y : Int64} (hd : decode μ.2.1 pc = .ok (.lcmp, 1)) (k : am_T g μ d ac as (pc + 1) lv (am_I (lg_cmp x y) :: st) h Q) : am_T g μ d ac as pc lv (am_J y :: am_J x :: st) h Q :=
  fun R mc ms p e s m args below meth c H locs cells slots ls hR hX hh hS hl h1 h2 => W.lcmp hX.1 hX.2.1 hd (k R mc ms p e s m args below meth c H locs cells slots ls hR hX hh hS hl h1 h2)
theorem am_dup {g : am_G} {μ : am_M} {d ac as pc : Nat} {lv : List (Option am_V)} {st : List am_V} {h : am_H} {Q : Option am_V → am_H → Prop} {va : am_V} (hd : decode μ.2.1 pc = .ok (.dup, 1)) (hva : am_cat va = 1) (k : am_T g μ d ac as (pc + 1) lv (va :: va :: st) h Q) : am_T g μ d ac as pc lv (va :: st) h Q :=
  fun R mc ms p e s m args below meth c H locs cells slots ls hR hX hh hS hl h1 h2 => lv_dup hX.1 hX.2.1 hd (by rw [am_cat_c]; exact hva) (k R mc ms p e s m args below meth c H locs cells slots ls hR hX hh hS hl h1 h2)
theorem am_pop {g : am_G} {μ : am_M} {d ac as pc : Nat} {lv : List (Option am_V)} {st : List am_V} {h : am_H} {Q : Option am_V → am_H → Prop} {va : am_V} (hd : decode μ.2.1 pc = .ok (.pop, 1)) (hva : am_cat va = 1) (k : am_T g μ d ac as (pc + 1) lv st h Q) : am_T g μ d ac as pc lv (va :: st) h Q :=
  fun R mc ms p e s m args below meth c H locs cells slots ls hR hX hh hS hl h1 h2 => lv_pop hX.1 hX.2.1 (va := am_c g va) hd (by rw [am_cat_c]; exact hva) (k R mc ms p e s m args below meth c H locs cells slots ls hR hX hh hS hl h1 h2)
theorem am_dup_x1 {g : am_G} {μ : am_M} {d ac as pc : Nat} {lv : List (Option am_V)} {st : List am_V} {h : am_H} {Q : Option am_V → am_H → Prop} {va vb : am_V} (hd : decode μ.2.1 pc = .ok (.dup_x1, 1)) (hva : am_cat va = 1) (hvb : am_cat vb = 1) (k : am_T g μ d ac as (pc + 1) lv (va :: vb :: va :: st) h Q) : am_T g μ d ac as pc lv (va :: vb :: st) h Q :=
  fun R mc ms p e s m args below meth c H locs cells slots ls hR hX hh hS hl h1 h2 => lv_dup_x1 hX.1 hX.2.1 hd (by rw [am_cat_c]; exact hva) (by rw [am_cat_c]; exact hvb) (k R mc ms p e s m args below meth c H locs cells slots ls hR hX hh hS hl h1 h2)
theorem am_dup2 {g : am_G} {μ : am_M} {d ac as pc : Nat} {lv : List (Option am_V)} {st : List am_V} {h : am_H} {Q : Option am_V → am_H → Prop} {va vb : am_V} (hd : decode μ.2.1 pc = .ok (.dup2, 1)) (hva : am_cat va = 1) (hvb : am_cat vb = 1) (k : am_T g μ d ac as (pc + 1) lv (va :: vb :: va :: vb :: st) h Q) : am_T g μ d ac as pc lv (va :: vb :: st) h Q :=
  fun R mc ms p e s m args below meth c H locs cells slots ls hR hX hh hS hl h1 h2 => lv_dup2_11 hX.1 hX.2.1 hd (by rw [am_cat_c]; exact hva) (by rw [am_cat_c]; exact hvb) (k R mc ms p e s m args below meth c H locs cells slots ls hR hX hh hS hl h1 h2)
theorem am_dup_x2 {g : am_G} {μ : am_M} {d ac as pc : Nat} {lv : List (Option am_V)} {st : List am_V} {h : am_H} {Q : Option am_V → am_H → Prop} {va vb vc : am_V} (hd : decode μ.2.1 pc = .ok (.dup_x2, 1)) (hva : am_cat va = 1) (hvb : am_cat vb = 1) (hvc : am_cat vc = 1) (k : am_T g μ d ac as (pc + 1) lv (va :: vb :: vc :: va :: st) h Q) : am_T g μ d ac as pc lv (va :: vb :: vc :: st) h Q :=
  fun R mc ms p e s m args below meth c H locs cells slots ls hR hX hh hS hl h1 h2 => lv_dup_x2 hX.1 hX.2.1 hd (by rw [am_cat_c]; exact hva) (by rw [am_cat_c]; exact hvb) (by rw [am_cat_c]; exact hvc) (k R mc ms p e s m args below meth c H locs cells slots ls hR hX hh hS hl h1 h2)
theorem am_null {g : am_G} {μ : am_M} {d ac as pc : Nat} {lv : List (Option am_V)} {st : List am_V} {h : am_H} {Q : Option am_V → am_H → Prop}  (hd : decode μ.2.1 pc = .ok (.aconst_null, 1)) (k : am_T g μ d ac as (pc + 1) lv (am_N :: st) h Q) : am_T g μ d ac as pc lv st h Q :=
  fun R mc ms p e s m args below meth c H locs cells slots ls hR hX hh hS hl h1 h2 => lv_null hX.1 hX.2.1 hd (k R mc ms p e s m args below meth c H locs cells slots ls hR hX hh hS hl h1 h2)
theorem am_iload_n {g : am_G} {μ : am_M} {d ac as pc : Nat} {lv : List (Option am_V)} {st : List am_V} {h : am_H} {Q : Option am_V → am_H → Prop} {q : Fin 4} {i : Nat} {x : Int32} (hd : decode μ.2.1 pc = .ok (.iload_n q, 1)) (hi : (q : Nat) = i) (hv : lv[i]? = some (some (am_I x))) (k : am_T g μ d ac as (pc + 1) lv (am_I x :: st) h Q) : am_T g μ d ac as pc lv st h Q :=
  fun R mc ms p e s m args below meth c H locs cells slots ls hR hX hh hS hl h1 h2 => lv_iload_n hX.1 hX.2.1 hd hi (hl.2.2 _ _ hv).1 (k R mc ms p e s m args below meth c H locs cells slots ls hR hX hh hS hl h1 h2)
theorem am_iload {g : am_G} {μ : am_M} {d ac as pc : Nat} {lv : List (Option am_V)} {st : List am_V} {h : am_H} {Q : Option am_V → am_H → Prop} {i : Nat} {x : Int32} (hd : decode μ.2.1 pc = .ok (.iload i, 2)) (hv : lv[i]? = some (some (am_I x))) (k : am_T g μ d ac as (pc + 2) lv (am_I x :: st) h Q) : am_T g μ d ac as pc lv st h Q :=
  fun R mc ms p e s m args below meth c H locs cells slots ls hR hX hh hS hl h1 h2 => lv_iload hX.1 hX.2.1 hd (hl.2.2 _ _ hv).1 (k R mc ms p e s m args below meth c H locs cells slots ls hR hX hh hS hl h1 h2)
theorem am_aload_n {g : am_G} {μ : am_M} {d ac as pc : Nat} {lv : List (Option am_V)} {st : List am_V} {h : am_H} {Q : Option am_V → am_H → Prop} {q : Fin 4} {i r j : Nat} (hd : decode μ.2.1 pc = .ok (.aload_n q, 1)) (hi : (q : Nat) = i) (hv : lv[i]? = some (some (am_O r j))) (k : am_T g μ d ac as (pc + 1) lv (am_O r j :: st) h Q) : am_T g μ d ac as pc lv st h Q :=
  fun R mc ms p e s m args below meth c H locs cells slots ls hR hX hh hS hl h1 h2 => lv_aload_n hX.1 hX.2.1 hd hi (hl.2.2 _ _ hv).1 (k R mc ms p e s m args below meth c H locs cells slots ls hR hX hh hS hl h1 h2)
theorem am_aload {g : am_G} {μ : am_M} {d ac as pc : Nat} {lv : List (Option am_V)} {st : List am_V} {h : am_H} {Q : Option am_V → am_H → Prop} {i r j : Nat} (hd : decode μ.2.1 pc = .ok (.aload i, 2)) (hv : lv[i]? = some (some (am_O r j))) (k : am_T g μ d ac as (pc + 2) lv (am_O r j :: st) h Q) : am_T g μ d ac as pc lv st h Q :=
  fun R mc ms p e s m args below meth c H locs cells slots ls hR hX hh hS hl h1 h2 => lv_aload hX.1 hX.2.1 hd (hl.2.2 _ _ hv).1 (k R mc ms p e s m args below meth c H locs cells slots ls hR hX hh hS hl h1 h2)
theorem am_istore_n {g : am_G} {μ : am_M} {d ac as pc : Nat} {lv : List (Option am_V)} {st : List am_V} {h : am_H} {Q : Option am_V → am_H → Prop} {q : Fin 4} {i : Nat} {x : Int32} (hd : decode μ.2.1 pc = .ok (.istore_n q, 1)) (hi : (q : Nat) = i) (hn : i < μ.2.2.1) (k : am_T g μ d ac as (pc + 1) (lv.set i (some (am_I x))) st h Q) : am_T g μ d ac as pc lv (am_I x :: st) h Q :=
  fun R mc ms p e s m args below meth c H locs cells slots ls hR hX hh hS hl h1 h2 => lv_istore_n hX.1 hX.2.1 hd hi hl.has hn rfl (fun ls' h' => have hl' := am_Lv.put hl rfl rfl h'; k R mc ms p e s m args below meth c H locs cells slots ls' hR hX hh hS hl' h1 h2)
theorem am_istore {g : am_G} {μ : am_M} {d ac as pc : Nat} {lv : List (Option am_V)} {st : List am_V} {h : am_H} {Q : Option am_V → am_H → Prop} {i : Nat} {x : Int32} (hd : decode μ.2.1 pc = .ok (.istore i, 2)) (hn : i < μ.2.2.1) (k : am_T g μ d ac as (pc + 2) (lv.set i (some (am_I x))) st h Q) : am_T g μ d ac as pc lv (am_I x :: st) h Q :=
  fun R mc ms p e s m args below meth c H locs cells slots ls hR hX hh hS hl h1 h2 => lv_istore hX.1 hX.2.1 hd hl.has hn rfl (fun ls' h' => have hl' := am_Lv.put hl rfl rfl h'; k R mc ms p e s m args below meth c H locs cells slots ls' hR hX hh hS hl' h1 h2)
theorem am_astore_n {g : am_G} {μ : am_M} {d ac as pc : Nat} {lv : List (Option am_V)} {st : List am_V} {h : am_H} {Q : Option am_V → am_H → Prop} {q : Fin 4} {i : Nat} {r j : Nat} (hd : decode μ.2.1 pc = .ok (.astore_n q, 1)) (hi : (q : Nat) = i) (hn : i < μ.2.2.1) (k : am_T g μ d ac as (pc + 1) (lv.set i (some (am_O r j))) st h Q) : am_T g μ d ac as pc lv (am_O r j :: st) h Q :=
  fun R mc ms p e s m args below meth c H locs cells slots ls hR hX hh hS hl h1 h2 => lv_astore_n hX.1 hX.2.1 hd hi hl.has hn rfl (fun ls' h' => have hl' := am_Lv.put hl rfl rfl h'; k R mc ms p e s m args below meth c H locs cells slots ls' hR hX hh hS hl' h1 h2)
theorem am_astore {g : am_G} {μ : am_M} {d ac as pc : Nat} {lv : List (Option am_V)} {st : List am_V} {h : am_H} {Q : Option am_V → am_H → Prop} {i : Nat} {r j : Nat} (hd : decode μ.2.1 pc = .ok (.astore i, 2)) (hn : i < μ.2.2.1) (k : am_T g μ d ac as (pc + 2) (lv.set i (some (am_O r j))) st h Q) : am_T g μ d ac as pc lv (am_O r j :: st) h Q :=
  fun R mc ms p e s m args below meth c H locs cells slots ls hR hX hh hS hl h1 h2 => lv_astore hX.1 hX.2.1 hd hl.has hn rfl (fun ls' h' => have hl' := am_Lv.put hl rfl rfl h'; k R mc ms p e s m args below meth c H locs cells slots ls' hR hX hh hS hl' h1 h2)
theorem am_iinc {g : am_G} {μ : am_M} {d ac as pc : Nat} {lv : List (Option am_V)} {st : List am_V} {h : am_H} {Q : Option am_V → am_H → Prop} {i : Nat} {n : Int} {x v : Int32} (hd : decode μ.2.1 pc = .ok (.iinc i n, 3)) (hv : lv[i]? = some (some (am_I x))) (he : x + Int32.ofInt n = v) (hn : i < μ.2.2.1) (k : am_T g μ d ac as (pc + 3) (lv.set i (some (am_I v))) st h Q) : am_T g μ d ac as pc lv st h Q := by
  intro R mc ms p e s m args below meth c H locs cells slots ls hR hX hh hS hl h1 h2
  obtain ⟨j, hj⟩ := List.getElem?_of_mem (am_prs_in (g := g) hv)
  exact lv_iinc hX.1 hX.2.1 hd hl.has hj he hn rfl (fun ls' h' => have hl' := am_Lv.put (v := am_I v) hl rfl rfl h'; k R mc ms p e s m args below meth c H locs cells slots ls' hR hX hh hS hl' h1 h2)
/-! ===== rows: branches ===== -/
theorem am_if_eq {g : am_G} {μ : am_M} {d ac as pc : Nat} {lv : List (Option am_V)} {st : List am_V} {h : am_H} {Q : Option am_V → am_H → Prop} {x : Int32} {off : Int} {tgt : Nat} (hd : decode μ.2.1 pc = .ok (.ifCond .eq off, 3)) (ht : (pc : Int) + off = (tgt : Int)) (kt : x = 0 → am_T g μ d ac as tgt lv st h Q) (kf : ¬ x = 0 → am_T g μ d ac as (pc + 3) lv st h Q) : am_T g μ d ac as pc lv (am_I x :: st) h Q :=
  fun R mc ms p e s m args below meth c H locs cells slots ls hR hX hh hS hl h1 h2 => lv_if_eq hX.1 hX.2.1 hd ht (fun q => kt q R mc ms p e s m args below meth c H locs cells slots ls hR hX hh hS hl h1 h2) (fun q => kf q R mc ms p e s m args below meth c H locs cells slots ls hR hX hh hS hl h1 h2)
theorem am_icmp_eq {g : am_G} {μ : am_M} {d ac as pc : Nat} {lv : List (Option am_V)} {st : List am_V} {h : am_H} {Q : Option am_V → am_H → Prop} {x y : Int32} {off : Int} {tgt : Nat} (hd : decode μ.2.1 pc = .ok (.if_icmp .eq off, 3)) (ht : (pc : Int) + off = (tgt : Int)) (kt : x = y → am_T g μ d ac as tgt lv st h Q) (kf : ¬ x = y → am_T g μ d ac as (pc + 3) lv st h Q) : am_T g μ d ac as pc lv (am_I y :: am_I x :: st) h Q :=
  fun R mc ms p e s m args below meth c H locs cells slots ls hR hX hh hS hl h1 h2 => lv_icmp_eq hX.1 hX.2.1 hd ht (fun q => kt q R mc ms p e s m args below meth c H locs cells slots ls hR hX hh hS hl h1 h2) (fun q => kf q R mc ms p e s m args below meth c H locs cells slots ls hR hX hh hS hl h1 h2)
theorem am_if_ne {g : am_G} {μ : am_M} {d ac as pc : Nat} {lv : List (Option am_V)} {st : List am_V} {h : am_H} {Q : Option am_V → am_H → Prop} {x : Int32} {off : Int} {tgt : Nat} (hd : decode μ.2.1 pc = .ok (.ifCond .ne off, 3)) (ht : (pc : Int) + off = (tgt : Int)) (kt : ¬ x = 0 → am_T g μ d ac as tgt lv st h Q) (kf : x = 0 → am_T g μ d ac as (pc + 3) lv st h Q) : am_T g μ d ac as pc lv (am_I x :: st) h Q :=
  fun R mc ms p e s m args below meth c H locs cells slots ls hR hX hh hS hl h1 h2 => lv_if_ne hX.1 hX.2.1 hd ht (fun q => kt q R mc ms p e s m args below meth c H locs cells slots ls hR hX hh hS hl h1 h2) (fun q => kf q R mc ms p e s m args below meth c H locs cells slots ls hR hX hh hS hl h1 h2)
theorem am_icmp_ne {g : am_G} {μ : am_M} {d ac as pc : Nat} {lv : List (Option am_V)} {st : List am_V} {h : am_H} {Q : Option am_V → am_H → Prop} {x y : Int32} {off : Int} {tgt : Nat} (hd : decode μ.2.1 pc = .ok (.if_icmp .ne off, 3)) (ht : (pc : Int) + off = (tgt : Int)) (kt : ¬ x = y → am_T g μ d ac as tgt lv st h Q) (kf : x = y → am_T g μ d ac as (pc + 3) lv st h Q) : am_T g μ d ac as pc lv (am_I y :: am_I x :: st) h Q :=
  fun R mc ms p e s m args below meth c H locs cells slots ls hR hX hh hS hl h1 h2 => lv_icmp_ne hX.1 hX.2.1 hd ht (fun q => kt q R mc ms p e s m args below meth c H locs cells slots ls hR hX hh hS hl h1 h2) (fun q => kf q R mc ms p e s m args below meth c H locs cells slots ls hR hX hh hS hl h1 h2)
theorem am_if_lt {g : am_G} {μ : am_M} {d ac as pc : Nat} {lv : List (Option am_V)} {st : List am_V} {h : am_H} {Q : Option am_V → am_H → Prop} {x : Int32} {off : Int} {tgt : Nat} (hd : decode μ.2.1 pc = .ok (.ifCond .lt off, 3)) (ht : (pc : Int) + off = (tgt : Int)) (kt : x < 0 → am_T g μ d ac as tgt lv st h Q) (kf : ¬ x < 0 → am_T g μ d ac as (pc + 3) lv st h Q) : am_T g μ d ac as pc lv (am_I x :: st) h Q :=
  fun R mc ms p e s m args below meth c H locs cells slots ls hR hX hh hS hl h1 h2 => lv_if_lt hX.1 hX.2.1 hd ht (fun q => kt q R mc ms p e s m args below meth c H locs cells slots ls hR hX hh hS hl h1 h2) (fun q => kf q R mc ms p e s m args below meth c H locs cells slots ls hR hX hh hS hl h1 h2)
theorem am_icmp_lt {g : am_G} {μ : am_M} {d ac as pc : Nat} {lv : List (Option am_V)} {st : List am_V} {h : am_H} {Q : Option am_V → am_H → Prop} {x y : Int32} {off : Int} {tgt : Nat} (hd : decode μ.2.1 pc = .ok (.if_icmp .lt off, 3)) (ht : (pc : Int) + off = (tgt : Int)) (kt : x < y → am_T g μ d ac as tgt lv st h Q) (kf : ¬ x < y → am_T g μ d ac as (pc + 3) lv st h Q) : am_T g μ d ac as pc lv (am_I y :: am_I x :: st) h Q :=
  fun R mc ms p e s m args below meth c H locs cells slots ls hR hX hh hS hl h1 h2 => lv_icmp_lt hX.1 hX.2.1 hd ht (fun q => kt q R mc ms p e s m args below meth c H locs cells slots ls hR hX hh hS hl h1 h2) (fun q => kf q R mc ms p e s m args below meth c H locs cells slots ls hR hX hh hS hl h1 h2)
theorem am_if_ge {g : am_G} {μ : am_M} {d ac as pc : Nat} {lv : List (Option am_V)} {st : List am_V} {h : am_H} {Q : Option am_V → am_H → Prop} {x : Int32} {off : Int} {tgt : Nat} (hd : decode μ.2.1 pc = .ok (.ifCond .ge off, 3)) (ht : (pc : Int) + off = (tgt : Int)) (kt : 0 ≤ x → am_T g μ d ac as tgt lv st h Q) (kf : ¬ 0 ≤ x → am_T g μ d ac as (pc + 3) lv st h Q) : am_T g μ d ac as pc lv (am_I x :: st) h Q :=
  fun R mc ms p e s m args below meth c H locs cells slots ls hR hX hh hS hl h1 h2 => lv_if_ge hX.1 hX.2.1 hd ht (fun q => kt q R mc ms p e s m args below meth c H locs cells slots ls hR hX hh hS hl h1 h2) (fun q => kf q R mc ms p e s m args below meth c H locs cells slots ls hR hX hh hS hl h1 h2)
theorem am_icmp_ge {g : am_G} {μ : am_M} {d ac as pc : Nat} {lv : List (Option am_V)} {st : List am_V} {h : am_H} {Q : Option am_V → am_H → Prop} {x y : Int32} {off : Int} {tgt : Nat} (hd : decode μ.2.1 pc = .ok (.if_icmp .ge off, 3)) (ht : (pc : Int) + off = (tgt : Int)) (kt : y ≤ x → am_T g μ d ac as tgt lv st h Q) (kf : ¬ y ≤ x → am_T g μ d ac as (pc + 3) lv st h Q) : am_T g μ d ac as pc lv (am_I y :: am_I x :: st) h Q :=
  fun R mc ms p e s m args below meth c H locs cells slots ls hR hX hh hS hl h1 h2 => lv_icmp_ge hX.1 hX.2.1 hd ht (fun q => kt q R mc ms p e s m args below meth c H locs cells slots ls hR hX hh hS hl h1 h2) (fun q => kf q R mc ms p e s m args below meth c H locs cells slots ls hR hX hh hS hl h1 h2)
theorem am_if_gt {g : am_G} {μ : am_M} {d ac as pc : Nat} {lv : List (Option am_V)} {st : List am_V} {h : am_H} {Q : Option am_V → am_H → Prop} {x : Int32} {off : Int} {tgt : Nat} (hd : decode μ.2.1 pc = .ok (.ifCond .gt off, 3)) (ht : (pc : Int) + off = (tgt : Int)) (kt : 0 < x → am_T g μ d ac as tgt lv st h Q) (kf : ¬ 0 < x → am_T g μ d ac as (pc + 3) lv st h Q) : am_T g μ d ac as pc lv (am_I x :: st) h Q :=
  fun R mc ms p e s m args below meth c H locs cells slots ls hR hX hh hS hl h1 h2 => lv_if_gt hX.1 hX.2.1 hd ht (fun q => kt q R mc ms p e s m args below meth c H locs cells slots ls hR hX hh hS hl h1 h2) (fun q => kf q R mc ms p e s m args below meth c H locs cells slots ls hR hX hh hS hl h1 h2)
theorem am_icmp_gt {g : am_G} {μ : am_M} {d ac as pc : Nat} {lv : List (Option am_V)} {st : List am_V} {h : am_H} {Q : Option am_V → am_H → Prop} {x y : Int32} {off : Int} {tgt : Nat} (hd : decode μ.2.1 pc = .ok (.if_icmp .gt off, 3)) (ht : (pc : Int) + off = (tgt : Int)) (kt : y < x → am_T g μ d ac as tgt lv st h Q) (kf : ¬ y < x → am_T g μ d ac as (pc + 3) lv st h Q) : am_T g μ d ac as pc lv (am_I y :: am_I x :: st) h Q :=
  fun R mc ms p e s m args below meth c H locs cells slots ls hR hX hh hS hl h1 h2 => lv_icmp_gt hX.1 hX.2.1 hd ht (fun q => kt q R mc ms p e s m args below meth c H locs cells slots ls hR hX hh hS hl h1 h2) (fun q => kf q R mc ms p e s m args below meth c H locs cells slots ls hR hX hh hS hl h1 h2)
theorem am_if_le {g : am_G} {μ : am_M} {d ac as pc : Nat} {lv : List (Option am_V)} {st : List am_V} {h : am_H} {Q : Option am_V → am_H → Prop} {x : Int32} {off : Int} {tgt : Nat} (hd : decode μ.2.1 pc = .ok (.ifCond .le off, 3)) (ht : (pc : Int) + off = (tgt : Int)) (kt : x ≤ 0 → am_T g μ d ac as tgt lv st h Q) (kf : ¬ x ≤ 0 → am_T g μ d ac as (pc + 3) lv st h Q) : am_T g μ d ac as pc lv (am_I x :: st) h Q :=
  fun R mc ms p e s m args below meth c H locs cells slots ls hR hX hh hS hl h1 h2 => lv_if_le hX.1 hX.2.1 hd ht (fun q => kt q R mc ms p e s m args below meth c H locs cells slots ls hR hX hh hS hl h1 h2) (fun q => kf q R mc ms p e s m args below meth c H locs cells slots ls hR hX hh hS hl h1 h2)
theorem am_icmp_le {g : am_G} {μ : am_M} {d ac as pc : Nat} {lv : List (Option am_V)} {st : List am_V} {h : am_H} {Q : Option am_V → am_H → Prop} {x y : Int32} {off : Int} {tgt : Nat} (hd : decode μ.2.1 pc = .ok (.if_icmp .le off, 3)) (ht : (pc : Int) + off = (tgt : Int)) (kt : x ≤ y → am_T g μ d ac as tgt lv st h Q) (kf : ¬ x ≤ y → am_T g μ d ac as (pc + 3) lv st h Q) : am_T g μ d ac as pc lv (am_I y :: am_I x :: st) h Q :=
  fun R mc ms p e s m args below meth c H locs cells slots ls hR hX hh hS hl h1 h2 => lv_icmp_le hX.1 hX.2.1 hd ht (fun q => kt q R mc ms p e s m args below meth c H locs cells slots ls hR hX hh hS hl h1 h2) (fun q => kf q R mc ms p e s m args below meth c H locs cells slots ls hR hX hh hS hl h1 h2)
theorem am_goto {g : am_G} {μ : am_M} {d ac as pc : Nat} {lv : List (Option am_V)} {st : List am_V} {h : am_H} {Q : Option am_V → am_H → Prop} {off : Int} {tgt : Nat} (hd : decode μ.2.1 pc = .ok (.goto off, 3)) (ht : (pc : Int) + off = (tgt : Int)) (k : am_T g μ d ac as tgt lv st h Q) : am_T g μ d ac as pc lv st h Q :=
  fun R mc ms p e s m args below meth c H locs cells slots ls hR hX hh hS hl h1 h2 => lv_goto hX.1 hX.2.1 hd ht (k R mc ms p e s m args below meth c H locs cells slots ls hR hX hh hS hl h1 h2)
theorem am_lookup {g : am_G} {μ : am_M} {d ac as pc : Nat} {lv : List (Option am_V)} {st : List am_V} {h : am_H} {Q : Option am_V → am_H → Prop} {dflt : Int} {ps : Array (Int × Int)} {len : Nat} {x : Int32} {off : Int} {tgt : Nat} (hd : decode μ.2.1 pc = .ok (.lookupswitch dflt ps, len)) (hp : (ps.toList.zip (ps.toList.drop 1)).all (fun (a, next) => a.1 < next.1) = true) (ho : Op.lookupswitch.offset ps.toList dflt x.toInt = off) (ht : (pc : Int) + off = (tgt : Int)) (k : am_T g μ d ac as tgt lv st h Q) : am_T g μ d ac as pc lv (am_I x :: st) h Q :=
  fun R mc ms p e s m args below meth c H locs cells slots ls hR hX hh hS hl h1 h2 => lv_lookup hX.1 hX.2.1 hd hp ho ht (k R mc ms p e s m args below meth c H locs cells slots ls hR hX hh hS hl h1 h2)
theorem am_tableOut {g : am_G} {μ : am_M} {d ac as pc : Nat} {lv : List (Option am_V)} {st : List am_V} {h : am_H} {Q : Option am_V → am_H → Prop} {dflt lo hi : Int} {offs : Array Int} {len : Nat} {x : Int32} {tgt : Nat} (hd : decode μ.2.1 pc = .ok (.tableswitch dflt lo hi offs, len)) (ho : x.toInt < lo ∨ hi < x.toInt) (ht : (pc : Int) + dflt = (tgt : Int)) (k : am_T g μ d ac as tgt lv st h Q) : am_T g μ d ac as pc lv (am_I x :: st) h Q :=
  fun R mc ms p e s m args below meth c H locs cells slots ls hR hX hh hS hl h1 h2 => lv_tableOut hX.1 hX.2.1 hd ho ht (k R mc ms p e s m args below meth c H locs cells slots ls hR hX hh hS hl h1 h2)
theorem am_tableIn {g : am_G} {μ : am_M} {d ac as pc : Nat} {lv : List (Option am_V)} {st : List am_V} {h : am_H} {Q : Option am_V → am_H → Prop} {dflt lo hi : Int} {offs : Array Int} {len : Nat} {x : Int32} {off : Int} {tgt : Nat} (hd : decode μ.2.1 pc = .ok (.tableswitch dflt lo hi offs, len)) (hlo : ¬ x.toInt < lo) (hhi : ¬ hi < x.toInt) (ho : offs[(x.toInt - lo).toNat]? = some off) (ht : (pc : Int) + off = (tgt : Int)) (k : am_T g μ d ac as tgt lv st h Q) : am_T g μ d ac as pc lv (am_I x :: st) h Q :=
  fun R mc ms p e s m args below meth c H locs cells slots ls hR hX hh hS hl h1 h2 => lv_tableIn hX.1 hX.2.1 hd hlo hhi ho ht (k R mc ms p e s m args below meth c H locs cells slots ls hR hX hh hS hl h1 h2)
/-! ===== rows: constants ===== -/
theorem am_ldc {g : am_G} {μ : am_M} {d ac as pc : Nat} {lv : List (Option am_V)} {st : List am_V} {h : am_H} {Q : Option am_V → am_H → Prop} {idx : Nat} {v : Int32} (hd : decode μ.2.1 pc = .ok (.ldc idx, 2)) (hw : Cond.constant μ.1.cls idx v ∈ am_TW) (k : am_T g μ d ac as (pc + 2) lv (am_I v :: st) h Q) : am_T g μ d ac as pc lv st h Q :=
  fun R mc ms p e s m args below meth c H locs cells slots ls hR hX hh hS hl h1 h2 => lv_ldc hX.1 hX.2.1 hX.2.2.1 (hX.2.2.2.1 _ hw) hd (k R mc ms p e s m args below meth c H locs cells slots ls hR hX hh hS hl h1 h2)
theorem am_ldc2 {g : am_G} {μ : am_M} {d ac as pc : Nat} {lv : List (Option am_V)} {st : List am_V} {h : am_H} {Q : Option am_V → am_H → Prop} {idx : Nat} {v : Int64} (hd : decode μ.2.1 pc = .ok (.ldc2_w idx, 3)) (hw : Cond.constantLong μ.1.cls idx v ∈ am_TW) (k : am_T g μ d ac as (pc + 3) lv (am_J v :: st) h Q) : am_T g μ d ac as pc lv st h Q :=
  fun R mc ms p e s m args below meth c H locs cells slots ls hR hX hh hS hl h1 h2 => lv_ldc2 hX.1 hX.2.1 hX.2.2.1 (hX.2.2.2.1 _ hw) hd (k R mc ms p e s m args below meth c H locs cells slots ls hR hX hh hS hl h1 h2)
/-! ===== rows: returns ===== -/
theorem am_iret {g : am_G} {μ : am_M} {d ac as pc : Nat} {lv : List (Option am_V)} {st : List am_V} {h : am_H} {Q : Option am_V → am_H → Prop} {v : Int32} {ty : FieldType} (hr : μ.2.2.2 = some ty) (hn : narrow ty (.int v) = .int v) (hd : decode μ.2.1 pc = .ok (.ireturn, 1)) (hq : Q (some (am_I v)) h) : am_T g μ d ac as pc lv [am_I v] h Q :=
  fun R mc ms p e s m args below meth c H locs cells slots ls hR hX hh hS hl h1 h2 => W.widen (k := mc) (n := ms) (by omega) (by omega) (W.zret hX.1 hX.2.1 (hX.2.2.2.2.2.2.2.1.trans hr) hn (fun t ht hW => ⟨⟨(some (am_I v)), h, rfl, hq, by rw [ht]; exact hh⟩, hS.F ht⟩) hS.2.2 hd (hlocks := hX.2.2.2.2.2.2.2.2.1))
theorem am_lret {g : am_G} {μ : am_M} {d ac as pc : Nat} {lv : List (Option am_V)} {st : List am_V} {h : am_H} {Q : Option am_V → am_H → Prop} {v : Int64} (hr : μ.2.2.2 = some .long) (hd : decode μ.2.1 pc = .ok (.lreturn, 1)) (hq : Q (some (am_J v)) h) : am_T g μ d ac as pc lv [am_J v] h Q :=
  fun R mc ms p e s m args below meth c H locs cells slots ls hR hX hh hS hl h1 h2 => W.widen (k := mc) (n := ms) (by omega) (by omega) (W.lret hX.1 hX.2.1 (hX.2.2.2.2.2.2.2.1.trans hr) (fun t ht hW => ⟨⟨(some (am_J v)), h, rfl, hq, by rw [ht]; exact hh⟩, hS.F ht⟩) hS.2.2 hd (hlocks := hX.2.2.2.2.2.2.2.2.1))
theorem am_vret {g : am_G} {μ : am_M} {d ac as pc : Nat} {lv : List (Option am_V)} {st : List am_V} {h : am_H} {Q : Option am_V → am_H → Prop} (hr : μ.2.2.2 = none) (hd : decode μ.2.1 pc = .ok (.return_, 1)) (hq : Q none h) : am_T g μ d ac as pc lv [] h Q :=
  fun R mc ms p e s m args below meth c H locs cells slots ls hR hX hh hS hl h1 h2 => W.widen (k := mc) (n := ms) (by omega) (by omega) (W.vret hX.1 hX.2.1 (hX.2.2.2.2.2.2.2.1.trans hr) (fun t ht hW => ⟨⟨none, h, rfl, hq, by rw [ht]; exact hh⟩, hS.F ht⟩) hS.2.2 hd (hlocks := hX.2.2.2.2.2.2.2.2.1))
theorem am_aret {g : am_G} {μ : am_M} {d ac as pc : Nat} {lv : List (Option am_V)} {st : List am_V} {h : am_H} {Q : Option am_V → am_H → Prop} {r j : Nat} {ty : FieldType} (hr : μ.2.2.2 = some ty) (hn : (∃ n, ty = .object n) ∨ ∃ t, ty = .array t) (hd : decode μ.2.1 pc = .ok (.areturn, 1)) (hq : Q (some (am_O r j)) h) : am_T g μ d ac as pc lv [am_O r j] h Q :=
  fun R mc ms p e s m args below meth c H locs cells slots ls hR hX hh hS hl h1 h2 => W.widen (k := mc) (n := ms) (by omega) (by omega) (W.aret hX.1 hX.2.1 (hX.2.2.2.2.2.2.2.1.trans hr) hn (Or.inr ⟨_, rfl⟩) (fun t ht hW => ⟨⟨(some (am_O r j)), h, rfl, hq, by rw [ht]; exact hh⟩, hS.F ht⟩) hS.2.2 hd (hlocks := hX.2.2.2.2.2.2.2.2.1))
/-! ===== the heap: reading and writing ===== -/
def am_up (h : am_H) (r i k : Nat) (v : am_V) : am_H := (h.1, h.2.1, fun r' i' k' => if r' = r ∧ i' = i ∧ k' = k then v else h.2.2 r' i' k')
theorem am_up_row (h : am_H) (r i k : Nat) (v : am_V) (j : Nat) : (am_up h r i k v).2.2 r i j = if j = k then v else h.2.2 r i j := by
  by_cases hj : j = k <;> simp [am_up, hj]
theorem am_up_off (h : am_H) (r i k : Nat) (v : am_V) {r' i' : Nat} (hn : ¬ (r' = r ∧ i' = i)) : (am_up h r i k v).2.2 r' i' = h.2.2 r' i' := by
  funext j
  show (if r' = r ∧ i' = i ∧ j = k then v else h.2.2 r' i' j) = _
  rw [if_neg (fun q => hn ⟨q.1, q.2.1⟩)]
theorem am_at.kept {g : am_G} {kn : am_E} {m : Nat → am_V} {a : Nat} {H H1 : Heap} (h : am_at g kn m a H) (hq : H1[a]? = H[a]?) : am_at g kn m a H1 := by
  obtain ⟨k, n⟩ := kn
  cases k with
  | inl ci =>
    obtain ⟨q, h1, h2, h3⟩ := h
    exact ⟨q, h1, h2, h3.kept hq⟩
  | inr ty => exact hq.trans h
theorem am_at.lt {g : am_G} {kn : am_E} {m : Nat → am_V} {a : Nat} {H : Heap} (h : am_at g kn m a H) : a < H.size := by
  obtain ⟨k, n⟩ := kn
  cases k with
  | inl ci =>
    obtain ⟨q, h1, h2, cell, h3, -⟩ := h
    exact (Array.getElem?_eq_some_iff.mp h3).1
  | inr ty => exact (Array.getElem?_eq_some_iff.mp h).1
theorem am_R.set {g : am_G} {h : am_H} {H H1 : Heap} {r i k : Nat} {kn : am_E} {v : am_V} (hR : am_R g h H) (hk : h.2.1 r i = some kn) (hz : H1.size = H.size) (ho : ∀ q : Nat, q ≠ am_ad g r i → H1[q]? = H[q]?)
    (ha : am_at g kn ((am_up h r i k v).2.2 r i) (am_ad g r i) H1) : am_R g (am_up h r i k v) H1 := by
  obtain ⟨h1, h2, h3, h4, h5⟩ := hR
  have hge := (h4 r i kn hk).1
  refine ⟨by rw [hz]; exact h1, h2, by rw [ho _ (by omega)]; exact h3, fun r' i' kn' hk' => ?_, h5⟩
  have hk'' : h.2.1 r' i' = some kn' := hk'
  obtain ⟨g1, g2⟩ := h4 r' i' kn' hk''
  refine ⟨g1, ?_⟩
  by_cases he : r' = r ∧ i' = i
  · obtain ⟨rfl, rfl⟩ := he
    cases hk.symm.trans hk''
    exact ha
  · rw [am_up_off _ _ _ _ _ he]
    exact g2.kept (ho _ (fun q => he (h5 _ _ _ _ _ _ hk'' hk q)))
/-- a field by the pool: of the class itself, or of a nest mate -/
def am_FL (own : String) (idx ci k : Nat) : Prop := ∃ q : vw_C, am_cl[ci]? = some q ∧ k < q.2.2 ∧ (Cond.fieldLink own idx (q.2.1 k).1 (q.2.1 k).2.1 (q.2.1 k).2.2.1 ∈ am_TW ∨ ∃ host : String, (own, idx, (q.2.1 k).1, (q.2.1 k).2.1, (q.2.1 k).2.2.1, host) ∈ am_NF)
def am_fin (ci k : Nat) : Bool := match am_cl[ci]? with
  | some q => (q.2.1 k).2.2.2
  | none => true
def am_vok (ty : FieldType) (v : am_V) : Prop := ∀ g : am_G, narrow ty (am_c g v) = am_c g v ∧ fits ty (am_c g v) = true
theorem am_getf {g : am_G} {μ : am_M} {d ac as pc : Nat} {lv : List (Option am_V)} {st : List am_V} {h : am_H} {Q : Option am_V → am_H → Prop} {r i idx ci k n : Nat} {v : am_V} (hd : decode μ.2.1 pc = .ok (.getfield idx, 3)) (hf : am_FL μ.1.cls idx ci k) (hk : h.2.1 r i = some (.inl ci, n)) (hv : h.2.2 r i k = v) (kk : am_T g μ d ac as (pc + 3) lv (v :: st) h Q) : am_T g μ d ac as pc lv (am_O r i :: st) h Q := by
  intro R mc ms p e s m args below meth c H locs cells slots ls hR hX hh hS hl h1 h2
  obtain ⟨q, hq, hkn, hlk⟩ := hf
  obtain ⟨-, q', hq', -, cell, q1, q2, q3, q4⟩ := hh.2.2.2.1 r i _ hk
  cases hq.symm.trans hq'
  obtain ⟨hSl, hfc, kC, hkC, hkind⟩ := hX.2.2.2.2.1.1.1 ci _ hq
  obtain ⟨cf, kf, fi, f, hi, hsl⟩ := hSl k hkn
  have hst := (u_facts hfc hkC (u_lays hX.2.2.2.1 (am_cl_in hq) hkn) hi).1
  have hval : cell.slots[f.slot]? = some (am_c g v) := by
    rw [hsl, q4 k hkn]
    show some (am_c g (h.2.2 r i k)) = _
    rw [hv]
  rcases hlk with hw | ⟨host, hw⟩
  · exact W.getf hX.1 hX.2.1 hX.2.2.1 (hX.2.2.2.1 _ hw) hi hst q1 (by rw [q3]; exact fun z => by cases z) hval rfl rfl hd (kk R mc ms p e s m args below meth c H locs cells slots ls hR hX hh hS hl h1 h2)
  · exact va_Wgetf hX.1 hX.2.1 hX.2.2.1 (va_Nw.use rfl (hX.2.2.2.2.1.2.2.1 _ hw)) hi hst q1 (by rw [q3]; exact fun z => by cases z) hval rfl rfl hd (kk R mc ms p e s m args below meth c H locs cells slots ls hR hX hh hS hl h1 h2)
theorem am_putf {g : am_G} {μ : am_M} {d ac as pc : Nat} {lv : List (Option am_V)} {st : List am_V} {h : am_H} {Q : Option am_V → am_H → Prop} {r i idx ci k n : Nat} {v : am_V} (hd : decode μ.2.1 pc = .ok (.putfield idx, 3)) (hf : am_FL μ.1.cls idx ci k) (hk : h.2.1 r i = some (.inl ci, n)) (hfin : am_fin ci k = false) (hvk : am_vok (am_ty ci k) v) (kk : am_T g μ d ac as (pc + 3) lv st (am_up h r i k v) Q) : am_T g μ d ac as pc lv (v :: am_O r i :: st) h Q := by
  intro R mc ms p e s m args below meth c H locs cells slots ls hR hX hh hS hl h1 h2
  obtain ⟨q, hq, hkn, hlk⟩ := hf
  have hh0 := hh.2.2.2.1 r i _ hk
  obtain ⟨hge, q', hq', hn, cell, q1, q2, q3, q4⟩ := hh0
  cases hq.symm.trans hq'
  obtain ⟨hSl, hfc, kC, hkC, hkind⟩ := hX.2.2.2.2.1.1.1 ci _ hq
  obtain ⟨cf, kf, fi, f, hi, hsl⟩ := hSl k hkn
  have hst := (u_facts hfc hkC (u_lays hX.2.2.2.1 (am_cl_in hq) hkn) hi).1
  have hap := va_apart (own := μ.1.cls) hX.2.2.2.1 (am_cl_in hq) (am_ty ci) (am_cl_ty hq) (am_cl_nm hq) hX.2.2.2.2.1.1 hq
  have hlay := hX.2.2.2.1 _ (am_cl_in hq _ (u_in_lay hkn))
  unfold u_lay at hlay
  have hfin' : (q.2.1 k).2.2.2 = false := by simpa only [am_fin, hq] using hfin
  rw [if_neg (by rw [hfin']; decide)] at hlay
  have h6 := u_store hfc hkC hkind hlay hi (am_cl_ty hq k hkn) (hvk g).1 (hvk g).2
  have fin : ∀ H' : Heap, H'[am_ad g r i]? = some (cell.setSlot f.slot (am_c g v)) → H'.size = H.size → (∀ z, z ≠ am_ad g r i → H'[z]? = H[z]?) → W p (gm_l g) e R s m args below meth c H' (locs ++ [⟨am_ad g r i, f.slot⟩]) cells slots (MQ below (am_Qc g Q) args s mc ms (am_A g)) (F0 m (pc + 3) ls (st.map (am_c g))) := by
    intro H' e1 e2 e3
    rw [hsl] at e1
    have hh := hh.set (k := k) (v := v) hk e2 e3 ⟨q, hq, hn, t_OB.to (V := updV (fun j => am_c g (h.2.2 r i j)) k (am_c g v)) ⟨_, e1, q2, q3, t_set q4 hap hkn (am_c g v)⟩ (fun j _ => by
      rw [am_up_row]
      by_cases hj : j = k <;> simp [updV, hj])⟩
    have hS := hS.put (k := f.slot) e2 e3 hge
    exact kk R mc ms p e s m args below meth c H' (locs ++ [⟨am_ad g r i, f.slot⟩]) cells slots ls hR hX hh hS hl h1 h2
  rcases hlk with hw | ⟨host, hw⟩
  · exact W.putK hX.1 hX.2.1 (f := f) ⟨hX.2.2.1, hX.2.2.2.1 _ hw, ⟨_, _, _, hi⟩, hst⟩ (by rw [q2]; exact h6) q1 q3 (by rw [hsl]; exact k2_hasslot (q4 k hkn)) rfl rfl hd fin
  · exact va_WputK hX.1 hX.2.1 (f := f) hX.2.2.1 (va_Nw.use rfl (hX.2.2.2.2.1.2.2.1 _ hw)) hi hst (by rw [q2]; exact h6) q1 q3 (by rw [hsl]; exact k2_hasslot (q4 k hkn)) rfl rfl hd fin
theorem am_putF {g : am_G} {μ : am_M} {d ac as pc : Nat} {lv : List (Option am_V)} {st : List am_V} {h : am_H} {Q : Option am_V → am_H → Prop} {r i idx ci k n : Nat} {v : am_V} (hd : decode μ.2.1 pc = .ok (.putfield idx, 3)) (hf : ∃ q : vw_C, am_cl[ci]? = some q ∧ k < q.2.2 ∧ Cond.fieldLink μ.1.cls idx (q.2.1 k).1 (q.2.1 k).2.1 (q.2.1 k).2.2.1 ∈ am_TW ∧ (q.2.1 k).2.2.2 = true ∧ (q.2.1 k).1 = μ.1.cls) (hini : μ.1.name = "<init>") (hk : h.2.1 r i = some (.inl ci, n)) (hvk : am_vok (am_ty ci k) v) (kk : am_T g μ d ac as (pc + 3) lv st (am_up h r i k v) Q) : am_T g μ d ac as pc lv (v :: am_O r i :: st) h Q := by
  intro R mc ms p e s m args below meth c H locs cells slots ls hR hX hh hS hl h1 h2
  obtain ⟨q, hq, hkn, hw, hfin, hdecl⟩ := hf
  have hh0 := hh.2.2.2.1 r i _ hk
  obtain ⟨hge, q', hq', hn, cell, q1, q2, q3, q4⟩ := hh0
  cases hq.symm.trans hq'
  obtain ⟨hSl, hfc, kC, hkC, hkind⟩ := hX.2.2.2.2.1.1.1 ci _ hq
  obtain ⟨cf, kf, fi, f, hi, hsl⟩ := hSl k hkn
  have hst := (u_facts hfc hkC (u_lays hX.2.2.2.1 (am_cl_in hq) hkn) hi).1
  have hap := va_apart (own := μ.1.cls) hX.2.2.2.1 (am_cl_in hq) (am_ty ci) (am_cl_ty hq) (am_cl_nm hq) hX.2.2.2.2.1.1 hq
  have hlay := hX.2.2.2.1 _ (am_cl_in hq _ (u_in_lay hkn))
  unfold u_lay at hlay
  rw [if_pos hfin] at hlay
  have hcf : m.cls = cf := by
    obtain ⟨_, _, c', _, _, _, -, -, hf', -, -, -, hown2, -⟩ := Cond.laysFinal_spec hlay
    have e1 : c' = cf := by have := hi.symm.trans hf'; simp at this; exact this.1.symm
    rw [hdecl] at hown2
    rw [← e1]; exact Option.some.inj (hX.2.2.1.symm.trans hown2)
  have h6 := u_fits hfc hkC hkind (Or.inr hlay) hi (am_cl_ty hq k hkn) (hvk g).1 (hvk g).2
  refine W.putFinK hX.1 hX.2.1 hX.2.2.1 (hX.2.2.2.1 _ hw) hi hst hcf (hX.2.2.2.2.2.2.2.2.2 hini) (by rw [q2]; exact h6) q1 q3 (by rw [hsl]; exact k2_hasslot (q4 k hkn)) rfl rfl hd fun H' e1 e2 e3 => ?_
  rw [hsl] at e1
  have hh := hh.set (k := k) (v := v) hk e2 e3 ⟨q, hq, hn, t_OB.to (V := updV (fun j => am_c g (h.2.2 r i j)) k (am_c g v)) ⟨_, e1, q2, q3, t_set q4 hap hkn (am_c g v)⟩ (fun j _ => by
    rw [am_up_row]
    by_cases hj : j = k <;> simp [updV, hj])⟩
  have hS := hS.put (k := f.slot) e2 e3 hge
  exact kk R mc ms p e s m args below meth c H' (locs ++ [⟨am_ad g r i, f.slot⟩]) cells slots ls hR hX hh hS hl h1 h2
theorem am_inx {x : Int32} {j n : Nat} (hx : x = nI j) (hj : j < n) (hn : n < 2 ^ 31) : ¬ (x < 0 ∨ n ≤ x.toNatClampNeg) ∧ x.toNatClampNeg = j := by
  subst hx
  exact ⟨nI_in hj hn, nI_clamp (by omega)⟩
theorem am_iald {g : am_G} {μ : am_M} {d ac as pc : Nat} {lv : List (Option am_V)} {st : List am_V} {h : am_H} {Q : Option am_V → am_H → Prop} {r i j n : Nat} {x : Int32} {v : am_V} (hd : decode μ.2.1 pc = .ok (.iaload, 1)) (hk : h.2.1 r i = some (.inr .int, n)) (hx : x = nI j) (hj : j < n) (hn : n < 2 ^ 31) (hty : .int ∈ am_tys) (hv : h.2.2 r i j = v) (kk : am_T g μ d ac as (pc + 1) lv (v :: st) h Q) : am_T g μ d ac as pc lv (am_I x :: am_O r i :: st) h Q := by
  intro R mc ms p e s m args below meth c H locs cells slots ls hR hX hh hS hl h1 h2
  obtain ⟨-, hc⟩ := hh.2.2.2.1 r i _ hk
  obtain ⟨i1, i2⟩ := am_inx hx hj hn
  exact W.iald (v := am_c g v) hX.1 hX.2.1 hc ((hX.2.2.2.2.1.2.1 _ hty).1 n _) (fun z => by cases z) (by rw [arrV_size]; exact i1) (by rw [i2, arrV_read _ _ hj, hv]) rfl rfl hd (kk R mc ms p e s m args below meth c H locs cells slots ls hR hX hh hS hl h1 h2)
theorem am_zald {g : am_G} {μ : am_M} {d ac as pc : Nat} {lv : List (Option am_V)} {st : List am_V} {h : am_H} {Q : Option am_V → am_H → Prop} {r i j n : Nat} {x : Int32} {v : am_V} (hd : decode μ.2.1 pc = .ok (.baload, 1)) (hk : h.2.1 r i = some (.inr .boolean, n)) (hx : x = nI j) (hj : j < n) (hn : n < 2 ^ 31) (hty : .boolean ∈ am_tys) (hv : h.2.2 r i j = v) (kk : am_T g μ d ac as (pc + 1) lv (v :: st) h Q) : am_T g μ d ac as pc lv (am_I x :: am_O r i :: st) h Q := by
  intro R mc ms p e s m args below meth c H locs cells slots ls hR hX hh hS hl h1 h2
  obtain ⟨-, hc⟩ := hh.2.2.2.1 r i _ hk
  obtain ⟨i1, i2⟩ := am_inx hx hj hn
  exact W.zald (v := am_c g v) hX.1 hX.2.1 hc ((hX.2.2.2.2.1.2.1 _ hty).1 n _) (fun z => by cases z) (by rw [arrV_size]; exact i1) (by rw [i2, arrV_read _ _ hj, hv]) rfl rfl hd (kk R mc ms p e s m args below meth c H locs cells slots ls hR hX hh hS hl h1 h2)
theorem am_lald {g : am_G} {μ : am_M} {d ac as pc : Nat} {lv : List (Option am_V)} {st : List am_V} {h : am_H} {Q : Option am_V → am_H → Prop} {r i j n : Nat} {x : Int32} {v : am_V} (hd : decode μ.2.1 pc = .ok (.laload, 1)) (hk : h.2.1 r i = some (.inr .long, n)) (hx : x = nI j) (hj : j < n) (hn : n < 2 ^ 31) (hty : .long ∈ am_tys) (hv : h.2.2 r i j = v) (kk : am_T g μ d ac as (pc + 1) lv (v :: st) h Q) : am_T g μ d ac as pc lv (am_I x :: am_O r i :: st) h Q := by
  intro R mc ms p e s m args below meth c H locs cells slots ls hR hX hh hS hl h1 h2
  obtain ⟨-, hc⟩ := hh.2.2.2.1 r i _ hk
  obtain ⟨i1, i2⟩ := am_inx hx hj hn
  exact W.lald (v := am_c g v) hX.1 hX.2.1 hc ((hX.2.2.2.2.1.2.1 _ hty).1 n _) (fun z => by cases z) (by rw [arrV_size]; exact i1) (by rw [i2, arrV_read _ _ hj, hv]) rfl rfl hd (kk R mc ms p e s m args below meth c H locs cells slots ls hR hX hh hS hl h1 h2)
theorem am_aald {g : am_G} {μ : am_M} {d ac as pc : Nat} {lv : List (Option am_V)} {st : List am_V} {h : am_H} {Q : Option am_V → am_H → Prop} {r i j n : Nat} {x : Int32} {v : am_V} {ty : FieldType} (hd : decode μ.2.1 pc = .ok (.aaload, 1)) (hk : h.2.1 r i = some (.inr ty, n)) (hx : x = nI j) (hj : j < n) (hn : n < 2 ^ 31) (hty : ty ∈ am_tys) (href : ty.isReference = true) (hv : h.2.2 r i j = v) (kk : am_T g μ d ac as (pc + 1) lv (v :: st) h Q) : am_T g μ d ac as pc lv (am_I x :: am_O r i :: st) h Q := by
  intro R mc ms p e s m args below meth c H locs cells slots ls hR hX hh hS hl h1 h2
  obtain ⟨-, hc⟩ := hh.2.2.2.1 r i _ hk
  obtain ⟨i1, i2⟩ := am_inx hx hj hn
  exact W.aald (v := am_c g v) (ty := ty) hX.1 hX.2.1 hc ((hX.2.2.2.2.1.2.1 _ hty).1 n _) href (fun z => by cases z) (by rw [arrV_size]; exact i1) (by rw [i2, arrV_read _ _ hj, hv]) rfl rfl hd (kk R mc ms p e s m args below meth c H locs cells slots ls hR hX hh hS hl h1 h2)
theorem am_alen {g : am_G} {μ : am_M} {d ac as pc : Nat} {lv : List (Option am_V)} {st : List am_V} {h : am_H} {Q : Option am_V → am_H → Prop} {r i n : Nat} {ty : FieldType} (hd : decode μ.2.1 pc = .ok (.arraylength, 1)) (hk : h.2.1 r i = some (.inr ty, n)) (hty : ty ∈ am_tys) (kk : am_T g μ d ac as (pc + 1) lv (am_I (nI n) :: st) h Q) : am_T g μ d ac as pc lv (am_O r i :: st) h Q := by
  intro R mc ms p e s m args below meth c H locs cells slots ls hR hX hh hS hl h1 h2
  obtain ⟨-, hc⟩ := hh.2.2.2.1 r i _ hk
  exact W.alen (n := nI n) (ty := ty) hX.1 hX.2.1 hc ((hX.2.2.2.2.1.2.1 _ hty).1 n _) (by rw [arrV_size]; rfl) rfl rfl hd (kk R mc ms p e s m args below meth c H locs cells slots ls hR hX hh hS hl h1 h2)
theorem am_sld {g : am_G} {μ : am_M} {d ac as pc : Nat} {lv : List (Option am_V)} {st : List am_V} {h : am_H} {Q : Option am_V → am_H → Prop} {j L : Nat} {x y : Int32} (hd : decode μ.2.1 pc = .ok (.iaload, 1)) (hL : (gm_s g).slots.size = L) (hx : x = nI j) (hj : j < L) (hn : L < 2 ^ 31) (hv : (gm_s g).slots[j]? = some (.int y)) (kk : am_T g μ d ac as (pc + 1) lv (am_I y :: st) h Q) : am_T g μ d ac as pc lv (am_I x :: am_O 100 0 :: st) h Q := by
  intro R mc ms p e s m args below meth c H locs cells slots ls hR hX hh hS hl h1 h2
  obtain ⟨i1, i2⟩ := am_inx hx hj hn
  exact W.iald (v := .int y) hX.1 hX.2.1 hh.2.2.1 hX.2.2.2.2.1.2.2.2.2.2.1 hX.2.2.2.2.1.2.2.2.2.2.2 (by rw [hL]; exact i1) (by rw [i2]; exact hv) rfl rfl hd (kk R mc ms p e s m args below meth c H locs cells slots ls hR hX hh hS hl h1 h2)
theorem am_slen {g : am_G} {μ : am_M} {d ac as pc : Nat} {lv : List (Option am_V)} {st : List am_V} {h : am_H} {Q : Option am_V → am_H → Prop} {L : Nat} (hd : decode μ.2.1 pc = .ok (.arraylength, 1)) (hL : (gm_s g).slots.size = L) (kk : am_T g μ d ac as (pc + 1) lv (am_I (nI L) :: st) h Q) : am_T g μ d ac as pc lv (am_O 100 0 :: st) h Q := by
  intro R mc ms p e s m args below meth c H locs cells slots ls hR hX hh hS hl h1 h2
  exact W.alen (n := nI L) (ty := .int) hX.1 hX.2.1 hh.2.2.1 hX.2.2.2.2.1.2.2.2.2.2.1 (by rw [hL]; rfl) rfl rfl hd (kk R mc ms p e s m args below meth c H locs cells slots ls hR hX hh hS hl h1 h2)
theorem am_iast {g : am_G} {μ : am_M} {d ac as pc : Nat} {lv : List (Option am_V)} {st : List am_V} {h : am_H} {Q : Option am_V → am_H → Prop} {r i j n : Nat} {x : Int32} {y : Int32} (hd : decode μ.2.1 pc = .ok (.iastore, 1)) (hk : h.2.1 r i = some (.inr .int, n)) (hx : x = nI j) (hj : j < n) (hn : n < 2 ^ 31) (hty : .int ∈ am_tys) (kk : am_T g μ d ac as (pc + 1) lv st (am_up h r i j (am_I y)) Q) : am_T g μ d ac as pc lv (am_I y :: am_I x :: am_O r i :: st) h Q := by
  intro R mc ms p e s m args below meth c H locs cells slots ls hR hX hh hS hl h1 h2
  obtain ⟨hge, hc⟩ := hh.2.2.2.1 r i _ hk
  obtain ⟨i1, i2⟩ := am_inx hx hj hn
  refine W.iast hX.1 hX.2.1 hc ((hX.2.2.2.2.1.2.1 _ hty).1 n _) (fun z => by cases z) (by rw [arrV_size]; exact i1) rfl rfl hd fun H' e1 e2 e3 => ?_
  rw [i2, arrV_store] at e1
  have hh := hh.set (k := j) (v := am_I y) hk e2 e3 (by
    show H'[am_ad g r i]? = _
    rw [e1]
    congr 2
    funext z
    rw [am_up_row]
    by_cases hz : z = j <;> simp [updV, hz, am_c])
  have hS := hS.put (k := x.toNatClampNeg) e2 e3 hge
  exact kk R mc ms p e s m args below meth c H' _ cells slots ls hR hX hh hS hl h1 h2
theorem am_zast {g : am_G} {μ : am_M} {d ac as pc : Nat} {lv : List (Option am_V)} {st : List am_V} {h : am_H} {Q : Option am_V → am_H → Prop} {r i j n : Nat} {x : Int32} {y : Int32} (hd : decode μ.2.1 pc = .ok (.bastore, 1)) (hk : h.2.1 r i = some (.inr .boolean, n)) (hx : x = nI j) (hj : j < n) (hn : n < 2 ^ 31) (hty : .boolean ∈ am_tys) (hnr : narrow .boolean (.int y) = .int y) (kk : am_T g μ d ac as (pc + 1) lv st (am_up h r i j (am_I y)) Q) : am_T g μ d ac as pc lv (am_I y :: am_I x :: am_O r i :: st) h Q := by
  intro R mc ms p e s m args below meth c H locs cells slots ls hR hX hh hS hl h1 h2
  obtain ⟨hge, hc⟩ := hh.2.2.2.1 r i _ hk
  obtain ⟨i1, i2⟩ := am_inx hx hj hn
  refine W.zast hX.1 hX.2.1 hc ((hX.2.2.2.2.1.2.1 _ hty).1 n _) (fun z => by cases z) (by rw [arrV_size]; exact i1) rfl rfl hd fun H' e1 e2 e3 => ?_
  rw [hnr] at e1; rw [i2, arrV_store] at e1
  have hh := hh.set (k := j) (v := am_I y) hk e2 e3 (by
    show H'[am_ad g r i]? = _
    rw [e1]
    congr 2
    funext z
    rw [am_up_row]
    by_cases hz : z = j <;> simp [updV, hz, am_c])
  have hS := hS.put (k := x.toNatClampNeg) e2 e3 hge
  exact kk R mc ms p e s m args below meth c H' _ cells slots ls hR hX hh hS hl h1 h2
theorem am_last {g : am_G} {μ : am_M} {d ac as pc : Nat} {lv : List (Option am_V)} {st : List am_V} {h : am_H} {Q : Option am_V → am_H → Prop} {r i j n : Nat} {x : Int32} {y : Int64} (hd : decode μ.2.1 pc = .ok (.lastore, 1)) (hk : h.2.1 r i = some (.inr .long, n)) (hx : x = nI j) (hj : j < n) (hn : n < 2 ^ 31) (hty : .long ∈ am_tys) (kk : am_T g μ d ac as (pc + 1) lv st (am_up h r i j (am_J y)) Q) : am_T g μ d ac as pc lv (am_J y :: am_I x :: am_O r i :: st) h Q := by
  intro R mc ms p e s m args below meth c H locs cells slots ls hR hX hh hS hl h1 h2
  obtain ⟨hge, hc⟩ := hh.2.2.2.1 r i _ hk
  obtain ⟨i1, i2⟩ := am_inx hx hj hn
  refine W.last hX.1 hX.2.1 hc ((hX.2.2.2.2.1.2.1 _ hty).1 n _) (fun z => by cases z) (by rw [arrV_size]; exact i1) rfl rfl hd fun H' e1 e2 e3 => ?_
  rw [i2, arrV_store] at e1
  have hh := hh.set (k := j) (v := am_J y) hk e2 e3 (by
    show H'[am_ad g r i]? = _
    rw [e1]
    congr 2
    funext z
    rw [am_up_row]
    by_cases hz : z = j <;> simp [updV, hz, am_c])
  have hS := hS.put (k := x.toNatClampNeg) e2 e3 hge
  exact kk R mc ms p e s m args below meth c H' _ cells slots ls hR hX hh hS hl h1 h2
theorem am_aast {g : am_G} {μ : am_M} {d ac as pc : Nat} {lv : List (Option am_V)} {st : List am_V} {h : am_H} {Q : Option am_V → am_H → Prop} {r i j n r' i' ci n' : Nat} {x : Int32} {q : vw_C} (hd : decode μ.2.1 pc = .ok (.aastore, 1)) (hk : h.2.1 r i = some (.inr (.object q.1), n)) (hx : x = nI j) (hj : j < n) (hn : n < 2 ^ 31) (hty : .object q.1 ∈ am_tys) (hk' : h.2.1 r' i' = some (.inl ci, n')) (hq : am_cl[ci]? = some q) (kk : am_T g μ d ac as (pc + 1) lv st (am_up h r i j (am_O r' i')) Q) : am_T g μ d ac as pc lv (am_O r' i' :: am_I x :: am_O r i :: st) h Q := by
  intro R mc ms p e s m args below meth c H locs cells slots ls hR hX hh hS hl h1 h2
  obtain ⟨hge, hc⟩ := hh.2.2.2.1 r i _ hk
  obtain ⟨-, q', hq', -, cellV, g1, g2, g3, -⟩ := hh.2.2.2.1 r' i' _ hk'
  cases hq.symm.trans hq'
  obtain ⟨i1, i2⟩ := am_inx hx hj hn
  have hcls := (hX.2.2.2.2.1.1.1 ci _ hq).2
  obtain ⟨kA, comp, k1, k2, k3, -⟩ := (hX.2.2.2.2.1.2.1 _ hty).2
  have hcomp : comp = (gm_D g).1 ci := Option.some.inj (k3.symm.trans hcls.1)
  subst hcomp
  obtain ⟨kC, hkC, -⟩ := hcls.2
  refine W.aast hX.1 hX.2.1 hc (fun z hz => by cases hz) (fun z => by cases z) k1 k2 rfl hkC ⟨fun z => i1 (Or.inl z), by rw [arrV_size]; exact Nat.not_le.mp fun z => i1 (Or.inr z)⟩ g1 (fun z hz => by rw [g3] at hz; cases hz) (by rw [g2]; exact hkC) (by rw [g2]; exact va_assign hcls) rfl rfl hd fun H' e1 e2 e3 => ?_
  rw [i2, arrV_store] at e1
  have hh := hh.set (k := j) (v := am_O r' i') hk e2 e3 (by
    show H'[am_ad g r i]? = _
    rw [e1]
    congr 2
    funext z
    rw [am_up_row]
    by_cases hz : z = j <;> simp [updV, hz, am_c])
  have hS := hS.put (k := x.toNatClampNeg) e2 e3 hge
  exact kk R mc ms p e s m args below meth c H' _ cells slots ls hR hX hh hS hl h1 h2
/-! ===== the heap: new cells ===== -/
def am_nw (h : am_H) (r i : Nat) (kn : am_E) (z : Nat → am_V) : am_H := (h.1 + 1, (fun r' i' => if r' = r ∧ i' = i then some kn else h.2.1 r' i'), fun r' i' => if r' = r ∧ i' = i then z else h.2.2 r' i')
theorem am_R.new {g : am_G} {h : am_H} {H H1 : Heap} {r i : Nat} {kn : am_E} {z : Nat → am_V} (hR : am_R g h H) (hf : h.2.1 r i = none) (hr : r ≠ 100) (hp : am_pos r i = h.1) (hz : H1.size = H.size + 1) (ho : ∀ q : Nat, q < H.size → H1[q]? = H[q]?)
    (ha : am_at g kn z (am_ad g r i) H1) : am_R g (am_nw h r i kn z) H1 := by
  obtain ⟨h1, h2, h3, h4, h5⟩ := hR
  have had : am_ad g r i = H.size := by unfold am_ad; rw [if_neg hr, hp, h1]
  refine ⟨by rw [hz, h1]; rfl, h2, by rw [ho _ (by omega)]; exact h3, fun r' i' kn' hk' => ?_, fun a b a' b' x y hx hy hab => ?_⟩
  · by_cases he : r' = r ∧ i' = i
    · obtain ⟨rfl, rfl⟩ := he
      have e1 : (am_nw h r' i' kn z).2.1 r' i' = some kn := if_pos ⟨rfl, rfl⟩
      cases e1.symm.trans hk'
      refine ⟨by rw [had]; omega, ?_⟩
      show am_at g kn (if r' = r' ∧ i' = i' then z else h.2.2 r' i') _ _
      rw [if_pos ⟨rfl, rfl⟩]
      exact ha
    · have e1 : (am_nw h r i kn z).2.1 r' i' = h.2.1 r' i' := if_neg he
      obtain ⟨g1, g2⟩ := h4 r' i' kn' (e1.symm.trans hk')
      refine ⟨g1, ?_⟩
      show am_at g kn' (if r' = r ∧ i' = i then z else h.2.2 r' i') _ _
      rw [if_neg he]
      exact g2.kept (ho _ g2.lt)
  · have old : ∀ (a b : Nat) (x : am_E), ¬ (a = r ∧ b = i) → (am_nw h r i kn z).2.1 a b = some x → h.2.1 a b = some x := fun a b x hn hx => (if_neg hn : (am_nw h r i kn z).2.1 a b = h.2.1 a b).symm.trans hx
    by_cases ea : a = r ∧ b = i <;> by_cases eb : a' = r ∧ b' = i
    · exact ⟨ea.1.trans eb.1.symm, ea.2.trans eb.2.symm⟩
    · have := (h4 a' b' y (old _ _ _ eb hy)).2.lt
      rw [← hab, ea.1, ea.2, had] at this
      omega
    · have := (h4 a b x (old _ _ _ ea hx)).2.lt
      rw [hab, eb.1, eb.2, had] at this
      omega
    · exact h5 a b a' b' x y (old _ _ _ ea hx) (old _ _ _ eb hy) hab
theorem am_S.new {g : am_G} {H0 H H1 : Heap} {locs : List Loc} (hS : va_S (am_A g) H0 H locs) (hz : H1.size = H.size + 1) (ho : ∀ q : Nat, q < H.size → H1[q]? = H[q]?) : va_S (am_A g) H0 H1 locs :=
  ⟨Nat.le_trans hS.1 (by omega), fun x q1 q2 => (ho x (Nat.lt_of_lt_of_le q1 hS.1)).trans (hS.2.1 x q1 q2), hS.2.2⟩
def am_df (ty : FieldType) : am_V := match ty with
  | .object _ => am_N
  | .array _ => am_N
  | .long => am_J 0
  | _ => am_I 0
def am_small (ty : FieldType) : Prop := ∀ g : am_G, am_c g (am_df ty) = defaultValue ty
theorem am_new {g : am_G} {μ : am_M} {d ac as pc : Nat} {lv : List (Option am_V)} {st : List am_V} {h : am_H} {Q : Option am_V → am_H → Prop} {idx ci : Nat} {q : vw_C} (r i : Nat) (hd : decode μ.2.1 pc = .ok (.new idx, 3)) (hq : am_cl[ci]? = some q) (hcl : Cond.classLink μ.1.cls idx q.1 ∈ am_TW) (hin : Cond.instantiable q.1 q.2.2 ∈ am_TW) (hini : Cond.initialized q.1 ∈ am_TW) (hsm : ∀ k, k < q.2.2 → am_small (am_ty ci k)) (hf : h.2.1 r i = none) (hr : r ≠ 100) (hp : am_pos r i = h.1)
    (kk : am_T g μ d ac as (pc + 3) lv (am_O r i :: st) (am_nw h r i (.inl ci, q.2.2) (fun k => am_df (am_ty ci k))) Q) : am_T g μ d (ac + 1) (as + q.2.2) pc lv st h Q := by
  intro R mc ms p e s m args below meth c H locs cells slots ls hR hX hh hS hl h1 h2
  have hKn := hX.2.2.2.2.1.1.1 ci _ hq
  have had : H.size = am_ad g r i := by unfold am_ad; rw [if_neg hr, hp, hh.1]
  refine W.newcK hX.1 hX.2.1 hX.2.2.1 (hX.2.2.2.1 _ hcl) (hX.2.2.2.1 _ hin) (hX.2.2.2.1 _ hini) rfl hd (by omega) (by omega) hKn.2.1 rfl fun H1 kC hkC e1 z1 o1 => ?_
  have hob := u_born (am_ty ci) hX.2.2.2.1 (am_cl_in hq) hKn hkC e1 (am_cl_ty hq)
  have hh := hh.new (kn := (.inl ci, q.2.2)) (z := fun k => am_df (am_ty ci k)) hf hr hp z1 o1 ⟨q, hq, rfl, by rw [← had]; exact hob.to (fun k hk => (hsm k hk g).symm)⟩
  have hS := am_S.new hS z1 o1
  have := kk R mc ms p e s m args below meth c H1 locs (cells + 1) (slots + q.2.2) ls hR hX hh hS hl (by omega) (by omega)
  rw [show (am_O r i :: st).map (am_c g) = .ref H.size :: st.map (am_c g) by rw [had]; rfl] at this
  exact this
theorem am_newa {g : am_G} {μ : am_M} {d ac as pc : Nat} {lv : List (Option am_V)} {st : List am_V} {h : am_H} {Q : Option am_V → am_H → Prop} {N : Nat} {x : Int32} {at_ : ArrayType} {ty : FieldType} (r i : Nat) (hd : decode μ.2.1 pc = .ok (.newarray at_, 2)) (hat : newarray.typeOf at_ = ty) (hw : Cond.arrayClass ty ∈ am_TW) (hty : ty ∈ am_tys) (hRA : ∀ U : State, va_RA U (gm_A g ty) ty → U.vm.findClass ("[" ++ ty.toString) = some (gm_A g ty)) (hsm : am_small ty) (hx : x = nI N) (hb : N * componentBytes ty ≤ 536870912) (hN : N < 2 ^ 31) (hf : h.2.1 r i = none) (hr : r ≠ 100) (hp : am_pos r i = h.1)
    (kk : am_T g μ d ac as (pc + 2) lv (am_O r i :: st) (am_nw h r i (.inr ty, N) (fun _ => am_df ty)) Q) : am_T g μ d (ac + 1) (as + N) pc lv (am_I x :: st) h Q := by
  intro R mc ms p e s m args below meth c H locs cells slots ls hR hX hh hS hl h1 h2
  subst hat
  have had : H.size = am_ad g r i := by unfold am_ad; rw [if_neg hr, hp, hh.1]
  refine va_newaK (N := N) hX.1 hX.2.1 (hX.2.2.2.1 _ hw) rfl hd rfl (by rw [hx]; exact nI_pos hN) (by rw [hx]; exact nI_clamp hN) hb (by omega) (by omega) rfl fun H1 cA e1 z1 o1 hAr hNm => ?_
  have hcA : cA = gm_A g (newarray.typeOf at_) := Option.some.inj (hNm.symm.trans (hRA s (hX.2.2.2.2.1.2.1 _ hty).2))
  have hh := hh.new (kn := (.inr (newarray.typeOf at_), N)) (z := fun _ => am_df (newarray.typeOf at_)) hf hr hp z1 o1 (by
    show H1[am_ad g r i]? = _
    rw [← had, e1, hcA]
    show some (arrV _ N (fun _ => defaultValue _)) = some (arrV _ N (fun _ => am_c g (am_df _)))
    rw [hsm g])
  have hS := am_S.new hS z1 o1
  have := kk R mc ms p e s m args below meth c H1 locs (cells + 1) (slots + N) ls hR hX hh hS hl (by omega) (by omega)
  rw [show (am_O r i :: st).map (am_c g) = .ref H.size :: st.map (am_c g) by rw [had]; rfl] at this
  exact this
theorem am_anew {g : am_G} {μ : am_M} {d ac as pc : Nat} {lv : List (Option am_V)} {st : List am_V} {h : am_H} {Q : Option am_V → am_H → Prop} {N idx : Nat} {x : Int32} {C : String} (r i : Nat) (hd : decode μ.2.1 pc = .ok (.anewarray idx, 3)) (hcl : Cond.classLink μ.1.cls idx C ∈ am_TW) (hao : C ∈ am_AO) (hty : .object C ∈ am_tys) (hx : x = nI N) (hb : N * 4 ≤ 536870912) (hN : N < 2 ^ 31) (hf : h.2.1 r i = none) (hr : r ≠ 100) (hp : am_pos r i = h.1)
    (kk : am_T g μ d ac as (pc + 3) lv (am_O r i :: st) (am_nw h r i (.inr (.object C), N) (fun _ => am_N)) Q) : am_T g μ d (ac + 1) (as + N) pc lv (am_I x :: st) h Q := by
  intro R mc ms p e s m args below meth c H locs cells slots ls hR hX hh hS hl h1 h2
  have had : H.size = am_ad g r i := by unfold am_ad; rw [if_neg hr, hp, hh.1]
  have hcl0 : x.toNatClampNeg = N := by rw [hx]; exact nI_clamp hN
  refine W.anew hX.1 hX.2.1 hX.2.2.1 (hX.2.2.2.1 _ hcl) (va_AO.use (hX.2.2.2.2.1.2.2.2.2.1 _ hao)) rfl hd rfl (by rw [hx]; exact nI_pos hN) (by rw [hcl0]; exact hb) (by omega) (by rw [hcl0]; omega) fun cA kA comp f1 f2 f3 f4 => ?_
  rw [hcl0]
  obtain ⟨_, _, -, -, -, f5⟩ := (hX.2.2.2.2.1.2.1 _ hty).2
  have hcA : cA = gm_A g (.object C) := Option.some.inj (f1.symm.trans f5)
  generalize hH1 : H.push ({ cls := cA, slots := Array.replicate N .null, vm := .none } : Cell) = H1
  have z1 : H1.size = H.size + 1 := by rw [← hH1, Array.size_push]
  have e1 : H1[H.size]? = some (arrV cA N (fun _ => .null)) := by rw [← hH1, Array.getElem?_push_size, ← arrV_new]
  have o1 : ∀ q : Nat, q < H.size → H1[q]? = H[q]? := fun q hq => by rw [← hH1, Array.getElem?_push, if_neg (Nat.ne_of_lt hq)]
  have hh := hh.new (kn := (.inr (.object C), N)) (z := fun _ => am_N) hf hr hp z1 o1 (by
    show H1[am_ad g r i]? = _
    rw [← had, e1, hcA]
    rfl)
  have hS := am_S.new hS z1 o1
  have := kk R mc ms p e s m args below meth c H1 locs (cells + 1) (slots + N) ls hR hX hh hS hl (by omega) (by omega)
  rw [show (am_O r i :: st).map (am_c g) = .ref H.size :: st.map (am_c g) by rw [had]; rfl] at this
  exact this
/-! ===== calls ===== -/
def am_Ok (μ : am_M) (n : Nat) : Prop := am_cond μ ∈ am_TW ∧ Cond.initialized μ.1.cls ∈ am_TW ∧ μ.1.cls ≠ "java/lang/invoke/MethodHandle" ∧ μ.1.cls ≠ "java/lang/invoke/VarHandle" ∧ (parseMethodDescriptor μ.1.desc).map (fun d => d.parameters.length) = some n ∧ μ.2.2.1 ≤ 27
def am_LV (own : String) (idx : Nat) (μ : am_M) (n : Nat) : Prop := am_Ok μ n ∧ (Cond.methodLink own idx μ.1 ∈ am_TW ∨ ∃ host : String, (own, idx, μ.1, host) ∈ am_NM) ∧ Cond.instanceMethod μ.1 ∈ am_TW ∧ Cond.selects μ.1.cls μ.1 μ.1 ∈ am_TW
def am_LS (own : String) (idx : Nat) (μ : am_M) (n : Nat) : Prop := am_Ok μ n ∧ (Cond.methodLink own idx μ.1 ∈ am_TW ∨ ∃ host : String, (own, idx, μ.1, host) ∈ am_NM) ∧ Cond.static μ.1 ∈ am_TW
def am_LI (own : String) (idx : Nat) (μ : am_M) (n : Nat) : Prop := am_Ok μ n ∧ (Cond.methodLink own idx μ.1 ∈ am_TW ∨ ∃ host : String, (own, idx, μ.1, host) ∈ am_NM) ∧ Cond.instanceMethod μ.1 ∈ am_TW ∧ μ.1.name = "<init>" ∧ μ.2.2.2 = none
theorem am_goodTW {μ : am_M} {n : Nat} (h : am_Ok μ n) : GoodIn am_TW (am_ws μ) := fun w hw => by
  rcases List.mem_cons.mp hw with rfl | hw
  · exact ⟨h.1, am_TW_ok _ h.1⟩
  · exact ⟨hw, am_TW_ok _ hw⟩
theorem am_CB {g : am_G} {μ μ' : am_M} {p : Program} {s : State} {m : MethodId} {args : Array Value} {meth : Method} {c : Code} {R : Room} {d mc ms n idx : Nat} (hX : am_X g μ p s m args meth c) (ho : am_Ok μ' n) (hR : d + 1 ≤ R.frames ∧ 46 * (d + 1) ≤ R.locals) (hl : Cond.methodLink μ.1.cls idx μ'.1 ∈ am_TW) :
    CallB R s args μ.1.cls idx μ'.1 μ'.2.1 μ'.2.2.1 μ'.2.2.2 (am_ws μ') (am_rm d mc ms) mc ms n :=
  callB_of n hX.2.2.2.1 (am_goodTW ho) rfl rfl rfl (hX.2.2.2.1 _ ho.2.1) (hX.2.2.2.1 _ hl) ⟨ho.2.2.1, ho.2.2.2.1, ho.2.2.2.2.1⟩ ⟨hR.1, by have := ho.2.2.2.2.2; show 8 + (μ'.2.2.1 + 11) + 46 * d ≤ R.locals; omega⟩
theorem am_CN {g : am_G} {μ μ' : am_M} {p : Program} {s : State} {m : MethodId} {args : Array Value} {meth : Method} {c : Code} {R : Room} {d mc ms n idx : Nat} {host : String} (hX : am_X g μ p s m args meth c) (ho : am_Ok μ' n) (hR : d + 1 ≤ R.frames ∧ 46 * (d + 1) ≤ R.locals) (hl : (μ.1.cls, idx, μ'.1, host) ∈ am_NM) :
    va_CN R s args μ.1.cls idx μ'.1 host μ'.2.1 μ'.2.2.1 μ'.2.2.2 (am_ws μ') (am_rm d mc ms) mc ms n :=
  va_cnB n hX.2.2.2.1 (am_goodTW ho) rfl rfl rfl (hX.2.2.2.2.1.2.2.2.1 _ hl) (hX.2.2.2.1 _ ho.2.1) ⟨ho.2.2.1, ho.2.2.2.1, ho.2.2.2.2.1⟩ ⟨hR.1, by have := ho.2.2.2.2.2; show 8 + (μ'.2.2.1 + 11) + 46 * d ≤ R.locals; omega⟩
/-- behind a call -/
theorem am_back {g : am_G} {μ : am_M} {d ac as pc : Nat} {lv : List (Option am_V)} {rest : List am_V} {h : am_H} {Q : Option am_V → am_H → Prop} {R : Room} {mc ms mc' ms' : Nat} {p : Program} {e : Env} {s : State} {m : MethodId} {args : Array Value} {below : List Frame} {meth : Method} {c : Code} {H : Heap} {locs : List Loc} {cells slots : Nat} {ls : Array Slot} {st0 : List Value} {a : Array Value}
    (hR : d ≤ R.frames ∧ 46 * d ≤ R.locals ∧ mc ≤ R.cells ∧ ms ≤ R.slots) (hX : am_X g μ p s m args meth c) (hS : va_S (am_A g) s.heap H locs) (hl : am_Lv g ls μ.2.2.1 lv) (h1 : cells + mc' + ac ≤ mc) (h2 : slots + ms' + as ≤ ms)
    (hr : va_Run p (gm_l g) e R s m args below meth c H locs cells slots mc' ms' (F0 m pc ls st0) (rest.map (am_c g)) (am_Qc g (fun v h' => am_T g μ d ac as (pc + 3) lv (v.toList ++ rest) h' Q) a) (am_A g)) :
    W p (gm_l g) e R s m args below meth c H locs cells slots (MQ below (am_Qc g Q) args s mc ms (am_A g)) (F0 m pc ls st0) := by
  intro T hT X
  obtain ⟨v, st₀, t, T', L, h0, X', hL, e1, e2, ⟨⟨v', h', hv, hk, hh⟩, hz, hkp⟩, st⟩ := hr T hT X
  cases hv
  rw [h0] at hz hkp
  have hS' : va_S (am_A g) s.heap T'.heap (locs ++ L) := ⟨Nat.le_trans hS.1 (by rw [e1]; exact hz), fun q q1 q2 => by rw [e1, hkp q (Nat.lt_of_lt_of_le q1 hS.1) q2]; exact hS.2.1 q q1 q2, fun q hq => by
    rcases List.mem_append.mp hq with z | z
    · exact hS.2.2 q z
    · exact hL q z⟩
  have hh' : am_R g h' T'.heap := by rw [e1]; exact hh
  have hs : (v'.toList ++ rest).map (am_c g) = (v'.map (am_c g)).toList ++ rest.map (am_c g) := by cases v' <;> rfl
  have := hk R mc ms p e s m args below meth c T'.heap (locs ++ L) (cells + mc') (slots + ms') ls hR hX hh' hS' hl (by omega) (by omega)
  rw [hs] at this
  obtain ⟨t2, a1, b1⟩ := this T' rfl X'
  exact ⟨t2, st t2 a1, b1⟩
theorem am_callV {g : am_G} {μ μ' : am_M} {d ac as ac' as' mc' ms' pc n idx : Nat} {lv : List (Option am_V)} {st rest xs : List am_V} {h : am_H} {Q : Option am_V → am_H → Prop} {r i ci nn : Nat} {q : vw_C} (hd : decode μ.2.1 pc = .ok (.invokevirtual idx, 3)) (hlk : am_LV μ.1.cls idx μ' n) (hk : h.2.1 r i = some (.inl ci, nn)) (hq : am_cl[ci]? = some q) (hqc : q.1 = μ'.1.cls) (hn : xs.length = n) (hst : st = xs.reverse ++ am_O r i :: rest) (hw : (rest.map am_cat).sum ≤ 8) (hac : mc' + ac' = ac) (has : ms' + as' = as)
    (hC : am_C g μ' d mc' ms' (am_O r i :: xs) h (fun v h' => am_T g μ (d + 1) ac' as' (pc + 3) lv (v.toList ++ rest) h' Q)) : am_T g μ (d + 1) ac as pc lv st h Q := by
  intro R mc ms p e s m args below meth c H locs cells slots ls hR hX hh hS hl h1 h2
  subst hac; subst has; subst hst
  obtain ⟨ho, hl0, hin, hse⟩ := hlk
  obtain ⟨-, q', hq', -, cell, q1, q2, q3, q4⟩ := hh.2.2.2.1 r i _ hk
  cases hq.symm.trans hq'
  have hrec : ∃ cellB : Cell, H[am_ad g r i]? = some cellB ∧ cellB.vm.isStatics = false ∧ s.vm.findClass μ'.1.cls = some cellB.cls := ⟨cell, q1, by rw [q3]; rfl, by rw [q2, ← hqc]; exact (hX.2.2.2.2.1.1.1 ci _ hq).2.1⟩
  have hpre : PreV s H μ'.1.cls (am_ad g r i) (fun a U => a = ((am_O r i :: xs).map (am_c g)).toArray ∧ am_K g U ∧ am_R g h U.heap) (xs.map (am_c g)) := ⟨am_blind g _ h, hrec, fun U hU hW => ⟨rfl, am_K.moved hW hX.2.2.2.2.1, by rw [hU]; exact hh⟩⟩
  have hstk : (F0 m pc ls ((xs.reverse ++ am_O r i :: rest).map (am_c g))).stack = (xs.map (am_c g)).reverse ++ .ref (am_ad g r i) :: rest.map (am_c g) := by
    show (xs.reverse ++ am_O r i :: rest).map (am_c g) = _
    rw [List.map_append, List.map_reverse]
    rfl
  have hW : 2 * (F0 m pc ls ((xs.reverse ++ am_O r i :: rest).map (am_c g))).monitorRoom + ((rest.map (am_c g)).map fun v => v.category).sum ≤ 8 := by
    rw [am_cat_sum]
    show 2 * 0 + _ ≤ 8
    omega
  refine am_back (rest := rest) (mc' := mc') (ms' := ms') (ac := ac') (as := as') (h := h) (a := (Value.ref (am_ad g r i) :: xs.map (am_c g)).toArray) hR hX hS hl (by omega) (by omega) ?_
  rcases hl0 with hl0 | ⟨host, hl0⟩
  · exact va_runV (As := xs.map (am_c g)) (rest := rest.map (am_c g)) ⟨hX.1, hX.2.1, hX.2.2.2.2.2.2.1, hX.2.2.1, hX.2.2.2.1⟩ hC ⟨am_CB hX ho ⟨hR.1, hR.2.1⟩ hl0, hX.2.2.2.1 _ hin, hX.2.2.2.1 _ hse⟩ hpre rfl (by rw [List.length_map]; exact hn) hl.1 hstk hW hd ⟨by omega, by omega⟩
  · exact va_runVN (As := xs.map (am_c g)) (rest := rest.map (am_c g)) ⟨hX.1, hX.2.1, hX.2.2.2.2.2.2.1, hX.2.2.1, hX.2.2.2.1⟩ hC ⟨am_CN hX ho ⟨hR.1, hR.2.1⟩ hl0, hX.2.2.2.1 _ hin, hX.2.2.2.1 _ hse⟩ hpre rfl (by rw [List.length_map]; exact hn) hl.1 hstk hW hd ⟨by omega, by omega⟩
theorem am_callS {g : am_G} {μ μ' : am_M} {d ac as ac' as' mc' ms' pc n idx : Nat} {lv : List (Option am_V)} {st rest xs : List am_V} {h : am_H} {Q : Option am_V → am_H → Prop} (hd : decode μ.2.1 pc = .ok (.invokestatic idx, 3)) (hlk : am_LS μ.1.cls idx μ' n) (hn : xs.length = n) (hst : st = xs.reverse ++ rest) (hw : (rest.map am_cat).sum ≤ 8) (hac : mc' + ac' = ac) (has : ms' + as' = as)
    (hC : am_C g μ' d mc' ms' xs h (fun v h' => am_T g μ (d + 1) ac' as' (pc + 3) lv (v.toList ++ rest) h' Q)) : am_T g μ (d + 1) ac as pc lv st h Q := by
  intro R mc ms p e s m args below meth c H locs cells slots ls hR hX hh hS hl h1 h2
  subst hac; subst has; subst hst
  obtain ⟨ho, hl0, hsta⟩ := hlk
  have hpre : PreS s H (fun a U => a = (xs.map (am_c g)).toArray ∧ am_K g U ∧ am_R g h U.heap) (xs.map (am_c g)) := ⟨am_blind g _ h, fun U hU hW => ⟨rfl, am_K.moved hW hX.2.2.2.2.1, by rw [hU]; exact hh⟩⟩
  have hstk : (F0 m pc ls ((xs.reverse ++ rest).map (am_c g))).stack = (xs.map (am_c g)).reverse ++ rest.map (am_c g) := by
    show (xs.reverse ++ rest).map (am_c g) = _
    rw [List.map_append, List.map_reverse]
  have hW : 2 * (F0 m pc ls ((xs.reverse ++ rest).map (am_c g))).monitorRoom + ((rest.map (am_c g)).map fun v => v.category).sum ≤ 8 := by
    rw [am_cat_sum]
    show 2 * 0 + _ ≤ 8
    omega
  refine am_back (rest := rest) (mc' := mc') (ms' := ms') (ac := ac') (as := as') (h := h) (a := (xs.map (am_c g)).toArray) hR hX hS hl (by omega) (by omega) ?_
  rcases hl0 with hl0 | ⟨host, hl0⟩
  · exact va_runS (As := xs.map (am_c g)) (rest := rest.map (am_c g)) ⟨hX.1, hX.2.1, hX.2.2.2.2.2.2.1, hX.2.2.1, hX.2.2.2.1⟩ hC ⟨am_CB hX ho ⟨hR.1, hR.2.1⟩ hl0, hX.2.2.2.1 _ hsta⟩ hpre rfl (by rw [List.length_map]; exact hn) hl.1 hstk hW hd ⟨by omega, by omega⟩
  · exact va_runSN (As := xs.map (am_c g)) (rest := rest.map (am_c g)) ⟨hX.1, hX.2.1, hX.2.2.2.2.2.2.1, hX.2.2.1, hX.2.2.2.1⟩ hC ⟨am_CN hX ho ⟨hR.1, hR.2.1⟩ hl0, hX.2.2.2.1 _ hsta, trivial⟩ hpre rfl (by rw [List.length_map]; exact hn) hl.1 hstk hW hd ⟨by omega, by omega⟩
theorem am_callI {g : am_G} {μ μ' : am_M} {d ac as ac' as' mc' ms' pc n idx : Nat} {lv : List (Option am_V)} {st rest xs : List am_V} {h : am_H} {Q : Option am_V → am_H → Prop} {r i : Nat} (hd : decode μ.2.1 pc = .ok (.invokespecial idx, 3)) (hlk : am_LI μ.1.cls idx μ' n) (hn : xs.length = n) (hst : st = xs.reverse ++ am_O r i :: rest) (hw : (rest.map am_cat).sum ≤ 8) (hac : mc' + ac' = ac) (has : ms' + as' = as)
    (hC : am_C g μ' d mc' ms' (am_O r i :: xs) h (fun v h' => am_T g μ (d + 1) ac' as' (pc + 3) lv (v.toList ++ rest) h' Q)) : am_T g μ (d + 1) ac as pc lv st h Q := by
  intro R mc ms p e s m args below meth c H locs cells slots ls hR hX hh hS hl h1 h2
  subst hac; subst has; subst hst
  obtain ⟨ho, hl0, hin, hy, hrt⟩ := hlk
  have hpre : PreS s H (fun a U => a = ((am_O r i :: xs).map (am_c g)).toArray ∧ am_K g U ∧ am_R g h U.heap) (.ref (am_ad g r i) :: xs.map (am_c g)) := ⟨am_blind g _ h, fun U hU hW => ⟨rfl, am_K.moved hW hX.2.2.2.2.1, by rw [hU]; exact hh⟩⟩
  have hstk : (F0 m pc ls ((xs.reverse ++ am_O r i :: rest).map (am_c g))).stack = (xs.map (am_c g)).reverse ++ .ref (am_ad g r i) :: rest.map (am_c g) := by
    show (xs.reverse ++ am_O r i :: rest).map (am_c g) = _
    rw [List.map_append, List.map_reverse]
    rfl
  have hW : 2 * (F0 m pc ls ((xs.reverse ++ am_O r i :: rest).map (am_c g))).monitorRoom + ((rest.map (am_c g)).map fun v => v.category).sum ≤ 8 := by
    rw [am_cat_sum]
    show 2 * 0 + _ ≤ 8
    omega
  refine am_back (rest := rest) (mc' := mc') (ms' := ms') (ac := ac') (as := as') (h := h) (a := (Value.ref (am_ad g r i) :: xs.map (am_c g)).toArray) hR hX hS hl (by omega) (by omega) ?_
  obtain ⟨y, cc, ml, rt⟩ := μ'
  dsimp only at hrt
  subst hrt
  rcases hl0 with hl0 | ⟨host, hl0⟩
  · exact va_runI (As := xs.map (am_c g)) (rest := rest.map (am_c g)) ⟨hX.1, hX.2.1, hX.2.2.2.2.2.2.1, hX.2.2.1, hX.2.2.2.1⟩ hC ⟨am_CB (μ' := (y, cc, ml, none)) hX ho ⟨hR.1, hR.2.1⟩ hl0, hy, hX.2.2.2.1 _ hin⟩ hpre rfl (by rw [List.length_map]; exact hn) hl.1 hstk hW hd ⟨by omega, by omega⟩
  · exact va_runIN (As := xs.map (am_c g)) (rest := rest.map (am_c g)) ⟨hX.1, hX.2.1, hX.2.2.2.2.2.2.1, hX.2.2.1, hX.2.2.2.1⟩ hC ⟨am_CN (μ' := (y, cc, ml, none)) hX ho ⟨hR.1, hR.2.1⟩ hl0, hy, hX.2.2.2.1 _ hin⟩ hpre rfl (by rw [List.length_map]; exact hn) hl.1 hstk hW hd ⟨by omega, by omega⟩
theorem am_objInit {g : am_G} {μ : am_M} {d ac as pc : Nat} {lv : List (Option am_V)} {st : List am_V} {h : am_H} {Q : Option am_V → am_H → Prop} {r i idx : Nat} (hd : decode μ.2.1 pc = .ok (.invokespecial idx, 3)) (hlk : Cond.methodLink μ.1.cls idx objectInit ∈ am_TW) (hin : Cond.instanceMethod objectInit ∈ am_TW) (hcd : Cond.code objectInit ⟨#[0xb1]⟩ 1 none ∈ am_TW) (h0 : 1 ≤ d) (hw : (st.map am_cat).sum ≤ 8) (k : am_T g μ d ac as (pc + 3) lv st h Q) : am_T g μ d ac as pc lv (am_O r i :: st) h Q := by
  intro R mc ms p e s m args below meth c H locs cells slots ls hR hX hh hS hl h1 h2
  refine W.objInit hX.1 hX.2.1 hX.2.2.1 (hX.2.2.2.1 _ hlk) (hX.2.2.2.1 _ hin) (hX.2.2.2.1 _ hcd) rfl (by rw [hX.2.2.2.2.2.2.1]; exact hl.1) rfl hd (by omega) ?_ (k R mc ms p e s m args below meth c H locs cells slots ls hR hX hh hS hl h1 h2)
  show 2 * 0 + ((st.map (am_c g)).map fun v => v.category).sum + 12 ≤ R.locals
  rw [am_cat_sum]
  omega
theorem am_mmax {g : am_G} {μ : am_M} {d ac as pc : Nat} {lv : List (Option am_V)} {st : List am_V} {h : am_H} {Q : Option am_V → am_H → Prop} {idx : Nat} {x y : Int32} (hd : decode μ.2.1 pc = .ok (.invokestatic idx, 3)) (hlk : Cond.methodLink μ.1.cls idx Lib.Math.max.name ∈ am_TW) (hsta : Cond.static Lib.Math.max.name ∈ am_TW) (hini : Cond.initialized "java/lang/Math" ∈ am_TW) (hcd : Cond.code Lib.Math.max.name Lib.Math.max.code 2 (some .int) ∈ am_TW) (h0 : 1 ≤ d) (hw : (st.map am_cat).sum ≤ 8) (k : am_T g μ d ac as (pc + 3) lv (am_I (if x < y then y else x) :: st) h Q) : am_T g μ d ac as pc lv (am_I y :: am_I x :: st) h Q := by
  intro R mc ms p e s m args below meth c H locs cells slots ls hR hX hh hS hl h1 h2
  refine va_mmax hX.1 hX.2.1 (by rw [hX.2.2.2.2.2.2.1]; exact hl.1.symm) hX.2.2.1 (hX.2.2.2.1 _ hlk) (hX.2.2.2.1 _ hsta) (hX.2.2.2.1 _ hini) (hX.2.2.2.1 _ hcd) (by omega) ?_ (by omega) (by omega) hd (k R mc ms p e s m args below meth c H locs cells slots ls hR hX hh hS hl h1 h2)
  rw [am_cat_sum]
  omega
end
section
theorem flO_18 : am_FL nm_O 18 0 0 := ⟨_, rfl, by decide, Or.inl (am_mem 72 (by decide +kernel) (by decide +kernel))⟩
theorem flO_9 : am_FL nm_O 9 0 1 := ⟨_, rfl, by decide, Or.inl (am_mem 74 (by decide +kernel) (by decide +kernel))⟩
theorem flO_15 : am_FL nm_O 15 0 2 := ⟨_, rfl, by decide, Or.inl (am_mem 76 (by decide +kernel) (by decide +kernel))⟩
theorem flO_21 : am_FL nm_O 21 0 3 := ⟨_, rfl, by decide, Or.inl (am_mem 78 (by decide +kernel) (by decide +kernel))⟩
theorem flO_24 : am_FL nm_O 24 0 4 := ⟨_, rfl, by decide, Or.inl (am_mem 80 (by decide +kernel) (by decide +kernel))⟩
theorem flO_27 : am_FL nm_O 27 0 5 := ⟨_, rfl, by decide, Or.inl (am_mem 82 (by decide +kernel) (by decide +kernel))⟩
theorem flO_30 : am_FL nm_O 30 0 6 := ⟨_, rfl, by decide, Or.inl (am_mem 84 (by decide +kernel) (by decide +kernel))⟩
theorem flC_11 : am_FL nm_C 11 1 0 := ⟨_, rfl, by decide, Or.inl (am_mem 103 (by decide +kernel) (by decide +kernel))⟩
theorem ffC_11 : ∃ q : vw_C, am_cl[1]? = some q ∧ 0 < q.2.2 ∧ Cond.fieldLink nm_C 11 (q.2.1 0).1 (q.2.1 0).2.1 (q.2.1 0).2.2.1 ∈ am_TW ∧ (q.2.1 0).2.2.2 = true ∧ (q.2.1 0).1 = nm_C := ⟨_, rfl, by decide, am_mem 103 (by decide +kernel) (by decide +kernel), rfl, rfl⟩
theorem flC_15 : am_FL nm_C 15 1 1 := ⟨_, rfl, by decide, Or.inl (am_mem 104 (by decide +kernel) (by decide +kernel))⟩
theorem ffC_15 : ∃ q : vw_C, am_cl[1]? = some q ∧ 1 < q.2.2 ∧ Cond.fieldLink nm_C 15 (q.2.1 1).1 (q.2.1 1).2.1 (q.2.1 1).2.2.1 ∈ am_TW ∧ (q.2.1 1).2.2.2 = true ∧ (q.2.1 1).1 = nm_C := ⟨_, rfl, by decide, am_mem 104 (by decide +kernel) (by decide +kernel), rfl, rfl⟩
theorem flC_18 : am_FL nm_C 18 1 2 := ⟨_, rfl, by decide, Or.inl (am_mem 105 (by decide +kernel) (by decide +kernel))⟩
theorem ffC_18 : ∃ q : vw_C, am_cl[1]? = some q ∧ 2 < q.2.2 ∧ Cond.fieldLink nm_C 18 (q.2.1 2).1 (q.2.1 2).2.1 (q.2.1 2).2.2.1 ∈ am_TW ∧ (q.2.1 2).2.2.2 = true ∧ (q.2.1 2).1 = nm_C := ⟨_, rfl, by decide, am_mem 105 (by decide +kernel) (by decide +kernel), rfl, rfl⟩
theorem flC_22 : am_FL nm_C 22 1 3 := ⟨_, rfl, by decide, Or.inl (am_mem 106 (by decide +kernel) (by decide +kernel))⟩
theorem ffC_22 : ∃ q : vw_C, am_cl[1]? = some q ∧ 3 < q.2.2 ∧ Cond.fieldLink nm_C 22 (q.2.1 3).1 (q.2.1 3).2.1 (q.2.1 3).2.2.1 ∈ am_TW ∧ (q.2.1 3).2.2.2 = true ∧ (q.2.1 3).1 = nm_C := ⟨_, rfl, by decide, am_mem 106 (by decide +kernel) (by decide +kernel), rfl, rfl⟩
theorem flC_26 : am_FL nm_C 26 1 4 := ⟨_, rfl, by decide, Or.inl (am_mem 107 (by decide +kernel) (by decide +kernel))⟩
theorem ffC_26 : ∃ q : vw_C, am_cl[1]? = some q ∧ 4 < q.2.2 ∧ Cond.fieldLink nm_C 26 (q.2.1 4).1 (q.2.1 4).2.1 (q.2.1 4).2.2.1 ∈ am_TW ∧ (q.2.1 4).2.2.2 = true ∧ (q.2.1 4).1 = nm_C := ⟨_, rfl, by decide, am_mem 107 (by decide +kernel) (by decide +kernel), rfl, rfl⟩
theorem flC_31 : am_FL nm_C 31 1 5 := ⟨_, rfl, by decide, Or.inl (am_mem 108 (by decide +kernel) (by decide +kernel))⟩
theorem ffC_31 : ∃ q : vw_C, am_cl[1]? = some q ∧ 5 < q.2.2 ∧ Cond.fieldLink nm_C 31 (q.2.1 5).1 (q.2.1 5).2.1 (q.2.1 5).2.2.1 ∈ am_TW ∧ (q.2.1 5).2.2.2 = true ∧ (q.2.1 5).1 = nm_C := ⟨_, rfl, by decide, am_mem 108 (by decide +kernel) (by decide +kernel), rfl, rfl⟩
theorem flC_34 : am_FL nm_C 34 1 6 := ⟨_, rfl, by decide, Or.inl (am_mem 109 (by decide +kernel) (by decide +kernel))⟩
theorem ffC_34 : ∃ q : vw_C, am_cl[1]? = some q ∧ 6 < q.2.2 ∧ Cond.fieldLink nm_C 34 (q.2.1 6).1 (q.2.1 6).2.1 (q.2.1 6).2.2.1 ∈ am_TW ∧ (q.2.1 6).2.2.2 = true ∧ (q.2.1 6).1 = nm_C := ⟨_, rfl, by decide, am_mem 109 (by decide +kernel) (by decide +kernel), rfl, rfl⟩
theorem flC_37 : am_FL nm_C 37 1 7 := ⟨_, rfl, by decide, Or.inl (am_mem 110 (by decide +kernel) (by decide +kernel))⟩
theorem ffC_37 : ∃ q : vw_C, am_cl[1]? = some q ∧ 7 < q.2.2 ∧ Cond.fieldLink nm_C 37 (q.2.1 7).1 (q.2.1 7).2.1 (q.2.1 7).2.2.1 ∈ am_TW ∧ (q.2.1 7).2.2.2 = true ∧ (q.2.1 7).1 = nm_C := ⟨_, rfl, by decide, am_mem 110 (by decide +kernel) (by decide +kernel), rfl, rfl⟩
theorem flC_40 : am_FL nm_C 40 1 8 := ⟨_, rfl, by decide, Or.inl (am_mem 111 (by decide +kernel) (by decide +kernel))⟩
theorem flC_44 : am_FL nm_C 44 1 9 := ⟨_, rfl, by decide, Or.inl (am_mem 112 (by decide +kernel) (by decide +kernel))⟩
theorem flC_48 : am_FL nm_C 48 1 10 := ⟨_, rfl, by decide, Or.inl (am_mem 113 (by decide +kernel) (by decide +kernel))⟩
theorem flM_7 : am_FL nm_M 7 2 0 := ⟨_, rfl, by decide, Or.inl (am_mem 350 (by decide +kernel) (by decide +kernel))⟩
theorem ffM_7 : ∃ q : vw_C, am_cl[2]? = some q ∧ 0 < q.2.2 ∧ Cond.fieldLink nm_M 7 (q.2.1 0).1 (q.2.1 0).2.1 (q.2.1 0).2.2.1 ∈ am_TW ∧ (q.2.1 0).2.2.2 = true ∧ (q.2.1 0).1 = nm_M := ⟨_, rfl, by decide, am_mem 350 (by decide +kernel) (by decide +kernel), rfl, rfl⟩
theorem flM_13 : am_FL nm_M 13 2 1 := ⟨_, rfl, by decide, Or.inl (am_mem 351 (by decide +kernel) (by decide +kernel))⟩
theorem ffM_13 : ∃ q : vw_C, am_cl[2]? = some q ∧ 1 < q.2.2 ∧ Cond.fieldLink nm_M 13 (q.2.1 1).1 (q.2.1 1).2.1 (q.2.1 1).2.2.1 ∈ am_TW ∧ (q.2.1 1).2.2.2 = true ∧ (q.2.1 1).1 = nm_M := ⟨_, rfl, by decide, am_mem 351 (by decide +kernel) (by decide +kernel), rfl, rfl⟩
theorem flM_16 : am_FL nm_M 16 2 2 := ⟨_, rfl, by decide, Or.inl (am_mem 352 (by decide +kernel) (by decide +kernel))⟩
theorem ffM_16 : ∃ q : vw_C, am_cl[2]? = some q ∧ 2 < q.2.2 ∧ Cond.fieldLink nm_M 16 (q.2.1 2).1 (q.2.1 2).2.1 (q.2.1 2).2.2.1 ∈ am_TW ∧ (q.2.1 2).2.2.2 = true ∧ (q.2.1 2).1 = nm_M := ⟨_, rfl, by decide, am_mem 352 (by decide +kernel) (by decide +kernel), rfl, rfl⟩
theorem flM_19 : am_FL nm_M 19 2 3 := ⟨_, rfl, by decide, Or.inl (am_mem 353 (by decide +kernel) (by decide +kernel))⟩
theorem ffM_19 : ∃ q : vw_C, am_cl[2]? = some q ∧ 3 < q.2.2 ∧ Cond.fieldLink nm_M 19 (q.2.1 3).1 (q.2.1 3).2.1 (q.2.1 3).2.2.1 ∈ am_TW ∧ (q.2.1 3).2.2.2 = true ∧ (q.2.1 3).1 = nm_M := ⟨_, rfl, by decide, am_mem 353 (by decide +kernel) (by decide +kernel), rfl, rfl⟩
theorem flM_22 : am_FL nm_M 22 2 4 := ⟨_, rfl, by decide, Or.inl (am_mem 354 (by decide +kernel) (by decide +kernel))⟩
theorem ffM_22 : ∃ q : vw_C, am_cl[2]? = some q ∧ 4 < q.2.2 ∧ Cond.fieldLink nm_M 22 (q.2.1 4).1 (q.2.1 4).2.1 (q.2.1 4).2.2.1 ∈ am_TW ∧ (q.2.1 4).2.2.2 = true ∧ (q.2.1 4).1 = nm_M := ⟨_, rfl, by decide, am_mem 354 (by decide +kernel) (by decide +kernel), rfl, rfl⟩
theorem flM_25 : am_FL nm_M 25 2 5 := ⟨_, rfl, by decide, Or.inl (am_mem 355 (by decide +kernel) (by decide +kernel))⟩
theorem ffM_25 : ∃ q : vw_C, am_cl[2]? = some q ∧ 5 < q.2.2 ∧ Cond.fieldLink nm_M 25 (q.2.1 5).1 (q.2.1 5).2.1 (q.2.1 5).2.2.1 ∈ am_TW ∧ (q.2.1 5).2.2.2 = true ∧ (q.2.1 5).1 = nm_M := ⟨_, rfl, by decide, am_mem 355 (by decide +kernel) (by decide +kernel), rfl, rfl⟩
theorem flM_28 : am_FL nm_M 28 2 6 := ⟨_, rfl, by decide, Or.inl (am_mem 356 (by decide +kernel) (by decide +kernel))⟩
theorem ffM_28 : ∃ q : vw_C, am_cl[2]? = some q ∧ 6 < q.2.2 ∧ Cond.fieldLink nm_M 28 (q.2.1 6).1 (q.2.1 6).2.1 (q.2.1 6).2.2.1 ∈ am_TW ∧ (q.2.1 6).2.2.2 = true ∧ (q.2.1 6).1 = nm_M := ⟨_, rfl, by decide, am_mem 356 (by decide +kernel) (by decide +kernel), rfl, rfl⟩
theorem flM_31 : am_FL nm_M 31 2 7 := ⟨_, rfl, by decide, Or.inl (am_mem 357 (by decide +kernel) (by decide +kernel))⟩
theorem ffM_31 : ∃ q : vw_C, am_cl[2]? = some q ∧ 7 < q.2.2 ∧ Cond.fieldLink nm_M 31 (q.2.1 7).1 (q.2.1 7).2.1 (q.2.1 7).2.2.1 ∈ am_TW ∧ (q.2.1 7).2.2.2 = true ∧ (q.2.1 7).1 = nm_M := ⟨_, rfl, by decide, am_mem 357 (by decide +kernel) (by decide +kernel), rfl, rfl⟩
theorem flM_35 : am_FL nm_M 35 2 8 := ⟨_, rfl, by decide, Or.inl (am_mem 358 (by decide +kernel) (by decide +kernel))⟩
theorem ffM_35 : ∃ q : vw_C, am_cl[2]? = some q ∧ 8 < q.2.2 ∧ Cond.fieldLink nm_M 35 (q.2.1 8).1 (q.2.1 8).2.1 (q.2.1 8).2.2.1 ∈ am_TW ∧ (q.2.1 8).2.2.2 = true ∧ (q.2.1 8).1 = nm_M := ⟨_, rfl, by decide, am_mem 358 (by decide +kernel) (by decide +kernel), rfl, rfl⟩
theorem flM_38 : am_FL nm_M 38 2 9 := ⟨_, rfl, by decide, Or.inl (am_mem 359 (by decide +kernel) (by decide +kernel))⟩
theorem ffM_38 : ∃ q : vw_C, am_cl[2]? = some q ∧ 9 < q.2.2 ∧ Cond.fieldLink nm_M 38 (q.2.1 9).1 (q.2.1 9).2.1 (q.2.1 9).2.2.1 ∈ am_TW ∧ (q.2.1 9).2.2.2 = true ∧ (q.2.1 9).1 = nm_M := ⟨_, rfl, by decide, am_mem 359 (by decide +kernel) (by decide +kernel), rfl, rfl⟩
theorem flM_41 : am_FL nm_M 41 2 10 := ⟨_, rfl, by decide, Or.inl (am_mem 360 (by decide +kernel) (by decide +kernel))⟩
theorem ffM_41 : ∃ q : vw_C, am_cl[2]? = some q ∧ 10 < q.2.2 ∧ Cond.fieldLink nm_M 41 (q.2.1 10).1 (q.2.1 10).2.1 (q.2.1 10).2.2.1 ∈ am_TW ∧ (q.2.1 10).2.2.2 = true ∧ (q.2.1 10).1 = nm_M := ⟨_, rfl, by decide, am_mem 360 (by decide +kernel) (by decide +kernel), rfl, rfl⟩
theorem flM_44 : am_FL nm_M 44 2 11 := ⟨_, rfl, by decide, Or.inl (am_mem 361 (by decide +kernel) (by decide +kernel))⟩
theorem ffM_44 : ∃ q : vw_C, am_cl[2]? = some q ∧ 11 < q.2.2 ∧ Cond.fieldLink nm_M 44 (q.2.1 11).1 (q.2.1 11).2.1 (q.2.1 11).2.2.1 ∈ am_TW ∧ (q.2.1 11).2.2.2 = true ∧ (q.2.1 11).1 = nm_M := ⟨_, rfl, by decide, am_mem 361 (by decide +kernel) (by decide +kernel), rfl, rfl⟩
theorem flM_47 : am_FL nm_M 47 2 12 := ⟨_, rfl, by decide, Or.inl (am_mem 362 (by decide +kernel) (by decide +kernel))⟩
theorem ffM_47 : ∃ q : vw_C, am_cl[2]? = some q ∧ 12 < q.2.2 ∧ Cond.fieldLink nm_M 47 (q.2.1 12).1 (q.2.1 12).2.1 (q.2.1 12).2.2.1 ∈ am_TW ∧ (q.2.1 12).2.2.2 = true ∧ (q.2.1 12).1 = nm_M := ⟨_, rfl, by decide, am_mem 362 (by decide +kernel) (by decide +kernel), rfl, rfl⟩
theorem flM_50 : am_FL nm_M 50 2 13 := ⟨_, rfl, by decide, Or.inl (am_mem 363 (by decide +kernel) (by decide +kernel))⟩
theorem flM_54 : am_FL nm_M 54 2 14 := ⟨_, rfl, by decide, Or.inl (am_mem 364 (by decide +kernel) (by decide +kernel))⟩
theorem flC_129 : am_FL nm_C 129 0 0 := ⟨_, rfl, by decide, Or.inr ⟨"MatrixModule", by decide +kernel⟩⟩
theorem flC_83 : am_FL nm_C 83 0 1 := ⟨_, rfl, by decide, Or.inr ⟨"MatrixModule", by decide +kernel⟩⟩
theorem flC_89 : am_FL nm_C 89 0 2 := ⟨_, rfl, by decide, Or.inr ⟨"MatrixModule", by decide +kernel⟩⟩
theorem flC_132 : am_FL nm_C 132 0 3 := ⟨_, rfl, by decide, Or.inr ⟨"MatrixModule", by decide +kernel⟩⟩
theorem flC_135 : am_FL nm_C 135 0 4 := ⟨_, rfl, by decide, Or.inr ⟨"MatrixModule", by decide +kernel⟩⟩
theorem flC_138 : am_FL nm_C 138 0 5 := ⟨_, rfl, by decide, Or.inr ⟨"MatrixModule", by decide +kernel⟩⟩
theorem flC_141 : am_FL nm_C 141 0 6 := ⟨_, rfl, by decide, Or.inr ⟨"MatrixModule", by decide +kernel⟩⟩
theorem ok_mC_init : am_Ok mC_init 0 := ⟨(am_mem 59 (by decide +kernel) (by decide +kernel)), (am_mem 50 (by decide +kernel) (by decide +kernel)), by decide +kernel, by decide +kernel, by decide +kernel, by decide⟩
theorem lkL_9 : am_LI nm_L 9 mC_init 0 := ⟨ok_mC_init, Or.inl (am_mem 57 (by decide +kernel) (by decide +kernel)), (am_mem 58 (by decide +kernel) (by decide +kernel)), rfl, rfl⟩
theorem obC_1 : Cond.methodLink nm_C 1 objectInit ∈ am_TW := (am_mem 60 (by decide +kernel) (by decide +kernel))
theorem obO_3 : Cond.methodLink nm_O 3 objectInit ∈ am_TW := (am_mem 71 (by decide +kernel) (by decide +kernel))
theorem ok_mC_source : am_Ok mC_source 4 := ⟨(am_mem 140 (by decide +kernel) (by decide +kernel)), (am_mem 50 (by decide +kernel) (by decide +kernel)), by decide +kernel, by decide +kernel, by decide +kernel, by decide⟩
theorem lkL_13 : am_LV nm_L 13 mC_source 4 := ⟨ok_mC_source, Or.inl (am_mem 137 (by decide +kernel) (by decide +kernel)), (am_mem 138 (by decide +kernel) (by decide +kernel)), (am_mem 139 (by decide +kernel) (by decide +kernel))⟩
theorem ok_mC_isShape : am_Ok mC_isShape 2 := ⟨(am_mem 143 (by decide +kernel) (by decide +kernel)), (am_mem 50 (by decide +kernel) (by decide +kernel)), by decide +kernel, by decide +kernel, by decide +kernel, by decide⟩
theorem lkC_52 : am_LS nm_C 52 mC_isShape 2 := ⟨ok_mC_isShape, Or.inl (am_mem 141 (by decide +kernel) (by decide +kernel)), (am_mem 142 (by decide +kernel) (by decide +kernel))⟩
theorem ok_mC_isSourceNumber : am_Ok mC_isSourceNumber 2 := ⟨(am_mem 146 (by decide +kernel) (by decide +kernel)), (am_mem 50 (by decide +kernel) (by decide +kernel)), by decide +kernel, by decide +kernel, by decide +kernel, by decide⟩
theorem lkC_56 : am_LS nm_C 56 mC_isSourceNumber 2 := ⟨ok_mC_isSourceNumber, Or.inl (am_mem 144 (by decide +kernel) (by decide +kernel)), (am_mem 145 (by decide +kernel) (by decide +kernel))⟩
theorem ok_mC_addWithShape : am_Ok mC_addWithShape 2 := ⟨(am_mem 154 (by decide +kernel) (by decide +kernel)), (am_mem 50 (by decide +kernel) (by decide +kernel)), by decide +kernel, by decide +kernel, by decide +kernel, by decide⟩
theorem lkC_63 : am_LV nm_C 63 mC_addWithShape 2 := ⟨ok_mC_addWithShape, Or.inl (am_mem 151 (by decide +kernel) (by decide +kernel)), (am_mem 153 (by decide +kernel) (by decide +kernel)), (am_mem 1 (by decide +kernel) (by decide +kernel))⟩
theorem ok_mC_undoSimplifying : am_Ok mC_undoSimplifying 0 := ⟨(am_mem 162 (by decide +kernel) (by decide +kernel)), (am_mem 50 (by decide +kernel) (by decide +kernel)), by decide +kernel, by decide +kernel, by decide +kernel, by decide⟩
theorem lkC_95 : am_LV nm_C 95 mC_undoSimplifying 0 := ⟨ok_mC_undoSimplifying, Or.inl (am_mem 159 (by decide +kernel) (by decide +kernel)), (am_mem 161 (by decide +kernel) (by decide +kernel)), (am_mem 3 (by decide +kernel) (by decide +kernel))⟩
theorem ok_mO_takeShape : am_Ok mO_takeShape 2 := ⟨(am_mem 158 (by decide +kernel) (by decide +kernel)), (am_mem 51 (by decide +kernel) (by decide +kernel)), by decide +kernel, by decide +kernel, by decide +kernel, by decide⟩
theorem lkO_37 : am_LV nm_O 37 mO_takeShape 2 := ⟨ok_mO_takeShape, Or.inl (am_mem 167 (by decide +kernel) (by decide +kernel)), (am_mem 157 (by decide +kernel) (by decide +kernel)), (am_mem 2 (by decide +kernel) (by decide +kernel))⟩
theorem ok_mO_become : am_Ok mO_become 5 := ⟨(am_mem 150 (by decide +kernel) (by decide +kernel)), (am_mem 51 (by decide +kernel) (by decide +kernel)), by decide +kernel, by decide +kernel, by decide +kernel, by decide⟩
theorem lkO_33 : am_LV nm_O 33 mO_become 5 := ⟨ok_mO_become, Or.inl (am_mem 168 (by decide +kernel) (by decide +kernel)), (am_mem 149 (by decide +kernel) (by decide +kernel)), (am_mem 0 (by decide +kernel) (by decide +kernel))⟩
theorem ok_mC_findLive : am_Ok mC_findLive 0 := ⟨(am_mem 172 (by decide +kernel) (by decide +kernel)), (am_mem 50 (by decide +kernel) (by decide +kernel)), by decide +kernel, by decide +kernel, by decide +kernel, by decide⟩
theorem lkC_112 : am_LV nm_C 112 mC_findLive 0 := ⟨ok_mC_findLive, Or.inl (am_mem 169 (by decide +kernel) (by decide +kernel)), (am_mem 171 (by decide +kernel) (by decide +kernel)), (am_mem 5 (by decide +kernel) (by decide +kernel))⟩
theorem ok_mC_makeLive : am_Ok mC_makeLive 1 := ⟨(am_mem 176 (by decide +kernel) (by decide +kernel)), (am_mem 50 (by decide +kernel) (by decide +kernel)), by decide +kernel, by decide +kernel, by decide +kernel, by decide⟩
theorem lkC_158 : am_LV nm_C 158 mC_makeLive 1 := ⟨ok_mC_makeLive, Or.inl (am_mem 173 (by decide +kernel) (by decide +kernel)), (am_mem 175 (by decide +kernel) (by decide +kernel)), (am_mem 6 (by decide +kernel) (by decide +kernel))⟩
theorem ok_mC_operation : am_Ok mC_operation 4 := ⟨(am_mem 180 (by decide +kernel) (by decide +kernel)), (am_mem 50 (by decide +kernel) (by decide +kernel)), by decide +kernel, by decide +kernel, by decide +kernel, by decide⟩
theorem lkL_18 : am_LV nm_L 18 mC_operation 4 := ⟨ok_mC_operation, Or.inl (am_mem 177 (by decide +kernel) (by decide +kernel)), (am_mem 178 (by decide +kernel) (by decide +kernel)), (am_mem 179 (by decide +kernel) (by decide +kernel))⟩
theorem ok_mC_isValue : am_Ok mC_isValue 1 := ⟨(am_mem 184 (by decide +kernel) (by decide +kernel)), (am_mem 50 (by decide +kernel) (by decide +kernel)), by decide +kernel, by decide +kernel, by decide +kernel, by decide⟩
theorem lkC_67 : am_LV nm_C 67 mC_isValue 1 := ⟨ok_mC_isValue, Or.inl (am_mem 181 (by decide +kernel) (by decide +kernel)), (am_mem 183 (by decide +kernel) (by decide +kernel)), (am_mem 7 (by decide +kernel) (by decide +kernel))⟩
theorem ok_mC_shapesFit : am_Ok mC_shapesFit 3 := ⟨(am_mem 187 (by decide +kernel) (by decide +kernel)), (am_mem 50 (by decide +kernel) (by decide +kernel)), by decide +kernel, by decide +kernel, by decide +kernel, by decide⟩
theorem lkC_71 : am_LS nm_C 71 mC_shapesFit 3 := ⟨ok_mC_shapesFit, Or.inl (am_mem 185 (by decide +kernel) (by decide +kernel)), (am_mem 186 (by decide +kernel) (by decide +kernel))⟩
theorem ok_mC_rowsOf : am_Ok mC_rowsOf 3 := ⟨(am_mem 194 (by decide +kernel) (by decide +kernel)), (am_mem 50 (by decide +kernel) (by decide +kernel)), by decide +kernel, by decide +kernel, by decide +kernel, by decide⟩
theorem lkC_75 : am_LS nm_C 75 mC_rowsOf 3 := ⟨ok_mC_rowsOf, Or.inl (am_mem 192 (by decide +kernel) (by decide +kernel)), (am_mem 193 (by decide +kernel) (by decide +kernel))⟩
theorem ok_mC_columnsOf : am_Ok mC_columnsOf 4 := ⟨(am_mem 197 (by decide +kernel) (by decide +kernel)), (am_mem 50 (by decide +kernel) (by decide +kernel)), by decide +kernel, by decide +kernel, by decide +kernel, by decide⟩
theorem lkC_79 : am_LS nm_C 79 mC_columnsOf 4 := ⟨ok_mC_columnsOf, Or.inl (am_mem 195 (by decide +kernel) (by decide +kernel)), (am_mem 196 (by decide +kernel) (by decide +kernel))⟩
theorem ok_mC_reshape : am_Ok mC_reshape 4 := ⟨(am_mem 201 (by decide +kernel) (by decide +kernel)), (am_mem 50 (by decide +kernel) (by decide +kernel)), by decide +kernel, by decide +kernel, by decide +kernel, by decide⟩
theorem lkL_22 : am_LV nm_L 22 mC_reshape 4 := ⟨ok_mC_reshape, Or.inl (am_mem 198 (by decide +kernel) (by decide +kernel)), (am_mem 199 (by decide +kernel) (by decide +kernel)), (am_mem 200 (by decide +kernel) (by decide +kernel))⟩
theorem ok_mC_spreads : am_Ok mC_spreads 2 := ⟨(am_mem 204 (by decide +kernel) (by decide +kernel)), (am_mem 50 (by decide +kernel) (by decide +kernel)), by decide +kernel, by decide +kernel, by decide +kernel, by decide⟩
theorem lkC_86 : am_LS nm_C 86 mC_spreads 2 := ⟨ok_mC_spreads, Or.inl (am_mem 202 (by decide +kernel) (by decide +kernel)), (am_mem 203 (by decide +kernel) (by decide +kernel))⟩
theorem ok_mC_part : am_Ok mC_part 5 := ⟨(am_mem 208 (by decide +kernel) (by decide +kernel)), (am_mem 50 (by decide +kernel) (by decide +kernel)), by decide +kernel, by decide +kernel, by decide +kernel, by decide⟩
theorem lkL_26 : am_LV nm_L 26 mC_part 5 := ⟨ok_mC_part, Or.inl (am_mem 205 (by decide +kernel) (by decide +kernel)), (am_mem 206 (by decide +kernel) (by decide +kernel)), (am_mem 207 (by decide +kernel) (by decide +kernel))⟩
theorem ok_mC_isPlace : am_Ok mC_isPlace 2 := ⟨(am_mem 211 (by decide +kernel) (by decide +kernel)), (am_mem 50 (by decide +kernel) (by decide +kernel)), by decide +kernel, by decide +kernel, by decide +kernel, by decide⟩
theorem lkC_92 : am_LS nm_C 92 mC_isPlace 2 := ⟨ok_mC_isPlace, Or.inl (am_mem 209 (by decide +kernel) (by decide +kernel)), (am_mem 210 (by decide +kernel) (by decide +kernel))⟩
theorem ok_mC_mark : am_Ok mC_mark 2 := ⟨(am_mem 215 (by decide +kernel) (by decide +kernel)), (am_mem 50 (by decide +kernel) (by decide +kernel)), by decide +kernel, by decide +kernel, by decide +kernel, by decide⟩
theorem lkL_31 : am_LV nm_L 31 mC_mark 2 := ⟨ok_mC_mark, Or.inl (am_mem 212 (by decide +kernel) (by decide +kernel)), (am_mem 213 (by decide +kernel) (by decide +kernel)), (am_mem 214 (by decide +kernel) (by decide +kernel))⟩
theorem ok_mC_set : am_Ok mC_set 4 := ⟨(am_mem 219 (by decide +kernel) (by decide +kernel)), (am_mem 50 (by decide +kernel) (by decide +kernel)), by decide +kernel, by decide +kernel, by decide +kernel, by decide⟩
theorem lkL_36 : am_LV nm_L 36 mC_set 4 := ⟨ok_mC_set, Or.inl (am_mem 216 (by decide +kernel) (by decide +kernel)), (am_mem 217 (by decide +kernel) (by decide +kernel)), (am_mem 218 (by decide +kernel) (by decide +kernel))⟩
theorem ok_mC_simplify : am_Ok mC_simplify 0 := ⟨(am_mem 223 (by decide +kernel) (by decide +kernel)), (am_mem 50 (by decide +kernel) (by decide +kernel)), by decide +kernel, by decide +kernel, by decide +kernel, by decide⟩
theorem lkL_40 : am_LV nm_L 40 mC_simplify 0 := ⟨ok_mC_simplify, Or.inl (am_mem 220 (by decide +kernel) (by decide +kernel)), (am_mem 221 (by decide +kernel) (by decide +kernel)), (am_mem 222 (by decide +kernel) (by decide +kernel))⟩
theorem ok_mA_fill : am_Ok mA_fill 2 := ⟨(am_mem 226 (by decide +kernel) (by decide +kernel)), (am_mem 53 (by decide +kernel) (by decide +kernel)), by decide +kernel, by decide +kernel, by decide +kernel, by decide⟩
theorem lkC_98 : am_LS nm_C 98 mA_fill 2 := ⟨ok_mA_fill, Or.inl (am_mem 224 (by decide +kernel) (by decide +kernel)), (am_mem 225 (by decide +kernel) (by decide +kernel))⟩
theorem ok_mC_replaceArguments : am_Ok mC_replaceArguments 1 := ⟨(am_mem 230 (by decide +kernel) (by decide +kernel)), (am_mem 50 (by decide +kernel) (by decide +kernel)), by decide +kernel, by decide +kernel, by decide +kernel, by decide⟩
theorem lkC_104 : am_LV nm_C 104 mC_replaceArguments 1 := ⟨ok_mC_replaceArguments, Or.inl (am_mem 227 (by decide +kernel) (by decide +kernel)), (am_mem 229 (by decide +kernel) (by decide +kernel)), (am_mem 9 (by decide +kernel) (by decide +kernel))⟩
theorem ok_mC_standInByRules : am_Ok mC_standInByRules 1 := ⟨(am_mem 238 (by decide +kernel) (by decide +kernel)), (am_mem 50 (by decide +kernel) (by decide +kernel)), by decide +kernel, by decide +kernel, by decide +kernel, by decide⟩
theorem lkC_108 : am_LV nm_C 108 mC_standInByRules 1 := ⟨ok_mC_standInByRules, Or.inl (am_mem 235 (by decide +kernel) (by decide +kernel)), (am_mem 237 (by decide +kernel) (by decide +kernel)), (am_mem 11 (by decide +kernel) (by decide +kernel))⟩
theorem ok_mC_hasOnlySplats : am_Ok mC_hasOnlySplats 1 := ⟨(am_mem 242 (by decide +kernel) (by decide +kernel)), (am_mem 50 (by decide +kernel) (by decide +kernel)), by decide +kernel, by decide +kernel, by decide +kernel, by decide⟩
theorem lkC_169 : am_LV nm_C 169 mC_hasOnlySplats 1 := ⟨ok_mC_hasOnlySplats, Or.inl (am_mem 239 (by decide +kernel) (by decide +kernel)), (am_mem 241 (by decide +kernel) (by decide +kernel)), (am_mem 12 (by decide +kernel) (by decide +kernel))⟩
theorem ok_mC_foldedCell : am_Ok mC_foldedCell 1 := ⟨(am_mem 246 (by decide +kernel) (by decide +kernel)), (am_mem 50 (by decide +kernel) (by decide +kernel)), by decide +kernel, by decide +kernel, by decide +kernel, by decide⟩
theorem lkC_172 : am_LV nm_C 172 mC_foldedCell 1 := ⟨ok_mC_foldedCell, Or.inl (am_mem 243 (by decide +kernel) (by decide +kernel)), (am_mem 245 (by decide +kernel) (by decide +kernel)), (am_mem 13 (by decide +kernel) (by decide +kernel))⟩
theorem mxC_193 : Cond.methodLink nm_C 193 Lib.Math.max.name ∈ am_TW := (am_mem 247 (by decide +kernel) (by decide +kernel))
theorem ok_mC_alikeOrItself : am_Ok mC_alikeOrItself 1 := ⟨(am_mem 257 (by decide +kernel) (by decide +kernel)), (am_mem 50 (by decide +kernel) (by decide +kernel)), by decide +kernel, by decide +kernel, by decide +kernel, by decide⟩
theorem lkC_178 : am_LV nm_C 178 mC_alikeOrItself 1 := ⟨ok_mC_alikeOrItself, Or.inl (am_mem 254 (by decide +kernel) (by decide +kernel)), (am_mem 256 (by decide +kernel) (by decide +kernel)), (am_mem 15 (by decide +kernel) (by decide +kernel))⟩
theorem ok_mO_hasShapeOf : am_Ok mO_hasShapeOf 1 := ⟨(am_mem 191 (by decide +kernel) (by decide +kernel)), (am_mem 51 (by decide +kernel) (by decide +kernel)), by decide +kernel, by decide +kernel, by decide +kernel, by decide⟩
theorem lkO_41 : am_LV nm_O 41 mO_hasShapeOf 1 := ⟨ok_mO_hasShapeOf, Or.inl (am_mem 262 (by decide +kernel) (by decide +kernel)), (am_mem 190 (by decide +kernel) (by decide +kernel)), (am_mem 8 (by decide +kernel) (by decide +kernel))⟩
theorem ok_mC_neutralOther : am_Ok mC_neutralOther 1 := ⟨(am_mem 266 (by decide +kernel) (by decide +kernel)), (am_mem 50 (by decide +kernel) (by decide +kernel)), by decide +kernel, by decide +kernel, by decide +kernel, by decide⟩
theorem lkC_181 : am_LV nm_C 181 mC_neutralOther 1 := ⟨ok_mC_neutralOther, Or.inl (am_mem 263 (by decide +kernel) (by decide +kernel)), (am_mem 265 (by decide +kernel) (by decide +kernel)), (am_mem 17 (by decide +kernel) (by decide +kernel))⟩
theorem ok_mC_isSplat : am_Ok mC_isSplat 2 := ⟨(am_mem 274 (by decide +kernel) (by decide +kernel)), (am_mem 50 (by decide +kernel) (by decide +kernel)), by decide +kernel, by decide +kernel, by decide +kernel, by decide⟩
theorem lkC_184 : am_LV nm_C 184 mC_isSplat 2 := ⟨ok_mC_isSplat, Or.inl (am_mem 271 (by decide +kernel) (by decide +kernel)), (am_mem 273 (by decide +kernel) (by decide +kernel)), (am_mem 19 (by decide +kernel) (by decide +kernel))⟩
theorem ok_mC_twiceInner : am_Ok mC_twiceInner 1 := ⟨(am_mem 282 (by decide +kernel) (by decide +kernel)), (am_mem 50 (by decide +kernel) (by decide +kernel)), by decide +kernel, by decide +kernel, by decide +kernel, by decide⟩
theorem lkC_187 : am_LV nm_C 187 mC_twiceInner 1 := ⟨ok_mC_twiceInner, Or.inl (am_mem 279 (by decide +kernel) (by decide +kernel)), (am_mem 281 (by decide +kernel) (by decide +kernel)), (am_mem 21 (by decide +kernel) (by decide +kernel))⟩
theorem ok_mC_work : am_Ok mC_work 0 := ⟨(am_mem 286 (by decide +kernel) (by decide +kernel)), (am_mem 50 (by decide +kernel) (by decide +kernel)), by decide +kernel, by decide +kernel, by decide +kernel, by decide⟩
theorem lkL_45 : am_LV nm_L 45 mC_work 0 := ⟨ok_mC_work, Or.inl (am_mem 283 (by decide +kernel) (by decide +kernel)), (am_mem 284 (by decide +kernel) (by decide +kernel)), (am_mem 285 (by decide +kernel) (by decide +kernel))⟩
theorem ok_mC_workOut : am_Ok mC_workOut 1 := ⟨(am_mem 290 (by decide +kernel) (by decide +kernel)), (am_mem 50 (by decide +kernel) (by decide +kernel)), by decide +kernel, by decide +kernel, by decide +kernel, by decide⟩
theorem lkC_115 : am_LV nm_C 115 mC_workOut 1 := ⟨ok_mC_workOut, Or.inl (am_mem 287 (by decide +kernel) (by decide +kernel)), (am_mem 289 (by decide +kernel) (by decide +kernel)), (am_mem 22 (by decide +kernel) (by decide +kernel))⟩
theorem ok_mC_workedCell : am_Ok mC_workedCell 3 := ⟨(am_mem 294 (by decide +kernel) (by decide +kernel)), (am_mem 50 (by decide +kernel) (by decide +kernel)), by decide +kernel, by decide +kernel, by decide +kernel, by decide⟩
theorem lkC_204 : am_LV nm_C 204 mC_workedCell 3 := ⟨ok_mC_workedCell, Or.inl (am_mem 291 (by decide +kernel) (by decide +kernel)), (am_mem 293 (by decide +kernel) (by decide +kernel)), (am_mem 23 (by decide +kernel) (by decide +kernel))⟩
theorem ok_mC_cellAt : am_Ok mC_cellAt 3 := ⟨(am_mem 298 (by decide +kernel) (by decide +kernel)), (am_mem 50 (by decide +kernel) (by decide +kernel)), by decide +kernel, by decide +kernel, by decide +kernel, by decide⟩
theorem lkC_125 : am_LV nm_C 125 mC_cellAt 3 := ⟨ok_mC_cellAt, Or.inl (am_mem 295 (by decide +kernel) (by decide +kernel)), (am_mem 297 (by decide +kernel) (by decide +kernel)), (am_mem 24 (by decide +kernel) (by decide +kernel))⟩
theorem ok_mC_dotCell : am_Ok mC_dotCell 3 := ⟨(am_mem 302 (by decide +kernel) (by decide +kernel)), (am_mem 50 (by decide +kernel) (by decide +kernel)), by decide +kernel, by decide +kernel, by decide +kernel, by decide⟩
theorem lkC_208 : am_LV nm_C 208 mC_dotCell 3 := ⟨ok_mC_dotCell, Or.inl (am_mem 299 (by decide +kernel) (by decide +kernel)), (am_mem 301 (by decide +kernel) (by decide +kernel)), (am_mem 25 (by decide +kernel) (by decide +kernel))⟩
theorem ok_mC_sumOfColumn : am_Ok mC_sumOfColumn 2 := ⟨(am_mem 306 (by decide +kernel) (by decide +kernel)), (am_mem 50 (by decide +kernel) (by decide +kernel)), by decide +kernel, by decide +kernel, by decide +kernel, by decide⟩
theorem lkC_211 : am_LV nm_C 211 mC_sumOfColumn 2 := ⟨ok_mC_sumOfColumn, Or.inl (am_mem 303 (by decide +kernel) (by decide +kernel)), (am_mem 305 (by decide +kernel) (by decide +kernel)), (am_mem 26 (by decide +kernel) (by decide +kernel))⟩
theorem ok_mC_sumOfRow : am_Ok mC_sumOfRow 2 := ⟨(am_mem 310 (by decide +kernel) (by decide +kernel)), (am_mem 50 (by decide +kernel) (by decide +kernel)), by decide +kernel, by decide +kernel, by decide +kernel, by decide⟩
theorem lkC_214 : am_LV nm_C 214 mC_sumOfRow 2 := ⟨ok_mC_sumOfRow, Or.inl (am_mem 307 (by decide +kernel) (by decide +kernel)), (am_mem 309 (by decide +kernel) (by decide +kernel)), (am_mem 27 (by decide +kernel) (by decide +kernel))⟩
theorem ok_mC_spreadCell : am_Ok mC_spreadCell 3 := ⟨(am_mem 314 (by decide +kernel) (by decide +kernel)), (am_mem 50 (by decide +kernel) (by decide +kernel)), by decide +kernel, by decide +kernel, by decide +kernel, by decide⟩
theorem lkC_217 : am_LV nm_C 217 mC_spreadCell 3 := ⟨ok_mC_spreadCell, Or.inl (am_mem 311 (by decide +kernel) (by decide +kernel)), (am_mem 313 (by decide +kernel) (by decide +kernel)), (am_mem 28 (by decide +kernel) (by decide +kernel))⟩
theorem ok_mC_workOfLive : am_Ok mC_workOfLive 0 := ⟨(am_mem 318 (by decide +kernel) (by decide +kernel)), (am_mem 50 (by decide +kernel) (by decide +kernel)), by decide +kernel, by decide +kernel, by decide +kernel, by decide⟩
theorem lkC_119 : am_LV nm_C 119 mC_workOfLive 0 := ⟨ok_mC_workOfLive, Or.inl (am_mem 315 (by decide +kernel) (by decide +kernel)), (am_mem 317 (by decide +kernel) (by decide +kernel)), (am_mem 29 (by decide +kernel) (by decide +kernel))⟩
theorem ok_mC_workOf : am_Ok mC_workOf 1 := ⟨(am_mem 322 (by decide +kernel) (by decide +kernel)), (am_mem 50 (by decide +kernel) (by decide +kernel)), by decide +kernel, by decide +kernel, by decide +kernel, by decide⟩
theorem lkC_161 : am_LV nm_C 161 mC_workOf 1 := ⟨ok_mC_workOf, Or.inl (am_mem 319 (by decide +kernel) (by decide +kernel)), (am_mem 321 (by decide +kernel) (by decide +kernel)), (am_mem 30 (by decide +kernel) (by decide +kernel))⟩
theorem ok_mC_cell : am_Ok mC_cell 3 := ⟨(am_mem 326 (by decide +kernel) (by decide +kernel)), (am_mem 50 (by decide +kernel) (by decide +kernel)), by decide +kernel, by decide +kernel, by decide +kernel, by decide⟩
theorem lkL_49 : am_LV nm_L 49 mC_cell 3 := ⟨ok_mC_cell, Or.inl (am_mem 323 (by decide +kernel) (by decide +kernel)), (am_mem 324 (by decide +kernel) (by decide +kernel)), (am_mem 325 (by decide +kernel) (by decide +kernel))⟩
theorem ok_mC_standIn : am_Ok mC_standIn 1 := ⟨(am_mem 331 (by decide +kernel) (by decide +kernel)), (am_mem 50 (by decide +kernel) (by decide +kernel)), by decide +kernel, by decide +kernel, by decide +kernel, by decide⟩
theorem lkL_54 : am_LV nm_L 54 mC_standIn 1 := ⟨ok_mC_standIn, Or.inl (am_mem 328 (by decide +kernel) (by decide +kernel)), (am_mem 329 (by decide +kernel) (by decide +kernel)), (am_mem 330 (by decide +kernel) (by decide +kernel))⟩
theorem ok_mC_value : am_Ok mC_value 2 := ⟨(am_mem 335 (by decide +kernel) (by decide +kernel)), (am_mem 50 (by decide +kernel) (by decide +kernel)), by decide +kernel, by decide +kernel, by decide +kernel, by decide⟩
theorem lkL_59 : am_LV nm_L 59 mC_value 2 := ⟨ok_mC_value, Or.inl (am_mem 332 (by decide +kernel) (by decide +kernel)), (am_mem 333 (by decide +kernel) (by decide +kernel)), (am_mem 334 (by decide +kernel) (by decide +kernel))⟩
theorem ok_mC_count : am_Ok mC_count 1 := ⟨(am_mem 339 (by decide +kernel) (by decide +kernel)), (am_mem 50 (by decide +kernel) (by decide +kernel)), by decide +kernel, by decide +kernel, by decide +kernel, by decide⟩
theorem lkL_64 : am_LV nm_L 64 mC_count 1 := ⟨ok_mC_count, Or.inl (am_mem 336 (by decide +kernel) (by decide +kernel)), (am_mem 337 (by decide +kernel) (by decide +kernel)), (am_mem 338 (by decide +kernel) (by decide +kernel))⟩
theorem ok_mC_liveValues : am_Ok mC_liveValues 0 := ⟨(am_mem 343 (by decide +kernel) (by decide +kernel)), (am_mem 50 (by decide +kernel) (by decide +kernel)), by decide +kernel, by decide +kernel, by decide +kernel, by decide⟩
theorem lkC_144 : am_LV nm_C 144 mC_liveValues 0 := ⟨ok_mC_liveValues, Or.inl (am_mem 340 (by decide +kernel) (by decide +kernel)), (am_mem 342 (by decide +kernel) (by decide +kernel)), (am_mem 31 (by decide +kernel) (by decide +kernel))⟩
theorem ok_mM_init : am_Ok mM_init 0 := ⟨(am_mem 348 (by decide +kernel) (by decide +kernel)), (am_mem 52 (by decide +kernel) (by decide +kernel)), by decide +kernel, by decide +kernel, by decide +kernel, by decide⟩
theorem lkL_12 : am_LI nm_L 12 mM_init 0 := ⟨ok_mM_init, Or.inl (am_mem 346 (by decide +kernel) (by decide +kernel)), (am_mem 347 (by decide +kernel) (by decide +kernel)), rfl, rfl⟩
theorem obM_1 : Cond.methodLink nm_M 1 objectInit ∈ am_TW := (am_mem 349 (by decide +kernel) (by decide +kernel))
theorem ok_mM_source : am_Ok mM_source 4 := ⟨(am_mem 399 (by decide +kernel) (by decide +kernel)), (am_mem 52 (by decide +kernel) (by decide +kernel)), by decide +kernel, by decide +kernel, by decide +kernel, by decide⟩
theorem lkL_17 : am_LV nm_L 17 mM_source 4 := ⟨ok_mM_source, Or.inl (am_mem 396 (by decide +kernel) (by decide +kernel)), (am_mem 397 (by decide +kernel) (by decide +kernel)), (am_mem 398 (by decide +kernel) (by decide +kernel))⟩
theorem ok_mM_off : am_Ok mM_off 3 := ⟨(am_mem 403 (by decide +kernel) (by decide +kernel)), (am_mem 52 (by decide +kernel) (by decide +kernel)), by decide +kernel, by decide +kernel, by decide +kernel, by decide⟩
theorem lkM_61 : am_LV nm_M 61 mM_off 3 := ⟨ok_mM_off, Or.inl (am_mem 400 (by decide +kernel) (by decide +kernel)), (am_mem 402 (by decide +kernel) (by decide +kernel)), (am_mem 32 (by decide +kernel) (by decide +kernel))⟩
theorem ok_mM_add : am_Ok mM_add 7 := ⟨(am_mem 407 (by decide +kernel) (by decide +kernel)), (am_mem 52 (by decide +kernel) (by decide +kernel)), by decide +kernel, by decide +kernel, by decide +kernel, by decide⟩
theorem lkM_65 : am_LV nm_M 65 mM_add 7 := ⟨ok_mM_add, Or.inl (am_mem 404 (by decide +kernel) (by decide +kernel)), (am_mem 406 (by decide +kernel) (by decide +kernel)), (am_mem 33 (by decide +kernel) (by decide +kernel))⟩
theorem ok_mM_restore : am_Ok mM_restore 0 := ⟨(am_mem 411 (by decide +kernel) (by decide +kernel)), (am_mem 52 (by decide +kernel) (by decide +kernel)), by decide +kernel, by decide +kernel, by decide +kernel, by decide⟩
theorem lkM_58 : am_LV nm_M 58 mM_restore 0 := ⟨ok_mM_restore, Or.inl (am_mem 408 (by decide +kernel) (by decide +kernel)), (am_mem 410 (by decide +kernel) (by decide +kernel)), (am_mem 34 (by decide +kernel) (by decide +kernel))⟩
theorem ok_mM_operation : am_Ok mM_operation 4 := ⟨(am_mem 415 (by decide +kernel) (by decide +kernel)), (am_mem 52 (by decide +kernel) (by decide +kernel)), by decide +kernel, by decide +kernel, by decide +kernel, by decide⟩
theorem lkL_21 : am_LV nm_L 21 mM_operation 4 := ⟨ok_mM_operation, Or.inl (am_mem 412 (by decide +kernel) (by decide +kernel)), (am_mem 413 (by decide +kernel) (by decide +kernel)), (am_mem 414 (by decide +kernel) (by decide +kernel))⟩
theorem ok_mM_no : am_Ok mM_no 1 := ⟨(am_mem 419 (by decide +kernel) (by decide +kernel)), (am_mem 52 (by decide +kernel) (by decide +kernel)), by decide +kernel, by decide +kernel, by decide +kernel, by decide⟩
theorem lkM_69 : am_LV nm_M 69 mM_no 1 := ⟨ok_mM_no, Or.inl (am_mem 416 (by decide +kernel) (by decide +kernel)), (am_mem 418 (by decide +kernel) (by decide +kernel)), (am_mem 35 (by decide +kernel) (by decide +kernel))⟩
theorem ok_mM_unary : am_Ok mM_unary 1 := ⟨(am_mem 423 (by decide +kernel) (by decide +kernel)), (am_mem 52 (by decide +kernel) (by decide +kernel)), by decide +kernel, by decide +kernel, by decide +kernel, by decide⟩
theorem lkM_73 : am_LV nm_M 73 mM_unary 1 := ⟨ok_mM_unary, Or.inl (am_mem 420 (by decide +kernel) (by decide +kernel)), (am_mem 422 (by decide +kernel) (by decide +kernel)), (am_mem 36 (by decide +kernel) (by decide +kernel))⟩
theorem ok_mM_reshape : am_Ok mM_reshape 4 := ⟨(am_mem 427 (by decide +kernel) (by decide +kernel)), (am_mem 52 (by decide +kernel) (by decide +kernel)), by decide +kernel, by decide +kernel, by decide +kernel, by decide⟩
theorem lkL_25 : am_LV nm_L 25 mM_reshape 4 := ⟨ok_mM_reshape, Or.inl (am_mem 424 (by decide +kernel) (by decide +kernel)), (am_mem 425 (by decide +kernel) (by decide +kernel)), (am_mem 426 (by decide +kernel) (by decide +kernel))⟩
theorem ok_mM_part : am_Ok mM_part 5 := ⟨(am_mem 431 (by decide +kernel) (by decide +kernel)), (am_mem 52 (by decide +kernel) (by decide +kernel)), by decide +kernel, by decide +kernel, by decide +kernel, by decide⟩
theorem lkL_30 : am_LV nm_L 30 mM_part 5 := ⟨ok_mM_part, Or.inl (am_mem 428 (by decide +kernel) (by decide +kernel)), (am_mem 429 (by decide +kernel) (by decide +kernel)), (am_mem 430 (by decide +kernel) (by decide +kernel))⟩
theorem ok_mM_mark : am_Ok mM_mark 2 := ⟨(am_mem 435 (by decide +kernel) (by decide +kernel)), (am_mem 52 (by decide +kernel) (by decide +kernel)), by decide +kernel, by decide +kernel, by decide +kernel, by decide⟩
theorem lkL_35 : am_LV nm_L 35 mM_mark 2 := ⟨ok_mM_mark, Or.inl (am_mem 432 (by decide +kernel) (by decide +kernel)), (am_mem 433 (by decide +kernel) (by decide +kernel)), (am_mem 434 (by decide +kernel) (by decide +kernel))⟩
theorem ok_mM_set : am_Ok mM_set 4 := ⟨(am_mem 439 (by decide +kernel) (by decide +kernel)), (am_mem 52 (by decide +kernel) (by decide +kernel)), by decide +kernel, by decide +kernel, by decide +kernel, by decide⟩
theorem lkL_39 : am_LV nm_L 39 mM_set 4 := ⟨ok_mM_set, Or.inl (am_mem 436 (by decide +kernel) (by decide +kernel)), (am_mem 437 (by decide +kernel) (by decide +kernel)), (am_mem 438 (by decide +kernel) (by decide +kernel))⟩
theorem ok_mM_simplify : am_Ok mM_simplify 0 := ⟨(am_mem 443 (by decide +kernel) (by decide +kernel)), (am_mem 52 (by decide +kernel) (by decide +kernel)), by decide +kernel, by decide +kernel, by decide +kernel, by decide⟩
theorem lkL_44 : am_LV nm_L 44 mM_simplify 0 := ⟨ok_mM_simplify, Or.inl (am_mem 440 (by decide +kernel) (by decide +kernel)), (am_mem 441 (by decide +kernel) (by decide +kernel)), (am_mem 442 (by decide +kernel) (by decide +kernel))⟩
theorem ok_mM_simplifyOne : am_Ok mM_simplifyOne 1 := ⟨(am_mem 447 (by decide +kernel) (by decide +kernel)), (am_mem 52 (by decide +kernel) (by decide +kernel)), by decide +kernel, by decide +kernel, by decide +kernel, by decide⟩
theorem lkM_97 : am_LV nm_M 97 mM_simplifyOne 1 := ⟨ok_mM_simplifyOne, Or.inl (am_mem 444 (by decide +kernel) (by decide +kernel)), (am_mem 446 (by decide +kernel) (by decide +kernel)), (am_mem 37 (by decide +kernel) (by decide +kernel))⟩
theorem ok_mM_rule : am_Ok mM_rule 1 := ⟨(am_mem 451 (by decide +kernel) (by decide +kernel)), (am_mem 52 (by decide +kernel) (by decide +kernel)), by decide +kernel, by decide +kernel, by decide +kernel, by decide⟩
theorem lkM_91 : am_LV nm_M 91 mM_rule 1 := ⟨ok_mM_rule, Or.inl (am_mem 448 (by decide +kernel) (by decide +kernel)), (am_mem 450 (by decide +kernel) (by decide +kernel)), (am_mem 38 (by decide +kernel) (by decide +kernel))⟩
theorem ok_mM_folded : am_Ok mM_folded 1 := ⟨(am_mem 455 (by decide +kernel) (by decide +kernel)), (am_mem 52 (by decide +kernel) (by decide +kernel)), by decide +kernel, by decide +kernel, by decide +kernel, by decide⟩
theorem lkM_76 : am_LV nm_M 76 mM_folded 1 := ⟨ok_mM_folded, Or.inl (am_mem 452 (by decide +kernel) (by decide +kernel)), (am_mem 454 (by decide +kernel) (by decide +kernel)), (am_mem 39 (by decide +kernel) (by decide +kernel))⟩
theorem ok_mM_become : am_Ok mM_become 2 := ⟨(am_mem 459 (by decide +kernel) (by decide +kernel)), (am_mem 52 (by decide +kernel) (by decide +kernel)), by decide +kernel, by decide +kernel, by decide +kernel, by decide⟩
theorem lkM_80 : am_LV nm_M 80 mM_become 2 := ⟨ok_mM_become, Or.inl (am_mem 456 (by decide +kernel) (by decide +kernel)), (am_mem 458 (by decide +kernel) (by decide +kernel)), (am_mem 40 (by decide +kernel) (by decide +kernel))⟩
theorem ok_mM_splat : am_Ok mM_splat 2 := ⟨(am_mem 463 (by decide +kernel) (by decide +kernel)), (am_mem 52 (by decide +kernel) (by decide +kernel)), by decide +kernel, by decide +kernel, by decide +kernel, by decide⟩
theorem lkM_84 : am_LV nm_M 84 mM_splat 2 := ⟨ok_mM_splat, Or.inl (am_mem 460 (by decide +kernel) (by decide +kernel)), (am_mem 462 (by decide +kernel) (by decide +kernel)), (am_mem 41 (by decide +kernel) (by decide +kernel))⟩
theorem ok_mM_sameShape : am_Ok mM_sameShape 2 := ⟨(am_mem 467 (by decide +kernel) (by decide +kernel)), (am_mem 52 (by decide +kernel) (by decide +kernel)), by decide +kernel, by decide +kernel, by decide +kernel, by decide⟩
theorem lkM_88 : am_LV nm_M 88 mM_sameShape 2 := ⟨ok_mM_sameShape, Or.inl (am_mem 464 (by decide +kernel) (by decide +kernel)), (am_mem 466 (by decide +kernel) (by decide +kernel)), (am_mem 42 (by decide +kernel) (by decide +kernel))⟩
theorem ok_mM_alike : am_Ok mM_alike 2 := ⟨(am_mem 471 (by decide +kernel) (by decide +kernel)), (am_mem 52 (by decide +kernel) (by decide +kernel)), by decide +kernel, by decide +kernel, by decide +kernel, by decide⟩
theorem lkM_94 : am_LV nm_M 94 mM_alike 2 := ⟨ok_mM_alike, Or.inl (am_mem 468 (by decide +kernel) (by decide +kernel)), (am_mem 470 (by decide +kernel) (by decide +kernel)), (am_mem 43 (by decide +kernel) (by decide +kernel))⟩
theorem ok_mM_work : am_Ok mM_work 0 := ⟨(am_mem 475 (by decide +kernel) (by decide +kernel)), (am_mem 52 (by decide +kernel) (by decide +kernel)), by decide +kernel, by decide +kernel, by decide +kernel, by decide⟩
theorem lkL_48 : am_LV nm_L 48 mM_work 0 := ⟨ok_mM_work, Or.inl (am_mem 472 (by decide +kernel) (by decide +kernel)), (am_mem 473 (by decide +kernel) (by decide +kernel)), (am_mem 474 (by decide +kernel) (by decide +kernel))⟩
theorem ok_mM_isLive : am_Ok mM_isLive 1 := ⟨(am_mem 479 (by decide +kernel) (by decide +kernel)), (am_mem 52 (by decide +kernel) (by decide +kernel)), by decide +kernel, by decide +kernel, by decide +kernel, by decide⟩
theorem lkM_108 : am_LV nm_M 108 mM_isLive 1 := ⟨ok_mM_isLive, Or.inl (am_mem 476 (by decide +kernel) (by decide +kernel)), (am_mem 478 (by decide +kernel) (by decide +kernel)), (am_mem 44 (by decide +kernel) (by decide +kernel))⟩
theorem ok_mM_workOf : am_Ok mM_workOf 1 := ⟨(am_mem 483 (by decide +kernel) (by decide +kernel)), (am_mem 52 (by decide +kernel) (by decide +kernel)), by decide +kernel, by decide +kernel, by decide +kernel, by decide⟩
theorem lkM_111 : am_LV nm_M 111 mM_workOf 1 := ⟨ok_mM_workOf, Or.inl (am_mem 480 (by decide +kernel) (by decide +kernel)), (am_mem 482 (by decide +kernel) (by decide +kernel)), (am_mem 45 (by decide +kernel) (by decide +kernel))⟩
theorem ok_mM_made : am_Ok mM_made 3 := ⟨(am_mem 487 (by decide +kernel) (by decide +kernel)), (am_mem 52 (by decide +kernel) (by decide +kernel)), by decide +kernel, by decide +kernel, by decide +kernel, by decide⟩
theorem lkM_114 : am_LV nm_M 114 mM_made 3 := ⟨ok_mM_made, Or.inl (am_mem 484 (by decide +kernel) (by decide +kernel)), (am_mem 486 (by decide +kernel) (by decide +kernel)), (am_mem 46 (by decide +kernel) (by decide +kernel))⟩
theorem ok_mM_at : am_Ok mM_at 3 := ⟨(am_mem 491 (by decide +kernel) (by decide +kernel)), (am_mem 52 (by decide +kernel) (by decide +kernel)), by decide +kernel, by decide +kernel, by decide +kernel, by decide⟩
theorem lkM_101 : am_LV nm_M 101 mM_at 3 := ⟨ok_mM_at, Or.inl (am_mem 488 (by decide +kernel) (by decide +kernel)), (am_mem 490 (by decide +kernel) (by decide +kernel)), (am_mem 47 (by decide +kernel) (by decide +kernel))⟩
theorem ok_mM_total : am_Ok mM_total 3 := ⟨(am_mem 495 (by decide +kernel) (by decide +kernel)), (am_mem 52 (by decide +kernel) (by decide +kernel)), by decide +kernel, by decide +kernel, by decide +kernel, by decide⟩
theorem lkM_105 : am_LV nm_M 105 mM_total 3 := ⟨ok_mM_total, Or.inl (am_mem 492 (by decide +kernel) (by decide +kernel)), (am_mem 494 (by decide +kernel) (by decide +kernel)), (am_mem 48 (by decide +kernel) (by decide +kernel))⟩
theorem ok_mM_cell : am_Ok mM_cell 3 := ⟨(am_mem 499 (by decide +kernel) (by decide +kernel)), (am_mem 52 (by decide +kernel) (by decide +kernel)), by decide +kernel, by decide +kernel, by decide +kernel, by decide⟩
theorem lkL_53 : am_LV nm_L 53 mM_cell 3 := ⟨ok_mM_cell, Or.inl (am_mem 496 (by decide +kernel) (by decide +kernel)), (am_mem 497 (by decide +kernel) (by decide +kernel)), (am_mem 498 (by decide +kernel) (by decide +kernel))⟩
theorem ok_mM_standIn : am_Ok mM_standIn 1 := ⟨(am_mem 504 (by decide +kernel) (by decide +kernel)), (am_mem 52 (by decide +kernel) (by decide +kernel)), by decide +kernel, by decide +kernel, by decide +kernel, by decide⟩
theorem lkL_58 : am_LV nm_L 58 mM_standIn 1 := ⟨ok_mM_standIn, Or.inl (am_mem 501 (by decide +kernel) (by decide +kernel)), (am_mem 502 (by decide +kernel) (by decide +kernel)), (am_mem 503 (by decide +kernel) (by decide +kernel))⟩
theorem ok_mM_value : am_Ok mM_value 2 := ⟨(am_mem 508 (by decide +kernel) (by decide +kernel)), (am_mem 52 (by decide +kernel) (by decide +kernel)), by decide +kernel, by decide +kernel, by decide +kernel, by decide⟩
theorem lkL_63 : am_LV nm_L 63 mM_value 2 := ⟨ok_mM_value, Or.inl (am_mem 505 (by decide +kernel) (by decide +kernel)), (am_mem 506 (by decide +kernel) (by decide +kernel)), (am_mem 507 (by decide +kernel) (by decide +kernel))⟩
theorem ok_mM_count : am_Ok mM_count 1 := ⟨(am_mem 512 (by decide +kernel) (by decide +kernel)), (am_mem 52 (by decide +kernel) (by decide +kernel)), by decide +kernel, by decide +kernel, by decide +kernel, by decide⟩
theorem lkL_67 : am_LV nm_L 67 mM_count 1 := ⟨ok_mM_count, Or.inl (am_mem 509 (by decide +kernel) (by decide +kernel)), (am_mem 510 (by decide +kernel) (by decide +kernel)), (am_mem 511 (by decide +kernel) (by decide +kernel))⟩
theorem ok_mO_init : am_Ok mO_init 0 := ⟨(am_mem 70 (by decide +kernel) (by decide +kernel)), (am_mem 51 (by decide +kernel) (by decide +kernel)), by decide +kernel, by decide +kernel, by decide +kernel, by decide⟩
theorem lkC_51 : am_LI nm_C 51 mO_init 0 := ⟨ok_mO_init, Or.inr ⟨"MatrixModule", by decide +kernel⟩, (am_mem 69 (by decide +kernel) (by decide +kernel)), rfl, rfl⟩
theorem lkC_59 : am_LV nm_C 59 mO_become 5 := ⟨ok_mO_become, Or.inr ⟨"MatrixModule", by decide +kernel⟩, (am_mem 149 (by decide +kernel) (by decide +kernel)), (am_mem 0 (by decide +kernel) (by decide +kernel))⟩
theorem lkC_151 : am_LV nm_C 151 mO_takeShape 2 := ⟨ok_mO_takeShape, Or.inr ⟨"MatrixModule", by decide +kernel⟩, (am_mem 157 (by decide +kernel) (by decide +kernel)), (am_mem 2 (by decide +kernel) (by decide +kernel))⟩
theorem ok_mO_copyFrom : am_Ok mO_copyFrom 1 := ⟨(am_mem 166 (by decide +kernel) (by decide +kernel)), (am_mem 51 (by decide +kernel) (by decide +kernel)), by decide +kernel, by decide +kernel, by decide +kernel, by decide⟩
theorem lkC_155 : am_LV nm_C 155 mO_copyFrom 1 := ⟨ok_mO_copyFrom, Or.inr ⟨"MatrixModule", by decide +kernel⟩, (am_mem 165 (by decide +kernel) (by decide +kernel)), (am_mem 4 (by decide +kernel) (by decide +kernel))⟩
theorem lkC_147 : am_LV nm_C 147 mO_hasShapeOf 1 := ⟨ok_mO_hasShapeOf, Or.inr ⟨"MatrixModule", by decide +kernel⟩, (am_mem 190 (by decide +kernel) (by decide +kernel)), (am_mem 8 (by decide +kernel) (by decide +kernel))⟩
theorem ok_mO_takesPairs : am_Ok mO_takesPairs 0 := ⟨(am_mem 234 (by decide +kernel) (by decide +kernel)), (am_mem 51 (by decide +kernel) (by decide +kernel)), by decide +kernel, by decide +kernel, by decide +kernel, by decide⟩
theorem lkC_165 : am_LV nm_C 165 mO_takesPairs 0 := ⟨ok_mO_takesPairs, Or.inr ⟨"MatrixModule", by decide +kernel⟩, (am_mem 233 (by decide +kernel) (by decide +kernel)), (am_mem 10 (by decide +kernel) (by decide +kernel))⟩
theorem ok_mO_becomeSplat : am_Ok mO_becomeSplat 1 := ⟨(am_mem 253 (by decide +kernel) (by decide +kernel)), (am_mem 51 (by decide +kernel) (by decide +kernel)), by decide +kernel, by decide +kernel, by decide +kernel, by decide⟩
theorem lkC_175 : am_LV nm_C 175 mO_becomeSplat 1 := ⟨ok_mO_becomeSplat, Or.inr ⟨"MatrixModule", by decide +kernel⟩, (am_mem 252 (by decide +kernel) (by decide +kernel)), (am_mem 14 (by decide +kernel) (by decide +kernel))⟩
theorem ok_mO_isLike : am_Ok mO_isLike 1 := ⟨(am_mem 261 (by decide +kernel) (by decide +kernel)), (am_mem 51 (by decide +kernel) (by decide +kernel)), by decide +kernel, by decide +kernel, by decide +kernel, by decide⟩
theorem lkC_201 : am_LV nm_C 201 mO_isLike 1 := ⟨ok_mO_isLike, Or.inr ⟨"MatrixModule", by decide +kernel⟩, (am_mem 260 (by decide +kernel) (by decide +kernel)), (am_mem 16 (by decide +kernel) (by decide +kernel))⟩
theorem ok_mO_isReshaping : am_Ok mO_isReshaping 0 := ⟨(am_mem 270 (by decide +kernel) (by decide +kernel)), (am_mem 51 (by decide +kernel) (by decide +kernel)), by decide +kernel, by decide +kernel, by decide +kernel, by decide⟩
theorem lkC_198 : am_LV nm_C 198 mO_isReshaping 0 := ⟨ok_mO_isReshaping, Or.inr ⟨"MatrixModule", by decide +kernel⟩, (am_mem 269 (by decide +kernel) (by decide +kernel)), (am_mem 18 (by decide +kernel) (by decide +kernel))⟩
theorem ok_mO_isSplatOf : am_Ok mO_isSplatOf 1 := ⟨(am_mem 278 (by decide +kernel) (by decide +kernel)), (am_mem 51 (by decide +kernel) (by decide +kernel)), by decide +kernel, by decide +kernel, by decide +kernel, by decide⟩
theorem lkC_190 : am_LV nm_C 190 mO_isSplatOf 1 := ⟨ok_mO_isSplatOf, Or.inr ⟨"MatrixModule", by decide +kernel⟩, (am_mem 277 (by decide +kernel) (by decide +kernel)), (am_mem 20 (by decide +kernel) (by decide +kernel))⟩
theorem ob_in : Cond.instanceMethod objectInit ∈ am_TW := (am_mem 61 (by decide +kernel) (by decide +kernel))
theorem ob_cd : Cond.code objectInit ⟨#[0xb1]⟩ 1 none ∈ am_TW := (am_mem 62 (by decide +kernel) (by decide +kernel))
theorem mx_st : Cond.static Lib.Math.max.name ∈ am_TW := (am_mem 248 (by decide +kernel) (by decide +kernel))
theorem mx_in : Cond.initialized "java/lang/Math" ∈ am_TW := (am_mem 54 (by decide +kernel) (by decide +kernel))
theorem mx_cd : Cond.code Lib.Math.max.name Lib.Math.max.code 2 (some .int) ∈ am_TW := (am_mem 249 (by decide +kernel) (by decide +kernel))
theorem kn_L : Cond.initialized nm_L ∈ am_TW := (am_mem 49 (by decide +kernel) (by decide +kernel))
theorem kn_C : Cond.initialized nm_C ∈ am_TW := (am_mem 50 (by decide +kernel) (by decide +kernel))
theorem kn_O : Cond.initialized nm_O ∈ am_TW := (am_mem 51 (by decide +kernel) (by decide +kernel))
theorem kn_M : Cond.initialized nm_M ∈ am_TW := (am_mem 52 (by decide +kernel) (by decide +kernel))
theorem kcL_7 : Cond.classLink nm_L 7 "MatrixModule" ∈ am_TW := (am_mem 55 (by decide +kernel) (by decide +kernel))
theorem ki_C : Cond.instantiable nm_C 11 ∈ am_TW := (am_mem 56 (by decide +kernel) (by decide +kernel))
theorem kcC_9 : Cond.classLink nm_C 9 "MatrixModule$Operation" ∈ am_TW := (am_mem 63 (by decide +kernel) (by decide +kernel))
theorem kcC_29 : Cond.classLink nm_C 29 "[[I" ∈ am_TW := (am_mem 65 (by decide +kernel) (by decide +kernel))
theorem ki_O : Cond.instantiable nm_O 7 ∈ am_TW := (am_mem 67 (by decide +kernel) (by decide +kernel))
theorem ka_int : Cond.arrayClass .int ∈ am_TW := (am_mem 101 (by decide +kernel) (by decide +kernel))
theorem ka_boolean : Cond.arrayClass .boolean ∈ am_TW := (am_mem 102 (by decide +kernel) (by decide +kernel))
theorem klC_123 : Cond.constantLong nm_C 123 (-1000000000000) ∈ am_TW := (am_mem 327 (by decide +kernel) (by decide +kernel))
theorem kcL_10 : Cond.classLink nm_L 10 "MatrixModuleModel" ∈ am_TW := (am_mem 344 (by decide +kernel) (by decide +kernel))
theorem ki_M : Cond.instantiable nm_M 15 ∈ am_TW := (am_mem 345 (by decide +kernel) (by decide +kernel))
theorem klM_117 : Cond.constantLong nm_M 117 (-1000000000000) ∈ am_TW := (am_mem 500 (by decide +kernel) (by decide +kernel))
end
section
/-! ===== branches whose way is known; stores with the new heap named ===== -/
theorem am_if_eq_T {g : am_G} {μ : am_M} {d ac as pc : Nat} {lv : List (Option am_V)} {st : List am_V} {h : am_H} {Q : Option am_V → am_H → Prop} {x : Int32} {off : Int} {tgt : Nat} (hd : decode μ.2.1 pc = .ok (.ifCond .eq off, 3)) (ht : (pc : Int) + off = (tgt : Int)) (hc : x = 0) (k : am_T g μ d ac as tgt lv st h Q) : am_T g μ d ac as pc lv (am_I x :: st) h Q :=
  am_if_eq hd ht (fun _ => k) (fun q => absurd hc (by first | exact q | exact fun z => q z | exact fun z => z q))
theorem am_if_eq_F {g : am_G} {μ : am_M} {d ac as pc : Nat} {lv : List (Option am_V)} {st : List am_V} {h : am_H} {Q : Option am_V → am_H → Prop} {x : Int32} {off : Int} {tgt : Nat} (hd : decode μ.2.1 pc = .ok (.ifCond .eq off, 3)) (ht : (pc : Int) + off = (tgt : Int)) (hc : ¬ x = 0) (k : am_T g μ d ac as (pc + 3) lv st h Q) : am_T g μ d ac as pc lv (am_I x :: st) h Q :=
  am_if_eq hd ht (fun q => absurd hc (by first | exact q | exact fun z => z q | exact fun z => q z)) (fun _ => k)
theorem am_icmp_eq_T {g : am_G} {μ : am_M} {d ac as pc : Nat} {lv : List (Option am_V)} {st : List am_V} {h : am_H} {Q : Option am_V → am_H → Prop} {x y : Int32} {off : Int} {tgt : Nat} (hd : decode μ.2.1 pc = .ok (.if_icmp .eq off, 3)) (ht : (pc : Int) + off = (tgt : Int)) (hc : x = y) (k : am_T g μ d ac as tgt lv st h Q) : am_T g μ d ac as pc lv (am_I y :: am_I x :: st) h Q :=
  am_icmp_eq hd ht (fun _ => k) (fun q => absurd hc (by first | exact q | exact fun z => q z | exact fun z => z q))
theorem am_icmp_eq_F {g : am_G} {μ : am_M} {d ac as pc : Nat} {lv : List (Option am_V)} {st : List am_V} {h : am_H} {Q : Option am_V → am_H → Prop} {x y : Int32} {off : Int} {tgt : Nat} (hd : decode μ.2.1 pc = .ok (.if_icmp .eq off, 3)) (ht : (pc : Int) + off = (tgt : Int)) (hc : ¬ x = y) (k : am_T g μ d ac as (pc + 3) lv st h Q) : am_T g μ d ac as pc lv (am_I y :: am_I x :: st) h Q :=
  am_icmp_eq hd ht (fun q => absurd hc (by first | exact q | exact fun z => z q | exact fun z => q z)) (fun _ => k)
theorem am_if_ne_T {g : am_G} {μ : am_M} {d ac as pc : Nat} {lv : List (Option am_V)} {st : List am_V} {h : am_H} {Q : Option am_V → am_H → Prop} {x : Int32} {off : Int} {tgt : Nat} (hd : decode μ.2.1 pc = .ok (.ifCond .ne off, 3)) (ht : (pc : Int) + off = (tgt : Int)) (hc : ¬ x = 0) (k : am_T g μ d ac as tgt lv st h Q) : am_T g μ d ac as pc lv (am_I x :: st) h Q :=
  am_if_ne hd ht (fun _ => k) (fun q => absurd hc (by first | exact q | exact fun z => q z | exact fun z => z q))
theorem am_if_ne_F {g : am_G} {μ : am_M} {d ac as pc : Nat} {lv : List (Option am_V)} {st : List am_V} {h : am_H} {Q : Option am_V → am_H → Prop} {x : Int32} {off : Int} {tgt : Nat} (hd : decode μ.2.1 pc = .ok (.ifCond .ne off, 3)) (ht : (pc : Int) + off = (tgt : Int)) (hc : x = 0) (k : am_T g μ d ac as (pc + 3) lv st h Q) : am_T g μ d ac as pc lv (am_I x :: st) h Q :=
  am_if_ne hd ht (fun q => absurd hc (by first | exact q | exact fun z => z q | exact fun z => q z)) (fun _ => k)
theorem am_icmp_ne_T {g : am_G} {μ : am_M} {d ac as pc : Nat} {lv : List (Option am_V)} {st : List am_V} {h : am_H} {Q : Option am_V → am_H → Prop} {x y : Int32} {off : Int} {tgt : Nat} (hd : decode μ.2.1 pc = .ok (.if_icmp .ne off, 3)) (ht : (pc : Int) + off = (tgt : Int)) (hc : ¬ x = y) (k : am_T g μ d ac as tgt lv st h Q) : am_T g μ d ac as pc lv (am_I y :: am_I x :: st) h Q :=
  am_icmp_ne hd ht (fun _ => k) (fun q => absurd hc (by first | exact q | exact fun z => q z | exact fun z => z q))
theorem am_icmp_ne_F {g : am_G} {μ : am_M} {d ac as pc : Nat} {lv : List (Option am_V)} {st : List am_V} {h : am_H} {Q : Option am_V → am_H → Prop} {x y : Int32} {off : Int} {tgt : Nat} (hd : decode μ.2.1 pc = .ok (.if_icmp .ne off, 3)) (ht : (pc : Int) + off = (tgt : Int)) (hc : x = y) (k : am_T g μ d ac as (pc + 3) lv st h Q) : am_T g μ d ac as pc lv (am_I y :: am_I x :: st) h Q :=
  am_icmp_ne hd ht (fun q => absurd hc (by first | exact q | exact fun z => z q | exact fun z => q z)) (fun _ => k)
theorem am_if_lt_T {g : am_G} {μ : am_M} {d ac as pc : Nat} {lv : List (Option am_V)} {st : List am_V} {h : am_H} {Q : Option am_V → am_H → Prop} {x : Int32} {off : Int} {tgt : Nat} (hd : decode μ.2.1 pc = .ok (.ifCond .lt off, 3)) (ht : (pc : Int) + off = (tgt : Int)) (hc : x < 0) (k : am_T g μ d ac as tgt lv st h Q) : am_T g μ d ac as pc lv (am_I x :: st) h Q :=
  am_if_lt hd ht (fun _ => k) (fun q => absurd hc (by first | exact q | exact fun z => q z | exact fun z => z q))
theorem am_if_lt_F {g : am_G} {μ : am_M} {d ac as pc : Nat} {lv : List (Option am_V)} {st : List am_V} {h : am_H} {Q : Option am_V → am_H → Prop} {x : Int32} {off : Int} {tgt : Nat} (hd : decode μ.2.1 pc = .ok (.ifCond .lt off, 3)) (ht : (pc : Int) + off = (tgt : Int)) (hc : ¬ x < 0) (k : am_T g μ d ac as (pc + 3) lv st h Q) : am_T g μ d ac as pc lv (am_I x :: st) h Q :=
  am_if_lt hd ht (fun q => absurd hc (by first | exact q | exact fun z => z q | exact fun z => q z)) (fun _ => k)
theorem am_icmp_lt_T {g : am_G} {μ : am_M} {d ac as pc : Nat} {lv : List (Option am_V)} {st : List am_V} {h : am_H} {Q : Option am_V → am_H → Prop} {x y : Int32} {off : Int} {tgt : Nat} (hd : decode μ.2.1 pc = .ok (.if_icmp .lt off, 3)) (ht : (pc : Int) + off = (tgt : Int)) (hc : x < y) (k : am_T g μ d ac as tgt lv st h Q) : am_T g μ d ac as pc lv (am_I y :: am_I x :: st) h Q :=
  am_icmp_lt hd ht (fun _ => k) (fun q => absurd hc (by first | exact q | exact fun z => q z | exact fun z => z q))
theorem am_icmp_lt_F {g : am_G} {μ : am_M} {d ac as pc : Nat} {lv : List (Option am_V)} {st : List am_V} {h : am_H} {Q : Option am_V → am_H → Prop} {x y : Int32} {off : Int} {tgt : Nat} (hd : decode μ.2.1 pc = .ok (.if_icmp .lt off, 3)) (ht : (pc : Int) + off = (tgt : Int)) (hc : ¬ x < y) (k : am_T g μ d ac as (pc + 3) lv st h Q) : am_T g μ d ac as pc lv (am_I y :: am_I x :: st) h Q :=
  am_icmp_lt hd ht (fun q => absurd hc (by first | exact q | exact fun z => z q | exact fun z => q z)) (fun _ => k)
theorem am_if_ge_T {g : am_G} {μ : am_M} {d ac as pc : Nat} {lv : List (Option am_V)} {st : List am_V} {h : am_H} {Q : Option am_V → am_H → Prop} {x : Int32} {off : Int} {tgt : Nat} (hd : decode μ.2.1 pc = .ok (.ifCond .ge off, 3)) (ht : (pc : Int) + off = (tgt : Int)) (hc : 0 ≤ x) (k : am_T g μ d ac as tgt lv st h Q) : am_T g μ d ac as pc lv (am_I x :: st) h Q :=
  am_if_ge hd ht (fun _ => k) (fun q => absurd hc (by first | exact q | exact fun z => q z | exact fun z => z q))
theorem am_if_ge_F {g : am_G} {μ : am_M} {d ac as pc : Nat} {lv : List (Option am_V)} {st : List am_V} {h : am_H} {Q : Option am_V → am_H → Prop} {x : Int32} {off : Int} {tgt : Nat} (hd : decode μ.2.1 pc = .ok (.ifCond .ge off, 3)) (ht : (pc : Int) + off = (tgt : Int)) (hc : ¬ 0 ≤ x) (k : am_T g μ d ac as (pc + 3) lv st h Q) : am_T g μ d ac as pc lv (am_I x :: st) h Q :=
  am_if_ge hd ht (fun q => absurd hc (by first | exact q | exact fun z => z q | exact fun z => q z)) (fun _ => k)
theorem am_icmp_ge_T {g : am_G} {μ : am_M} {d ac as pc : Nat} {lv : List (Option am_V)} {st : List am_V} {h : am_H} {Q : Option am_V → am_H → Prop} {x y : Int32} {off : Int} {tgt : Nat} (hd : decode μ.2.1 pc = .ok (.if_icmp .ge off, 3)) (ht : (pc : Int) + off = (tgt : Int)) (hc : y ≤ x) (k : am_T g μ d ac as tgt lv st h Q) : am_T g μ d ac as pc lv (am_I y :: am_I x :: st) h Q :=
  am_icmp_ge hd ht (fun _ => k) (fun q => absurd hc (by first | exact q | exact fun z => q z | exact fun z => z q))
theorem am_icmp_ge_F {g : am_G} {μ : am_M} {d ac as pc : Nat} {lv : List (Option am_V)} {st : List am_V} {h : am_H} {Q : Option am_V → am_H → Prop} {x y : Int32} {off : Int} {tgt : Nat} (hd : decode μ.2.1 pc = .ok (.if_icmp .ge off, 3)) (ht : (pc : Int) + off = (tgt : Int)) (hc : ¬ y ≤ x) (k : am_T g μ d ac as (pc + 3) lv st h Q) : am_T g μ d ac as pc lv (am_I y :: am_I x :: st) h Q :=
  am_icmp_ge hd ht (fun q => absurd hc (by first | exact q | exact fun z => z q | exact fun z => q z)) (fun _ => k)
theorem am_if_gt_T {g : am_G} {μ : am_M} {d ac as pc : Nat} {lv : List (Option am_V)} {st : List am_V} {h : am_H} {Q : Option am_V → am_H → Prop} {x : Int32} {off : Int} {tgt : Nat} (hd : decode μ.2.1 pc = .ok (.ifCond .gt off, 3)) (ht : (pc : Int) + off = (tgt : Int)) (hc : 0 < x) (k : am_T g μ d ac as tgt lv st h Q) : am_T g μ d ac as pc lv (am_I x :: st) h Q :=
  am_if_gt hd ht (fun _ => k) (fun q => absurd hc (by first | exact q | exact fun z => q z | exact fun z => z q))
theorem am_if_gt_F {g : am_G} {μ : am_M} {d ac as pc : Nat} {lv : List (Option am_V)} {st : List am_V} {h : am_H} {Q : Option am_V → am_H → Prop} {x : Int32} {off : Int} {tgt : Nat} (hd : decode μ.2.1 pc = .ok (.ifCond .gt off, 3)) (ht : (pc : Int) + off = (tgt : Int)) (hc : ¬ 0 < x) (k : am_T g μ d ac as (pc + 3) lv st h Q) : am_T g μ d ac as pc lv (am_I x :: st) h Q :=
  am_if_gt hd ht (fun q => absurd hc (by first | exact q | exact fun z => z q | exact fun z => q z)) (fun _ => k)
theorem am_icmp_gt_T {g : am_G} {μ : am_M} {d ac as pc : Nat} {lv : List (Option am_V)} {st : List am_V} {h : am_H} {Q : Option am_V → am_H → Prop} {x y : Int32} {off : Int} {tgt : Nat} (hd : decode μ.2.1 pc = .ok (.if_icmp .gt off, 3)) (ht : (pc : Int) + off = (tgt : Int)) (hc : y < x) (k : am_T g μ d ac as tgt lv st h Q) : am_T g μ d ac as pc lv (am_I y :: am_I x :: st) h Q :=
  am_icmp_gt hd ht (fun _ => k) (fun q => absurd hc (by first | exact q | exact fun z => q z | exact fun z => z q))
theorem am_icmp_gt_F {g : am_G} {μ : am_M} {d ac as pc : Nat} {lv : List (Option am_V)} {st : List am_V} {h : am_H} {Q : Option am_V → am_H → Prop} {x y : Int32} {off : Int} {tgt : Nat} (hd : decode μ.2.1 pc = .ok (.if_icmp .gt off, 3)) (ht : (pc : Int) + off = (tgt : Int)) (hc : ¬ y < x) (k : am_T g μ d ac as (pc + 3) lv st h Q) : am_T g μ d ac as pc lv (am_I y :: am_I x :: st) h Q :=
  am_icmp_gt hd ht (fun q => absurd hc (by first | exact q | exact fun z => z q | exact fun z => q z)) (fun _ => k)
theorem am_if_le_T {g : am_G} {μ : am_M} {d ac as pc : Nat} {lv : List (Option am_V)} {st : List am_V} {h : am_H} {Q : Option am_V → am_H → Prop} {x : Int32} {off : Int} {tgt : Nat} (hd : decode μ.2.1 pc = .ok (.ifCond .le off, 3)) (ht : (pc : Int) + off = (tgt : Int)) (hc : x ≤ 0) (k : am_T g μ d ac as tgt lv st h Q) : am_T g μ d ac as pc lv (am_I x :: st) h Q :=
  am_if_le hd ht (fun _ => k) (fun q => absurd hc (by first | exact q | exact fun z => q z | exact fun z => z q))
theorem am_if_le_F {g : am_G} {μ : am_M} {d ac as pc : Nat} {lv : List (Option am_V)} {st : List am_V} {h : am_H} {Q : Option am_V → am_H → Prop} {x : Int32} {off : Int} {tgt : Nat} (hd : decode μ.2.1 pc = .ok (.ifCond .le off, 3)) (ht : (pc : Int) + off = (tgt : Int)) (hc : ¬ x ≤ 0) (k : am_T g μ d ac as (pc + 3) lv st h Q) : am_T g μ d ac as pc lv (am_I x :: st) h Q :=
  am_if_le hd ht (fun q => absurd hc (by first | exact q | exact fun z => z q | exact fun z => q z)) (fun _ => k)
theorem am_icmp_le_T {g : am_G} {μ : am_M} {d ac as pc : Nat} {lv : List (Option am_V)} {st : List am_V} {h : am_H} {Q : Option am_V → am_H → Prop} {x y : Int32} {off : Int} {tgt : Nat} (hd : decode μ.2.1 pc = .ok (.if_icmp .le off, 3)) (ht : (pc : Int) + off = (tgt : Int)) (hc : x ≤ y) (k : am_T g μ d ac as tgt lv st h Q) : am_T g μ d ac as pc lv (am_I y :: am_I x :: st) h Q :=
  am_icmp_le hd ht (fun _ => k) (fun q => absurd hc (by first | exact q | exact fun z => q z | exact fun z => z q))
theorem am_icmp_le_F {g : am_G} {μ : am_M} {d ac as pc : Nat} {lv : List (Option am_V)} {st : List am_V} {h : am_H} {Q : Option am_V → am_H → Prop} {x y : Int32} {off : Int} {tgt : Nat} (hd : decode μ.2.1 pc = .ok (.if_icmp .le off, 3)) (ht : (pc : Int) + off = (tgt : Int)) (hc : ¬ x ≤ y) (k : am_T g μ d ac as (pc + 3) lv st h Q) : am_T g μ d ac as pc lv (am_I y :: am_I x :: st) h Q :=
  am_icmp_le hd ht (fun q => absurd hc (by first | exact q | exact fun z => z q | exact fun z => q z)) (fun _ => k)
theorem am_putf' {g : am_G} {μ : am_M} {d ac as pc : Nat} {lv : List (Option am_V)} {st : List am_V} {h h' : am_H} {Q : Option am_V → am_H → Prop} {r i idx ci k n : Nat} {v : am_V} (hd : decode μ.2.1 pc = .ok (.putfield idx, 3)) (hf : am_FL μ.1.cls idx ci k) (hk : h.2.1 r i = some (.inl ci, n)) (hfin : am_fin ci k = false) (hvk : am_vok (am_ty ci k) v) (he : am_up h r i k v = h') (kk : am_T g μ d ac as (pc + 3) lv st h' Q) : am_T g μ d ac as pc lv (v :: am_O r i :: st) h Q := by
  subst he
  exact am_putf hd hf hk hfin hvk kk
theorem am_iast' {g : am_G} {μ : am_M} {d ac as pc : Nat} {lv : List (Option am_V)} {st : List am_V} {h h' : am_H} {Q : Option am_V → am_H → Prop} {r i j n : Nat} {x y : Int32} (hd : decode μ.2.1 pc = .ok (.iastore, 1)) (hk : h.2.1 r i = some (.inr .int, n)) (hx : x = nI j) (hj : j < n) (hn : n < 2 ^ 31) (hty : .int ∈ am_tys) (he : am_up h r i j (am_I y) = h') (kk : am_T g μ d ac as (pc + 1) lv st h' Q) : am_T g μ d ac as pc lv (am_I y :: am_I x :: am_O r i :: st) h Q := by
  subst he
  exact am_iast hd hk hx hj hn hty kk
theorem am_zast' {g : am_G} {μ : am_M} {d ac as pc : Nat} {lv : List (Option am_V)} {st : List am_V} {h h' : am_H} {Q : Option am_V → am_H → Prop} {r i j n : Nat} {x y : Int32} (hd : decode μ.2.1 pc = .ok (.bastore, 1)) (hk : h.2.1 r i = some (.inr .boolean, n)) (hx : x = nI j) (hj : j < n) (hn : n < 2 ^ 31) (hty : .boolean ∈ am_tys) (hnr : narrow .boolean (.int y) = .int y) (he : am_up h r i j (am_I y) = h') (kk : am_T g μ d ac as (pc + 1) lv st h' Q) : am_T g μ d ac as pc lv (am_I y :: am_I x :: am_O r i :: st) h Q := by
  subst he
  exact am_zast hd hk hx hj hn hty hnr kk
theorem am_heq {g : am_G} {μ : am_M} {d mc ms : Nat} {xs : List am_V} {h h' : am_H} {Q : Option am_V → am_H → Prop} (he : h = h') (k : am_C g μ d mc ms xs h' Q) : am_C g μ d mc ms xs h Q := he ▸ k
theorem am_hT {g : am_G} {μ : am_M} {d ac as pc : Nat} {lv : List (Option am_V)} {st : List am_V} {h h' : am_H} {Q : Option am_V → am_H → Prop} (he : h = h') (k : am_T g μ d ac as pc lv st h' Q) : am_T g μ d ac as pc lv st h Q := he ▸ k
theorem am_sT {g : am_G} {μ : am_M} {d ac as pc : Nat} {lv : List (Option am_V)} {st : List am_V} {h : am_H} {Q : Option am_V → am_H → Prop} {st' : List am_V} (he : st = st') (k : am_T g μ d ac as pc lv st' h Q) : am_T g μ d ac as pc lv st h Q := he ▸ k
theorem am_lT {g : am_G} {μ : am_M} {d ac as pc : Nat} {lv : List (Option am_V)} {st : List am_V} {h : am_H} {Q : Option am_V → am_H → Prop} {lv' : List (Option am_V)} (he : lv = lv') (k : am_T g μ d ac as pc lv' st h Q) : am_T g μ d ac as pc lv st h Q := he ▸ k
end
section
/-! ===== the heap behind the constructors: the class's regions 0 .. 12, the reference's 20 .. 33 ===== -/
def sh_K (r i : Nat) : Option am_E := match r with
  | 0 => match i with
    | 0 => some (.inl 1, 11)
    | _ => none
  | 1 => match i with
    | 0 => some (.inr (.object "MatrixModule$Operation"), 28)
    | _ => none
  | 2 => match i with
    | 0 => some (.inr (.object "MatrixModule$Operation"), 28)
    | _ => none
  | 3 => match i with
    | 0 => some (.inr .int, 28)
    | _ => none
  | 4 => match i with
    | 0 => some (.inr .boolean, 28)
    | _ => none
  | 5 => match i with
    | 0 => some (.inr .boolean, 28)
    | _ => none
  | 6 => match i with
    | 0 => some (.inr (.array .int), 28)
    | _ => none
  | 7 => match i with
    | 0 => some (.inr (.array .int), 4)
    | _ => none
  | 8 => if i < 28 then some (.inl 0, 7) else none
  | 9 => if i < 28 then some (.inl 0, 7) else none
  | 10 => if i < 28 then some (.inr .int, 16) else none
  | 11 => if i < 4 then some (.inr .int, 16) else none
  | 12 => match i with
    | 0 => some (.inr .int, 7)
    | _ => none
  | 20 => match i with
    | 0 => some (.inl 2, 15)
    | _ => none
  | 21 => match i with
    | 0 => some (.inr .int, 56)
    | _ => none
  | 22 => match i with
    | 0 => some (.inr .int, 56)
    | _ => none
  | 23 => match i with
    | 0 => some (.inr .int, 56)
    | _ => none
  | 24 => match i with
    | 0 => some (.inr .int, 56)
    | _ => none
  | 25 => match i with
    | 0 => some (.inr .int, 56)
    | _ => none
  | 26 => match i with
    | 0 => some (.inr .int, 28)
    | _ => none
  | 27 => match i with
    | 0 => some (.inr .int, 28)
    | _ => none
  | 28 => match i with
    | 0 => some (.inr .boolean, 28)
    | _ => none
  | 29 => match i with
    | 0 => some (.inr .int, 28)
    | _ => none
  | 30 => match i with
    | 0 => some (.inr .int, 64)
    | _ => none
  | 31 => match i with
    | 0 => some (.inr .int, 448)
    | _ => none
  | 32 => match i with
    | 0 => some (.inr .boolean, 28)
    | _ => none
  | 33 => match i with
    | 0 => some (.inr .int, 7)
    | _ => none
  | _ => none
/-- the class's own memory -/
def xc (A P : Nat → Nat → Int32) (st mk lv : Nat → Int32) (cl pr : Nat → Nat → Int32) (us : Nat → Int32) (va si wk : Int32) (r i k : Nat) : am_V := match r with
  | 0 => match i with
    | 0 => match k with
      | 0 => am_O 1 0
      | 1 => am_O 2 0
      | 2 => am_O 3 0
      | 3 => am_O 4 0
      | 4 => am_O 5 0
      | 5 => am_O 6 0
      | 6 => am_O 7 0
      | 7 => am_O 12 0
      | 8 => am_I va
      | 9 => am_I si
      | 10 => am_I wk
      | _ => am_N
    | _ => am_N
  | 1 => match i with
    | 0 => am_O 8 k
    | _ => am_N
  | 2 => match i with
    | 0 => am_O 9 k
    | _ => am_N
  | 3 => match i with
    | 0 => am_I (st k)
    | _ => am_N
  | 4 => match i with
    | 0 => am_I (mk k)
    | _ => am_N
  | 5 => match i with
    | 0 => am_I (lv k)
    | _ => am_N
  | 6 => match i with
    | 0 => am_O 10 k
    | _ => am_N
  | 7 => match i with
    | 0 => am_O 11 k
    | _ => am_N
  | 8 => am_I (A i k)
  | 9 => am_I (P i k)
  | 10 => am_I (cl i k)
  | 11 => am_I (pr i k)
  | 12 => match i with
    | 0 => am_I (us k)
    | _ => am_N
  | _ => am_N
/-- the reference's own memory -/
def yc (kd fi se np nq ro co mm sd pa ce wd ud : Nat → Int32) (vn sm : Int32) (r i k : Nat) : am_V := match r with
  | 0 => match i with
    | 0 => match k with
      | 0 => am_O 21 0
      | 1 => am_O 22 0
      | 2 => am_O 23 0
      | 3 => am_O 24 0
      | 4 => am_O 25 0
      | 5 => am_O 26 0
      | 6 => am_O 27 0
      | 7 => am_O 28 0
      | 8 => am_O 29 0
      | 9 => am_O 30 0
      | 10 => am_O 31 0
      | 11 => am_O 32 0
      | 12 => am_O 33 0
      | 13 => am_I vn
      | 14 => am_I sm
      | _ => am_N
    | _ => am_N
  | 1 => match i with
    | 0 => am_I (kd k)
    | _ => am_N
  | 2 => match i with
    | 0 => am_I (fi k)
    | _ => am_N
  | 3 => match i with
    | 0 => am_I (se k)
    | _ => am_N
  | 4 => match i with
    | 0 => am_I (np k)
    | _ => am_N
  | 5 => match i with
    | 0 => am_I (nq k)
    | _ => am_N
  | 6 => match i with
    | 0 => am_I (ro k)
    | _ => am_N
  | 7 => match i with
    | 0 => am_I (co k)
    | _ => am_N
  | 8 => match i with
    | 0 => am_I (mm k)
    | _ => am_N
  | 9 => match i with
    | 0 => am_I (sd k)
    | _ => am_N
  | 10 => match i with
    | 0 => am_I (pa k)
    | _ => am_N
  | 11 => match i with
    | 0 => am_I (ce k)
    | _ => am_N
  | 12 => match i with
    | 0 => am_I (wd k)
    | _ => am_N
  | 13 => match i with
    | 0 => am_I (ud k)
    | _ => am_N
  | _ => am_N
def hm (X Y : Nat → Nat → Nat → am_V) : am_H := (111, sh_K, fun r i k => bif Nat.ble 20 r then Y (r - 20) i k else X r i k)
def up2 (f : Nat → Nat → Int32) (i k : Nat) (x : Int32) : Nat → Nat → Int32 := fun i' k' => if i' = i ∧ k' = k then x else f i' k'
theorem up2_eq (f : Nat → Nat → Int32) (i k : Nat) (x : Int32) : up2 f i k x i k = x := if_pos ⟨rfl, rfl⟩
theorem up2_ne {f : Nat → Nat → Int32} {i k i' k' : Nat} {x : Int32} (h : ¬ (i' = i ∧ k' = k)) : up2 f i k x i' k' = f i' k' := if_neg h
theorem up2_i {f : Nat → Nat → Int32} {i k i' k' : Nat} {x : Int32} (h : i' ≠ i) : up2 f i k x i' k' = f i' k' := if_neg (fun q => h q.1)
theorem up2_k {f : Nat → Nat → Int32} {i k i' k' : Nat} {x : Int32} (h : k' ≠ k) : up2 f i k x i' k' = f i' k' := if_neg (fun q => h q.2)
theorem upd_eq (f : Nat → Int32) (k : Nat) (x : Int32) : upd f k x k = x := if_pos rfl
theorem upd_ne {f : Nat → Int32} {k j : Nat} {x : Int32} (h : j ≠ k) : upd f k x j = f j := if_neg h
theorem sk8 {X Y : Nat → Nat → Nat → am_V} {i : Nat} (h : i < 28) : (hm X Y).2.1 8 i = some (.inl 0, 7) := if_pos h
theorem sk9 {X Y : Nat → Nat → Nat → am_V} {i : Nat} (h : i < 28) : (hm X Y).2.1 9 i = some (.inl 0, 7) := if_pos h
theorem sk10 {X Y : Nat → Nat → Nat → am_V} {i : Nat} (h : i < 28) : (hm X Y).2.1 10 i = some (.inr .int, 16) := if_pos h
theorem sk11 {X Y : Nat → Nat → Nat → am_V} {i : Nat} (h : i < 4) : (hm X Y).2.1 11 i = some (.inr .int, 16) := if_pos h
theorem hm_X {X X' Y : Nat → Nat → Nat → am_V} {r i k : Nat} {v : am_V} (hr : r < 20) (h : ∀ r' i' k', (if r' = r ∧ i' = i ∧ k' = k then v else X r' i' k') = X' r' i' k') : am_up (hm X Y) r i k v = hm X' Y := by
  refine Prod.ext rfl (Prod.ext rfl ?_)
  funext r' i' k'
  show (if r' = r ∧ i' = i ∧ k' = k then v else (bif Nat.ble 20 r' then Y (r' - 20) i' k' else X r' i' k')) = (bif Nat.ble 20 r' then Y (r' - 20) i' k' else X' r' i' k')
  rw [← h r' i' k']
  cases hb : Nat.ble 20 r' with
  | true =>
    have : 20 ≤ r' := Nat.le_of_ble_eq_true hb
    rw [if_neg (fun q => by omega)]
    rfl
  | false => rfl
theorem hm_Y {X Y Y' : Nat → Nat → Nat → am_V} {r i k : Nat} {v : am_V} (h : ∀ r' i' k', (if r' = r ∧ i' = i ∧ k' = k then v else Y r' i' k') = Y' r' i' k') : am_up (hm X Y) (20 + r) i k v = hm X Y' := by
  refine Prod.ext rfl (Prod.ext rfl ?_)
  funext r' i' k'
  show (if r' = 20 + r ∧ i' = i ∧ k' = k then v else (bif Nat.ble 20 r' then Y (r' - 20) i' k' else X r' i' k')) = (bif Nat.ble 20 r' then Y' (r' - 20) i' k' else X r' i' k')
  cases hb : Nat.ble 20 r' with
  | true =>
    have : 20 ≤ r' := Nat.le_of_ble_eq_true hb
    show _ = Y' (r' - 20) i' k'
    rw [← h (r' - 20) i' k']
    by_cases hr : r' = 20 + r
    · subst hr
      rw [show 20 + r - 20 = r by omega]
      by_cases hc : i' = i ∧ k' = k
      · rw [if_pos ⟨rfl, hc⟩, if_pos ⟨rfl, hc⟩]
      · rw [if_neg (fun q => hc q.2), if_neg (fun q => hc q.2)]
        rfl
    · rw [if_neg (fun q => hr q.1), if_neg (fun q => hr (by omega))]
      rfl
  | false =>
    have : ¬ 20 ≤ r' := fun q => by rw [Nat.ble_eq_true_of_le q] at hb; cases hb
    rw [if_neg (fun q => by omega)]
    rfl
theorem wx_st {Y : Nat → Nat → Nat → am_V} {A P : Nat → Nat → Int32} {st mk lv : Nat → Int32} {cl pr : Nat → Nat → Int32} {us : Nat → Int32} {va si wk : Int32} {k : Nat} {x : Int32} : am_up (hm (xc A P st mk lv cl pr us va si wk) Y) 3 0 k (am_I x) = hm (xc A P (upd st k x) mk lv cl pr us va si wk) Y := by
  refine hm_X (by decide) (fun r' i' k' => ?_)
  by_cases hr : r' = 3
  · subst hr
    cases i' with
    | succ n => rw [if_neg (fun q => by omega)]; rfl
    | zero =>
      by_cases hc : k' = k
      · subst hc
        rw [if_pos ⟨rfl, rfl, rfl⟩]
        show _ = am_I (upd st k' x k')
        rw [upd_eq]
      · rw [if_neg (fun q => hc q.2.2)]
        show am_I (st k') = am_I (upd st k x k')
        rw [upd_ne hc]
  · rw [if_neg (fun q => hr q.1)]
    match r', hr with
    | 0, hr => first | rfl | exact absurd rfl hr
    | 1, hr => first | rfl | exact absurd rfl hr
    | 2, hr => first | rfl | exact absurd rfl hr
    | 3, hr => first | rfl | exact absurd rfl hr
    | 4, hr => first | rfl | exact absurd rfl hr
    | 5, hr => first | rfl | exact absurd rfl hr
    | 6, hr => first | rfl | exact absurd rfl hr
    | 7, hr => first | rfl | exact absurd rfl hr
    | 8, hr => first | rfl | exact absurd rfl hr
    | 9, hr => first | rfl | exact absurd rfl hr
    | 10, hr => first | rfl | exact absurd rfl hr
    | 11, hr => first | rfl | exact absurd rfl hr
    | 12, hr => first | rfl | exact absurd rfl hr
    | n + 13, _ => rfl
theorem wx_mk {Y : Nat → Nat → Nat → am_V} {A P : Nat → Nat → Int32} {st mk lv : Nat → Int32} {cl pr : Nat → Nat → Int32} {us : Nat → Int32} {va si wk : Int32} {k : Nat} {x : Int32} : am_up (hm (xc A P st mk lv cl pr us va si wk) Y) 4 0 k (am_I x) = hm (xc A P st (upd mk k x) lv cl pr us va si wk) Y := by
  refine hm_X (by decide) (fun r' i' k' => ?_)
  by_cases hr : r' = 4
  · subst hr
    cases i' with
    | succ n => rw [if_neg (fun q => by omega)]; rfl
    | zero =>
      by_cases hc : k' = k
      · subst hc
        rw [if_pos ⟨rfl, rfl, rfl⟩]
        show _ = am_I (upd mk k' x k')
        rw [upd_eq]
      · rw [if_neg (fun q => hc q.2.2)]
        show am_I (mk k') = am_I (upd mk k x k')
        rw [upd_ne hc]
  · rw [if_neg (fun q => hr q.1)]
    match r', hr with
    | 0, hr => first | rfl | exact absurd rfl hr
    | 1, hr => first | rfl | exact absurd rfl hr
    | 2, hr => first | rfl | exact absurd rfl hr
    | 3, hr => first | rfl | exact absurd rfl hr
    | 4, hr => first | rfl | exact absurd rfl hr
    | 5, hr => first | rfl | exact absurd rfl hr
    | 6, hr => first | rfl | exact absurd rfl hr
    | 7, hr => first | rfl | exact absurd rfl hr
    | 8, hr => first | rfl | exact absurd rfl hr
    | 9, hr => first | rfl | exact absurd rfl hr
    | 10, hr => first | rfl | exact absurd rfl hr
    | 11, hr => first | rfl | exact absurd rfl hr
    | 12, hr => first | rfl | exact absurd rfl hr
    | n + 13, _ => rfl
theorem wx_lv {Y : Nat → Nat → Nat → am_V} {A P : Nat → Nat → Int32} {st mk lv : Nat → Int32} {cl pr : Nat → Nat → Int32} {us : Nat → Int32} {va si wk : Int32} {k : Nat} {x : Int32} : am_up (hm (xc A P st mk lv cl pr us va si wk) Y) 5 0 k (am_I x) = hm (xc A P st mk (upd lv k x) cl pr us va si wk) Y := by
  refine hm_X (by decide) (fun r' i' k' => ?_)
  by_cases hr : r' = 5
  · subst hr
    cases i' with
    | succ n => rw [if_neg (fun q => by omega)]; rfl
    | zero =>
      by_cases hc : k' = k
      · subst hc
        rw [if_pos ⟨rfl, rfl, rfl⟩]
        show _ = am_I (upd lv k' x k')
        rw [upd_eq]
      · rw [if_neg (fun q => hc q.2.2)]
        show am_I (lv k') = am_I (upd lv k x k')
        rw [upd_ne hc]
  · rw [if_neg (fun q => hr q.1)]
    match r', hr with
    | 0, hr => first | rfl | exact absurd rfl hr
    | 1, hr => first | rfl | exact absurd rfl hr
    | 2, hr => first | rfl | exact absurd rfl hr
    | 3, hr => first | rfl | exact absurd rfl hr
    | 4, hr => first | rfl | exact absurd rfl hr
    | 5, hr => first | rfl | exact absurd rfl hr
    | 6, hr => first | rfl | exact absurd rfl hr
    | 7, hr => first | rfl | exact absurd rfl hr
    | 8, hr => first | rfl | exact absurd rfl hr
    | 9, hr => first | rfl | exact absurd rfl hr
    | 10, hr => first | rfl | exact absurd rfl hr
    | 11, hr => first | rfl | exact absurd rfl hr
    | 12, hr => first | rfl | exact absurd rfl hr
    | n + 13, _ => rfl
theorem wx_us {Y : Nat → Nat → Nat → am_V} {A P : Nat → Nat → Int32} {st mk lv : Nat → Int32} {cl pr : Nat → Nat → Int32} {us : Nat → Int32} {va si wk : Int32} {k : Nat} {x : Int32} : am_up (hm (xc A P st mk lv cl pr us va si wk) Y) 12 0 k (am_I x) = hm (xc A P st mk lv cl pr (upd us k x) va si wk) Y := by
  refine hm_X (by decide) (fun r' i' k' => ?_)
  by_cases hr : r' = 12
  · subst hr
    cases i' with
    | succ n => rw [if_neg (fun q => by omega)]; rfl
    | zero =>
      by_cases hc : k' = k
      · subst hc
        rw [if_pos ⟨rfl, rfl, rfl⟩]
        show _ = am_I (upd us k' x k')
        rw [upd_eq]
      · rw [if_neg (fun q => hc q.2.2)]
        show am_I (us k') = am_I (upd us k x k')
        rw [upd_ne hc]
  · rw [if_neg (fun q => hr q.1)]
    match r', hr with
    | 0, hr => first | rfl | exact absurd rfl hr
    | 1, hr => first | rfl | exact absurd rfl hr
    | 2, hr => first | rfl | exact absurd rfl hr
    | 3, hr => first | rfl | exact absurd rfl hr
    | 4, hr => first | rfl | exact absurd rfl hr
    | 5, hr => first | rfl | exact absurd rfl hr
    | 6, hr => first | rfl | exact absurd rfl hr
    | 7, hr => first | rfl | exact absurd rfl hr
    | 8, hr => first | rfl | exact absurd rfl hr
    | 9, hr => first | rfl | exact absurd rfl hr
    | 10, hr => first | rfl | exact absurd rfl hr
    | 11, hr => first | rfl | exact absurd rfl hr
    | 12, hr => first | rfl | exact absurd rfl hr
    | n + 13, _ => rfl
theorem wx_A {Y : Nat → Nat → Nat → am_V} {A P : Nat → Nat → Int32} {st mk lv : Nat → Int32} {cl pr : Nat → Nat → Int32} {us : Nat → Int32} {va si wk : Int32} {i k : Nat} {x : Int32} : am_up (hm (xc A P st mk lv cl pr us va si wk) Y) 8 i k (am_I x) = hm (xc (up2 A i k x) P st mk lv cl pr us va si wk) Y := by
  refine hm_X (by decide) (fun r' i' k' => ?_)
  by_cases hr : r' = 8
  · subst hr
    by_cases hc : i' = i ∧ k' = k
    · obtain ⟨rfl, rfl⟩ := hc
      rw [if_pos ⟨rfl, rfl, rfl⟩]
      show _ = am_I (up2 A i' k' x i' k')
      rw [up2_eq]
    · rw [if_neg (fun q => hc q.2)]
      show am_I (A i' k') = am_I (up2 A i k x i' k')
      rw [up2_ne hc]
  · rw [if_neg (fun q => hr q.1)]
    match r', hr with
    | 0, hr => first | rfl | exact absurd rfl hr
    | 1, hr => first | rfl | exact absurd rfl hr
    | 2, hr => first | rfl | exact absurd rfl hr
    | 3, hr => first | rfl | exact absurd rfl hr
    | 4, hr => first | rfl | exact absurd rfl hr
    | 5, hr => first | rfl | exact absurd rfl hr
    | 6, hr => first | rfl | exact absurd rfl hr
    | 7, hr => first | rfl | exact absurd rfl hr
    | 8, hr => first | rfl | exact absurd rfl hr
    | 9, hr => first | rfl | exact absurd rfl hr
    | 10, hr => first | rfl | exact absurd rfl hr
    | 11, hr => first | rfl | exact absurd rfl hr
    | 12, hr => first | rfl | exact absurd rfl hr
    | n + 13, _ => rfl
theorem wx_P {Y : Nat → Nat → Nat → am_V} {A P : Nat → Nat → Int32} {st mk lv : Nat → Int32} {cl pr : Nat → Nat → Int32} {us : Nat → Int32} {va si wk : Int32} {i k : Nat} {x : Int32} : am_up (hm (xc A P st mk lv cl pr us va si wk) Y) 9 i k (am_I x) = hm (xc A (up2 P i k x) st mk lv cl pr us va si wk) Y := by
  refine hm_X (by decide) (fun r' i' k' => ?_)
  by_cases hr : r' = 9
  · subst hr
    by_cases hc : i' = i ∧ k' = k
    · obtain ⟨rfl, rfl⟩ := hc
      rw [if_pos ⟨rfl, rfl, rfl⟩]
      show _ = am_I (up2 P i' k' x i' k')
      rw [up2_eq]
    · rw [if_neg (fun q => hc q.2)]
      show am_I (P i' k') = am_I (up2 P i k x i' k')
      rw [up2_ne hc]
  · rw [if_neg (fun q => hr q.1)]
    match r', hr with
    | 0, hr => first | rfl | exact absurd rfl hr
    | 1, hr => first | rfl | exact absurd rfl hr
    | 2, hr => first | rfl | exact absurd rfl hr
    | 3, hr => first | rfl | exact absurd rfl hr
    | 4, hr => first | rfl | exact absurd rfl hr
    | 5, hr => first | rfl | exact absurd rfl hr
    | 6, hr => first | rfl | exact absurd rfl hr
    | 7, hr => first | rfl | exact absurd rfl hr
    | 8, hr => first | rfl | exact absurd rfl hr
    | 9, hr => first | rfl | exact absurd rfl hr
    | 10, hr => first | rfl | exact absurd rfl hr
    | 11, hr => first | rfl | exact absurd rfl hr
    | 12, hr => first | rfl | exact absurd rfl hr
    | n + 13, _ => rfl
theorem wx_cl {Y : Nat → Nat → Nat → am_V} {A P : Nat → Nat → Int32} {st mk lv : Nat → Int32} {cl pr : Nat → Nat → Int32} {us : Nat → Int32} {va si wk : Int32} {i k : Nat} {x : Int32} : am_up (hm (xc A P st mk lv cl pr us va si wk) Y) 10 i k (am_I x) = hm (xc A P st mk lv (up2 cl i k x) pr us va si wk) Y := by
  refine hm_X (by decide) (fun r' i' k' => ?_)
  by_cases hr : r' = 10
  · subst hr
    by_cases hc : i' = i ∧ k' = k
    · obtain ⟨rfl, rfl⟩ := hc
      rw [if_pos ⟨rfl, rfl, rfl⟩]
      show _ = am_I (up2 cl i' k' x i' k')
      rw [up2_eq]
    · rw [if_neg (fun q => hc q.2)]
      show am_I (cl i' k') = am_I (up2 cl i k x i' k')
      rw [up2_ne hc]
  · rw [if_neg (fun q => hr q.1)]
    match r', hr with
    | 0, hr => first | rfl | exact absurd rfl hr
    | 1, hr => first | rfl | exact absurd rfl hr
    | 2, hr => first | rfl | exact absurd rfl hr
    | 3, hr => first | rfl | exact absurd rfl hr
    | 4, hr => first | rfl | exact absurd rfl hr
    | 5, hr => first | rfl | exact absurd rfl hr
    | 6, hr => first | rfl | exact absurd rfl hr
    | 7, hr => first | rfl | exact absurd rfl hr
    | 8, hr => first | rfl | exact absurd rfl hr
    | 9, hr => first | rfl | exact absurd rfl hr
    | 10, hr => first | rfl | exact absurd rfl hr
    | 11, hr => first | rfl | exact absurd rfl hr
    | 12, hr => first | rfl | exact absurd rfl hr
    | n + 13, _ => rfl
theorem wx_pr {Y : Nat → Nat → Nat → am_V} {A P : Nat → Nat → Int32} {st mk lv : Nat → Int32} {cl pr : Nat → Nat → Int32} {us : Nat → Int32} {va si wk : Int32} {i k : Nat} {x : Int32} : am_up (hm (xc A P st mk lv cl pr us va si wk) Y) 11 i k (am_I x) = hm (xc A P st mk lv cl (up2 pr i k x) us va si wk) Y := by
  refine hm_X (by decide) (fun r' i' k' => ?_)
  by_cases hr : r' = 11
  · subst hr
    by_cases hc : i' = i ∧ k' = k
    · obtain ⟨rfl, rfl⟩ := hc
      rw [if_pos ⟨rfl, rfl, rfl⟩]
      show _ = am_I (up2 pr i' k' x i' k')
      rw [up2_eq]
    · rw [if_neg (fun q => hc q.2)]
      show am_I (pr i' k') = am_I (up2 pr i k x i' k')
      rw [up2_ne hc]
  · rw [if_neg (fun q => hr q.1)]
    match r', hr with
    | 0, hr => first | rfl | exact absurd rfl hr
    | 1, hr => first | rfl | exact absurd rfl hr
    | 2, hr => first | rfl | exact absurd rfl hr
    | 3, hr => first | rfl | exact absurd rfl hr
    | 4, hr => first | rfl | exact absurd rfl hr
    | 5, hr => first | rfl | exact absurd rfl hr
    | 6, hr => first | rfl | exact absurd rfl hr
    | 7, hr => first | rfl | exact absurd rfl hr
    | 8, hr => first | rfl | exact absurd rfl hr
    | 9, hr => first | rfl | exact absurd rfl hr
    | 10, hr => first | rfl | exact absurd rfl hr
    | 11, hr => first | rfl | exact absurd rfl hr
    | 12, hr => first | rfl | exact absurd rfl hr
    | n + 13, _ => rfl
theorem wx_va {Y : Nat → Nat → Nat → am_V} {A P : Nat → Nat → Int32} {st mk lv : Nat → Int32} {cl pr : Nat → Nat → Int32} {us : Nat → Int32} {va si wk : Int32} {x : Int32} : am_up (hm (xc A P st mk lv cl pr us va si wk) Y) 0 0 8 (am_I x) = hm (xc A P st mk lv cl pr us x si wk) Y := by
  refine hm_X (by decide) (fun r' i' k' => ?_)
  by_cases hr : r' = 0
  · subst hr
    cases i' with
    | succ n => rw [if_neg (fun q => by omega)]; rfl
    | zero =>
      by_cases hc : k' = 8
      · subst hc
        rw [if_pos ⟨rfl, rfl, rfl⟩]
        rfl
      · rw [if_neg (fun q => hc q.2.2)]
        match k', hc with
        | 0, hc => first | rfl | exact absurd rfl hc
        | 1, hc => first | rfl | exact absurd rfl hc
        | 2, hc => first | rfl | exact absurd rfl hc
        | 3, hc => first | rfl | exact absurd rfl hc
        | 4, hc => first | rfl | exact absurd rfl hc
        | 5, hc => first | rfl | exact absurd rfl hc
        | 6, hc => first | rfl | exact absurd rfl hc
        | 7, hc => first | rfl | exact absurd rfl hc
        | 8, hc => first | rfl | exact absurd rfl hc
        | 9, hc => first | rfl | exact absurd rfl hc
        | 10, hc => first | rfl | exact absurd rfl hc
        | n + 11, _ => rfl
  · rw [if_neg (fun q => hr q.1)]
    match r', hr with
    | 0, hr => first | rfl | exact absurd rfl hr
    | 1, hr => first | rfl | exact absurd rfl hr
    | 2, hr => first | rfl | exact absurd rfl hr
    | 3, hr => first | rfl | exact absurd rfl hr
    | 4, hr => first | rfl | exact absurd rfl hr
    | 5, hr => first | rfl | exact absurd rfl hr
    | 6, hr => first | rfl | exact absurd rfl hr
    | 7, hr => first | rfl | exact absurd rfl hr
    | 8, hr => first | rfl | exact absurd rfl hr
    | 9, hr => first | rfl | exact absurd rfl hr
    | 10, hr => first | rfl | exact absurd rfl hr
    | 11, hr => first | rfl | exact absurd rfl hr
    | 12, hr => first | rfl | exact absurd rfl hr
    | n + 13, _ => rfl
theorem wx_si {Y : Nat → Nat → Nat → am_V} {A P : Nat → Nat → Int32} {st mk lv : Nat → Int32} {cl pr : Nat → Nat → Int32} {us : Nat → Int32} {va si wk : Int32} {x : Int32} : am_up (hm (xc A P st mk lv cl pr us va si wk) Y) 0 0 9 (am_I x) = hm (xc A P st mk lv cl pr us va x wk) Y := by
  refine hm_X (by decide) (fun r' i' k' => ?_)
  by_cases hr : r' = 0
  · subst hr
    cases i' with
    | succ n => rw [if_neg (fun q => by omega)]; rfl
    | zero =>
      by_cases hc : k' = 9
      · subst hc
        rw [if_pos ⟨rfl, rfl, rfl⟩]
        rfl
      · rw [if_neg (fun q => hc q.2.2)]
        match k', hc with
        | 0, hc => first | rfl | exact absurd rfl hc
        | 1, hc => first | rfl | exact absurd rfl hc
        | 2, hc => first | rfl | exact absurd rfl hc
        | 3, hc => first | rfl | exact absurd rfl hc
        | 4, hc => first | rfl | exact absurd rfl hc
        | 5, hc => first | rfl | exact absurd rfl hc
        | 6, hc => first | rfl | exact absurd rfl hc
        | 7, hc => first | rfl | exact absurd rfl hc
        | 8, hc => first | rfl | exact absurd rfl hc
        | 9, hc => first | rfl | exact absurd rfl hc
        | 10, hc => first | rfl | exact absurd rfl hc
        | n + 11, _ => rfl
  · rw [if_neg (fun q => hr q.1)]
    match r', hr with
    | 0, hr => first | rfl | exact absurd rfl hr
    | 1, hr => first | rfl | exact absurd rfl hr
    | 2, hr => first | rfl | exact absurd rfl hr
    | 3, hr => first | rfl | exact absurd rfl hr
    | 4, hr => first | rfl | exact absurd rfl hr
    | 5, hr => first | rfl | exact absurd rfl hr
    | 6, hr => first | rfl | exact absurd rfl hr
    | 7, hr => first | rfl | exact absurd rfl hr
    | 8, hr => first | rfl | exact absurd rfl hr
    | 9, hr => first | rfl | exact absurd rfl hr
    | 10, hr => first | rfl | exact absurd rfl hr
    | 11, hr => first | rfl | exact absurd rfl hr
    | 12, hr => first | rfl | exact absurd rfl hr
    | n + 13, _ => rfl
theorem wx_wk {Y : Nat → Nat → Nat → am_V} {A P : Nat → Nat → Int32} {st mk lv : Nat → Int32} {cl pr : Nat → Nat → Int32} {us : Nat → Int32} {va si wk : Int32} {x : Int32} : am_up (hm (xc A P st mk lv cl pr us va si wk) Y) 0 0 10 (am_I x) = hm (xc A P st mk lv cl pr us va si x) Y := by
  refine hm_X (by decide) (fun r' i' k' => ?_)
  by_cases hr : r' = 0
  · subst hr
    cases i' with
    | succ n => rw [if_neg (fun q => by omega)]; rfl
    | zero =>
      by_cases hc : k' = 10
      · subst hc
        rw [if_pos ⟨rfl, rfl, rfl⟩]
        rfl
      · rw [if_neg (fun q => hc q.2.2)]
        match k', hc with
        | 0, hc => first | rfl | exact absurd rfl hc
        | 1, hc => first | rfl | exact absurd rfl hc
        | 2, hc => first | rfl | exact absurd rfl hc
        | 3, hc => first | rfl | exact absurd rfl hc
        | 4, hc => first | rfl | exact absurd rfl hc
        | 5, hc => first | rfl | exact absurd rfl hc
        | 6, hc => first | rfl | exact absurd rfl hc
        | 7, hc => first | rfl | exact absurd rfl hc
        | 8, hc => first | rfl | exact absurd rfl hc
        | 9, hc => first | rfl | exact absurd rfl hc
        | 10, hc => first | rfl | exact absurd rfl hc
        | n + 11, _ => rfl
  · rw [if_neg (fun q => hr q.1)]
    match r', hr with
    | 0, hr => first | rfl | exact absurd rfl hr
    | 1, hr => first | rfl | exact absurd rfl hr
    | 2, hr => first | rfl | exact absurd rfl hr
    | 3, hr => first | rfl | exact absurd rfl hr
    | 4, hr => first | rfl | exact absurd rfl hr
    | 5, hr => first | rfl | exact absurd rfl hr
    | 6, hr => first | rfl | exact absurd rfl hr
    | 7, hr => first | rfl | exact absurd rfl hr
    | 8, hr => first | rfl | exact absurd rfl hr
    | 9, hr => first | rfl | exact absurd rfl hr
    | 10, hr => first | rfl | exact absurd rfl hr
    | 11, hr => first | rfl | exact absurd rfl hr
    | 12, hr => first | rfl | exact absurd rfl hr
    | n + 13, _ => rfl
theorem wy_kd {X : Nat → Nat → Nat → am_V} {kd fi se np nq ro co mm sd pa ce wd ud : Nat → Int32} {vn sm : Int32} {k : Nat} {x : Int32} : am_up (hm X (yc kd fi se np nq ro co mm sd pa ce wd ud vn sm)) 21 0 k (am_I x) = hm X (yc (upd kd k x) fi se np nq ro co mm sd pa ce wd ud vn sm) := by
  refine hm_Y (r := 1) (fun r' i' k' => ?_)
  by_cases hr : r' = 1
  · subst hr
    cases i' with
    | succ n => rw [if_neg (fun q => by omega)]; rfl
    | zero =>
      by_cases hc : k' = k
      · subst hc
        rw [if_pos ⟨rfl, rfl, rfl⟩]
        show _ = am_I (upd kd k' x k')
        rw [upd_eq]
      · rw [if_neg (fun q => hc q.2.2)]
        show am_I (kd k') = am_I (upd kd k x k')
        rw [upd_ne hc]
  · rw [if_neg (fun q => hr q.1)]
    match r', hr with
    | 0, hr => first | rfl | exact absurd rfl hr
    | 1, hr => first | rfl | exact absurd rfl hr
    | 2, hr => first | rfl | exact absurd rfl hr
    | 3, hr => first | rfl | exact absurd rfl hr
    | 4, hr => first | rfl | exact absurd rfl hr
    | 5, hr => first | rfl | exact absurd rfl hr
    | 6, hr => first | rfl | exact absurd rfl hr
    | 7, hr => first | rfl | exact absurd rfl hr
    | 8, hr => first | rfl | exact absurd rfl hr
    | 9, hr => first | rfl | exact absurd rfl hr
    | 10, hr => first | rfl | exact absurd rfl hr
    | 11, hr => first | rfl | exact absurd rfl hr
    | 12, hr => first | rfl | exact absurd rfl hr
    | 13, hr => first | rfl | exact absurd rfl hr
    | n + 14, _ => rfl
theorem wy_fi {X : Nat → Nat → Nat → am_V} {kd fi se np nq ro co mm sd pa ce wd ud : Nat → Int32} {vn sm : Int32} {k : Nat} {x : Int32} : am_up (hm X (yc kd fi se np nq ro co mm sd pa ce wd ud vn sm)) 22 0 k (am_I x) = hm X (yc kd (upd fi k x) se np nq ro co mm sd pa ce wd ud vn sm) := by
  refine hm_Y (r := 2) (fun r' i' k' => ?_)
  by_cases hr : r' = 2
  · subst hr
    cases i' with
    | succ n => rw [if_neg (fun q => by omega)]; rfl
    | zero =>
      by_cases hc : k' = k
      · subst hc
        rw [if_pos ⟨rfl, rfl, rfl⟩]
        show _ = am_I (upd fi k' x k')
        rw [upd_eq]
      · rw [if_neg (fun q => hc q.2.2)]
        show am_I (fi k') = am_I (upd fi k x k')
        rw [upd_ne hc]
  · rw [if_neg (fun q => hr q.1)]
    match r', hr with
    | 0, hr => first | rfl | exact absurd rfl hr
    | 1, hr => first | rfl | exact absurd rfl hr
    | 2, hr => first | rfl | exact absurd rfl hr
    | 3, hr => first | rfl | exact absurd rfl hr
    | 4, hr => first | rfl | exact absurd rfl hr
    | 5, hr => first | rfl | exact absurd rfl hr
    | 6, hr => first | rfl | exact absurd rfl hr
    | 7, hr => first | rfl | exact absurd rfl hr
    | 8, hr => first | rfl | exact absurd rfl hr
    | 9, hr => first | rfl | exact absurd rfl hr
    | 10, hr => first | rfl | exact absurd rfl hr
    | 11, hr => first | rfl | exact absurd rfl hr
    | 12, hr => first | rfl | exact absurd rfl hr
    | 13, hr => first | rfl | exact absurd rfl hr
    | n + 14, _ => rfl
theorem wy_se {X : Nat → Nat → Nat → am_V} {kd fi se np nq ro co mm sd pa ce wd ud : Nat → Int32} {vn sm : Int32} {k : Nat} {x : Int32} : am_up (hm X (yc kd fi se np nq ro co mm sd pa ce wd ud vn sm)) 23 0 k (am_I x) = hm X (yc kd fi (upd se k x) np nq ro co mm sd pa ce wd ud vn sm) := by
  refine hm_Y (r := 3) (fun r' i' k' => ?_)
  by_cases hr : r' = 3
  · subst hr
    cases i' with
    | succ n => rw [if_neg (fun q => by omega)]; rfl
    | zero =>
      by_cases hc : k' = k
      · subst hc
        rw [if_pos ⟨rfl, rfl, rfl⟩]
        show _ = am_I (upd se k' x k')
        rw [upd_eq]
      · rw [if_neg (fun q => hc q.2.2)]
        show am_I (se k') = am_I (upd se k x k')
        rw [upd_ne hc]
  · rw [if_neg (fun q => hr q.1)]
    match r', hr with
    | 0, hr => first | rfl | exact absurd rfl hr
    | 1, hr => first | rfl | exact absurd rfl hr
    | 2, hr => first | rfl | exact absurd rfl hr
    | 3, hr => first | rfl | exact absurd rfl hr
    | 4, hr => first | rfl | exact absurd rfl hr
    | 5, hr => first | rfl | exact absurd rfl hr
    | 6, hr => first | rfl | exact absurd rfl hr
    | 7, hr => first | rfl | exact absurd rfl hr
    | 8, hr => first | rfl | exact absurd rfl hr
    | 9, hr => first | rfl | exact absurd rfl hr
    | 10, hr => first | rfl | exact absurd rfl hr
    | 11, hr => first | rfl | exact absurd rfl hr
    | 12, hr => first | rfl | exact absurd rfl hr
    | 13, hr => first | rfl | exact absurd rfl hr
    | n + 14, _ => rfl
theorem wy_np {X : Nat → Nat → Nat → am_V} {kd fi se np nq ro co mm sd pa ce wd ud : Nat → Int32} {vn sm : Int32} {k : Nat} {x : Int32} : am_up (hm X (yc kd fi se np nq ro co mm sd pa ce wd ud vn sm)) 24 0 k (am_I x) = hm X (yc kd fi se (upd np k x) nq ro co mm sd pa ce wd ud vn sm) := by
  refine hm_Y (r := 4) (fun r' i' k' => ?_)
  by_cases hr : r' = 4
  · subst hr
    cases i' with
    | succ n => rw [if_neg (fun q => by omega)]; rfl
    | zero =>
      by_cases hc : k' = k
      · subst hc
        rw [if_pos ⟨rfl, rfl, rfl⟩]
        show _ = am_I (upd np k' x k')
        rw [upd_eq]
      · rw [if_neg (fun q => hc q.2.2)]
        show am_I (np k') = am_I (upd np k x k')
        rw [upd_ne hc]
  · rw [if_neg (fun q => hr q.1)]
    match r', hr with
    | 0, hr => first | rfl | exact absurd rfl hr
    | 1, hr => first | rfl | exact absurd rfl hr
    | 2, hr => first | rfl | exact absurd rfl hr
    | 3, hr => first | rfl | exact absurd rfl hr
    | 4, hr => first | rfl | exact absurd rfl hr
    | 5, hr => first | rfl | exact absurd rfl hr
    | 6, hr => first | rfl | exact absurd rfl hr
    | 7, hr => first | rfl | exact absurd rfl hr
    | 8, hr => first | rfl | exact absurd rfl hr
    | 9, hr => first | rfl | exact absurd rfl hr
    | 10, hr => first | rfl | exact absurd rfl hr
    | 11, hr => first | rfl | exact absurd rfl hr
    | 12, hr => first | rfl | exact absurd rfl hr
    | 13, hr => first | rfl | exact absurd rfl hr
    | n + 14, _ => rfl
theorem wy_nq {X : Nat → Nat → Nat → am_V} {kd fi se np nq ro co mm sd pa ce wd ud : Nat → Int32} {vn sm : Int32} {k : Nat} {x : Int32} : am_up (hm X (yc kd fi se np nq ro co mm sd pa ce wd ud vn sm)) 25 0 k (am_I x) = hm X (yc kd fi se np (upd nq k x) ro co mm sd pa ce wd ud vn sm) := by
  refine hm_Y (r := 5) (fun r' i' k' => ?_)
  by_cases hr : r' = 5
  · subst hr
    cases i' with
    | succ n => rw [if_neg (fun q => by omega)]; rfl
    | zero =>
      by_cases hc : k' = k
      · subst hc
        rw [if_pos ⟨rfl, rfl, rfl⟩]
        show _ = am_I (upd nq k' x k')
        rw [upd_eq]
      · rw [if_neg (fun q => hc q.2.2)]
        show am_I (nq k') = am_I (upd nq k x k')
        rw [upd_ne hc]
  · rw [if_neg (fun q => hr q.1)]
    match r', hr with
    | 0, hr => first | rfl | exact absurd rfl hr
    | 1, hr => first | rfl | exact absurd rfl hr
    | 2, hr => first | rfl | exact absurd rfl hr
    | 3, hr => first | rfl | exact absurd rfl hr
    | 4, hr => first | rfl | exact absurd rfl hr
    | 5, hr => first | rfl | exact absurd rfl hr
    | 6, hr => first | rfl | exact absurd rfl hr
    | 7, hr => first | rfl | exact absurd rfl hr
    | 8, hr => first | rfl | exact absurd rfl hr
    | 9, hr => first | rfl | exact absurd rfl hr
    | 10, hr => first | rfl | exact absurd rfl hr
    | 11, hr => first | rfl | exact absurd rfl hr
    | 12, hr => first | rfl | exact absurd rfl hr
    | 13, hr => first | rfl | exact absurd rfl hr
    | n + 14, _ => rfl
theorem wy_ro {X : Nat → Nat → Nat → am_V} {kd fi se np nq ro co mm sd pa ce wd ud : Nat → Int32} {vn sm : Int32} {k : Nat} {x : Int32} : am_up (hm X (yc kd fi se np nq ro co mm sd pa ce wd ud vn sm)) 26 0 k (am_I x) = hm X (yc kd fi se np nq (upd ro k x) co mm sd pa ce wd ud vn sm) := by
  refine hm_Y (r := 6) (fun r' i' k' => ?_)
  by_cases hr : r' = 6
  · subst hr
    cases i' with
    | succ n => rw [if_neg (fun q => by omega)]; rfl
    | zero =>
      by_cases hc : k' = k
      · subst hc
        rw [if_pos ⟨rfl, rfl, rfl⟩]
        show _ = am_I (upd ro k' x k')
        rw [upd_eq]
      · rw [if_neg (fun q => hc q.2.2)]
        show am_I (ro k') = am_I (upd ro k x k')
        rw [upd_ne hc]
  · rw [if_neg (fun q => hr q.1)]
    match r', hr with
    | 0, hr => first | rfl | exact absurd rfl hr
    | 1, hr => first | rfl | exact absurd rfl hr
    | 2, hr => first | rfl | exact absurd rfl hr
    | 3, hr => first | rfl | exact absurd rfl hr
    | 4, hr => first | rfl | exact absurd rfl hr
    | 5, hr => first | rfl | exact absurd rfl hr
    | 6, hr => first | rfl | exact absurd rfl hr
    | 7, hr => first | rfl | exact absurd rfl hr
    | 8, hr => first | rfl | exact absurd rfl hr
    | 9, hr => first | rfl | exact absurd rfl hr
    | 10, hr => first | rfl | exact absurd rfl hr
    | 11, hr => first | rfl | exact absurd rfl hr
    | 12, hr => first | rfl | exact absurd rfl hr
    | 13, hr => first | rfl | exact absurd rfl hr
    | n + 14, _ => rfl
theorem wy_co {X : Nat → Nat → Nat → am_V} {kd fi se np nq ro co mm sd pa ce wd ud : Nat → Int32} {vn sm : Int32} {k : Nat} {x : Int32} : am_up (hm X (yc kd fi se np nq ro co mm sd pa ce wd ud vn sm)) 27 0 k (am_I x) = hm X (yc kd fi se np nq ro (upd co k x) mm sd pa ce wd ud vn sm) := by
  refine hm_Y (r := 7) (fun r' i' k' => ?_)
  by_cases hr : r' = 7
  · subst hr
    cases i' with
    | succ n => rw [if_neg (fun q => by omega)]; rfl
    | zero =>
      by_cases hc : k' = k
      · subst hc
        rw [if_pos ⟨rfl, rfl, rfl⟩]
        show _ = am_I (upd co k' x k')
        rw [upd_eq]
      · rw [if_neg (fun q => hc q.2.2)]
        show am_I (co k') = am_I (upd co k x k')
        rw [upd_ne hc]
  · rw [if_neg (fun q => hr q.1)]
    match r', hr with
    | 0, hr => first | rfl | exact absurd rfl hr
    | 1, hr => first | rfl | exact absurd rfl hr
    | 2, hr => first | rfl | exact absurd rfl hr
    | 3, hr => first | rfl | exact absurd rfl hr
    | 4, hr => first | rfl | exact absurd rfl hr
    | 5, hr => first | rfl | exact absurd rfl hr
    | 6, hr => first | rfl | exact absurd rfl hr
    | 7, hr => first | rfl | exact absurd rfl hr
    | 8, hr => first | rfl | exact absurd rfl hr
    | 9, hr => first | rfl | exact absurd rfl hr
    | 10, hr => first | rfl | exact absurd rfl hr
    | 11, hr => first | rfl | exact absurd rfl hr
    | 12, hr => first | rfl | exact absurd rfl hr
    | 13, hr => first | rfl | exact absurd rfl hr
    | n + 14, _ => rfl
theorem wy_mm {X : Nat → Nat → Nat → am_V} {kd fi se np nq ro co mm sd pa ce wd ud : Nat → Int32} {vn sm : Int32} {k : Nat} {x : Int32} : am_up (hm X (yc kd fi se np nq ro co mm sd pa ce wd ud vn sm)) 28 0 k (am_I x) = hm X (yc kd fi se np nq ro co (upd mm k x) sd pa ce wd ud vn sm) := by
  refine hm_Y (r := 8) (fun r' i' k' => ?_)
  by_cases hr : r' = 8
  · subst hr
    cases i' with
    | succ n => rw [if_neg (fun q => by omega)]; rfl
    | zero =>
      by_cases hc : k' = k
      · subst hc
        rw [if_pos ⟨rfl, rfl, rfl⟩]
        show _ = am_I (upd mm k' x k')
        rw [upd_eq]
      · rw [if_neg (fun q => hc q.2.2)]
        show am_I (mm k') = am_I (upd mm k x k')
        rw [upd_ne hc]
  · rw [if_neg (fun q => hr q.1)]
    match r', hr with
    | 0, hr => first | rfl | exact absurd rfl hr
    | 1, hr => first | rfl | exact absurd rfl hr
    | 2, hr => first | rfl | exact absurd rfl hr
    | 3, hr => first | rfl | exact absurd rfl hr
    | 4, hr => first | rfl | exact absurd rfl hr
    | 5, hr => first | rfl | exact absurd rfl hr
    | 6, hr => first | rfl | exact absurd rfl hr
    | 7, hr => first | rfl | exact absurd rfl hr
    | 8, hr => first | rfl | exact absurd rfl hr
    | 9, hr => first | rfl | exact absurd rfl hr
    | 10, hr => first | rfl | exact absurd rfl hr
    | 11, hr => first | rfl | exact absurd rfl hr
    | 12, hr => first | rfl | exact absurd rfl hr
    | 13, hr => first | rfl | exact absurd rfl hr
    | n + 14, _ => rfl
theorem wy_sd {X : Nat → Nat → Nat → am_V} {kd fi se np nq ro co mm sd pa ce wd ud : Nat → Int32} {vn sm : Int32} {k : Nat} {x : Int32} : am_up (hm X (yc kd fi se np nq ro co mm sd pa ce wd ud vn sm)) 29 0 k (am_I x) = hm X (yc kd fi se np nq ro co mm (upd sd k x) pa ce wd ud vn sm) := by
  refine hm_Y (r := 9) (fun r' i' k' => ?_)
  by_cases hr : r' = 9
  · subst hr
    cases i' with
    | succ n => rw [if_neg (fun q => by omega)]; rfl
    | zero =>
      by_cases hc : k' = k
      · subst hc
        rw [if_pos ⟨rfl, rfl, rfl⟩]
        show _ = am_I (upd sd k' x k')
        rw [upd_eq]
      · rw [if_neg (fun q => hc q.2.2)]
        show am_I (sd k') = am_I (upd sd k x k')
        rw [upd_ne hc]
  · rw [if_neg (fun q => hr q.1)]
    match r', hr with
    | 0, hr => first | rfl | exact absurd rfl hr
    | 1, hr => first | rfl | exact absurd rfl hr
    | 2, hr => first | rfl | exact absurd rfl hr
    | 3, hr => first | rfl | exact absurd rfl hr
    | 4, hr => first | rfl | exact absurd rfl hr
    | 5, hr => first | rfl | exact absurd rfl hr
    | 6, hr => first | rfl | exact absurd rfl hr
    | 7, hr => first | rfl | exact absurd rfl hr
    | 8, hr => first | rfl | exact absurd rfl hr
    | 9, hr => first | rfl | exact absurd rfl hr
    | 10, hr => first | rfl | exact absurd rfl hr
    | 11, hr => first | rfl | exact absurd rfl hr
    | 12, hr => first | rfl | exact absurd rfl hr
    | 13, hr => first | rfl | exact absurd rfl hr
    | n + 14, _ => rfl
theorem wy_pa {X : Nat → Nat → Nat → am_V} {kd fi se np nq ro co mm sd pa ce wd ud : Nat → Int32} {vn sm : Int32} {k : Nat} {x : Int32} : am_up (hm X (yc kd fi se np nq ro co mm sd pa ce wd ud vn sm)) 30 0 k (am_I x) = hm X (yc kd fi se np nq ro co mm sd (upd pa k x) ce wd ud vn sm) := by
  refine hm_Y (r := 10) (fun r' i' k' => ?_)
  by_cases hr : r' = 10
  · subst hr
    cases i' with
    | succ n => rw [if_neg (fun q => by omega)]; rfl
    | zero =>
      by_cases hc : k' = k
      · subst hc
        rw [if_pos ⟨rfl, rfl, rfl⟩]
        show _ = am_I (upd pa k' x k')
        rw [upd_eq]
      · rw [if_neg (fun q => hc q.2.2)]
        show am_I (pa k') = am_I (upd pa k x k')
        rw [upd_ne hc]
  · rw [if_neg (fun q => hr q.1)]
    match r', hr with
    | 0, hr => first | rfl | exact absurd rfl hr
    | 1, hr => first | rfl | exact absurd rfl hr
    | 2, hr => first | rfl | exact absurd rfl hr
    | 3, hr => first | rfl | exact absurd rfl hr
    | 4, hr => first | rfl | exact absurd rfl hr
    | 5, hr => first | rfl | exact absurd rfl hr
    | 6, hr => first | rfl | exact absurd rfl hr
    | 7, hr => first | rfl | exact absurd rfl hr
    | 8, hr => first | rfl | exact absurd rfl hr
    | 9, hr => first | rfl | exact absurd rfl hr
    | 10, hr => first | rfl | exact absurd rfl hr
    | 11, hr => first | rfl | exact absurd rfl hr
    | 12, hr => first | rfl | exact absurd rfl hr
    | 13, hr => first | rfl | exact absurd rfl hr
    | n + 14, _ => rfl
theorem wy_ce {X : Nat → Nat → Nat → am_V} {kd fi se np nq ro co mm sd pa ce wd ud : Nat → Int32} {vn sm : Int32} {k : Nat} {x : Int32} : am_up (hm X (yc kd fi se np nq ro co mm sd pa ce wd ud vn sm)) 31 0 k (am_I x) = hm X (yc kd fi se np nq ro co mm sd pa (upd ce k x) wd ud vn sm) := by
  refine hm_Y (r := 11) (fun r' i' k' => ?_)
  by_cases hr : r' = 11
  · subst hr
    cases i' with
    | succ n => rw [if_neg (fun q => by omega)]; rfl
    | zero =>
      by_cases hc : k' = k
      · subst hc
        rw [if_pos ⟨rfl, rfl, rfl⟩]
        show _ = am_I (upd ce k' x k')
        rw [upd_eq]
      · rw [if_neg (fun q => hc q.2.2)]
        show am_I (ce k') = am_I (upd ce k x k')
        rw [upd_ne hc]
  · rw [if_neg (fun q => hr q.1)]
    match r', hr with
    | 0, hr => first | rfl | exact absurd rfl hr
    | 1, hr => first | rfl | exact absurd rfl hr
    | 2, hr => first | rfl | exact absurd rfl hr
    | 3, hr => first | rfl | exact absurd rfl hr
    | 4, hr => first | rfl | exact absurd rfl hr
    | 5, hr => first | rfl | exact absurd rfl hr
    | 6, hr => first | rfl | exact absurd rfl hr
    | 7, hr => first | rfl | exact absurd rfl hr
    | 8, hr => first | rfl | exact absurd rfl hr
    | 9, hr => first | rfl | exact absurd rfl hr
    | 10, hr => first | rfl | exact absurd rfl hr
    | 11, hr => first | rfl | exact absurd rfl hr
    | 12, hr => first | rfl | exact absurd rfl hr
    | 13, hr => first | rfl | exact absurd rfl hr
    | n + 14, _ => rfl
theorem wy_wd {X : Nat → Nat → Nat → am_V} {kd fi se np nq ro co mm sd pa ce wd ud : Nat → Int32} {vn sm : Int32} {k : Nat} {x : Int32} : am_up (hm X (yc kd fi se np nq ro co mm sd pa ce wd ud vn sm)) 32 0 k (am_I x) = hm X (yc kd fi se np nq ro co mm sd pa ce (upd wd k x) ud vn sm) := by
  refine hm_Y (r := 12) (fun r' i' k' => ?_)
  by_cases hr : r' = 12
  · subst hr
    cases i' with
    | succ n => rw [if_neg (fun q => by omega)]; rfl
    | zero =>
      by_cases hc : k' = k
      · subst hc
        rw [if_pos ⟨rfl, rfl, rfl⟩]
        show _ = am_I (upd wd k' x k')
        rw [upd_eq]
      · rw [if_neg (fun q => hc q.2.2)]
        show am_I (wd k') = am_I (upd wd k x k')
        rw [upd_ne hc]
  · rw [if_neg (fun q => hr q.1)]
    match r', hr with
    | 0, hr => first | rfl | exact absurd rfl hr
    | 1, hr => first | rfl | exact absurd rfl hr
    | 2, hr => first | rfl | exact absurd rfl hr
    | 3, hr => first | rfl | exact absurd rfl hr
    | 4, hr => first | rfl | exact absurd rfl hr
    | 5, hr => first | rfl | exact absurd rfl hr
    | 6, hr => first | rfl | exact absurd rfl hr
    | 7, hr => first | rfl | exact absurd rfl hr
    | 8, hr => first | rfl | exact absurd rfl hr
    | 9, hr => first | rfl | exact absurd rfl hr
    | 10, hr => first | rfl | exact absurd rfl hr
    | 11, hr => first | rfl | exact absurd rfl hr
    | 12, hr => first | rfl | exact absurd rfl hr
    | 13, hr => first | rfl | exact absurd rfl hr
    | n + 14, _ => rfl
theorem wy_ud {X : Nat → Nat → Nat → am_V} {kd fi se np nq ro co mm sd pa ce wd ud : Nat → Int32} {vn sm : Int32} {k : Nat} {x : Int32} : am_up (hm X (yc kd fi se np nq ro co mm sd pa ce wd ud vn sm)) 33 0 k (am_I x) = hm X (yc kd fi se np nq ro co mm sd pa ce wd (upd ud k x) vn sm) := by
  refine hm_Y (r := 13) (fun r' i' k' => ?_)
  by_cases hr : r' = 13
  · subst hr
    cases i' with
    | succ n => rw [if_neg (fun q => by omega)]; rfl
    | zero =>
      by_cases hc : k' = k
      · subst hc
        rw [if_pos ⟨rfl, rfl, rfl⟩]
        show _ = am_I (upd ud k' x k')
        rw [upd_eq]
      · rw [if_neg (fun q => hc q.2.2)]
        show am_I (ud k') = am_I (upd ud k x k')
        rw [upd_ne hc]
  · rw [if_neg (fun q => hr q.1)]
    match r', hr with
    | 0, hr => first | rfl | exact absurd rfl hr
    | 1, hr => first | rfl | exact absurd rfl hr
    | 2, hr => first | rfl | exact absurd rfl hr
    | 3, hr => first | rfl | exact absurd rfl hr
    | 4, hr => first | rfl | exact absurd rfl hr
    | 5, hr => first | rfl | exact absurd rfl hr
    | 6, hr => first | rfl | exact absurd rfl hr
    | 7, hr => first | rfl | exact absurd rfl hr
    | 8, hr => first | rfl | exact absurd rfl hr
    | 9, hr => first | rfl | exact absurd rfl hr
    | 10, hr => first | rfl | exact absurd rfl hr
    | 11, hr => first | rfl | exact absurd rfl hr
    | 12, hr => first | rfl | exact absurd rfl hr
    | 13, hr => first | rfl | exact absurd rfl hr
    | n + 14, _ => rfl
theorem wy_vn {X : Nat → Nat → Nat → am_V} {kd fi se np nq ro co mm sd pa ce wd ud : Nat → Int32} {vn sm : Int32} {x : Int32} : am_up (hm X (yc kd fi se np nq ro co mm sd pa ce wd ud vn sm)) 20 0 13 (am_I x) = hm X (yc kd fi se np nq ro co mm sd pa ce wd ud x sm) := by
  refine hm_Y (r := 0) (fun r' i' k' => ?_)
  by_cases hr : r' = 0
  · subst hr
    cases i' with
    | succ n => rw [if_neg (fun q => by omega)]; rfl
    | zero =>
      by_cases hc : k' = 13
      · subst hc
        rw [if_pos ⟨rfl, rfl, rfl⟩]
        rfl
      · rw [if_neg (fun q => hc q.2.2)]
        match k', hc with
        | 0, hc => first | rfl | exact absurd rfl hc
        | 1, hc => first | rfl | exact absurd rfl hc
        | 2, hc => first | rfl | exact absurd rfl hc
        | 3, hc => first | rfl | exact absurd rfl hc
        | 4, hc => first | rfl | exact absurd rfl hc
        | 5, hc => first | rfl | exact absurd rfl hc
        | 6, hc => first | rfl | exact absurd rfl hc
        | 7, hc => first | rfl | exact absurd rfl hc
        | 8, hc => first | rfl | exact absurd rfl hc
        | 9, hc => first | rfl | exact absurd rfl hc
        | 10, hc => first | rfl | exact absurd rfl hc
        | 11, hc => first | rfl | exact absurd rfl hc
        | 12, hc => first | rfl | exact absurd rfl hc
        | 13, hc => first | rfl | exact absurd rfl hc
        | 14, hc => first | rfl | exact absurd rfl hc
        | n + 15, _ => rfl
  · rw [if_neg (fun q => hr q.1)]
    match r', hr with
    | 0, hr => first | rfl | exact absurd rfl hr
    | 1, hr => first | rfl | exact absurd rfl hr
    | 2, hr => first | rfl | exact absurd rfl hr
    | 3, hr => first | rfl | exact absurd rfl hr
    | 4, hr => first | rfl | exact absurd rfl hr
    | 5, hr => first | rfl | exact absurd rfl hr
    | 6, hr => first | rfl | exact absurd rfl hr
    | 7, hr => first | rfl | exact absurd rfl hr
    | 8, hr => first | rfl | exact absurd rfl hr
    | 9, hr => first | rfl | exact absurd rfl hr
    | 10, hr => first | rfl | exact absurd rfl hr
    | 11, hr => first | rfl | exact absurd rfl hr
    | 12, hr => first | rfl | exact absurd rfl hr
    | 13, hr => first | rfl | exact absurd rfl hr
    | n + 14, _ => rfl
theorem wy_sm {X : Nat → Nat → Nat → am_V} {kd fi se np nq ro co mm sd pa ce wd ud : Nat → Int32} {vn sm : Int32} {x : Int32} : am_up (hm X (yc kd fi se np nq ro co mm sd pa ce wd ud vn sm)) 20 0 14 (am_I x) = hm X (yc kd fi se np nq ro co mm sd pa ce wd ud vn x) := by
  refine hm_Y (r := 0) (fun r' i' k' => ?_)
  by_cases hr : r' = 0
  · subst hr
    cases i' with
    | succ n => rw [if_neg (fun q => by omega)]; rfl
    | zero =>
      by_cases hc : k' = 14
      · subst hc
        rw [if_pos ⟨rfl, rfl, rfl⟩]
        rfl
      · rw [if_neg (fun q => hc q.2.2)]
        match k', hc with
        | 0, hc => first | rfl | exact absurd rfl hc
        | 1, hc => first | rfl | exact absurd rfl hc
        | 2, hc => first | rfl | exact absurd rfl hc
        | 3, hc => first | rfl | exact absurd rfl hc
        | 4, hc => first | rfl | exact absurd rfl hc
        | 5, hc => first | rfl | exact absurd rfl hc
        | 6, hc => first | rfl | exact absurd rfl hc
        | 7, hc => first | rfl | exact absurd rfl hc
        | 8, hc => first | rfl | exact absurd rfl hc
        | 9, hc => first | rfl | exact absurd rfl hc
        | 10, hc => first | rfl | exact absurd rfl hc
        | 11, hc => first | rfl | exact absurd rfl hc
        | 12, hc => first | rfl | exact absurd rfl hc
        | 13, hc => first | rfl | exact absurd rfl hc
        | 14, hc => first | rfl | exact absurd rfl hc
        | n + 15, _ => rfl
  · rw [if_neg (fun q => hr q.1)]
    match r', hr with
    | 0, hr => first | rfl | exact absurd rfl hr
    | 1, hr => first | rfl | exact absurd rfl hr
    | 2, hr => first | rfl | exact absurd rfl hr
    | 3, hr => first | rfl | exact absurd rfl hr
    | 4, hr => first | rfl | exact absurd rfl hr
    | 5, hr => first | rfl | exact absurd rfl hr
    | 6, hr => first | rfl | exact absurd rfl hr
    | 7, hr => first | rfl | exact absurd rfl hr
    | 8, hr => first | rfl | exact absurd rfl hr
    | 9, hr => first | rfl | exact absurd rfl hr
    | 10, hr => first | rfl | exact absurd rfl hr
    | 11, hr => first | rfl | exact absurd rfl hr
    | 12, hr => first | rfl | exact absurd rfl hr
    | 13, hr => first | rfl | exact absurd rfl hr
    | n + 14, _ => rfl
end
section
theorem am_cat1 {as : List am_V} (h : as.all (fun v => Nat.beq (am_cat v) 1) = true) : ∀ v ∈ as, am_cat v = 1 := fun v hv => Nat.eq_of_beq_eq_true (List.all_eq_true.mp h v hv)
set_option maxRecDepth 100000 in
set_option maxHeartbeats 4000000 in
theorem cO_takeShape8 {g : am_G} {d : Nat} {Q : Option am_V → am_H → Prop} {Y : Nat → Nat → Nat → am_V} {A P : Nat → Nat → Int32} {st mk lv : Nat → Int32} {cl pr : Nat → Nat → Int32} {us : Nat → Int32} {va si wk : Int32} {v : Nat} {x y : Int32} (hv : v < 28) (k : Q none (hm (xc (up2 (up2 A v 1 x) v 2 y) P st mk lv cl pr us va si wk) Y)) : am_C g mO_takeShape d 0 0 [am_O 8 v, am_I x, am_I y] (hm (xc A P st mk lv cl pr us va si wk) Y) Q := by
  refine am_enter (lv := [some (am_O 8 v), some (am_I x), some (am_I y)]) rfl rfl (am_cat1 rfl) (Nat.le_of_ble_eq_true rfl) ?_
  refine am_aload_n (i := 0) dO_takeShape_0 rfl rfl ?_
  refine am_iload_n (i := 1) dO_takeShape_1 rfl rfl ?_
  refine am_putf' dO_takeShape_2 flO_9 (by first | rfl | exact sk8 (by omega) | exact sk9 (by omega) | exact sk10 (by omega) | exact sk11 (by omega)) rfl (fun _ => ⟨rfl, rfl⟩) (by first | exact wx_st | exact wx_mk | exact wx_lv | exact wx_us | exact wx_A | exact wx_P | exact wx_cl | exact wx_pr | exact wx_va | exact wx_si | exact wx_wk) ?_
  refine am_aload_n (i := 0) dO_takeShape_5 rfl rfl ?_
  refine am_iload_n (i := 2) dO_takeShape_6 rfl rfl ?_
  refine am_putf' dO_takeShape_7 flO_15 (by first | rfl | exact sk8 (by omega) | exact sk9 (by omega) | exact sk10 (by omega) | exact sk11 (by omega)) rfl (fun _ => ⟨rfl, rfl⟩) (by first | exact wx_st | exact wx_mk | exact wx_lv | exact wx_us | exact wx_A | exact wx_P | exact wx_cl | exact wx_pr | exact wx_va | exact wx_si | exact wx_wk) ?_
  refine am_vret (st := []) rfl dO_takeShape_10 ?_
  exact k
set_option maxRecDepth 100000 in
set_option maxHeartbeats 4000000 in
theorem cO_become8 {g : am_G} {d : Nat} {Q : Option am_V → am_H → Prop} {Y : Nat → Nat → Nat → am_V} {A P : Nat → Nat → Int32} {st mk lv : Nat → Int32} {cl pr : Nat → Nat → Int32} {us : Nat → Int32} {va si wk : Int32} {v : Nat} {a b e p q : Int32} (hv : v < 28) (k : Q none (hm (xc (up2 (up2 (up2 (up2 (up2 A v 0 a) v 3 b) v 4 e) v 5 p) v 6 q) P st mk lv cl pr us va si wk) Y)) : am_C g mO_become d 0 0 [am_O 8 v, am_I a, am_I b, am_I e, am_I p, am_I q] (hm (xc A P st mk lv cl pr us va si wk) Y) Q := by
  refine am_enter (lv := [some (am_O 8 v), some (am_I a), some (am_I b), some (am_I e), some (am_I p), some (am_I q)]) rfl rfl (am_cat1 rfl) (Nat.le_of_ble_eq_true rfl) ?_
  refine am_aload_n (i := 0) dO_become_0 rfl rfl ?_
  refine am_iload_n (i := 1) dO_become_1 rfl rfl ?_
  refine am_putf' dO_become_2 flO_18 (by first | rfl | exact sk8 (by omega) | exact sk9 (by omega) | exact sk10 (by omega) | exact sk11 (by omega)) rfl (fun _ => ⟨rfl, rfl⟩) (by first | exact wx_st | exact wx_mk | exact wx_lv | exact wx_us | exact wx_A | exact wx_P | exact wx_cl | exact wx_pr | exact wx_va | exact wx_si | exact wx_wk) ?_
  refine am_aload_n (i := 0) dO_become_5 rfl rfl ?_
  refine am_iload_n (i := 2) dO_become_6 rfl rfl ?_
  refine am_putf' dO_become_7 flO_21 (by first | rfl | exact sk8 (by omega) | exact sk9 (by omega) | exact sk10 (by omega) | exact sk11 (by omega)) rfl (fun _ => ⟨rfl, rfl⟩) (by first | exact wx_st | exact wx_mk | exact wx_lv | exact wx_us | exact wx_A | exact wx_P | exact wx_cl | exact wx_pr | exact wx_va | exact wx_si | exact wx_wk) ?_
  refine am_aload_n (i := 0) dO_become_10 rfl rfl ?_
  refine am_iload_n (i := 3) dO_become_11 rfl rfl ?_
  refine am_putf' dO_become_12 flO_24 (by first | rfl | exact sk8 (by omega) | exact sk9 (by omega) | exact sk10 (by omega) | exact sk11 (by omega)) rfl (fun _ => ⟨rfl, rfl⟩) (by first | exact wx_st | exact wx_mk | exact wx_lv | exact wx_us | exact wx_A | exact wx_P | exact wx_cl | exact wx_pr | exact wx_va | exact wx_si | exact wx_wk) ?_
  refine am_aload_n (i := 0) dO_become_15 rfl rfl ?_
  refine am_iload (i := 4) dO_become_16 rfl ?_
  refine am_putf' dO_become_18 flO_27 (by first | rfl | exact sk8 (by omega) | exact sk9 (by omega) | exact sk10 (by omega) | exact sk11 (by omega)) rfl (fun _ => ⟨rfl, rfl⟩) (by first | exact wx_st | exact wx_mk | exact wx_lv | exact wx_us | exact wx_A | exact wx_P | exact wx_cl | exact wx_pr | exact wx_va | exact wx_si | exact wx_wk) ?_
  refine am_aload_n (i := 0) dO_become_21 rfl rfl ?_
  refine am_iload (i := 5) dO_become_22 rfl ?_
  refine am_putf' dO_become_24 flO_30 (by first | rfl | exact sk8 (by omega) | exact sk9 (by omega) | exact sk10 (by omega) | exact sk11 (by omega)) rfl (fun _ => ⟨rfl, rfl⟩) (by first | exact wx_st | exact wx_mk | exact wx_lv | exact wx_us | exact wx_A | exact wx_P | exact wx_cl | exact wx_pr | exact wx_va | exact wx_si | exact wx_wk) ?_
  refine am_vret (st := []) rfl dO_become_27 ?_
  exact k
set_option maxRecDepth 100000 in
set_option maxHeartbeats 4000000 in
theorem cO_takeShape9 {g : am_G} {d : Nat} {Q : Option am_V → am_H → Prop} {Y : Nat → Nat → Nat → am_V} {A P : Nat → Nat → Int32} {st mk lv : Nat → Int32} {cl pr : Nat → Nat → Int32} {us : Nat → Int32} {va si wk : Int32} {v : Nat} {x y : Int32} (hv : v < 28) (k : Q none (hm (xc A (up2 (up2 P v 1 x) v 2 y) st mk lv cl pr us va si wk) Y)) : am_C g mO_takeShape d 0 0 [am_O 9 v, am_I x, am_I y] (hm (xc A P st mk lv cl pr us va si wk) Y) Q := by
  refine am_enter (lv := [some (am_O 9 v), some (am_I x), some (am_I y)]) rfl rfl (am_cat1 rfl) (Nat.le_of_ble_eq_true rfl) ?_
  refine am_aload_n (i := 0) dO_takeShape_0 rfl rfl ?_
  refine am_iload_n (i := 1) dO_takeShape_1 rfl rfl ?_
  refine am_putf' dO_takeShape_2 flO_9 (by first | rfl | exact sk8 (by omega) | exact sk9 (by omega) | exact sk10 (by omega) | exact sk11 (by omega)) rfl (fun _ => ⟨rfl, rfl⟩) (by first | exact wx_st | exact wx_mk | exact wx_lv | exact wx_us | exact wx_A | exact wx_P | exact wx_cl | exact wx_pr | exact wx_va | exact wx_si | exact wx_wk) ?_
  refine am_aload_n (i := 0) dO_takeShape_5 rfl rfl ?_
  refine am_iload_n (i := 2) dO_takeShape_6 rfl rfl ?_
  refine am_putf' dO_takeShape_7 flO_15 (by first | rfl | exact sk8 (by omega) | exact sk9 (by omega) | exact sk10 (by omega) | exact sk11 (by omega)) rfl (fun _ => ⟨rfl, rfl⟩) (by first | exact wx_st | exact wx_mk | exact wx_lv | exact wx_us | exact wx_A | exact wx_P | exact wx_cl | exact wx_pr | exact wx_va | exact wx_si | exact wx_wk) ?_
  refine am_vret (st := []) rfl dO_takeShape_10 ?_
  exact k
set_option maxRecDepth 100000 in
set_option maxHeartbeats 4000000 in
theorem cO_become9 {g : am_G} {d : Nat} {Q : Option am_V → am_H → Prop} {Y : Nat → Nat → Nat → am_V} {A P : Nat → Nat → Int32} {st mk lv : Nat → Int32} {cl pr : Nat → Nat → Int32} {us : Nat → Int32} {va si wk : Int32} {v : Nat} {a b e p q : Int32} (hv : v < 28) (k : Q none (hm (xc A (up2 (up2 (up2 (up2 (up2 P v 0 a) v 3 b) v 4 e) v 5 p) v 6 q) st mk lv cl pr us va si wk) Y)) : am_C g mO_become d 0 0 [am_O 9 v, am_I a, am_I b, am_I e, am_I p, am_I q] (hm (xc A P st mk lv cl pr us va si wk) Y) Q := by
  refine am_enter (lv := [some (am_O 9 v), some (am_I a), some (am_I b), some (am_I e), some (am_I p), some (am_I q)]) rfl rfl (am_cat1 rfl) (Nat.le_of_ble_eq_true rfl) ?_
  refine am_aload_n (i := 0) dO_become_0 rfl rfl ?_
  refine am_iload_n (i := 1) dO_become_1 rfl rfl ?_
  refine am_putf' dO_become_2 flO_18 (by first | rfl | exact sk8 (by omega) | exact sk9 (by omega) | exact sk10 (by omega) | exact sk11 (by omega)) rfl (fun _ => ⟨rfl, rfl⟩) (by first | exact wx_st | exact wx_mk | exact wx_lv | exact wx_us | exact wx_A | exact wx_P | exact wx_cl | exact wx_pr | exact wx_va | exact wx_si | exact wx_wk) ?_
  refine am_aload_n (i := 0) dO_become_5 rfl rfl ?_
  refine am_iload_n (i := 2) dO_become_6 rfl rfl ?_
  refine am_putf' dO_become_7 flO_21 (by first | rfl | exact sk8 (by omega) | exact sk9 (by omega) | exact sk10 (by omega) | exact sk11 (by omega)) rfl (fun _ => ⟨rfl, rfl⟩) (by first | exact wx_st | exact wx_mk | exact wx_lv | exact wx_us | exact wx_A | exact wx_P | exact wx_cl | exact wx_pr | exact wx_va | exact wx_si | exact wx_wk) ?_
  refine am_aload_n (i := 0) dO_become_10 rfl rfl ?_
  refine am_iload_n (i := 3) dO_become_11 rfl rfl ?_
  refine am_putf' dO_become_12 flO_24 (by first | rfl | exact sk8 (by omega) | exact sk9 (by omega) | exact sk10 (by omega) | exact sk11 (by omega)) rfl (fun _ => ⟨rfl, rfl⟩) (by first | exact wx_st | exact wx_mk | exact wx_lv | exact wx_us | exact wx_A | exact wx_P | exact wx_cl | exact wx_pr | exact wx_va | exact wx_si | exact wx_wk) ?_
  refine am_aload_n (i := 0) dO_become_15 rfl rfl ?_
  refine am_iload (i := 4) dO_become_16 rfl ?_
  refine am_putf' dO_become_18 flO_27 (by first | rfl | exact sk8 (by omega) | exact sk9 (by omega) | exact sk10 (by omega) | exact sk11 (by omega)) rfl (fun _ => ⟨rfl, rfl⟩) (by first | exact wx_st | exact wx_mk | exact wx_lv | exact wx_us | exact wx_A | exact wx_P | exact wx_cl | exact wx_pr | exact wx_va | exact wx_si | exact wx_wk) ?_
  refine am_aload_n (i := 0) dO_become_21 rfl rfl ?_
  refine am_iload (i := 5) dO_become_22 rfl ?_
  refine am_putf' dO_become_24 flO_30 (by first | rfl | exact sk8 (by omega) | exact sk9 (by omega) | exact sk10 (by omega) | exact sk11 (by omega)) rfl (fun _ => ⟨rfl, rfl⟩) (by first | exact wx_st | exact wx_mk | exact wx_lv | exact wx_us | exact wx_A | exact wx_P | exact wx_cl | exact wx_pr | exact wx_va | exact wx_si | exact wx_wk) ?_
  refine am_vret (st := []) rfl dO_become_27 ?_
  exact k
set_option maxRecDepth 100000 in
set_option maxHeartbeats 4000000 in
theorem cO_becomeSplat {g : am_G} {d : Nat} {Q : Option am_V → am_H → Prop} {Y : Nat → Nat → Nat → am_V} {A P : Nat → Nat → Int32} {st mk lv : Nat → Int32} {cl pr : Nat → Nat → Int32} {us : Nat → Int32} {va si wk : Int32} {v : Nat} {x : Int32} (hv : v < 28) (k : Q none (hm (xc A (up2 (up2 (up2 (up2 (up2 P v 0 1) v 3 (-1)) v 4 (-1)) v 5 x) v 6 0) st mk lv cl pr us va si wk) Y)) : am_C g mO_becomeSplat (d + 1) 0 0 [am_O 9 v, am_I x] (hm (xc A P st mk lv cl pr us va si wk) Y) Q := by
  refine am_enter (lv := [some (am_O 9 v), some (am_I x)]) rfl rfl (am_cat1 rfl) (Nat.le_of_ble_eq_true rfl) ?_
  refine am_aload_n (i := 0) dO_becomeSplat_0 rfl rfl ?_
  refine am_iconst (v := 1) dO_becomeSplat_1 (by decide) ?_
  refine am_iconst (v := (-1)) dO_becomeSplat_2 (by decide) ?_
  refine am_iconst (v := (-1)) dO_becomeSplat_3 (by decide) ?_
  refine am_iload_n (i := 1) dO_becomeSplat_4 rfl rfl ?_
  refine am_iconst (v := 0) dO_becomeSplat_5 (by decide) ?_
  refine am_callV (ac' := 0) (as' := 0) (xs := [_, _, _, _, _]) dO_becomeSplat_6 lkO_33 (by first | rfl | exact sk8 (by omega) | exact sk9 (by omega) | exact sk10 (by omega) | exact sk11 (by omega)) rfl rfl rfl rfl (Nat.le_of_ble_eq_true rfl) rfl rfl (cO_become9 hv ?_)
  refine am_vret (st := []) rfl dO_becomeSplat_9 ?_
  exact k
set_option maxRecDepth 100000 in
set_option maxHeartbeats 4000000 in
theorem cO_isSplatOf {g : am_G} {d : Nat} {Q : Option am_V → am_H → Prop} {Y : Nat → Nat → Nat → am_V} {A P : Nat → Nat → Int32} {st mk lv : Nat → Int32} {cl pr : Nat → Nat → Int32} {us : Nat → Int32} {va si wk : Int32} {v : Nat} {x : Int32} (hv : v < 28) (h1 : (P v 0 = 1 ∧ P v 5 = x) → Q (some (am_I 1)) (hm (xc A P st mk lv cl pr us va si wk) Y)) (h0 : ¬ (P v 0 = 1 ∧ P v 5 = x) → Q (some (am_I 0)) (hm (xc A P st mk lv cl pr us va si wk) Y)) : am_C g mO_isSplatOf d 0 0 [am_O 9 v, am_I x] (hm (xc A P st mk lv cl pr us va si wk) Y) Q := by
  refine am_enter (lv := [some (am_O 9 v), some (am_I x)]) rfl rfl (am_cat1 rfl) (Nat.le_of_ble_eq_true rfl) ?_
  refine am_aload_n (i := 0) dO_isSplatOf_0 rfl rfl ?_
  refine am_getf dO_isSplatOf_1 flO_18 (by first | rfl | exact sk8 (by omega) | exact sk9 (by omega) | exact sk10 (by omega) | exact sk11 (by omega)) rfl ?_
  refine am_iconst (v := 1) dO_isSplatOf_4 (by decide) ?_
  refine am_icmp_ne (tgt := 20) dO_isSplatOf_5 (by decide) (fun c5 => ?_) (fun c5 => ?_)
  · refine am_iconst (v := 0) dO_isSplatOf_20 (by decide) ?_
    refine am_iret (st := []) rfl rfl dO_isSplatOf_21 ?_
    first | exact h1 (by grind) | exact h0 (by grind)
  · refine am_aload_n (i := 0) dO_isSplatOf_8 rfl rfl ?_
    refine am_getf dO_isSplatOf_9 flO_27 (by first | rfl | exact sk8 (by omega) | exact sk9 (by omega) | exact sk10 (by omega) | exact sk11 (by omega)) rfl ?_
    refine am_iload_n (i := 1) dO_isSplatOf_12 rfl rfl ?_
    refine am_icmp_ne (tgt := 20) dO_isSplatOf_13 (by decide) (fun c13 => ?_) (fun c13 => ?_)
    · refine am_iconst (v := 0) dO_isSplatOf_20 (by decide) ?_
      refine am_iret (st := []) rfl rfl dO_isSplatOf_21 ?_
      first | exact h1 (by grind) | exact h0 (by grind)
    · refine am_iconst (v := 1) dO_isSplatOf_16 (by decide) ?_
      refine am_goto (tgt := 21) dO_isSplatOf_17 (by decide) ?_
      refine am_iret (st := []) rfl rfl dO_isSplatOf_21 ?_
      first | exact h1 (by grind) | exact h0 (by grind)
set_option maxRecDepth 100000 in
set_option maxHeartbeats 4000000 in
theorem cO_takesPairs {g : am_G} {d : Nat} {Q : Option am_V → am_H → Prop} {Y : Nat → Nat → Nat → am_V} {A P : Nat → Nat → Int32} {st mk lv : Nat → Int32} {cl pr : Nat → Nat → Int32} {us : Nat → Int32} {va si wk : Int32} {v : Nat} (hv : v < 28) (h1 : (P v 0 = 3 ∨ P v 0 = 4 ∨ P v 0 = 5) → Q (some (am_I 1)) (hm (xc A P st mk lv cl pr us va si wk) Y)) (h0 : ¬ (P v 0 = 3 ∨ P v 0 = 4 ∨ P v 0 = 5) → Q (some (am_I 0)) (hm (xc A P st mk lv cl pr us va si wk) Y)) : am_C g mO_takesPairs d 0 0 [am_O 9 v] (hm (xc A P st mk lv cl pr us va si wk) Y) Q := by
  refine am_enter (lv := [some (am_O 9 v)]) rfl rfl (am_cat1 rfl) (Nat.le_of_ble_eq_true rfl) ?_
  refine am_aload_n (i := 0) dO_takesPairs_0 rfl rfl ?_
  refine am_getf dO_takesPairs_1 flO_18 (by first | rfl | exact sk8 (by omega) | exact sk9 (by omega) | exact sk10 (by omega) | exact sk11 (by omega)) rfl ?_
  refine am_iconst (v := 3) dO_takesPairs_4 (by decide) ?_
  refine am_icmp_eq (tgt := 24) dO_takesPairs_5 (by decide) (fun c5 => ?_) (fun c5 => ?_)
  · refine am_iconst (v := 1) dO_takesPairs_24 (by decide) ?_
    refine am_goto (tgt := 29) dO_takesPairs_25 (by decide) ?_
    refine am_iret (st := []) rfl rfl dO_takesPairs_29 ?_
    first | exact h1 (by grind) | exact h0 (by grind)
  · refine am_aload_n (i := 0) dO_takesPairs_8 rfl rfl ?_
    refine am_getf dO_takesPairs_9 flO_18 (by first | rfl | exact sk8 (by omega) | exact sk9 (by omega) | exact sk10 (by omega) | exact sk11 (by omega)) rfl ?_
    refine am_iconst (v := 4) dO_takesPairs_12 (by decide) ?_
    refine am_icmp_eq (tgt := 24) dO_takesPairs_13 (by decide) (fun c13 => ?_) (fun c13 => ?_)
    · refine am_iconst (v := 1) dO_takesPairs_24 (by decide) ?_
      refine am_goto (tgt := 29) dO_takesPairs_25 (by decide) ?_
      refine am_iret (st := []) rfl rfl dO_takesPairs_29 ?_
      first | exact h1 (by grind) | exact h0 (by grind)
    · refine am_aload_n (i := 0) dO_takesPairs_16 rfl rfl ?_
      refine am_getf dO_takesPairs_17 flO_18 (by first | rfl | exact sk8 (by omega) | exact sk9 (by omega) | exact sk10 (by omega) | exact sk11 (by omega)) rfl ?_
      refine am_iconst (v := 5) dO_takesPairs_20 (by decide) ?_
      refine am_icmp_ne (tgt := 28) dO_takesPairs_21 (by decide) (fun c21 => ?_) (fun c21 => ?_)
      · refine am_iconst (v := 0) dO_takesPairs_28 (by decide) ?_
        refine am_iret (st := []) rfl rfl dO_takesPairs_29 ?_
        first | exact h1 (by grind) | exact h0 (by grind)
      · refine am_iconst (v := 1) dO_takesPairs_24 (by decide) ?_
        refine am_goto (tgt := 29) dO_takesPairs_25 (by decide) ?_
        refine am_iret (st := []) rfl rfl dO_takesPairs_29 ?_
        first | exact h1 (by grind) | exact h0 (by grind)
set_option maxRecDepth 100000 in
set_option maxHeartbeats 4000000 in
theorem cO_isReshaping {g : am_G} {d : Nat} {Q : Option am_V → am_H → Prop} {Y : Nat → Nat → Nat → am_V} {A P : Nat → Nat → Int32} {st mk lv : Nat → Int32} {cl pr : Nat → Nat → Int32} {us : Nat → Int32} {va si wk : Int32} {v : Nat} (hv : v < 28) (h1 : (P v 0 = 10 ∨ P v 0 = 11 ∨ P v 0 = 12) → Q (some (am_I 1)) (hm (xc A P st mk lv cl pr us va si wk) Y)) (h0 : ¬ (P v 0 = 10 ∨ P v 0 = 11 ∨ P v 0 = 12) → Q (some (am_I 0)) (hm (xc A P st mk lv cl pr us va si wk) Y)) : am_C g mO_isReshaping d 0 0 [am_O 9 v] (hm (xc A P st mk lv cl pr us va si wk) Y) Q := by
  refine am_enter (lv := [some (am_O 9 v)]) rfl rfl (am_cat1 rfl) (Nat.le_of_ble_eq_true rfl) ?_
  refine am_aload_n (i := 0) dO_isReshaping_0 rfl rfl ?_
  refine am_getf dO_isReshaping_1 flO_18 (by first | rfl | exact sk8 (by omega) | exact sk9 (by omega) | exact sk10 (by omega) | exact sk11 (by omega)) rfl ?_
  refine am_bipush (v := 10) dO_isReshaping_4 (by decide) ?_
  refine am_icmp_eq (tgt := 27) dO_isReshaping_6 (by decide) (fun c6 => ?_) (fun c6 => ?_)
  · refine am_iconst (v := 1) dO_isReshaping_27 (by decide) ?_
    refine am_goto (tgt := 32) dO_isReshaping_28 (by decide) ?_
    refine am_iret (st := []) rfl rfl dO_isReshaping_32 ?_
    first | exact h1 (by grind) | exact h0 (by grind)
  · refine am_aload_n (i := 0) dO_isReshaping_9 rfl rfl ?_
    refine am_getf dO_isReshaping_10 flO_18 (by first | rfl | exact sk8 (by omega) | exact sk9 (by omega) | exact sk10 (by omega) | exact sk11 (by omega)) rfl ?_
    refine am_bipush (v := 11) dO_isReshaping_13 (by decide) ?_
    refine am_icmp_eq (tgt := 27) dO_isReshaping_15 (by decide) (fun c15 => ?_) (fun c15 => ?_)
    · refine am_iconst (v := 1) dO_isReshaping_27 (by decide) ?_
      refine am_goto (tgt := 32) dO_isReshaping_28 (by decide) ?_
      refine am_iret (st := []) rfl rfl dO_isReshaping_32 ?_
      first | exact h1 (by grind) | exact h0 (by grind)
    · refine am_aload_n (i := 0) dO_isReshaping_18 rfl rfl ?_
      refine am_getf dO_isReshaping_19 flO_18 (by first | rfl | exact sk8 (by omega) | exact sk9 (by omega) | exact sk10 (by omega) | exact sk11 (by omega)) rfl ?_
      refine am_bipush (v := 12) dO_isReshaping_22 (by decide) ?_
      refine am_icmp_ne (tgt := 31) dO_isReshaping_24 (by decide) (fun c24 => ?_) (fun c24 => ?_)
      · refine am_iconst (v := 0) dO_isReshaping_31 (by decide) ?_
        refine am_iret (st := []) rfl rfl dO_isReshaping_32 ?_
        first | exact h1 (by grind) | exact h0 (by grind)
      · refine am_iconst (v := 1) dO_isReshaping_27 (by decide) ?_
        refine am_goto (tgt := 32) dO_isReshaping_28 (by decide) ?_
        refine am_iret (st := []) rfl rfl dO_isReshaping_32 ?_
        first | exact h1 (by grind) | exact h0 (by grind)
set_option maxRecDepth 100000 in
set_option maxHeartbeats 4000000 in
theorem cO_hasShapeOf8 {g : am_G} {d : Nat} {Q : Option am_V → am_H → Prop} {Y : Nat → Nat → Nat → am_V} {A P : Nat → Nat → Int32} {st mk lv : Nat → Int32} {cl pr : Nat → Nat → Int32} {us : Nat → Int32} {va si wk : Int32} {v u : Nat} (hv : v < 28) (hu : u < 28) (h1 : (A v 1 = A u 1 ∧ A v 2 = A u 2) → Q (some (am_I 1)) (hm (xc A P st mk lv cl pr us va si wk) Y)) (h0 : ¬ (A v 1 = A u 1 ∧ A v 2 = A u 2) → Q (some (am_I 0)) (hm (xc A P st mk lv cl pr us va si wk) Y)) : am_C g mO_hasShapeOf d 0 0 [am_O 8 v, am_O 8 u] (hm (xc A P st mk lv cl pr us va si wk) Y) Q := by
  refine am_enter (lv := [some (am_O 8 v), some (am_O 8 u)]) rfl rfl (am_cat1 rfl) (Nat.le_of_ble_eq_true rfl) ?_
  refine am_aload_n (i := 0) dO_hasShapeOf_0 rfl rfl ?_
  refine am_getf dO_hasShapeOf_1 flO_9 (by first | rfl | exact sk8 (by omega) | exact sk9 (by omega) | exact sk10 (by omega) | exact sk11 (by omega)) rfl ?_
  refine am_aload_n (i := 1) dO_hasShapeOf_4 rfl rfl ?_
  refine am_getf dO_hasShapeOf_5 flO_9 (by first | rfl | exact sk8 (by omega) | exact sk9 (by omega) | exact sk10 (by omega) | exact sk11 (by omega)) rfl ?_
  refine am_icmp_ne (tgt := 26) dO_hasShapeOf_8 (by decide) (fun c8 => ?_) (fun c8 => ?_)
  · refine am_iconst (v := 0) dO_hasShapeOf_26 (by decide) ?_
    refine am_iret (st := []) rfl rfl dO_hasShapeOf_27 ?_
    first | exact h1 (by grind) | exact h0 (by grind)
  · refine am_aload_n (i := 0) dO_hasShapeOf_11 rfl rfl ?_
    refine am_getf dO_hasShapeOf_12 flO_15 (by first | rfl | exact sk8 (by omega) | exact sk9 (by omega) | exact sk10 (by omega) | exact sk11 (by omega)) rfl ?_
    refine am_aload_n (i := 1) dO_hasShapeOf_15 rfl rfl ?_
    refine am_getf dO_hasShapeOf_16 flO_15 (by first | rfl | exact sk8 (by omega) | exact sk9 (by omega) | exact sk10 (by omega) | exact sk11 (by omega)) rfl ?_
    refine am_icmp_ne (tgt := 26) dO_hasShapeOf_19 (by decide) (fun c19 => ?_) (fun c19 => ?_)
    · refine am_iconst (v := 0) dO_hasShapeOf_26 (by decide) ?_
      refine am_iret (st := []) rfl rfl dO_hasShapeOf_27 ?_
      first | exact h1 (by grind) | exact h0 (by grind)
    · refine am_iconst (v := 1) dO_hasShapeOf_22 (by decide) ?_
      refine am_goto (tgt := 27) dO_hasShapeOf_23 (by decide) ?_
      refine am_iret (st := []) rfl rfl dO_hasShapeOf_27 ?_
      first | exact h1 (by grind) | exact h0 (by grind)
set_option maxRecDepth 100000 in
set_option maxHeartbeats 4000000 in
theorem cO_hasShapeOf9 {g : am_G} {d : Nat} {Q : Option am_V → am_H → Prop} {Y : Nat → Nat → Nat → am_V} {A P : Nat → Nat → Int32} {st mk lv : Nat → Int32} {cl pr : Nat → Nat → Int32} {us : Nat → Int32} {va si wk : Int32} {v u : Nat} (hv : v < 28) (hu : u < 28) (h1 : (P v 1 = P u 1 ∧ P v 2 = P u 2) → Q (some (am_I 1)) (hm (xc A P st mk lv cl pr us va si wk) Y)) (h0 : ¬ (P v 1 = P u 1 ∧ P v 2 = P u 2) → Q (some (am_I 0)) (hm (xc A P st mk lv cl pr us va si wk) Y)) : am_C g mO_hasShapeOf d 0 0 [am_O 9 v, am_O 9 u] (hm (xc A P st mk lv cl pr us va si wk) Y) Q := by
  refine am_enter (lv := [some (am_O 9 v), some (am_O 9 u)]) rfl rfl (am_cat1 rfl) (Nat.le_of_ble_eq_true rfl) ?_
  refine am_aload_n (i := 0) dO_hasShapeOf_0 rfl rfl ?_
  refine am_getf dO_hasShapeOf_1 flO_9 (by first | rfl | exact sk8 (by omega) | exact sk9 (by omega) | exact sk10 (by omega) | exact sk11 (by omega)) rfl ?_
  refine am_aload_n (i := 1) dO_hasShapeOf_4 rfl rfl ?_
  refine am_getf dO_hasShapeOf_5 flO_9 (by first | rfl | exact sk8 (by omega) | exact sk9 (by omega) | exact sk10 (by omega) | exact sk11 (by omega)) rfl ?_
  refine am_icmp_ne (tgt := 26) dO_hasShapeOf_8 (by decide) (fun c8 => ?_) (fun c8 => ?_)
  · refine am_iconst (v := 0) dO_hasShapeOf_26 (by decide) ?_
    refine am_iret (st := []) rfl rfl dO_hasShapeOf_27 ?_
    first | exact h1 (by grind) | exact h0 (by grind)
  · refine am_aload_n (i := 0) dO_hasShapeOf_11 rfl rfl ?_
    refine am_getf dO_hasShapeOf_12 flO_15 (by first | rfl | exact sk8 (by omega) | exact sk9 (by omega) | exact sk10 (by omega) | exact sk11 (by omega)) rfl ?_
    refine am_aload_n (i := 1) dO_hasShapeOf_15 rfl rfl ?_
    refine am_getf dO_hasShapeOf_16 flO_15 (by first | rfl | exact sk8 (by omega) | exact sk9 (by omega) | exact sk10 (by omega) | exact sk11 (by omega)) rfl ?_
    refine am_icmp_ne (tgt := 26) dO_hasShapeOf_19 (by decide) (fun c19 => ?_) (fun c19 => ?_)
    · refine am_iconst (v := 0) dO_hasShapeOf_26 (by decide) ?_
      refine am_iret (st := []) rfl rfl dO_hasShapeOf_27 ?_
      first | exact h1 (by grind) | exact h0 (by grind)
    · refine am_iconst (v := 1) dO_hasShapeOf_22 (by decide) ?_
      refine am_goto (tgt := 27) dO_hasShapeOf_23 (by decide) ?_
      refine am_iret (st := []) rfl rfl dO_hasShapeOf_27 ?_
      first | exact h1 (by grind) | exact h0 (by grind)
set_option maxRecDepth 100000 in
set_option maxHeartbeats 4000000 in
theorem cO_isLike {g : am_G} {d : Nat} {Q : Option am_V → am_H → Prop} {Y : Nat → Nat → Nat → am_V} {A P : Nat → Nat → Int32} {st mk lv : Nat → Int32} {cl pr : Nat → Nat → Int32} {us : Nat → Int32} {va si wk : Int32} {v u : Nat} (hv : v < 28) (hu : u < 28) (h1 : (P v 0 = P u 0 ∧ P v 3 = P u 3 ∧ P v 4 = P u 4 ∧ P v 5 = P u 5 ∧ P v 6 = P u 6 ∧ P v 1 = P u 1 ∧ P v 2 = P u 2) → Q (some (am_I 1)) (hm (xc A P st mk lv cl pr us va si wk) Y)) (h0 : ¬ (P v 0 = P u 0 ∧ P v 3 = P u 3 ∧ P v 4 = P u 4 ∧ P v 5 = P u 5 ∧ P v 6 = P u 6 ∧ P v 1 = P u 1 ∧ P v 2 = P u 2) → Q (some (am_I 0)) (hm (xc A P st mk lv cl pr us va si wk) Y)) : am_C g mO_isLike (d + 1) 0 0 [am_O 9 v, am_O 9 u] (hm (xc A P st mk lv cl pr us va si wk) Y) Q := by
  refine am_enter (lv := [some (am_O 9 v), some (am_O 9 u)]) rfl rfl (am_cat1 rfl) (Nat.le_of_ble_eq_true rfl) ?_
  refine am_aload_n (i := 0) dO_isLike_0 rfl rfl ?_
  refine am_getf dO_isLike_1 flO_18 (by first | rfl | exact sk8 (by omega) | exact sk9 (by omega) | exact sk10 (by omega) | exact sk11 (by omega)) rfl ?_
  refine am_aload_n (i := 1) dO_isLike_4 rfl rfl ?_
  refine am_getf dO_isLike_5 flO_18 (by first | rfl | exact sk8 (by omega) | exact sk9 (by omega) | exact sk10 (by omega) | exact sk11 (by omega)) rfl ?_
  refine am_icmp_ne (tgt := 67) dO_isLike_8 (by decide) (fun c8 => ?_) (fun c8 => ?_)
  · refine am_iconst (v := 0) dO_isLike_67 (by decide) ?_
    refine am_iret (st := []) rfl rfl dO_isLike_68 ?_
    first | exact h1 (by grind) | exact h0 (by grind)
  · refine am_aload_n (i := 0) dO_isLike_11 rfl rfl ?_
    refine am_getf dO_isLike_12 flO_21 (by first | rfl | exact sk8 (by omega) | exact sk9 (by omega) | exact sk10 (by omega) | exact sk11 (by omega)) rfl ?_
    refine am_aload_n (i := 1) dO_isLike_15 rfl rfl ?_
    refine am_getf dO_isLike_16 flO_21 (by first | rfl | exact sk8 (by omega) | exact sk9 (by omega) | exact sk10 (by omega) | exact sk11 (by omega)) rfl ?_
    refine am_icmp_ne (tgt := 67) dO_isLike_19 (by decide) (fun c19 => ?_) (fun c19 => ?_)
    · refine am_iconst (v := 0) dO_isLike_67 (by decide) ?_
      refine am_iret (st := []) rfl rfl dO_isLike_68 ?_
      first | exact h1 (by grind) | exact h0 (by grind)
    · refine am_aload_n (i := 0) dO_isLike_22 rfl rfl ?_
      refine am_getf dO_isLike_23 flO_24 (by first | rfl | exact sk8 (by omega) | exact sk9 (by omega) | exact sk10 (by omega) | exact sk11 (by omega)) rfl ?_
      refine am_aload_n (i := 1) dO_isLike_26 rfl rfl ?_
      refine am_getf dO_isLike_27 flO_24 (by first | rfl | exact sk8 (by omega) | exact sk9 (by omega) | exact sk10 (by omega) | exact sk11 (by omega)) rfl ?_
      refine am_icmp_ne (tgt := 67) dO_isLike_30 (by decide) (fun c30 => ?_) (fun c30 => ?_)
      · refine am_iconst (v := 0) dO_isLike_67 (by decide) ?_
        refine am_iret (st := []) rfl rfl dO_isLike_68 ?_
        first | exact h1 (by grind) | exact h0 (by grind)
      · refine am_aload_n (i := 0) dO_isLike_33 rfl rfl ?_
        refine am_getf dO_isLike_34 flO_27 (by first | rfl | exact sk8 (by omega) | exact sk9 (by omega) | exact sk10 (by omega) | exact sk11 (by omega)) rfl ?_
        refine am_aload_n (i := 1) dO_isLike_37 rfl rfl ?_
        refine am_getf dO_isLike_38 flO_27 (by first | rfl | exact sk8 (by omega) | exact sk9 (by omega) | exact sk10 (by omega) | exact sk11 (by omega)) rfl ?_
        refine am_icmp_ne (tgt := 67) dO_isLike_41 (by decide) (fun c41 => ?_) (fun c41 => ?_)
        · refine am_iconst (v := 0) dO_isLike_67 (by decide) ?_
          refine am_iret (st := []) rfl rfl dO_isLike_68 ?_
          first | exact h1 (by grind) | exact h0 (by grind)
        · refine am_aload_n (i := 0) dO_isLike_44 rfl rfl ?_
          refine am_getf dO_isLike_45 flO_30 (by first | rfl | exact sk8 (by omega) | exact sk9 (by omega) | exact sk10 (by omega) | exact sk11 (by omega)) rfl ?_
          refine am_aload_n (i := 1) dO_isLike_48 rfl rfl ?_
          refine am_getf dO_isLike_49 flO_30 (by first | rfl | exact sk8 (by omega) | exact sk9 (by omega) | exact sk10 (by omega) | exact sk11 (by omega)) rfl ?_
          refine am_icmp_ne (tgt := 67) dO_isLike_52 (by decide) (fun c52 => ?_) (fun c52 => ?_)
          · refine am_iconst (v := 0) dO_isLike_67 (by decide) ?_
            refine am_iret (st := []) rfl rfl dO_isLike_68 ?_
            first | exact h1 (by grind) | exact h0 (by grind)
          · refine am_aload_n (i := 0) dO_isLike_55 rfl rfl ?_
            refine am_aload_n (i := 1) dO_isLike_56 rfl rfl ?_
            refine am_callV (ac' := 0) (as' := 0) (xs := [_]) dO_isLike_57 lkO_41 (by first | rfl | exact sk8 (by omega) | exact sk9 (by omega) | exact sk10 (by omega) | exact sk11 (by omega)) rfl rfl rfl rfl (Nat.le_of_ble_eq_true rfl) rfl rfl (cO_hasShapeOf9 hv hu (fun cs => ?_) (fun cs => ?_))
            · refine am_if_eq_F (tgt := 67) dO_isLike_60 (by decide) (by decide) ?_
              refine am_iconst (v := 1) dO_isLike_63 (by decide) ?_
              refine am_goto (tgt := 68) dO_isLike_64 (by decide) ?_
              refine am_iret (st := []) rfl rfl dO_isLike_68 ?_
              first | exact h1 (by grind) | exact h0 (by grind)
            · refine am_if_eq_T (tgt := 67) dO_isLike_60 (by decide) (by decide) ?_
              refine am_iconst (v := 0) dO_isLike_67 (by decide) ?_
              refine am_iret (st := []) rfl rfl dO_isLike_68 ?_
              first | exact h1 (by grind) | exact h0 (by grind)
end
section
/-! ===== pure words ===== -/
theorem nI_ix {a : Nat} (h : a < 28) : (nI a).toNatClampNeg = a := nI_clamp (by omega)
theorem nI_m1 {a : Nat} (h : a < 28) : ¬ nI a = -1 := fun q => by
  have h1 := congrArg Int32.toInt q
  rw [nI_toInt (by omega)] at h1
  have h2 : (-1 : Int32).toInt = -1 := by decide
  omega
theorem nI_inj {a b : Nat} (ha : a < 65536) (hb : b < 65536) (h : nI a = nI b) : a = b := (nI_eq (by omega) (by omega)).mp h
theorem nI_lt' {a b : Nat} (ha : a < 65536) (hb : b < 65536) : nI a < nI b ↔ a < b := nI_ltI (by omega) (by omega)
theorem nI_le' {a b : Nat} (ha : a < 65536) (hb : b < 65536) : nI a ≤ nI b ↔ a ≤ b := nI_leI (by omega) (by omega)
def ix (x : Int32) : Nat := x.toNatClampNeg
theorem ix_nI {a : Nat} (h : a < 65536) : ix (nI a) = a := nI_clamp (by omega)
/-- an argument: none, or a value below v -/
def q_arg (x : Int32) (v : Nat) : Prop := x = -1 ∨ ∃ a, a < v ∧ x = nI a
theorem q_arg.ix {x : Int32} {v : Nat} (h : q_arg x v) (hn : ¬ x = -1) (hv : v ≤ 28) : ix x < v ∧ x = nI (ix x) := by
  obtain ⟨a, ha, rfl⟩ := h.resolve_left hn
  rw [ix_nI (by omega)]
  exact ⟨ha, rfl⟩
def q_fold (k x y r c p : Int32) : Int32 := if k = 3 then x + y else if k = 4 then x * y else if k = 5 then (if x < y then y else x) else if k = 6 then -x else if k = 8 then x * y * c else if k = 9 then x * (if p = 0 then r else c) else x
theorem q_foldD {k x y r c p : Int32} (h : k.toInt < 3 ∨ 9 < k.toInt) : q_fold k x y r c p = x := by
  have n : ∀ j : Int32, 3 ≤ j.toInt → j.toInt ≤ 9 → ¬ k = j := fun j a b q => by subst q; omega
  unfold q_fold
  rw [if_neg (n 3 (by decide) (by decide)), if_neg (n 4 (by decide) (by decide)), if_neg (n 5 (by decide) (by decide)), if_neg (n 6 (by decide) (by decide)), if_neg (n 8 (by decide) (by decide)), if_neg (n 9 (by decide) (by decide))]
def q_foldV (P : Nat → Nat → Int32) (v : Nat) : Int32 := q_fold (P v 0) (P (ix (P v 3)) 5) (if P v 4 = -1 then 0 else P (ix (P v 4)) 5) (P (ix (P v 3)) 1) (P (ix (P v 3)) 2) (P v 5)
abbrev q_only (P : Nat → Nat → Int32) (v : Nat) : Prop := ¬ P v 3 = -1 ∧ P (ix (P v 3)) 0 = 1 ∧ (P v 4 = -1 ∨ P (ix (P v 4)) 0 = 1)
abbrev q_spl (P : Nat → Nat → Int32) (x z : Int32) : Prop := P (ix x) 0 = 1 ∧ P (ix x) 5 = z
abbrev q_shp (P : Nat → Nat → Int32) (v u : Nat) : Prop := P v 1 = P u 1 ∧ P v 2 = P u 2
abbrev q_like (P : Nat → Nat → Int32) (v u : Nat) : Prop := P v 0 = P u 0 ∧ P v 3 = P u 3 ∧ P v 4 = P u 4 ∧ P v 5 = P u 5 ∧ P v 6 = P u 6 ∧ P v 1 = P u 1 ∧ P v 2 = P u 2
abbrev q_res (k : Int32) : Prop := k = 10 ∨ k = 11 ∨ k = 12
abbrev q_tw (k : Int32) : Prop := k = 6 ∨ k = 7 ∨ k = 11
def q_work (P : Nat → Nat → Int32) (v : Nat) : Int32 := if ¬ 2 < P v 0 then 0 else if P v 0 = 8 then P v 1 * P v 2 * P (ix (P v 3)) 2 else if P v 0 = 9 then P (ix (P v 3)) 1 * P (ix (P v 3)) 2 else P v 1 * P v 2
theorem sw_0_6 (x : Int32) : x = 0 ∨ x = 1 ∨ x = 2 ∨ x = 3 ∨ x = 4 ∨ x = 5 ∨ x = 6 ∨ (x.toInt < 0 ∨ 6 < x.toInt) := by
  have h : x.toInt = 0 ∨ x.toInt = 1 ∨ x.toInt = 2 ∨ x.toInt = 3 ∨ x.toInt = 4 ∨ x.toInt = 5 ∨ x.toInt = 6 ∨ (x.toInt < 0 ∨ 6 < x.toInt) := by omega
  rcases h with h | h | h | h | h | h | h | h
  · exact Or.inl (Int32.toInt_inj.mp (h.trans (by decide)))
  · exact Or.inr (Or.inl (Int32.toInt_inj.mp (h.trans (by decide))))
  · exact Or.inr (Or.inr (Or.inl (Int32.toInt_inj.mp (h.trans (by decide)))))
  · exact Or.inr (Or.inr (Or.inr (Or.inl (Int32.toInt_inj.mp (h.trans (by decide))))))
  · exact Or.inr (Or.inr (Or.inr (Or.inr (Or.inl (Int32.toInt_inj.mp (h.trans (by decide)))))))
  · exact Or.inr (Or.inr (Or.inr (Or.inr (Or.inr (Or.inl (Int32.toInt_inj.mp (h.trans (by decide))))))))
  · exact Or.inr (Or.inr (Or.inr (Or.inr (Or.inr (Or.inr (Or.inl (Int32.toInt_inj.mp (h.trans (by decide)))))))))
  · exact Or.inr (Or.inr (Or.inr (Or.inr (Or.inr (Or.inr (Or.inr (h)))))))
theorem sw_0_7 (x : Int32) : x = 0 ∨ x = 1 ∨ x = 2 ∨ x = 3 ∨ x = 4 ∨ x = 5 ∨ x = 6 ∨ x = 7 ∨ (x.toInt < 0 ∨ 7 < x.toInt) := by
  have h : x.toInt = 0 ∨ x.toInt = 1 ∨ x.toInt = 2 ∨ x.toInt = 3 ∨ x.toInt = 4 ∨ x.toInt = 5 ∨ x.toInt = 6 ∨ x.toInt = 7 ∨ (x.toInt < 0 ∨ 7 < x.toInt) := by omega
  rcases h with h | h | h | h | h | h | h | h | h
  · exact Or.inl (Int32.toInt_inj.mp (h.trans (by decide)))
  · exact Or.inr (Or.inl (Int32.toInt_inj.mp (h.trans (by decide))))
  · exact Or.inr (Or.inr (Or.inl (Int32.toInt_inj.mp (h.trans (by decide)))))
  · exact Or.inr (Or.inr (Or.inr (Or.inl (Int32.toInt_inj.mp (h.trans (by decide))))))
  · exact Or.inr (Or.inr (Or.inr (Or.inr (Or.inl (Int32.toInt_inj.mp (h.trans (by decide)))))))
  · exact Or.inr (Or.inr (Or.inr (Or.inr (Or.inr (Or.inl (Int32.toInt_inj.mp (h.trans (by decide))))))))
  · exact Or.inr (Or.inr (Or.inr (Or.inr (Or.inr (Or.inr (Or.inl (Int32.toInt_inj.mp (h.trans (by decide)))))))))
  · exact Or.inr (Or.inr (Or.inr (Or.inr (Or.inr (Or.inr (Or.inr (Or.inl (Int32.toInt_inj.mp (h.trans (by decide))))))))))
  · exact Or.inr (Or.inr (Or.inr (Or.inr (Or.inr (Or.inr (Or.inr (Or.inr (h))))))))
theorem sw_0_9 (x : Int32) : x = 0 ∨ x = 1 ∨ x = 2 ∨ x = 3 ∨ x = 4 ∨ x = 5 ∨ x = 6 ∨ x = 7 ∨ x = 8 ∨ x = 9 ∨ (x.toInt < 0 ∨ 9 < x.toInt) := by
  have h : x.toInt = 0 ∨ x.toInt = 1 ∨ x.toInt = 2 ∨ x.toInt = 3 ∨ x.toInt = 4 ∨ x.toInt = 5 ∨ x.toInt = 6 ∨ x.toInt = 7 ∨ x.toInt = 8 ∨ x.toInt = 9 ∨ (x.toInt < 0 ∨ 9 < x.toInt) := by omega
  rcases h with h | h | h | h | h | h | h | h | h | h | h
  · exact Or.inl (Int32.toInt_inj.mp (h.trans (by decide)))
  · exact Or.inr (Or.inl (Int32.toInt_inj.mp (h.trans (by decide))))
  · exact Or.inr (Or.inr (Or.inl (Int32.toInt_inj.mp (h.trans (by decide)))))
  · exact Or.inr (Or.inr (Or.inr (Or.inl (Int32.toInt_inj.mp (h.trans (by decide))))))
  · exact Or.inr (Or.inr (Or.inr (Or.inr (Or.inl (Int32.toInt_inj.mp (h.trans (by decide)))))))
  · exact Or.inr (Or.inr (Or.inr (Or.inr (Or.inr (Or.inl (Int32.toInt_inj.mp (h.trans (by decide))))))))
  · exact Or.inr (Or.inr (Or.inr (Or.inr (Or.inr (Or.inr (Or.inl (Int32.toInt_inj.mp (h.trans (by decide)))))))))
  · exact Or.inr (Or.inr (Or.inr (Or.inr (Or.inr (Or.inr (Or.inr (Or.inl (Int32.toInt_inj.mp (h.trans (by decide))))))))))
  · exact Or.inr (Or.inr (Or.inr (Or.inr (Or.inr (Or.inr (Or.inr (Or.inr (Or.inl (Int32.toInt_inj.mp (h.trans (by decide)))))))))))
  · exact Or.inr (Or.inr (Or.inr (Or.inr (Or.inr (Or.inr (Or.inr (Or.inr (Or.inr (Or.inl (Int32.toInt_inj.mp (h.trans (by decide))))))))))))
  · exact Or.inr (Or.inr (Or.inr (Or.inr (Or.inr (Or.inr (Or.inr (Or.inr (Or.inr (Or.inr (h))))))))))
theorem sw_0_11 (x : Int32) : x = 0 ∨ x = 1 ∨ x = 2 ∨ x = 3 ∨ x = 4 ∨ x = 5 ∨ x = 6 ∨ x = 7 ∨ x = 8 ∨ x = 9 ∨ x = 10 ∨ x = 11 ∨ (x.toInt < 0 ∨ 11 < x.toInt) := by
  have h : x.toInt = 0 ∨ x.toInt = 1 ∨ x.toInt = 2 ∨ x.toInt = 3 ∨ x.toInt = 4 ∨ x.toInt = 5 ∨ x.toInt = 6 ∨ x.toInt = 7 ∨ x.toInt = 8 ∨ x.toInt = 9 ∨ x.toInt = 10 ∨ x.toInt = 11 ∨ (x.toInt < 0 ∨ 11 < x.toInt) := by omega
  rcases h with h | h | h | h | h | h | h | h | h | h | h | h | h
  · exact Or.inl (Int32.toInt_inj.mp (h.trans (by decide)))
  · exact Or.inr (Or.inl (Int32.toInt_inj.mp (h.trans (by decide))))
  · exact Or.inr (Or.inr (Or.inl (Int32.toInt_inj.mp (h.trans (by decide)))))
  · exact Or.inr (Or.inr (Or.inr (Or.inl (Int32.toInt_inj.mp (h.trans (by decide))))))
  · exact Or.inr (Or.inr (Or.inr (Or.inr (Or.inl (Int32.toInt_inj.mp (h.trans (by decide)))))))
  · exact Or.inr (Or.inr (Or.inr (Or.inr (Or.inr (Or.inl (Int32.toInt_inj.mp (h.trans (by decide))))))))
  · exact Or.inr (Or.inr (Or.inr (Or.inr (Or.inr (Or.inr (Or.inl (Int32.toInt_inj.mp (h.trans (by decide)))))))))
  · exact Or.inr (Or.inr (Or.inr (Or.inr (Or.inr (Or.inr (Or.inr (Or.inl (Int32.toInt_inj.mp (h.trans (by decide))))))))))
  · exact Or.inr (Or.inr (Or.inr (Or.inr (Or.inr (Or.inr (Or.inr (Or.inr (Or.inl (Int32.toInt_inj.mp (h.trans (by decide)))))))))))
  · exact Or.inr (Or.inr (Or.inr (Or.inr (Or.inr (Or.inr (Or.inr (Or.inr (Or.inr (Or.inl (Int32.toInt_inj.mp (h.trans (by decide))))))))))))
  · exact Or.inr (Or.inr (Or.inr (Or.inr (Or.inr (Or.inr (Or.inr (Or.inr (Or.inr (Or.inr (Or.inl (Int32.toInt_inj.mp (h.trans (by decide)))))))))))))
  · exact Or.inr (Or.inr (Or.inr (Or.inr (Or.inr (Or.inr (Or.inr (Or.inr (Or.inr (Or.inr (Or.inr (Or.inl (Int32.toInt_inj.mp (h.trans (by decide))))))))))))))
  · exact Or.inr (Or.inr (Or.inr (Or.inr (Or.inr (Or.inr (Or.inr (Or.inr (Or.inr (Or.inr (Or.inr (Or.inr (h))))))))))))
theorem sw_3_9 (x : Int32) : x = 3 ∨ x = 4 ∨ x = 5 ∨ x = 6 ∨ x = 7 ∨ x = 8 ∨ x = 9 ∨ (x.toInt < 3 ∨ 9 < x.toInt) := by
  have h : x.toInt = 3 ∨ x.toInt = 4 ∨ x.toInt = 5 ∨ x.toInt = 6 ∨ x.toInt = 7 ∨ x.toInt = 8 ∨ x.toInt = 9 ∨ (x.toInt < 3 ∨ 9 < x.toInt) := by omega
  rcases h with h | h | h | h | h | h | h | h
  · exact Or.inl (Int32.toInt_inj.mp (h.trans (by decide)))
  · exact Or.inr (Or.inl (Int32.toInt_inj.mp (h.trans (by decide))))
  · exact Or.inr (Or.inr (Or.inl (Int32.toInt_inj.mp (h.trans (by decide)))))
  · exact Or.inr (Or.inr (Or.inr (Or.inl (Int32.toInt_inj.mp (h.trans (by decide))))))
  · exact Or.inr (Or.inr (Or.inr (Or.inr (Or.inl (Int32.toInt_inj.mp (h.trans (by decide)))))))
  · exact Or.inr (Or.inr (Or.inr (Or.inr (Or.inr (Or.inl (Int32.toInt_inj.mp (h.trans (by decide))))))))
  · exact Or.inr (Or.inr (Or.inr (Or.inr (Or.inr (Or.inr (Or.inl (Int32.toInt_inj.mp (h.trans (by decide)))))))))
  · exact Or.inr (Or.inr (Or.inr (Or.inr (Or.inr (Or.inr (Or.inr (h)))))))
set_option maxRecDepth 100000 in
set_option maxHeartbeats 4000000 in
theorem cC_isShape {g : am_G} {d : Nat} {Q : Option am_V → am_H → Prop} {Y : Nat → Nat → Nat → am_V} {A P : Nat → Nat → Int32} {st mk lv : Nat → Int32} {cl pr : Nat → Nat → Int32} {us : Nat → Int32} {va si wk : Int32} {x y : Int32} (h1 : (¬ x < 1 ∧ ¬ 4 < x ∧ ¬ y < 1 ∧ ¬ 4 < y) → Q (some (am_I 1)) (hm (xc A P st mk lv cl pr us va si wk) Y)) (h0 : ¬ (¬ x < 1 ∧ ¬ 4 < x ∧ ¬ y < 1 ∧ ¬ 4 < y) → Q (some (am_I 0)) (hm (xc A P st mk lv cl pr us va si wk) Y)) : am_C g mC_isShape d 0 0 [am_I x, am_I y] (hm (xc A P st mk lv cl pr us va si wk) Y) Q := by
  refine am_enter (lv := [some (am_I x), some (am_I y)]) rfl rfl (am_cat1 rfl) (Nat.le_of_ble_eq_true rfl) ?_
  refine am_iload_n (i := 0) dC_isShape_0 rfl rfl ?_
  refine am_iconst (v := 1) dC_isShape_1 (by decide) ?_
  refine am_icmp_lt (tgt := 24) dC_isShape_2 (by decide) (fun c2 => ?_) (fun c2 => ?_)
  · refine am_iconst (v := 0) dC_isShape_24 (by decide) ?_
    refine am_iret (st := []) rfl rfl dC_isShape_25 ?_
    first | exact h1 (by grind) | exact h0 (by grind)
  · refine am_iload_n (i := 0) dC_isShape_5 rfl rfl ?_
    refine am_iconst (v := 4) dC_isShape_6 (by decide) ?_
    refine am_icmp_gt (tgt := 24) dC_isShape_7 (by decide) (fun c7 => ?_) (fun c7 => ?_)
    · refine am_iconst (v := 0) dC_isShape_24 (by decide) ?_
      refine am_iret (st := []) rfl rfl dC_isShape_25 ?_
      first | exact h1 (by grind) | exact h0 (by grind)
    · refine am_iload_n (i := 1) dC_isShape_10 rfl rfl ?_
      refine am_iconst (v := 1) dC_isShape_11 (by decide) ?_
      refine am_icmp_lt (tgt := 24) dC_isShape_12 (by decide) (fun c12 => ?_) (fun c12 => ?_)
      · refine am_iconst (v := 0) dC_isShape_24 (by decide) ?_
        refine am_iret (st := []) rfl rfl dC_isShape_25 ?_
        first | exact h1 (by grind) | exact h0 (by grind)
      · refine am_iload_n (i := 1) dC_isShape_15 rfl rfl ?_
        refine am_iconst (v := 4) dC_isShape_16 (by decide) ?_
        refine am_icmp_gt (tgt := 24) dC_isShape_17 (by decide) (fun c17 => ?_) (fun c17 => ?_)
        · refine am_iconst (v := 0) dC_isShape_24 (by decide) ?_
          refine am_iret (st := []) rfl rfl dC_isShape_25 ?_
          first | exact h1 (by grind) | exact h0 (by grind)
        · refine am_iconst (v := 1) dC_isShape_20 (by decide) ?_
          refine am_goto (tgt := 25) dC_isShape_21 (by decide) ?_
          refine am_iret (st := []) rfl rfl dC_isShape_25 ?_
          first | exact h1 (by grind) | exact h0 (by grind)
set_option maxRecDepth 100000 in
set_option maxHeartbeats 4000000 in
theorem cC_isPlace {g : am_G} {d : Nat} {Q : Option am_V → am_H → Prop} {Y : Nat → Nat → Nat → am_V} {A P : Nat → Nat → Int32} {st mk lv : Nat → Int32} {cl pr : Nat → Nat → Int32} {us : Nat → Int32} {va si wk : Int32} {x y : Int32} (h1 : (¬ x < 0 ∧ ¬ 4 ≤ x ∧ ¬ y < 0 ∧ ¬ 4 ≤ y) → Q (some (am_I 1)) (hm (xc A P st mk lv cl pr us va si wk) Y)) (h0 : ¬ (¬ x < 0 ∧ ¬ 4 ≤ x ∧ ¬ y < 0 ∧ ¬ 4 ≤ y) → Q (some (am_I 0)) (hm (xc A P st mk lv cl pr us va si wk) Y)) : am_C g mC_isPlace d 0 0 [am_I x, am_I y] (hm (xc A P st mk lv cl pr us va si wk) Y) Q := by
  refine am_enter (lv := [some (am_I x), some (am_I y)]) rfl rfl (am_cat1 rfl) (Nat.le_of_ble_eq_true rfl) ?_
  refine am_iload_n (i := 0) dC_isPlace_0 rfl rfl ?_
  refine am_if_lt (tgt := 22) dC_isPlace_1 (by decide) (fun c1 => ?_) (fun c1 => ?_)
  · refine am_iconst (v := 0) dC_isPlace_22 (by decide) ?_
    refine am_iret (st := []) rfl rfl dC_isPlace_23 ?_
    first | exact h1 (by grind) | exact h0 (by grind)
  · refine am_iload_n (i := 0) dC_isPlace_4 rfl rfl ?_
    refine am_iconst (v := 4) dC_isPlace_5 (by decide) ?_
    refine am_icmp_ge (tgt := 22) dC_isPlace_6 (by decide) (fun c6 => ?_) (fun c6 => ?_)
    · refine am_iconst (v := 0) dC_isPlace_22 (by decide) ?_
      refine am_iret (st := []) rfl rfl dC_isPlace_23 ?_
      first | exact h1 (by grind) | exact h0 (by grind)
    · refine am_iload_n (i := 1) dC_isPlace_9 rfl rfl ?_
      refine am_if_lt (tgt := 22) dC_isPlace_10 (by decide) (fun c10 => ?_) (fun c10 => ?_)
      · refine am_iconst (v := 0) dC_isPlace_22 (by decide) ?_
        refine am_iret (st := []) rfl rfl dC_isPlace_23 ?_
        first | exact h1 (by grind) | exact h0 (by grind)
      · refine am_iload_n (i := 1) dC_isPlace_13 rfl rfl ?_
        refine am_iconst (v := 4) dC_isPlace_14 (by decide) ?_
        refine am_icmp_ge (tgt := 22) dC_isPlace_15 (by decide) (fun c15 => ?_) (fun c15 => ?_)
        · refine am_iconst (v := 0) dC_isPlace_22 (by decide) ?_
          refine am_iret (st := []) rfl rfl dC_isPlace_23 ?_
          first | exact h1 (by grind) | exact h0 (by grind)
        · refine am_iconst (v := 1) dC_isPlace_18 (by decide) ?_
          refine am_goto (tgt := 23) dC_isPlace_19 (by decide) ?_
          refine am_iret (st := []) rfl rfl dC_isPlace_23 ?_
          first | exact h1 (by grind) | exact h0 (by grind)
set_option maxRecDepth 100000 in
set_option maxHeartbeats 4000000 in
theorem cC_isSourceNumber {g : am_G} {d : Nat} {Q : Option am_V → am_H → Prop} {Y : Nat → Nat → Nat → am_V} {A P : Nat → Nat → Int32} {st mk lv : Nat → Int32} {cl pr : Nat → Nat → Int32} {us : Nat → Int32} {va si wk : Int32} {x y : Int32} (h1 : (x = 1 ∨ (¬ y < 0 ∧ ((x = 0 ∧ ¬ 4 ≤ y) ∨ (¬ x = 0 ∧ ¬ 2 ≤ y)))) → Q (some (am_I 1)) (hm (xc A P st mk lv cl pr us va si wk) Y)) (h0 : ¬ (x = 1 ∨ (¬ y < 0 ∧ ((x = 0 ∧ ¬ 4 ≤ y) ∨ (¬ x = 0 ∧ ¬ 2 ≤ y)))) → Q (some (am_I 0)) (hm (xc A P st mk lv cl pr us va si wk) Y)) : am_C g mC_isSourceNumber d 0 0 [am_I x, am_I y] (hm (xc A P st mk lv cl pr us va si wk) Y) Q := by
  refine am_enter (lv := [some (am_I x), some (am_I y)]) rfl rfl (am_cat1 rfl) (Nat.le_of_ble_eq_true rfl) ?_
  refine am_iload_n (i := 0) dC_isSourceNumber_0 rfl rfl ?_
  refine am_iconst (v := 1) dC_isSourceNumber_1 (by decide) ?_
  refine am_icmp_ne (tgt := 7) dC_isSourceNumber_2 (by decide) (fun c2 => ?_) (fun c2 => ?_)
  · refine am_iload_n (i := 1) dC_isSourceNumber_7 rfl rfl ?_
    refine am_if_lt (tgt := 28) dC_isSourceNumber_8 (by decide) (fun c8 => ?_) (fun c8 => ?_)
    · refine am_iconst (v := 0) dC_isSourceNumber_28 (by decide) ?_
      refine am_iret (st := []) rfl rfl dC_isSourceNumber_29 ?_
      first | exact h1 (by grind) | exact h0 (by grind)
    · refine am_iload_n (i := 1) dC_isSourceNumber_11 rfl rfl ?_
      refine am_iload_n (i := 0) dC_isSourceNumber_12 rfl rfl ?_
      refine am_if_ne (tgt := 20) dC_isSourceNumber_13 (by decide) (fun c13 => ?_) (fun c13 => ?_)
      · refine am_iconst (v := 2) dC_isSourceNumber_20 (by decide) ?_
        refine am_icmp_ge (tgt := 28) dC_isSourceNumber_21 (by decide) (fun c21 => ?_) (fun c21 => ?_)
        · refine am_iconst (v := 0) dC_isSourceNumber_28 (by decide) ?_
          refine am_iret (st := []) rfl rfl dC_isSourceNumber_29 ?_
          first | exact h1 (by grind) | exact h0 (by grind)
        · refine am_iconst (v := 1) dC_isSourceNumber_24 (by decide) ?_
          refine am_goto (tgt := 29) dC_isSourceNumber_25 (by decide) ?_
          refine am_iret (st := []) rfl rfl dC_isSourceNumber_29 ?_
          first | exact h1 (by grind) | exact h0 (by grind)
      · refine am_iconst (v := 4) dC_isSourceNumber_16 (by decide) ?_
        refine am_goto (tgt := 21) dC_isSourceNumber_17 (by decide) ?_
        refine am_icmp_ge (tgt := 28) dC_isSourceNumber_21 (by decide) (fun c21 => ?_) (fun c21 => ?_)
        · refine am_iconst (v := 0) dC_isSourceNumber_28 (by decide) ?_
          refine am_iret (st := []) rfl rfl dC_isSourceNumber_29 ?_
          first | exact h1 (by grind) | exact h0 (by grind)
        · refine am_iconst (v := 1) dC_isSourceNumber_24 (by decide) ?_
          refine am_goto (tgt := 29) dC_isSourceNumber_25 (by decide) ?_
          refine am_iret (st := []) rfl rfl dC_isSourceNumber_29 ?_
          first | exact h1 (by grind) | exact h0 (by grind)
  · refine am_iconst (v := 1) dC_isSourceNumber_5 (by decide) ?_
    refine am_iret (st := []) rfl rfl dC_isSourceNumber_6 ?_
    first | exact h1 (by grind) | exact h0 (by grind)
set_option maxRecDepth 100000 in
set_option maxHeartbeats 4000000 in
theorem cC_spreads {g : am_G} {d : Nat} {Q : Option am_V → am_H → Prop} {Y : Nat → Nat → Nat → am_V} {A P : Nat → Nat → Int32} {st mk lv : Nat → Int32} {cl pr : Nat → Nat → Int32} {us : Nat → Int32} {va si wk : Int32} {x y : Int32} (h1 : (x = 1 ∨ x = y) → Q (some (am_I 1)) (hm (xc A P st mk lv cl pr us va si wk) Y)) (h0 : ¬ (x = 1 ∨ x = y) → Q (some (am_I 0)) (hm (xc A P st mk lv cl pr us va si wk) Y)) : am_C g mC_spreads d 0 0 [am_I x, am_I y] (hm (xc A P st mk lv cl pr us va si wk) Y) Q := by
  refine am_enter (lv := [some (am_I x), some (am_I y)]) rfl rfl (am_cat1 rfl) (Nat.le_of_ble_eq_true rfl) ?_
  refine am_iload_n (i := 0) dC_spreads_0 rfl rfl ?_
  refine am_iconst (v := 1) dC_spreads_1 (by decide) ?_
  refine am_icmp_eq (tgt := 10) dC_spreads_2 (by decide) (fun c2 => ?_) (fun c2 => ?_)
  · refine am_iconst (v := 1) dC_spreads_10 (by decide) ?_
    refine am_goto (tgt := 15) dC_spreads_11 (by decide) ?_
    refine am_iret (st := []) rfl rfl dC_spreads_15 ?_
    first | exact h1 (by grind) | exact h0 (by grind)
  · refine am_iload_n (i := 0) dC_spreads_5 rfl rfl ?_
    refine am_iload_n (i := 1) dC_spreads_6 rfl rfl ?_
    refine am_icmp_ne (tgt := 14) dC_spreads_7 (by decide) (fun c7 => ?_) (fun c7 => ?_)
    · refine am_iconst (v := 0) dC_spreads_14 (by decide) ?_
      refine am_iret (st := []) rfl rfl dC_spreads_15 ?_
      first | exact h1 (by grind) | exact h0 (by grind)
    · refine am_iconst (v := 1) dC_spreads_10 (by decide) ?_
      refine am_goto (tgt := 15) dC_spreads_11 (by decide) ?_
      refine am_iret (st := []) rfl rfl dC_spreads_15 ?_
      first | exact h1 (by grind) | exact h0 (by grind)
set_option maxRecDepth 100000 in
set_option maxHeartbeats 4000000 in
theorem cC_shapesFit {g : am_G} {d : Nat} {Q : Option am_V → am_H → Prop} {Y : Nat → Nat → Nat → am_V} {A P : Nat → Nat → Int32} {st mk lv : Nat → Int32} {cl pr : Nat → Nat → Int32} {us : Nat → Int32} {va si wk : Int32} {k : Int32} {v u : Nat} (hv : v < 28) (hu : u < 28) (h1 : ((k = 8 ∧ A v 2 = A u 1) ∨ (¬ k = 8 ∧ A v 1 = A u 1 ∧ A v 2 = A u 2)) → Q (some (am_I 1)) (hm (xc A P st mk lv cl pr us va si wk) Y)) (h0 : ¬ ((k = 8 ∧ A v 2 = A u 1) ∨ (¬ k = 8 ∧ A v 1 = A u 1 ∧ A v 2 = A u 2)) → Q (some (am_I 0)) (hm (xc A P st mk lv cl pr us va si wk) Y)) : am_C g mC_shapesFit (d + 1) 0 0 [am_I k, am_O 8 v, am_O 8 u] (hm (xc A P st mk lv cl pr us va si wk) Y) Q := by
  refine am_enter (lv := [some (am_I k), some (am_O 8 v), some (am_O 8 u)]) rfl rfl (am_cat1 rfl) (Nat.le_of_ble_eq_true rfl) ?_
  refine am_iload_n (i := 0) dC_shapesFit_0 rfl rfl ?_
  refine am_bipush (v := 8) dC_shapesFit_1 (by decide) ?_
  refine am_icmp_ne (tgt := 25) dC_shapesFit_3 (by decide) (fun c3 => ?_) (fun c3 => ?_)
  · refine am_aload_n (i := 1) dC_shapesFit_25 rfl rfl ?_
    refine am_aload_n (i := 2) dC_shapesFit_26 rfl rfl ?_
    refine am_callV (ac' := 0) (as' := 0) (xs := [_]) dC_shapesFit_27 lkC_147 (by first | rfl | exact sk8 (by omega) | exact sk9 (by omega) | exact sk10 (by omega) | exact sk11 (by omega)) rfl rfl rfl rfl (Nat.le_of_ble_eq_true rfl) rfl rfl (cO_hasShapeOf8 hv hu (fun cs => ?_) (fun cs => ?_))
    · refine am_iret (st := []) rfl rfl dC_shapesFit_30 ?_
      first | exact h1 (by grind) | exact h0 (by grind)
    · refine am_iret (st := []) rfl rfl dC_shapesFit_30 ?_
      first | exact h1 (by grind) | exact h0 (by grind)
  · refine am_aload_n (i := 1) dC_shapesFit_6 rfl rfl ?_
    refine am_getf dC_shapesFit_7 flC_89 (by first | rfl | exact sk8 (by omega) | exact sk9 (by omega) | exact sk10 (by omega) | exact sk11 (by omega)) rfl ?_
    refine am_aload_n (i := 2) dC_shapesFit_10 rfl rfl ?_
    refine am_getf dC_shapesFit_11 flC_83 (by first | rfl | exact sk8 (by omega) | exact sk9 (by omega) | exact sk10 (by omega) | exact sk11 (by omega)) rfl ?_
    refine am_icmp_ne (tgt := 21) dC_shapesFit_14 (by decide) (fun c14 => ?_) (fun c14 => ?_)
    · refine am_iconst (v := 0) dC_shapesFit_21 (by decide) ?_
      refine am_goto (tgt := 30) dC_shapesFit_22 (by decide) ?_
      refine am_iret (st := []) rfl rfl dC_shapesFit_30 ?_
      first | exact h1 (by grind) | exact h0 (by grind)
    · refine am_iconst (v := 1) dC_shapesFit_17 (by decide) ?_
      refine am_goto (tgt := 30) dC_shapesFit_18 (by decide) ?_
      refine am_iret (st := []) rfl rfl dC_shapesFit_30 ?_
      first | exact h1 (by grind) | exact h0 (by grind)
set_option maxRecDepth 100000 in
set_option maxHeartbeats 4000000 in
theorem cC_rowsOf {g : am_G} {d : Nat} {Q : Option am_V → am_H → Prop} {Y : Nat → Nat → Nat → am_V} {A P : Nat → Nat → Int32} {st mk lv : Nat → Int32} {cl pr : Nat → Nat → Int32} {us : Nat → Int32} {va si wk : Int32} {k0 p : Int32} {v : Nat} (hv : v < 28) (k : ∀ r, r = (if k0 = 7 then A v 2 else if k0 = 9 ∧ p = 0 then 1 else A v 1) → Q (some (am_I r)) (hm (xc A P st mk lv cl pr us va si wk) Y)) : am_C g mC_rowsOf d 0 0 [am_I k0, am_O 8 v, am_I p] (hm (xc A P st mk lv cl pr us va si wk) Y) Q := by
  refine am_enter (lv := [some (am_I k0), some (am_O 8 v), some (am_I p)]) rfl rfl (am_cat1 rfl) (Nat.le_of_ble_eq_true rfl) ?_
  refine am_iload_n (i := 0) dC_rowsOf_0 rfl rfl ?_
  refine am_bipush (v := 7) dC_rowsOf_1 (by decide) ?_
  refine am_icmp_ne (tgt := 11) dC_rowsOf_3 (by decide) (fun c3 => ?_) (fun c3 => ?_)
  · refine am_iload_n (i := 0) dC_rowsOf_11 rfl rfl ?_
    refine am_bipush (v := 9) dC_rowsOf_12 (by decide) ?_
    refine am_icmp_ne (tgt := 25) dC_rowsOf_14 (by decide) (fun c14 => ?_) (fun c14 => ?_)
    · refine am_aload_n (i := 1) dC_rowsOf_25 rfl rfl ?_
      refine am_getf dC_rowsOf_26 flC_83 (by first | rfl | exact sk8 (by omega) | exact sk9 (by omega) | exact sk10 (by omega) | exact sk11 (by omega)) rfl ?_
      refine am_iret (st := []) rfl rfl dC_rowsOf_29 ?_
      exact k _ (by grind)
    · refine am_iload_n (i := 2) dC_rowsOf_17 rfl rfl ?_
      refine am_if_ne (tgt := 25) dC_rowsOf_18 (by decide) (fun c18 => ?_) (fun c18 => ?_)
      · refine am_aload_n (i := 1) dC_rowsOf_25 rfl rfl ?_
        refine am_getf dC_rowsOf_26 flC_83 (by first | rfl | exact sk8 (by omega) | exact sk9 (by omega) | exact sk10 (by omega) | exact sk11 (by omega)) rfl ?_
        refine am_iret (st := []) rfl rfl dC_rowsOf_29 ?_
        exact k _ (by grind)
      · refine am_iconst (v := 1) dC_rowsOf_21 (by decide) ?_
        refine am_goto (tgt := 29) dC_rowsOf_22 (by decide) ?_
        refine am_iret (st := []) rfl rfl dC_rowsOf_29 ?_
        exact k _ (by grind)
  · refine am_aload_n (i := 1) dC_rowsOf_6 rfl rfl ?_
    refine am_getf dC_rowsOf_7 flC_89 (by first | rfl | exact sk8 (by omega) | exact sk9 (by omega) | exact sk10 (by omega) | exact sk11 (by omega)) rfl ?_
    refine am_iret (st := []) rfl rfl dC_rowsOf_10 ?_
    exact k _ (by grind)
set_option maxRecDepth 100000 in
set_option maxHeartbeats 4000000 in
theorem cC_columnsOf {g : am_G} {d : Nat} {Q : Option am_V → am_H → Prop} {Y : Nat → Nat → Nat → am_V} {A P : Nat → Nat → Int32} {st mk lv : Nat → Int32} {cl pr : Nat → Nat → Int32} {us : Nat → Int32} {va si wk : Int32} {k0 p : Int32} {v u : Nat} (hv : v < 28) (hu : u < 28) (k : ∀ r, r = (if k0 = 7 then A v 1 else if k0 = 9 ∧ p = 1 then 1 else A u 2) → Q (some (am_I r)) (hm (xc A P st mk lv cl pr us va si wk) Y)) : am_C g mC_columnsOf d 0 0 [am_I k0, am_O 8 v, am_O 8 u, am_I p] (hm (xc A P st mk lv cl pr us va si wk) Y) Q := by
  refine am_enter (lv := [some (am_I k0), some (am_O 8 v), some (am_O 8 u), some (am_I p)]) rfl rfl (am_cat1 rfl) (Nat.le_of_ble_eq_true rfl) ?_
  refine am_iload_n (i := 0) dC_columnsOf_0 rfl rfl ?_
  refine am_bipush (v := 7) dC_columnsOf_1 (by decide) ?_
  refine am_icmp_ne (tgt := 11) dC_columnsOf_3 (by decide) (fun c3 => ?_) (fun c3 => ?_)
  · refine am_iload_n (i := 0) dC_columnsOf_11 rfl rfl ?_
    refine am_bipush (v := 9) dC_columnsOf_12 (by decide) ?_
    refine am_icmp_ne (tgt := 26) dC_columnsOf_14 (by decide) (fun c14 => ?_) (fun c14 => ?_)
    · refine am_aload_n (i := 2) dC_columnsOf_26 rfl rfl ?_
      refine am_getf dC_columnsOf_27 flC_89 (by first | rfl | exact sk8 (by omega) | exact sk9 (by omega) | exact sk10 (by omega) | exact sk11 (by omega)) rfl ?_
      refine am_iret (st := []) rfl rfl dC_columnsOf_30 ?_
      exact k _ (by grind)
    · refine am_iload_n (i := 3) dC_columnsOf_17 rfl rfl ?_
      refine am_iconst (v := 1) dC_columnsOf_18 (by decide) ?_
      refine am_icmp_ne (tgt := 26) dC_columnsOf_19 (by decide) (fun c19 => ?_) (fun c19 => ?_)
      · refine am_aload_n (i := 2) dC_columnsOf_26 rfl rfl ?_
        refine am_getf dC_columnsOf_27 flC_89 (by first | rfl | exact sk8 (by omega) | exact sk9 (by omega) | exact sk10 (by omega) | exact sk11 (by omega)) rfl ?_
        refine am_iret (st := []) rfl rfl dC_columnsOf_30 ?_
        exact k _ (by grind)
      · refine am_iconst (v := 1) dC_columnsOf_22 (by decide) ?_
        refine am_goto (tgt := 30) dC_columnsOf_23 (by decide) ?_
        refine am_iret (st := []) rfl rfl dC_columnsOf_30 ?_
        exact k _ (by grind)
  · refine am_aload_n (i := 1) dC_columnsOf_6 rfl rfl ?_
    refine am_getf dC_columnsOf_7 flC_83 (by first | rfl | exact sk8 (by omega) | exact sk9 (by omega) | exact sk10 (by omega) | exact sk11 (by omega)) rfl ?_
    refine am_iret (st := []) rfl rfl dC_columnsOf_10 ?_
    exact k _ (by grind)
set_option maxRecDepth 100000 in
set_option maxHeartbeats 4000000 in
theorem cC_isValue {g : am_G} {d : Nat} {Q : Option am_V → am_H → Prop} {Y : Nat → Nat → Nat → am_V} {A P : Nat → Nat → Int32} {st mk lv : Nat → Int32} {cl pr : Nat → Nat → Int32} {us : Nat → Int32} {va si wk : Int32} {n : Nat} {x : Int32} (hva : va = nI n) (hn : n ≤ 28) (h1 : ∀ j, j < n → x = nI j → Q (some (am_I 1)) (hm (xc A P st mk lv cl pr us va si wk) Y)) (h0 : (x < 0 ∨ nI n ≤ x) → Q (some (am_I 0)) (hm (xc A P st mk lv cl pr us va si wk) Y)) : am_C g mC_isValue d 0 0 [am_O 0 0, am_I x] (hm (xc A P st mk lv cl pr us va si wk) Y) Q := by
  refine am_enter (lv := [some (am_O 0 0), some (am_I x)]) rfl rfl (am_cat1 rfl) (Nat.le_of_ble_eq_true rfl) ?_
  refine am_iload_n (i := 1) dC_isValue_0 rfl rfl ?_
  refine am_if_lt (tgt := 16) dC_isValue_1 (by decide) (fun c1 => ?_) (fun c1 => ?_)
  · refine am_iconst (v := 0) dC_isValue_16 (by decide) ?_
    refine am_iret (st := []) rfl rfl dC_isValue_17 ?_
    exact h0 (Or.inl c1)
  · refine am_iload_n (i := 1) dC_isValue_4 rfl rfl ?_
    refine am_aload_n (i := 0) dC_isValue_5 rfl rfl ?_
    refine am_getf dC_isValue_6 flC_40 (by first | rfl | exact sk8 (by omega) | exact sk9 (by omega) | exact sk10 (by omega) | exact sk11 (by omega)) rfl ?_
    refine am_icmp_ge (tgt := 16) dC_isValue_9 (by decide) (fun c9 => ?_) (fun c9 => ?_)
    · refine am_iconst (v := 0) dC_isValue_16 (by decide) ?_
      refine am_iret (st := []) rfl rfl dC_isValue_17 ?_
      exact h0 (Or.inr (hva ▸ c9))
    · refine am_iconst (v := 1) dC_isValue_12 (by decide) ?_
      refine am_goto (tgt := 17) dC_isValue_13 (by decide) ?_
      refine am_iret (st := []) rfl rfl dC_isValue_17 ?_
      rcases pk_ix x (n := n) (by omega) with q | q | ⟨j, hj, ej⟩
      · exact absurd q c1
      · exact absurd (hva ▸ q) c9
      · exact h1 j hj ej
set_option maxRecDepth 100000 in
set_option maxHeartbeats 4000000 in
theorem cC_makeLive {g : am_G} {d : Nat} {Q : Option am_V → am_H → Prop} {Y : Nat → Nat → Nat → am_V} {A P : Nat → Nat → Int32} {st mk lv : Nat → Int32} {cl pr : Nat → Nat → Int32} {us : Nat → Int32} {va si wk : Int32} {v : Nat} {x : Int32} (hv : v ≤ 28) (hx : q_arg x v) (k : ∀ l, (l = if x = -1 then lv else upd lv (ix x) 1) → Q none (hm (xc A P st mk l cl pr us va si wk) Y)) : am_C g mC_makeLive d 0 0 [am_O 0 0, am_I x] (hm (xc A P st mk lv cl pr us va si wk) Y) Q := by
  refine am_enter (lv := [some (am_O 0 0), some (am_I x)]) rfl rfl (am_cat1 rfl) (Nat.le_of_ble_eq_true rfl) ?_
  refine am_iload_n (i := 1) dC_makeLive_0 rfl rfl ?_
  refine am_iconst (v := (-1)) dC_makeLive_1 (by decide) ?_
  refine am_icmp_eq (tgt := 12) dC_makeLive_2 (by decide) (fun c2 => ?_) (fun c2 => ?_)
  · refine am_vret (st := []) rfl dC_makeLive_12 ?_
    exact k _ (by rw [if_pos c2])
  · obtain ⟨hj, ej⟩ := hx.ix c2 hv
    refine am_aload_n (i := 0) dC_makeLive_5 rfl rfl ?_
    refine am_getf dC_makeLive_6 flC_26 (by first | rfl | exact sk8 (by omega) | exact sk9 (by omega) | exact sk10 (by omega) | exact sk11 (by omega)) rfl ?_
    refine am_iload_n (i := 1) dC_makeLive_9 rfl rfl ?_
    refine am_iconst (v := 1) dC_makeLive_10 (by decide) ?_
    refine am_zast' dC_makeLive_11 (by first | rfl | exact sk8 (by omega) | exact sk9 (by omega) | exact sk10 (by omega) | exact sk11 (by omega)) ej (by first | omega | assumption | decide) (by decide) (by decide) rfl (by first | exact wx_st | exact wx_mk | exact wx_lv | exact wx_us | exact wx_A | exact wx_P | exact wx_cl | exact wx_pr | exact wx_va | exact wx_si | exact wx_wk) ?_
    refine am_vret (st := []) rfl dC_makeLive_12 ?_
    exact k _ (by rw [if_neg c2])
set_option maxRecDepth 100000 in
set_option maxHeartbeats 4000000 in
theorem cC_isSplat {g : am_G} {d : Nat} {Q : Option am_V → am_H → Prop} {Y : Nat → Nat → Nat → am_V} {A P : Nat → Nat → Int32} {st mk lv : Nat → Int32} {cl pr : Nat → Nat → Int32} {us : Nat → Int32} {va si wk : Int32} {a : Nat} {x z : Int32} (ha : a < 28) (hx : x = nI a) (h1 : (q_spl P x z) → Q (some (am_I 1)) (hm (xc A P st mk lv cl pr us va si wk) Y)) (h0 : ¬ (q_spl P x z) → Q (some (am_I 0)) (hm (xc A P st mk lv cl pr us va si wk) Y)) : am_C g mC_isSplat (d + 1) 0 0 [am_O 0 0, am_I x, am_I z] (hm (xc A P st mk lv cl pr us va si wk) Y) Q := by
  refine am_enter (lv := [some (am_O 0 0), some (am_I x), some (am_I z)]) rfl rfl (am_cat1 rfl) (Nat.le_of_ble_eq_true rfl) ?_
  refine am_aload_n (i := 0) dC_isSplat_0 rfl rfl ?_
  refine am_getf dC_isSplat_1 flC_15 (by first | rfl | exact sk8 (by omega) | exact sk9 (by omega) | exact sk10 (by omega) | exact sk11 (by omega)) rfl ?_
  refine am_iload_n (i := 1) dC_isSplat_4 rfl rfl ?_
  refine am_aald dC_isSplat_5 (by first | rfl | exact sk8 (by omega) | exact sk9 (by omega) | exact sk10 (by omega) | exact sk11 (by omega)) hx (by first | omega | assumption | decide) (by decide) (by decide) rfl rfl ?_
  refine am_iload_n (i := 2) dC_isSplat_6 rfl rfl ?_
  refine am_callV (ac' := 0) (as' := 0) (xs := [_]) dC_isSplat_7 lkC_190 (by first | rfl | exact sk8 (by omega) | exact sk9 (by omega) | exact sk10 (by omega) | exact sk11 (by omega)) rfl rfl rfl rfl (Nat.le_of_ble_eq_true rfl) rfl rfl (cO_isSplatOf ha (fun cs => ?_) (fun cs => ?_))
  · refine am_iret (st := []) rfl rfl dC_isSplat_10 ?_
    first | exact h1 (by unfold q_spl; rw [hx, ix_nI (by omega)]; exact cs) | exact h0 (by unfold q_spl; rw [hx, ix_nI (by omega)]; exact cs)
  · refine am_iret (st := []) rfl rfl dC_isSplat_10 ?_
    first | exact h1 (by unfold q_spl; rw [hx, ix_nI (by omega)]; exact cs) | exact h0 (by unfold q_spl; rw [hx, ix_nI (by omega)]; exact cs)
set_option maxRecDepth 100000 in
set_option maxHeartbeats 4000000 in
theorem cC_hasOnlySplats {g : am_G} {d : Nat} {Q : Option am_V → am_H → Prop} {Y : Nat → Nat → Nat → am_V} {A P : Nat → Nat → Int32} {st mk lv : Nat → Int32} {cl pr : Nat → Nat → Int32} {us : Nat → Int32} {va si wk : Int32} {v : Nat} (hv : v < 28) (h3 : q_arg (P v 3) v) (h4 : q_arg (P v 4) v) (h1 : (q_only P v) → Q (some (am_I 1)) (hm (xc A P st mk lv cl pr us va si wk) Y)) (h0 : ¬ (q_only P v) → Q (some (am_I 0)) (hm (xc A P st mk lv cl pr us va si wk) Y)) : am_C g mC_hasOnlySplats d 0 0 [am_O 0 0, am_O 9 v] (hm (xc A P st mk lv cl pr us va si wk) Y) Q := by
  refine am_enter (lv := [some (am_O 0 0), some (am_O 9 v)]) rfl rfl (am_cat1 rfl) (Nat.le_of_ble_eq_true rfl) ?_
  refine am_aload_n (i := 1) dC_hasOnlySplats_0 rfl rfl ?_
  refine am_getf dC_hasOnlySplats_1 flC_132 (by first | rfl | exact sk8 (by omega) | exact sk9 (by omega) | exact sk10 (by omega) | exact sk11 (by omega)) rfl ?_
  refine am_iconst (v := (-1)) dC_hasOnlySplats_4 (by decide) ?_
  refine am_icmp_eq (tgt := 24) dC_hasOnlySplats_5 (by decide) (fun c5 => ?_) (fun c5 => ?_)
  · refine am_iconst (v := 0) dC_hasOnlySplats_24 (by decide) ?_
    refine am_iret (st := []) rfl rfl dC_hasOnlySplats_25 ?_
    unfold q_only at h1 h0
    first | exact h1 (by grind) | exact h0 (by grind)
  · obtain ⟨g3, e3⟩ := h3.ix c5 (by omega)
    refine am_aload_n (i := 0) dC_hasOnlySplats_8 rfl rfl ?_
    refine am_getf dC_hasOnlySplats_9 flC_15 (by first | rfl | exact sk8 (by omega) | exact sk9 (by omega) | exact sk10 (by omega) | exact sk11 (by omega)) rfl ?_
    refine am_aload_n (i := 1) dC_hasOnlySplats_12 rfl rfl ?_
    refine am_getf dC_hasOnlySplats_13 flC_132 (by first | rfl | exact sk8 (by omega) | exact sk9 (by omega) | exact sk10 (by omega) | exact sk11 (by omega)) rfl ?_
    refine am_aald dC_hasOnlySplats_16 (by first | rfl | exact sk8 (by omega) | exact sk9 (by omega) | exact sk10 (by omega) | exact sk11 (by omega)) e3 (by first | omega | assumption | decide) (by decide) (by decide) rfl rfl ?_
    refine am_getf dC_hasOnlySplats_17 flC_129 (by first | rfl | exact sk8 (by omega) | exact sk9 (by omega) | exact sk10 (by omega) | exact sk11 (by omega)) rfl ?_
    refine am_iconst (v := 1) dC_hasOnlySplats_20 (by decide) ?_
    refine am_icmp_eq (tgt := 26) dC_hasOnlySplats_21 (by decide) (fun c21 => ?_) (fun c21 => ?_)
    · refine am_aload_n (i := 1) dC_hasOnlySplats_26 rfl rfl ?_
      refine am_getf dC_hasOnlySplats_27 flC_135 (by first | rfl | exact sk8 (by omega) | exact sk9 (by omega) | exact sk10 (by omega) | exact sk11 (by omega)) rfl ?_
      refine am_iconst (v := (-1)) dC_hasOnlySplats_30 (by decide) ?_
      refine am_icmp_eq (tgt := 50) dC_hasOnlySplats_31 (by decide) (fun c31 => ?_) (fun c31 => ?_)
      · refine am_iconst (v := 1) dC_hasOnlySplats_50 (by decide) ?_
        refine am_goto (tgt := 55) dC_hasOnlySplats_51 (by decide) ?_
        refine am_iret (st := []) rfl rfl dC_hasOnlySplats_55 ?_
        unfold q_only at h1 h0
        first | exact h1 (by grind) | exact h0 (by grind)
      · obtain ⟨g4, e4⟩ := h4.ix c31 (by omega)
        refine am_aload_n (i := 0) dC_hasOnlySplats_34 rfl rfl ?_
        refine am_getf dC_hasOnlySplats_35 flC_15 (by first | rfl | exact sk8 (by omega) | exact sk9 (by omega) | exact sk10 (by omega) | exact sk11 (by omega)) rfl ?_
        refine am_aload_n (i := 1) dC_hasOnlySplats_38 rfl rfl ?_
        refine am_getf dC_hasOnlySplats_39 flC_135 (by first | rfl | exact sk8 (by omega) | exact sk9 (by omega) | exact sk10 (by omega) | exact sk11 (by omega)) rfl ?_
        refine am_aald dC_hasOnlySplats_42 (by first | rfl | exact sk8 (by omega) | exact sk9 (by omega) | exact sk10 (by omega) | exact sk11 (by omega)) e4 (by first | omega | assumption | decide) (by decide) (by decide) rfl rfl ?_
        refine am_getf dC_hasOnlySplats_43 flC_129 (by first | rfl | exact sk8 (by omega) | exact sk9 (by omega) | exact sk10 (by omega) | exact sk11 (by omega)) rfl ?_
        refine am_iconst (v := 1) dC_hasOnlySplats_46 (by decide) ?_
        refine am_icmp_ne (tgt := 54) dC_hasOnlySplats_47 (by decide) (fun c47 => ?_) (fun c47 => ?_)
        · refine am_iconst (v := 0) dC_hasOnlySplats_54 (by decide) ?_
          refine am_iret (st := []) rfl rfl dC_hasOnlySplats_55 ?_
          unfold q_only at h1 h0
          first | exact h1 (by grind) | exact h0 (by grind)
        · refine am_iconst (v := 1) dC_hasOnlySplats_50 (by decide) ?_
          refine am_goto (tgt := 55) dC_hasOnlySplats_51 (by decide) ?_
          refine am_iret (st := []) rfl rfl dC_hasOnlySplats_55 ?_
          unfold q_only at h1 h0
          first | exact h1 (by grind) | exact h0 (by grind)
    · refine am_iconst (v := 0) dC_hasOnlySplats_24 (by decide) ?_
      refine am_iret (st := []) rfl rfl dC_hasOnlySplats_25 ?_
      unfold q_only at h1 h0
      first | exact h1 (by grind) | exact h0 (by grind)
set_option maxRecDepth 100000 in
set_option maxHeartbeats 4000000 in
theorem cC_foldedCell {g : am_G} {d : Nat} {Q : Option am_V → am_H → Prop} {Y : Nat → Nat → Nat → am_V} {A P : Nat → Nat → Int32} {st mk lv : Nat → Int32} {cl pr : Nat → Nat → Int32} {us : Nat → Int32} {va si wk : Int32} {v : Nat} (hv : v < 28) (h3 : q_arg (P v 3) v) (h4 : q_arg (P v 4) v) (hq : ¬ P v 3 = -1) (k : ∀ r, r = q_foldV P v → Q (some (am_I r)) (hm (xc A P st mk lv cl pr us va si wk) Y)) : am_C g mC_foldedCell (d + 1) 0 0 [am_O 0 0, am_O 9 v] (hm (xc A P st mk lv cl pr us va si wk) Y) Q := by
  refine am_enter (lv := [some (am_O 0 0), some (am_O 9 v), none, none, none]) rfl rfl (am_cat1 rfl) (Nat.le_of_ble_eq_true rfl) ?_
  obtain ⟨g3, e3⟩ := h3.ix hq (by omega)
  refine am_aload_n (i := 0) dC_foldedCell_0 rfl rfl ?_
  refine am_getf dC_foldedCell_1 flC_15 (by first | rfl | exact sk8 (by omega) | exact sk9 (by omega) | exact sk10 (by omega) | exact sk11 (by omega)) rfl ?_
  refine am_aload_n (i := 1) dC_foldedCell_4 rfl rfl ?_
  refine am_getf dC_foldedCell_5 flC_132 (by first | rfl | exact sk8 (by omega) | exact sk9 (by omega) | exact sk10 (by omega) | exact sk11 (by omega)) rfl ?_
  refine am_aald dC_foldedCell_8 (by first | rfl | exact sk8 (by omega) | exact sk9 (by omega) | exact sk10 (by omega) | exact sk11 (by omega)) e3 (by first | omega | assumption | decide) (by decide) (by decide) rfl rfl ?_
  refine am_astore_n (i := 2) dC_foldedCell_9 rfl (by decide) ?_
  refine am_aload_n (i := 2) dC_foldedCell_10 rfl rfl ?_
  refine am_getf dC_foldedCell_11 flC_138 (by first | rfl | exact sk8 (by omega) | exact sk9 (by omega) | exact sk10 (by omega) | exact sk11 (by omega)) rfl ?_
  refine am_istore_n (i := 3) dC_foldedCell_14 rfl (by decide) ?_
  refine am_aload_n (i := 1) dC_foldedCell_15 rfl rfl ?_
  refine am_getf dC_foldedCell_16 flC_135 (by first | rfl | exact sk8 (by omega) | exact sk9 (by omega) | exact sk10 (by omega) | exact sk11 (by omega)) rfl ?_
  refine am_iconst (v := (-1)) dC_foldedCell_19 (by decide) ?_
  refine am_icmp_ne (tgt := 27) dC_foldedCell_20 (by decide) (fun c20 => ?_) (fun c20 => ?_)
  · obtain ⟨g4, e4⟩ := h4.ix c20 (by omega)
    refine am_aload_n (i := 0) dC_foldedCell_27 rfl rfl ?_
    refine am_getf dC_foldedCell_28 flC_15 (by first | rfl | exact sk8 (by omega) | exact sk9 (by omega) | exact sk10 (by omega) | exact sk11 (by omega)) rfl ?_
    refine am_aload_n (i := 1) dC_foldedCell_31 rfl rfl ?_
    refine am_getf dC_foldedCell_32 flC_135 (by first | rfl | exact sk8 (by omega) | exact sk9 (by omega) | exact sk10 (by omega) | exact sk11 (by omega)) rfl ?_
    refine am_aald dC_foldedCell_35 (by first | rfl | exact sk8 (by omega) | exact sk9 (by omega) | exact sk10 (by omega) | exact sk11 (by omega)) e4 (by first | omega | assumption | decide) (by decide) (by decide) rfl rfl ?_
    refine am_getf dC_foldedCell_36 flC_138 (by first | rfl | exact sk8 (by omega) | exact sk9 (by omega) | exact sk10 (by omega) | exact sk11 (by omega)) rfl ?_
    refine am_istore (i := 4) dC_foldedCell_39 (by decide) ?_
    refine am_aload_n (i := 1) dC_foldedCell_41 rfl rfl ?_
    refine am_getf dC_foldedCell_42 flC_129 (by first | rfl | exact sk8 (by omega) | exact sk9 (by omega) | exact sk10 (by omega) | exact sk11 (by omega)) rfl ?_
    rcases sw_3_9 (P v 0) with s45 | s45 | s45 | s45 | s45 | s45 | s45 | s45
    · refine am_tableIn (off := 43) (tgt := 88) dC_foldedCell_45 (by rw [s45]; decide) (by rw [s45]; decide) (by rw [s45]; rfl) (by decide) ?_
      refine am_iload_n (i := 3) dC_foldedCell_88 rfl rfl ?_
      refine am_iload (i := 4) dC_foldedCell_89 rfl ?_
      refine am_iadd dC_foldedCell_91 ?_
      refine am_iret (st := []) rfl rfl dC_foldedCell_92 ?_
      exact k _ (by unfold q_foldV q_fold; grind)
    · refine am_tableIn (off := 48) (tgt := 93) dC_foldedCell_45 (by rw [s45]; decide) (by rw [s45]; decide) (by rw [s45]; rfl) (by decide) ?_
      refine am_iload_n (i := 3) dC_foldedCell_93 rfl rfl ?_
      refine am_iload (i := 4) dC_foldedCell_94 rfl ?_
      refine am_imul dC_foldedCell_96 ?_
      refine am_iret (st := []) rfl rfl dC_foldedCell_97 ?_
      exact k _ (by unfold q_foldV q_fold; grind)
    · refine am_tableIn (off := 53) (tgt := 98) dC_foldedCell_45 (by rw [s45]; decide) (by rw [s45]; decide) (by rw [s45]; rfl) (by decide) ?_
      refine am_iload_n (i := 3) dC_foldedCell_98 rfl rfl ?_
      refine am_iload (i := 4) dC_foldedCell_99 rfl ?_
      refine am_mmax dC_foldedCell_101 mxC_193 mx_st mx_in mx_cd (by omega) (Nat.le_of_ble_eq_true rfl) ?_
      refine am_iret (st := []) rfl rfl dC_foldedCell_104 ?_
      exact k _ (by unfold q_foldV q_fold; grind)
    · refine am_tableIn (off := 60) (tgt := 105) dC_foldedCell_45 (by rw [s45]; decide) (by rw [s45]; decide) (by rw [s45]; rfl) (by decide) ?_
      refine am_iload_n (i := 3) dC_foldedCell_105 rfl rfl ?_
      refine am_ineg dC_foldedCell_106 ?_
      refine am_iret (st := []) rfl rfl dC_foldedCell_107 ?_
      exact k _ (by unfold q_foldV q_fold; grind)
    · refine am_tableIn (off := 94) (tgt := 139) dC_foldedCell_45 (by rw [s45]; decide) (by rw [s45]; decide) (by rw [s45]; rfl) (by decide) ?_
      refine am_iload_n (i := 3) dC_foldedCell_139 rfl rfl ?_
      refine am_iret (st := []) rfl rfl dC_foldedCell_140 ?_
      exact k _ (by unfold q_foldV q_fold; grind)
    · refine am_tableIn (off := 63) (tgt := 108) dC_foldedCell_45 (by rw [s45]; decide) (by rw [s45]; decide) (by rw [s45]; rfl) (by decide) ?_
      refine am_iload_n (i := 3) dC_foldedCell_108 rfl rfl ?_
      refine am_iload (i := 4) dC_foldedCell_109 rfl ?_
      refine am_imul dC_foldedCell_111 ?_
      refine am_aload_n (i := 2) dC_foldedCell_112 rfl rfl ?_
      refine am_getf dC_foldedCell_113 flC_89 (by first | rfl | exact sk8 (by omega) | exact sk9 (by omega) | exact sk10 (by omega) | exact sk11 (by omega)) rfl ?_
      refine am_imul dC_foldedCell_116 ?_
      refine am_iret (st := []) rfl rfl dC_foldedCell_117 ?_
      exact k _ (by unfold q_foldV q_fold; grind)
    · refine am_tableIn (off := 73) (tgt := 118) dC_foldedCell_45 (by rw [s45]; decide) (by rw [s45]; decide) (by rw [s45]; rfl) (by decide) ?_
      refine am_iload_n (i := 3) dC_foldedCell_118 rfl rfl ?_
      refine am_aload_n (i := 1) dC_foldedCell_119 rfl rfl ?_
      refine am_getf dC_foldedCell_120 flC_138 (by first | rfl | exact sk8 (by omega) | exact sk9 (by omega) | exact sk10 (by omega) | exact sk11 (by omega)) rfl ?_
      refine am_if_ne (tgt := 133) dC_foldedCell_123 (by decide) (fun c123 => ?_) (fun c123 => ?_)
      · refine am_aload_n (i := 2) dC_foldedCell_133 rfl rfl ?_
        refine am_getf dC_foldedCell_134 flC_89 (by first | rfl | exact sk8 (by omega) | exact sk9 (by omega) | exact sk10 (by omega) | exact sk11 (by omega)) rfl ?_
        refine am_imul dC_foldedCell_137 ?_
        refine am_iret (st := []) rfl rfl dC_foldedCell_138 ?_
        exact k _ (by unfold q_foldV q_fold; grind)
      · refine am_aload_n (i := 2) dC_foldedCell_126 rfl rfl ?_
        refine am_getf dC_foldedCell_127 flC_83 (by first | rfl | exact sk8 (by omega) | exact sk9 (by omega) | exact sk10 (by omega) | exact sk11 (by omega)) rfl ?_
        refine am_goto (tgt := 137) dC_foldedCell_130 (by decide) ?_
        refine am_imul dC_foldedCell_137 ?_
        refine am_iret (st := []) rfl rfl dC_foldedCell_138 ?_
        exact k _ (by unfold q_foldV q_fold; grind)
    · refine am_tableOut (tgt := 139) dC_foldedCell_45 s45 (by decide) ?_
      refine am_iload_n (i := 3) dC_foldedCell_139 rfl rfl ?_
      refine am_iret (st := []) rfl rfl dC_foldedCell_140 ?_
      exact k _ (by
        unfold q_foldV
        rw [q_foldD s45])
  · refine am_iconst (v := 0) dC_foldedCell_23 (by decide) ?_
    refine am_goto (tgt := 39) dC_foldedCell_24 (by decide) ?_
    refine am_istore (i := 4) dC_foldedCell_39 (by decide) ?_
    refine am_aload_n (i := 1) dC_foldedCell_41 rfl rfl ?_
    refine am_getf dC_foldedCell_42 flC_129 (by first | rfl | exact sk8 (by omega) | exact sk9 (by omega) | exact sk10 (by omega) | exact sk11 (by omega)) rfl ?_
    rcases sw_3_9 (P v 0) with s45 | s45 | s45 | s45 | s45 | s45 | s45 | s45
    · refine am_tableIn (off := 43) (tgt := 88) dC_foldedCell_45 (by rw [s45]; decide) (by rw [s45]; decide) (by rw [s45]; rfl) (by decide) ?_
      refine am_iload_n (i := 3) dC_foldedCell_88 rfl rfl ?_
      refine am_iload (i := 4) dC_foldedCell_89 rfl ?_
      refine am_iadd dC_foldedCell_91 ?_
      refine am_iret (st := []) rfl rfl dC_foldedCell_92 ?_
      exact k _ (by unfold q_foldV q_fold; grind)
    · refine am_tableIn (off := 48) (tgt := 93) dC_foldedCell_45 (by rw [s45]; decide) (by rw [s45]; decide) (by rw [s45]; rfl) (by decide) ?_
      refine am_iload_n (i := 3) dC_foldedCell_93 rfl rfl ?_
      refine am_iload (i := 4) dC_foldedCell_94 rfl ?_
      refine am_imul dC_foldedCell_96 ?_
      refine am_iret (st := []) rfl rfl dC_foldedCell_97 ?_
      exact k _ (by unfold q_foldV q_fold; grind)
    · refine am_tableIn (off := 53) (tgt := 98) dC_foldedCell_45 (by rw [s45]; decide) (by rw [s45]; decide) (by rw [s45]; rfl) (by decide) ?_
      refine am_iload_n (i := 3) dC_foldedCell_98 rfl rfl ?_
      refine am_iload (i := 4) dC_foldedCell_99 rfl ?_
      refine am_mmax dC_foldedCell_101 mxC_193 mx_st mx_in mx_cd (by omega) (Nat.le_of_ble_eq_true rfl) ?_
      refine am_iret (st := []) rfl rfl dC_foldedCell_104 ?_
      exact k _ (by unfold q_foldV q_fold; grind)
    · refine am_tableIn (off := 60) (tgt := 105) dC_foldedCell_45 (by rw [s45]; decide) (by rw [s45]; decide) (by rw [s45]; rfl) (by decide) ?_
      refine am_iload_n (i := 3) dC_foldedCell_105 rfl rfl ?_
      refine am_ineg dC_foldedCell_106 ?_
      refine am_iret (st := []) rfl rfl dC_foldedCell_107 ?_
      exact k _ (by unfold q_foldV q_fold; grind)
    · refine am_tableIn (off := 94) (tgt := 139) dC_foldedCell_45 (by rw [s45]; decide) (by rw [s45]; decide) (by rw [s45]; rfl) (by decide) ?_
      refine am_iload_n (i := 3) dC_foldedCell_139 rfl rfl ?_
      refine am_iret (st := []) rfl rfl dC_foldedCell_140 ?_
      exact k _ (by unfold q_foldV q_fold; grind)
    · refine am_tableIn (off := 63) (tgt := 108) dC_foldedCell_45 (by rw [s45]; decide) (by rw [s45]; decide) (by rw [s45]; rfl) (by decide) ?_
      refine am_iload_n (i := 3) dC_foldedCell_108 rfl rfl ?_
      refine am_iload (i := 4) dC_foldedCell_109 rfl ?_
      refine am_imul dC_foldedCell_111 ?_
      refine am_aload_n (i := 2) dC_foldedCell_112 rfl rfl ?_
      refine am_getf dC_foldedCell_113 flC_89 (by first | rfl | exact sk8 (by omega) | exact sk9 (by omega) | exact sk10 (by omega) | exact sk11 (by omega)) rfl ?_
      refine am_imul dC_foldedCell_116 ?_
      refine am_iret (st := []) rfl rfl dC_foldedCell_117 ?_
      exact k _ (by unfold q_foldV q_fold; grind)
    · refine am_tableIn (off := 73) (tgt := 118) dC_foldedCell_45 (by rw [s45]; decide) (by rw [s45]; decide) (by rw [s45]; rfl) (by decide) ?_
      refine am_iload_n (i := 3) dC_foldedCell_118 rfl rfl ?_
      refine am_aload_n (i := 1) dC_foldedCell_119 rfl rfl ?_
      refine am_getf dC_foldedCell_120 flC_138 (by first | rfl | exact sk8 (by omega) | exact sk9 (by omega) | exact sk10 (by omega) | exact sk11 (by omega)) rfl ?_
      refine am_if_ne (tgt := 133) dC_foldedCell_123 (by decide) (fun c123 => ?_) (fun c123 => ?_)
      · refine am_aload_n (i := 2) dC_foldedCell_133 rfl rfl ?_
        refine am_getf dC_foldedCell_134 flC_89 (by first | rfl | exact sk8 (by omega) | exact sk9 (by omega) | exact sk10 (by omega) | exact sk11 (by omega)) rfl ?_
        refine am_imul dC_foldedCell_137 ?_
        refine am_iret (st := []) rfl rfl dC_foldedCell_138 ?_
        exact k _ (by unfold q_foldV q_fold; grind)
      · refine am_aload_n (i := 2) dC_foldedCell_126 rfl rfl ?_
        refine am_getf dC_foldedCell_127 flC_83 (by first | rfl | exact sk8 (by omega) | exact sk9 (by omega) | exact sk10 (by omega) | exact sk11 (by omega)) rfl ?_
        refine am_goto (tgt := 137) dC_foldedCell_130 (by decide) ?_
        refine am_imul dC_foldedCell_137 ?_
        refine am_iret (st := []) rfl rfl dC_foldedCell_138 ?_
        exact k _ (by unfold q_foldV q_fold; grind)
    · refine am_tableOut (tgt := 139) dC_foldedCell_45 s45 (by decide) ?_
      refine am_iload_n (i := 3) dC_foldedCell_139 rfl rfl ?_
      refine am_iret (st := []) rfl rfl dC_foldedCell_140 ?_
      exact k _ (by
        unfold q_foldV
        rw [q_foldD s45])
set_option maxRecDepth 100000 in
set_option maxHeartbeats 4000000 in
theorem cC_twiceInner {g : am_G} {d : Nat} {Q : Option am_V → am_H → Prop} {Y : Nat → Nat → Nat → am_V} {A P : Nat → Nat → Int32} {st mk lv : Nat → Int32} {cl pr : Nat → Nat → Int32} {us : Nat → Int32} {va si wk : Int32} {v : Nat} (hv : v < 28) (h3 : q_arg (P v 3) v) (h4 : q_arg (P v 4) v) (hq : ¬ P v 3 = -1 ∨ ¬ (P v 0 = 6 ∨ P v 0 = 7 ∨ P v 0 = 11)) (k : ∀ r, r = (if P v 0 = 6 ∨ P v 0 = 7 ∨ P v 0 = 11 then (if P (ix (P v 3)) 0 = P v 0 then P (ix (P v 3)) 3 else -1) else -1) → Q (some (am_I r)) (hm (xc A P st mk lv cl pr us va si wk) Y)) : am_C g mC_twiceInner d 0 0 [am_O 0 0, am_O 9 v] (hm (xc A P st mk lv cl pr us va si wk) Y) Q := by
  refine am_enter (lv := [some (am_O 0 0), some (am_O 9 v), none]) rfl rfl (am_cat1 rfl) (Nat.le_of_ble_eq_true rfl) ?_
  refine am_aload_n (i := 1) dC_twiceInner_0 rfl rfl ?_
  refine am_getf dC_twiceInner_1 flC_129 (by first | rfl | exact sk8 (by omega) | exact sk9 (by omega) | exact sk10 (by omega) | exact sk11 (by omega)) rfl ?_
  refine am_bipush (v := 6) dC_twiceInner_4 (by decide) ?_
  refine am_icmp_eq (tgt := 29) dC_twiceInner_6 (by decide) (fun c6 => ?_) (fun c6 => ?_)
  · obtain ⟨g3, e3⟩ := h3.ix (by grind) (by omega)
    refine am_aload_n (i := 0) dC_twiceInner_29 rfl rfl ?_
    refine am_getf dC_twiceInner_30 flC_15 (by first | rfl | exact sk8 (by omega) | exact sk9 (by omega) | exact sk10 (by omega) | exact sk11 (by omega)) rfl ?_
    refine am_aload_n (i := 1) dC_twiceInner_33 rfl rfl ?_
    refine am_getf dC_twiceInner_34 flC_132 (by first | rfl | exact sk8 (by omega) | exact sk9 (by omega) | exact sk10 (by omega) | exact sk11 (by omega)) rfl ?_
    refine am_aald dC_twiceInner_37 (by first | rfl | exact sk8 (by omega) | exact sk9 (by omega) | exact sk10 (by omega) | exact sk11 (by omega)) e3 (by first | omega | assumption | decide) (by decide) (by decide) rfl rfl ?_
    refine am_astore_n (i := 2) dC_twiceInner_38 rfl (by decide) ?_
    refine am_aload_n (i := 2) dC_twiceInner_39 rfl rfl ?_
    refine am_getf dC_twiceInner_40 flC_129 (by first | rfl | exact sk8 (by omega) | exact sk9 (by omega) | exact sk10 (by omega) | exact sk11 (by omega)) rfl ?_
    refine am_aload_n (i := 1) dC_twiceInner_43 rfl rfl ?_
    refine am_getf dC_twiceInner_44 flC_129 (by first | rfl | exact sk8 (by omega) | exact sk9 (by omega) | exact sk10 (by omega) | exact sk11 (by omega)) rfl ?_
    refine am_icmp_ne (tgt := 57) dC_twiceInner_47 (by decide) (fun c47 => ?_) (fun c47 => ?_)
    · refine am_iconst (v := (-1)) dC_twiceInner_57 (by decide) ?_
      refine am_iret (st := []) rfl rfl dC_twiceInner_58 ?_
      exact k _ (by grind)
    · refine am_aload_n (i := 2) dC_twiceInner_50 rfl rfl ?_
      refine am_getf dC_twiceInner_51 flC_132 (by first | rfl | exact sk8 (by omega) | exact sk9 (by omega) | exact sk10 (by omega) | exact sk11 (by omega)) rfl ?_
      refine am_goto (tgt := 58) dC_twiceInner_54 (by decide) ?_
      refine am_iret (st := []) rfl rfl dC_twiceInner_58 ?_
      exact k _ (by grind)
  · refine am_aload_n (i := 1) dC_twiceInner_9 rfl rfl ?_
    refine am_getf dC_twiceInner_10 flC_129 (by first | rfl | exact sk8 (by omega) | exact sk9 (by omega) | exact sk10 (by omega) | exact sk11 (by omega)) rfl ?_
    refine am_bipush (v := 7) dC_twiceInner_13 (by decide) ?_
    refine am_icmp_eq (tgt := 29) dC_twiceInner_15 (by decide) (fun c15 => ?_) (fun c15 => ?_)
    · obtain ⟨g3, e3⟩ := h3.ix (by grind) (by omega)
      refine am_aload_n (i := 0) dC_twiceInner_29 rfl rfl ?_
      refine am_getf dC_twiceInner_30 flC_15 (by first | rfl | exact sk8 (by omega) | exact sk9 (by omega) | exact sk10 (by omega) | exact sk11 (by omega)) rfl ?_
      refine am_aload_n (i := 1) dC_twiceInner_33 rfl rfl ?_
      refine am_getf dC_twiceInner_34 flC_132 (by first | rfl | exact sk8 (by omega) | exact sk9 (by omega) | exact sk10 (by omega) | exact sk11 (by omega)) rfl ?_
      refine am_aald dC_twiceInner_37 (by first | rfl | exact sk8 (by omega) | exact sk9 (by omega) | exact sk10 (by omega) | exact sk11 (by omega)) e3 (by first | omega | assumption | decide) (by decide) (by decide) rfl rfl ?_
      refine am_astore_n (i := 2) dC_twiceInner_38 rfl (by decide) ?_
      refine am_aload_n (i := 2) dC_twiceInner_39 rfl rfl ?_
      refine am_getf dC_twiceInner_40 flC_129 (by first | rfl | exact sk8 (by omega) | exact sk9 (by omega) | exact sk10 (by omega) | exact sk11 (by omega)) rfl ?_
      refine am_aload_n (i := 1) dC_twiceInner_43 rfl rfl ?_
      refine am_getf dC_twiceInner_44 flC_129 (by first | rfl | exact sk8 (by omega) | exact sk9 (by omega) | exact sk10 (by omega) | exact sk11 (by omega)) rfl ?_
      refine am_icmp_ne (tgt := 57) dC_twiceInner_47 (by decide) (fun c47 => ?_) (fun c47 => ?_)
      · refine am_iconst (v := (-1)) dC_twiceInner_57 (by decide) ?_
        refine am_iret (st := []) rfl rfl dC_twiceInner_58 ?_
        exact k _ (by grind)
      · refine am_aload_n (i := 2) dC_twiceInner_50 rfl rfl ?_
        refine am_getf dC_twiceInner_51 flC_132 (by first | rfl | exact sk8 (by omega) | exact sk9 (by omega) | exact sk10 (by omega) | exact sk11 (by omega)) rfl ?_
        refine am_goto (tgt := 58) dC_twiceInner_54 (by decide) ?_
        refine am_iret (st := []) rfl rfl dC_twiceInner_58 ?_
        exact k _ (by grind)
    · refine am_aload_n (i := 1) dC_twiceInner_18 rfl rfl ?_
      refine am_getf dC_twiceInner_19 flC_129 (by first | rfl | exact sk8 (by omega) | exact sk9 (by omega) | exact sk10 (by omega) | exact sk11 (by omega)) rfl ?_
      refine am_bipush (v := 11) dC_twiceInner_22 (by decide) ?_
      refine am_icmp_eq (tgt := 29) dC_twiceInner_24 (by decide) (fun c24 => ?_) (fun c24 => ?_)
      · obtain ⟨g3, e3⟩ := h3.ix (by grind) (by omega)
        refine am_aload_n (i := 0) dC_twiceInner_29 rfl rfl ?_
        refine am_getf dC_twiceInner_30 flC_15 (by first | rfl | exact sk8 (by omega) | exact sk9 (by omega) | exact sk10 (by omega) | exact sk11 (by omega)) rfl ?_
        refine am_aload_n (i := 1) dC_twiceInner_33 rfl rfl ?_
        refine am_getf dC_twiceInner_34 flC_132 (by first | rfl | exact sk8 (by omega) | exact sk9 (by omega) | exact sk10 (by omega) | exact sk11 (by omega)) rfl ?_
        refine am_aald dC_twiceInner_37 (by first | rfl | exact sk8 (by omega) | exact sk9 (by omega) | exact sk10 (by omega) | exact sk11 (by omega)) e3 (by first | omega | assumption | decide) (by decide) (by decide) rfl rfl ?_
        refine am_astore_n (i := 2) dC_twiceInner_38 rfl (by decide) ?_
        refine am_aload_n (i := 2) dC_twiceInner_39 rfl rfl ?_
        refine am_getf dC_twiceInner_40 flC_129 (by first | rfl | exact sk8 (by omega) | exact sk9 (by omega) | exact sk10 (by omega) | exact sk11 (by omega)) rfl ?_
        refine am_aload_n (i := 1) dC_twiceInner_43 rfl rfl ?_
        refine am_getf dC_twiceInner_44 flC_129 (by first | rfl | exact sk8 (by omega) | exact sk9 (by omega) | exact sk10 (by omega) | exact sk11 (by omega)) rfl ?_
        refine am_icmp_ne (tgt := 57) dC_twiceInner_47 (by decide) (fun c47 => ?_) (fun c47 => ?_)
        · refine am_iconst (v := (-1)) dC_twiceInner_57 (by decide) ?_
          refine am_iret (st := []) rfl rfl dC_twiceInner_58 ?_
          exact k _ (by grind)
        · refine am_aload_n (i := 2) dC_twiceInner_50 rfl rfl ?_
          refine am_getf dC_twiceInner_51 flC_132 (by first | rfl | exact sk8 (by omega) | exact sk9 (by omega) | exact sk10 (by omega) | exact sk11 (by omega)) rfl ?_
          refine am_goto (tgt := 58) dC_twiceInner_54 (by decide) ?_
          refine am_iret (st := []) rfl rfl dC_twiceInner_58 ?_
          exact k _ (by grind)
      · refine am_iconst (v := (-1)) dC_twiceInner_27 (by decide) ?_
        refine am_iret (st := []) rfl rfl dC_twiceInner_28 ?_
        exact k _ (by grind)
set_option maxRecDepth 100000 in
set_option maxHeartbeats 4000000 in
theorem cC_workOf {g : am_G} {d : Nat} {Q : Option am_V → am_H → Prop} {Y : Nat → Nat → Nat → am_V} {A P : Nat → Nat → Int32} {st mk lv : Nat → Int32} {cl pr : Nat → Nat → Int32} {us : Nat → Int32} {va si wk : Int32} {v : Nat} (hv : v < 28) (h3 : q_arg (P v 3) v) (h4 : q_arg (P v 4) v) (hq : ¬ P v 3 = -1 ∨ ¬ 2 < P v 0) (k : ∀ r, r = q_work P v → Q (some (am_I r)) (hm (xc A P st mk lv cl pr us va si wk) Y)) : am_C g mC_workOf d 0 0 [am_O 0 0, am_O 9 v] (hm (xc A P st mk lv cl pr us va si wk) Y) Q := by
  refine am_enter (lv := [some (am_O 0 0), some (am_O 9 v), none]) rfl rfl (am_cat1 rfl) (Nat.le_of_ble_eq_true rfl) ?_
  refine am_aload_n (i := 1) dC_workOf_0 rfl rfl ?_
  refine am_getf dC_workOf_1 flC_129 (by first | rfl | exact sk8 (by omega) | exact sk9 (by omega) | exact sk10 (by omega) | exact sk11 (by omega)) rfl ?_
  refine am_iconst (v := 2) dC_workOf_4 (by decide) ?_
  refine am_icmp_gt (tgt := 10) dC_workOf_5 (by decide) (fun c5 => ?_) (fun c5 => ?_)
  · obtain ⟨g3, e3⟩ := h3.ix (by grind) (by omega)
    refine am_aload_n (i := 0) dC_workOf_10 rfl rfl ?_
    refine am_getf dC_workOf_11 flC_15 (by first | rfl | exact sk8 (by omega) | exact sk9 (by omega) | exact sk10 (by omega) | exact sk11 (by omega)) rfl ?_
    refine am_aload_n (i := 1) dC_workOf_14 rfl rfl ?_
    refine am_getf dC_workOf_15 flC_132 (by first | rfl | exact sk8 (by omega) | exact sk9 (by omega) | exact sk10 (by omega) | exact sk11 (by omega)) rfl ?_
    refine am_aald dC_workOf_18 (by first | rfl | exact sk8 (by omega) | exact sk9 (by omega) | exact sk10 (by omega) | exact sk11 (by omega)) e3 (by first | omega | assumption | decide) (by decide) (by decide) rfl rfl ?_
    refine am_astore_n (i := 2) dC_workOf_19 rfl (by decide) ?_
    refine am_aload_n (i := 1) dC_workOf_20 rfl rfl ?_
    refine am_getf dC_workOf_21 flC_129 (by first | rfl | exact sk8 (by omega) | exact sk9 (by omega) | exact sk10 (by omega) | exact sk11 (by omega)) rfl ?_
    refine am_bipush (v := 8) dC_workOf_24 (by decide) ?_
    refine am_icmp_ne (tgt := 44) dC_workOf_26 (by decide) (fun c26 => ?_) (fun c26 => ?_)
    · refine am_aload_n (i := 1) dC_workOf_44 rfl rfl ?_
      refine am_getf dC_workOf_45 flC_129 (by first | rfl | exact sk8 (by omega) | exact sk9 (by omega) | exact sk10 (by omega) | exact sk11 (by omega)) rfl ?_
      refine am_bipush (v := 9) dC_workOf_48 (by decide) ?_
      refine am_icmp_ne (tgt := 65) dC_workOf_50 (by decide) (fun c50 => ?_) (fun c50 => ?_)
      · refine am_aload_n (i := 1) dC_workOf_65 rfl rfl ?_
        refine am_getf dC_workOf_66 flC_83 (by first | rfl | exact sk8 (by omega) | exact sk9 (by omega) | exact sk10 (by omega) | exact sk11 (by omega)) rfl ?_
        refine am_aload_n (i := 1) dC_workOf_69 rfl rfl ?_
        refine am_getf dC_workOf_70 flC_89 (by first | rfl | exact sk8 (by omega) | exact sk9 (by omega) | exact sk10 (by omega) | exact sk11 (by omega)) rfl ?_
        refine am_imul dC_workOf_73 ?_
        refine am_iret (st := []) rfl rfl dC_workOf_74 ?_
        exact k _ (by unfold q_work; grind)
      · refine am_aload_n (i := 2) dC_workOf_53 rfl rfl ?_
        refine am_getf dC_workOf_54 flC_83 (by first | rfl | exact sk8 (by omega) | exact sk9 (by omega) | exact sk10 (by omega) | exact sk11 (by omega)) rfl ?_
        refine am_aload_n (i := 2) dC_workOf_57 rfl rfl ?_
        refine am_getf dC_workOf_58 flC_89 (by first | rfl | exact sk8 (by omega) | exact sk9 (by omega) | exact sk10 (by omega) | exact sk11 (by omega)) rfl ?_
        refine am_imul dC_workOf_61 ?_
        refine am_goto (tgt := 74) dC_workOf_62 (by decide) ?_
        refine am_iret (st := []) rfl rfl dC_workOf_74 ?_
        exact k _ (by unfold q_work; grind)
    · refine am_aload_n (i := 1) dC_workOf_29 rfl rfl ?_
      refine am_getf dC_workOf_30 flC_83 (by first | rfl | exact sk8 (by omega) | exact sk9 (by omega) | exact sk10 (by omega) | exact sk11 (by omega)) rfl ?_
      refine am_aload_n (i := 1) dC_workOf_33 rfl rfl ?_
      refine am_getf dC_workOf_34 flC_89 (by first | rfl | exact sk8 (by omega) | exact sk9 (by omega) | exact sk10 (by omega) | exact sk11 (by omega)) rfl ?_
      refine am_imul dC_workOf_37 ?_
      refine am_aload_n (i := 2) dC_workOf_38 rfl rfl ?_
      refine am_getf dC_workOf_39 flC_89 (by first | rfl | exact sk8 (by omega) | exact sk9 (by omega) | exact sk10 (by omega) | exact sk11 (by omega)) rfl ?_
      refine am_imul dC_workOf_42 ?_
      refine am_iret (st := []) rfl rfl dC_workOf_43 ?_
      exact k _ (by unfold q_work; grind)
  · refine am_iconst (v := 0) dC_workOf_8 (by decide) ?_
    refine am_iret (st := []) rfl rfl dC_workOf_9 ?_
    exact k _ (by unfold q_work; grind)
end
section
theorem k2_of {k : Int32} (j : Int32) (h : k = j) (hj : (2 : Int32) < j) : 2 < k := h ▸ hj
def q_neut (P : Nat → Nat → Int32) (v : Nat) : Int32 := if q_res (P v 0) then (if q_shp P v (ix (P v 3)) then P v 3 else -1) else if ¬ (P v 0 = 3 ∨ P v 0 = 4) then -1 else if q_spl P (P v 3) (if P v 0 = 3 then 0 else 1) then P v 4 else if q_spl P (P v 4) (if P v 0 = 3 then 0 else 1) then P v 3 else -1
def q_twi (P : Nat → Nat → Int32) (v : Nat) : Int32 := if q_tw (P v 0) then (if P (ix (P v 3)) 0 = P v 0 then P (ix (P v 3)) 3 else -1) else -1
def q_r3 (st : Nat → Int32) (P : Nat → Nat → Int32) (v : Nat) : Int32 := if P v 3 = -1 then -1 else st (ix (P v 3))
def q_r4 (st : Nat → Int32) (P : Nat → Nat → Int32) (v : Nat) : Int32 := if P v 4 = -1 then -1 else st (ix (P v 4))
abbrev q_sw (st : Nat → Int32) (P : Nat → Nat → Int32) (v : Nat) : Prop := (P v 0 = 3 ∨ P v 0 = 4 ∨ P v 0 = 5) ∧ ¬ q_r3 st P v ≤ q_r4 st P v
def q_rep (st : Nat → Int32) (P : Nat → Nat → Int32) (v : Nat) : Nat → Nat → Int32 := up2 (up2 P v 3 (if q_sw st P v then q_r4 st P v else q_r3 st P v)) v 4 (if q_sw st P v then q_r3 st P v else q_r4 st P v)
theorem up2_self (P : Nat → Nat → Int32) (v k : Nat) : up2 P v k (P v k) = P := by
  funext i j
  by_cases h : i = v ∧ j = k
  · obtain ⟨rfl, rfl⟩ := h
    exact up2_eq _ _ _ _
  · exact up2_ne h
theorem up2_up2 (P : Nat → Nat → Int32) (v k : Nat) (x y : Int32) : up2 (up2 P v k x) v k y = up2 P v k y := by
  funext i j
  by_cases h : i = v ∧ j = k
  · obtain ⟨rfl, rfl⟩ := h
    rw [up2_eq, up2_eq]
  · rw [up2_ne h, up2_ne h, up2_ne h]
theorem up2_com (P : Nat → Nat → Int32) (v : Nat) {k j : Nat} (x y : Int32) (h : k ≠ j) : up2 (up2 P v k x) v j y = up2 (up2 P v j y) v k x := by
  funext i m
  unfold up2
  grind
set_option maxRecDepth 100000 in
set_option maxHeartbeats 4000000 in
theorem cC_neutralOther {g : am_G} {d : Nat} {Q : Option am_V → am_H → Prop} {Y : Nat → Nat → Nat → am_V} {A P : Nat → Nat → Int32} {st mk lv : Nat → Int32} {cl pr : Nat → Nat → Int32} {us : Nat → Int32} {va si wk : Int32} {v : Nat} (hv : v < 28) (h3 : q_arg (P v 3) v) (h4 : q_arg (P v 4) v) (hq3 : 2 < P v 0 → ¬ P v 3 = -1) (hq4 : (P v 0 = 3 ∨ P v 0 = 4 ∨ P v 0 = 5 ∨ P v 0 = 8) → ¬ P v 4 = -1) (k : ∀ r, r = q_neut P v → Q (some (am_I r)) (hm (xc A P st mk lv cl pr us va si wk) Y)) : am_C g mC_neutralOther (d + 2) 0 0 [am_O 0 0, am_O 9 v] (hm (xc A P st mk lv cl pr us va si wk) Y) Q := by
  refine am_enter (lv := [some (am_O 0 0), some (am_O 9 v), none]) rfl rfl (am_cat1 rfl) (Nat.le_of_ble_eq_true rfl) ?_
  refine am_aload_n (i := 1) dC_neutralOther_0 rfl rfl ?_
  refine am_callV (ac' := 0) (as' := 0) (xs := []) dC_neutralOther_1 lkC_198 (by first | rfl | exact sk8 (by omega) | exact sk9 (by omega) | exact sk10 (by omega) | exact sk11 (by omega)) rfl rfl rfl rfl (Nat.le_of_ble_eq_true rfl) rfl rfl (cO_isReshaping hv (fun cr => ?_) (fun cr => ?_))
  · refine am_if_eq_F (tgt := 32) dC_neutralOther_4 (by decide) (by decide) ?_
    obtain ⟨g3, e3⟩ := h3.ix (hq3 (by rcases cr with q | q | q <;> exact k2_of _ q (by decide))) (by omega)
    refine am_aload_n (i := 1) dC_neutralOther_7 rfl rfl ?_
    refine am_aload_n (i := 0) dC_neutralOther_8 rfl rfl ?_
    refine am_getf dC_neutralOther_9 flC_15 (by first | rfl | exact sk8 (by omega) | exact sk9 (by omega) | exact sk10 (by omega) | exact sk11 (by omega)) rfl ?_
    refine am_aload_n (i := 1) dC_neutralOther_12 rfl rfl ?_
    refine am_getf dC_neutralOther_13 flC_132 (by first | rfl | exact sk8 (by omega) | exact sk9 (by omega) | exact sk10 (by omega) | exact sk11 (by omega)) rfl ?_
    refine am_aald dC_neutralOther_16 (by first | rfl | exact sk8 (by omega) | exact sk9 (by omega) | exact sk10 (by omega) | exact sk11 (by omega)) e3 (by first | omega | assumption | decide) (by decide) (by decide) rfl rfl ?_
    refine am_callV (ac' := 0) (as' := 0) (xs := [_]) dC_neutralOther_17 lkC_147 (by first | rfl | exact sk8 (by omega) | exact sk9 (by omega) | exact sk10 (by omega) | exact sk11 (by omega)) rfl rfl rfl rfl (Nat.le_of_ble_eq_true rfl) rfl rfl (cO_hasShapeOf9 hv (by omega) (fun cs => ?_) (fun cs => ?_))
    · refine am_if_eq_F (tgt := 30) dC_neutralOther_20 (by decide) (by decide) ?_
      refine am_aload_n (i := 1) dC_neutralOther_23 rfl rfl ?_
      refine am_getf dC_neutralOther_24 flC_132 (by first | rfl | exact sk8 (by omega) | exact sk9 (by omega) | exact sk10 (by omega) | exact sk11 (by omega)) rfl ?_
      refine am_goto (tgt := 31) dC_neutralOther_27 (by decide) ?_
      refine am_iret (st := []) rfl rfl dC_neutralOther_31 ?_
      exact k _ (by unfold q_neut; grind)
    · refine am_if_eq_T (tgt := 30) dC_neutralOther_20 (by decide) (by decide) ?_
      refine am_iconst (v := (-1)) dC_neutralOther_30 (by decide) ?_
      refine am_iret (st := []) rfl rfl dC_neutralOther_31 ?_
      exact k _ (by unfold q_neut; grind)
  · refine am_if_eq_T (tgt := 32) dC_neutralOther_4 (by decide) (by decide) ?_
    refine am_aload_n (i := 1) dC_neutralOther_32 rfl rfl ?_
    refine am_getf dC_neutralOther_33 flC_129 (by first | rfl | exact sk8 (by omega) | exact sk9 (by omega) | exact sk10 (by omega) | exact sk11 (by omega)) rfl ?_
    refine am_iconst (v := 3) dC_neutralOther_36 (by decide) ?_
    refine am_icmp_eq (tgt := 50) dC_neutralOther_37 (by decide) (fun c37 => ?_) (fun c37 => ?_)
    · refine am_aload_n (i := 1) dC_neutralOther_50 rfl rfl ?_
      refine am_getf dC_neutralOther_51 flC_129 (by first | rfl | exact sk8 (by omega) | exact sk9 (by omega) | exact sk10 (by omega) | exact sk11 (by omega)) rfl ?_
      refine am_iconst (v := 3) dC_neutralOther_54 (by decide) ?_
      refine am_icmp_ne (tgt := 62) dC_neutralOther_55 (by decide) (fun c55 => ?_) (fun c55 => ?_)
      · refine am_iconst (v := 1) dC_neutralOther_62 (by decide) ?_
        refine am_istore_n (i := 2) dC_neutralOther_63 rfl (by decide) ?_
        obtain ⟨g3, e3⟩ := h3.ix (hq3 (by first | exact k2_of _ c37 (by decide) | exact k2_of _ c45 (by decide))) (by omega)
        obtain ⟨g4, e4⟩ := h4.ix (hq4 (by grind)) (by omega)
        refine am_aload_n (i := 0) dC_neutralOther_64 rfl rfl ?_
        refine am_aload_n (i := 1) dC_neutralOther_65 rfl rfl ?_
        refine am_getf dC_neutralOther_66 flC_132 (by first | rfl | exact sk8 (by omega) | exact sk9 (by omega) | exact sk10 (by omega) | exact sk11 (by omega)) rfl ?_
        refine am_iload_n (i := 2) dC_neutralOther_69 rfl rfl ?_
        refine am_callV (ac' := 0) (as' := 0) (xs := [_, _]) dC_neutralOther_70 lkC_184 (by first | rfl | exact sk8 (by omega) | exact sk9 (by omega) | exact sk10 (by omega) | exact sk11 (by omega)) rfl rfl rfl rfl (Nat.le_of_ble_eq_true rfl) rfl rfl (cC_isSplat (by omega) e3 (fun ca => ?_) (fun ca => ?_))
        · refine am_if_eq_F (tgt := 81) dC_neutralOther_73 (by decide) (by decide) ?_
          refine am_aload_n (i := 1) dC_neutralOther_76 rfl rfl ?_
          refine am_getf dC_neutralOther_77 flC_135 (by first | rfl | exact sk8 (by omega) | exact sk9 (by omega) | exact sk10 (by omega) | exact sk11 (by omega)) rfl ?_
          refine am_iret (st := []) rfl rfl dC_neutralOther_80 ?_
          exact k _ (by unfold q_neut; grind)
        · refine am_if_eq_T (tgt := 81) dC_neutralOther_73 (by decide) (by decide) ?_
          refine am_aload_n (i := 0) dC_neutralOther_81 rfl rfl ?_
          refine am_aload_n (i := 1) dC_neutralOther_82 rfl rfl ?_
          refine am_getf dC_neutralOther_83 flC_135 (by first | rfl | exact sk8 (by omega) | exact sk9 (by omega) | exact sk10 (by omega) | exact sk11 (by omega)) rfl ?_
          refine am_iload_n (i := 2) dC_neutralOther_86 rfl rfl ?_
          refine am_callV (ac' := 0) (as' := 0) (xs := [_, _]) dC_neutralOther_87 lkC_184 (by first | rfl | exact sk8 (by omega) | exact sk9 (by omega) | exact sk10 (by omega) | exact sk11 (by omega)) rfl rfl rfl rfl (Nat.le_of_ble_eq_true rfl) rfl rfl (cC_isSplat (by omega) e4 (fun cb => ?_) (fun cb => ?_))
          · refine am_if_eq_F (tgt := 100) dC_neutralOther_90 (by decide) (by decide) ?_
            refine am_aload_n (i := 1) dC_neutralOther_93 rfl rfl ?_
            refine am_getf dC_neutralOther_94 flC_132 (by first | rfl | exact sk8 (by omega) | exact sk9 (by omega) | exact sk10 (by omega) | exact sk11 (by omega)) rfl ?_
            refine am_goto (tgt := 101) dC_neutralOther_97 (by decide) ?_
            refine am_iret (st := []) rfl rfl dC_neutralOther_101 ?_
            exact k _ (by unfold q_neut; grind)
          · refine am_if_eq_T (tgt := 100) dC_neutralOther_90 (by decide) (by decide) ?_
            refine am_iconst (v := (-1)) dC_neutralOther_100 (by decide) ?_
            refine am_iret (st := []) rfl rfl dC_neutralOther_101 ?_
            exact k _ (by unfold q_neut; grind)
      · refine am_iconst (v := 0) dC_neutralOther_58 (by decide) ?_
        refine am_goto (tgt := 63) dC_neutralOther_59 (by decide) ?_
        refine am_istore_n (i := 2) dC_neutralOther_63 rfl (by decide) ?_
        obtain ⟨g3, e3⟩ := h3.ix (hq3 (by first | exact k2_of _ c37 (by decide) | exact k2_of _ c45 (by decide))) (by omega)
        obtain ⟨g4, e4⟩ := h4.ix (hq4 (by grind)) (by omega)
        refine am_aload_n (i := 0) dC_neutralOther_64 rfl rfl ?_
        refine am_aload_n (i := 1) dC_neutralOther_65 rfl rfl ?_
        refine am_getf dC_neutralOther_66 flC_132 (by first | rfl | exact sk8 (by omega) | exact sk9 (by omega) | exact sk10 (by omega) | exact sk11 (by omega)) rfl ?_
        refine am_iload_n (i := 2) dC_neutralOther_69 rfl rfl ?_
        refine am_callV (ac' := 0) (as' := 0) (xs := [_, _]) dC_neutralOther_70 lkC_184 (by first | rfl | exact sk8 (by omega) | exact sk9 (by omega) | exact sk10 (by omega) | exact sk11 (by omega)) rfl rfl rfl rfl (Nat.le_of_ble_eq_true rfl) rfl rfl (cC_isSplat (by omega) e3 (fun ca => ?_) (fun ca => ?_))
        · refine am_if_eq_F (tgt := 81) dC_neutralOther_73 (by decide) (by decide) ?_
          refine am_aload_n (i := 1) dC_neutralOther_76 rfl rfl ?_
          refine am_getf dC_neutralOther_77 flC_135 (by first | rfl | exact sk8 (by omega) | exact sk9 (by omega) | exact sk10 (by omega) | exact sk11 (by omega)) rfl ?_
          refine am_iret (st := []) rfl rfl dC_neutralOther_80 ?_
          exact k _ (by unfold q_neut; grind)
        · refine am_if_eq_T (tgt := 81) dC_neutralOther_73 (by decide) (by decide) ?_
          refine am_aload_n (i := 0) dC_neutralOther_81 rfl rfl ?_
          refine am_aload_n (i := 1) dC_neutralOther_82 rfl rfl ?_
          refine am_getf dC_neutralOther_83 flC_135 (by first | rfl | exact sk8 (by omega) | exact sk9 (by omega) | exact sk10 (by omega) | exact sk11 (by omega)) rfl ?_
          refine am_iload_n (i := 2) dC_neutralOther_86 rfl rfl ?_
          refine am_callV (ac' := 0) (as' := 0) (xs := [_, _]) dC_neutralOther_87 lkC_184 (by first | rfl | exact sk8 (by omega) | exact sk9 (by omega) | exact sk10 (by omega) | exact sk11 (by omega)) rfl rfl rfl rfl (Nat.le_of_ble_eq_true rfl) rfl rfl (cC_isSplat (by omega) e4 (fun cb => ?_) (fun cb => ?_))
          · refine am_if_eq_F (tgt := 100) dC_neutralOther_90 (by decide) (by decide) ?_
            refine am_aload_n (i := 1) dC_neutralOther_93 rfl rfl ?_
            refine am_getf dC_neutralOther_94 flC_132 (by first | rfl | exact sk8 (by omega) | exact sk9 (by omega) | exact sk10 (by omega) | exact sk11 (by omega)) rfl ?_
            refine am_goto (tgt := 101) dC_neutralOther_97 (by decide) ?_
            refine am_iret (st := []) rfl rfl dC_neutralOther_101 ?_
            exact k _ (by unfold q_neut; grind)
          · refine am_if_eq_T (tgt := 100) dC_neutralOther_90 (by decide) (by decide) ?_
            refine am_iconst (v := (-1)) dC_neutralOther_100 (by decide) ?_
            refine am_iret (st := []) rfl rfl dC_neutralOther_101 ?_
            exact k _ (by unfold q_neut; grind)
    · refine am_aload_n (i := 1) dC_neutralOther_40 rfl rfl ?_
      refine am_getf dC_neutralOther_41 flC_129 (by first | rfl | exact sk8 (by omega) | exact sk9 (by omega) | exact sk10 (by omega) | exact sk11 (by omega)) rfl ?_
      refine am_iconst (v := 4) dC_neutralOther_44 (by decide) ?_
      refine am_icmp_eq (tgt := 50) dC_neutralOther_45 (by decide) (fun c45 => ?_) (fun c45 => ?_)
      · refine am_aload_n (i := 1) dC_neutralOther_50 rfl rfl ?_
        refine am_getf dC_neutralOther_51 flC_129 (by first | rfl | exact sk8 (by omega) | exact sk9 (by omega) | exact sk10 (by omega) | exact sk11 (by omega)) rfl ?_
        refine am_iconst (v := 3) dC_neutralOther_54 (by decide) ?_
        refine am_icmp_ne (tgt := 62) dC_neutralOther_55 (by decide) (fun c55 => ?_) (fun c55 => ?_)
        · refine am_iconst (v := 1) dC_neutralOther_62 (by decide) ?_
          refine am_istore_n (i := 2) dC_neutralOther_63 rfl (by decide) ?_
          obtain ⟨g3, e3⟩ := h3.ix (hq3 (by first | exact k2_of _ c37 (by decide) | exact k2_of _ c45 (by decide))) (by omega)
          obtain ⟨g4, e4⟩ := h4.ix (hq4 (by grind)) (by omega)
          refine am_aload_n (i := 0) dC_neutralOther_64 rfl rfl ?_
          refine am_aload_n (i := 1) dC_neutralOther_65 rfl rfl ?_
          refine am_getf dC_neutralOther_66 flC_132 (by first | rfl | exact sk8 (by omega) | exact sk9 (by omega) | exact sk10 (by omega) | exact sk11 (by omega)) rfl ?_
          refine am_iload_n (i := 2) dC_neutralOther_69 rfl rfl ?_
          refine am_callV (ac' := 0) (as' := 0) (xs := [_, _]) dC_neutralOther_70 lkC_184 (by first | rfl | exact sk8 (by omega) | exact sk9 (by omega) | exact sk10 (by omega) | exact sk11 (by omega)) rfl rfl rfl rfl (Nat.le_of_ble_eq_true rfl) rfl rfl (cC_isSplat (by omega) e3 (fun ca => ?_) (fun ca => ?_))
          · refine am_if_eq_F (tgt := 81) dC_neutralOther_73 (by decide) (by decide) ?_
            refine am_aload_n (i := 1) dC_neutralOther_76 rfl rfl ?_
            refine am_getf dC_neutralOther_77 flC_135 (by first | rfl | exact sk8 (by omega) | exact sk9 (by omega) | exact sk10 (by omega) | exact sk11 (by omega)) rfl ?_
            refine am_iret (st := []) rfl rfl dC_neutralOther_80 ?_
            exact k _ (by unfold q_neut; grind)
          · refine am_if_eq_T (tgt := 81) dC_neutralOther_73 (by decide) (by decide) ?_
            refine am_aload_n (i := 0) dC_neutralOther_81 rfl rfl ?_
            refine am_aload_n (i := 1) dC_neutralOther_82 rfl rfl ?_
            refine am_getf dC_neutralOther_83 flC_135 (by first | rfl | exact sk8 (by omega) | exact sk9 (by omega) | exact sk10 (by omega) | exact sk11 (by omega)) rfl ?_
            refine am_iload_n (i := 2) dC_neutralOther_86 rfl rfl ?_
            refine am_callV (ac' := 0) (as' := 0) (xs := [_, _]) dC_neutralOther_87 lkC_184 (by first | rfl | exact sk8 (by omega) | exact sk9 (by omega) | exact sk10 (by omega) | exact sk11 (by omega)) rfl rfl rfl rfl (Nat.le_of_ble_eq_true rfl) rfl rfl (cC_isSplat (by omega) e4 (fun cb => ?_) (fun cb => ?_))
            · refine am_if_eq_F (tgt := 100) dC_neutralOther_90 (by decide) (by decide) ?_
              refine am_aload_n (i := 1) dC_neutralOther_93 rfl rfl ?_
              refine am_getf dC_neutralOther_94 flC_132 (by first | rfl | exact sk8 (by omega) | exact sk9 (by omega) | exact sk10 (by omega) | exact sk11 (by omega)) rfl ?_
              refine am_goto (tgt := 101) dC_neutralOther_97 (by decide) ?_
              refine am_iret (st := []) rfl rfl dC_neutralOther_101 ?_
              exact k _ (by unfold q_neut; grind)
            · refine am_if_eq_T (tgt := 100) dC_neutralOther_90 (by decide) (by decide) ?_
              refine am_iconst (v := (-1)) dC_neutralOther_100 (by decide) ?_
              refine am_iret (st := []) rfl rfl dC_neutralOther_101 ?_
              exact k _ (by unfold q_neut; grind)
        · refine am_iconst (v := 0) dC_neutralOther_58 (by decide) ?_
          refine am_goto (tgt := 63) dC_neutralOther_59 (by decide) ?_
          refine am_istore_n (i := 2) dC_neutralOther_63 rfl (by decide) ?_
          obtain ⟨g3, e3⟩ := h3.ix (hq3 (by first | exact k2_of _ c37 (by decide) | exact k2_of _ c45 (by decide))) (by omega)
          obtain ⟨g4, e4⟩ := h4.ix (hq4 (by grind)) (by omega)
          refine am_aload_n (i := 0) dC_neutralOther_64 rfl rfl ?_
          refine am_aload_n (i := 1) dC_neutralOther_65 rfl rfl ?_
          refine am_getf dC_neutralOther_66 flC_132 (by first | rfl | exact sk8 (by omega) | exact sk9 (by omega) | exact sk10 (by omega) | exact sk11 (by omega)) rfl ?_
          refine am_iload_n (i := 2) dC_neutralOther_69 rfl rfl ?_
          refine am_callV (ac' := 0) (as' := 0) (xs := [_, _]) dC_neutralOther_70 lkC_184 (by first | rfl | exact sk8 (by omega) | exact sk9 (by omega) | exact sk10 (by omega) | exact sk11 (by omega)) rfl rfl rfl rfl (Nat.le_of_ble_eq_true rfl) rfl rfl (cC_isSplat (by omega) e3 (fun ca => ?_) (fun ca => ?_))
          · refine am_if_eq_F (tgt := 81) dC_neutralOther_73 (by decide) (by decide) ?_
            refine am_aload_n (i := 1) dC_neutralOther_76 rfl rfl ?_
            refine am_getf dC_neutralOther_77 flC_135 (by first | rfl | exact sk8 (by omega) | exact sk9 (by omega) | exact sk10 (by omega) | exact sk11 (by omega)) rfl ?_
            refine am_iret (st := []) rfl rfl dC_neutralOther_80 ?_
            exact k _ (by unfold q_neut; grind)
          · refine am_if_eq_T (tgt := 81) dC_neutralOther_73 (by decide) (by decide) ?_
            refine am_aload_n (i := 0) dC_neutralOther_81 rfl rfl ?_
            refine am_aload_n (i := 1) dC_neutralOther_82 rfl rfl ?_
            refine am_getf dC_neutralOther_83 flC_135 (by first | rfl | exact sk8 (by omega) | exact sk9 (by omega) | exact sk10 (by omega) | exact sk11 (by omega)) rfl ?_
            refine am_iload_n (i := 2) dC_neutralOther_86 rfl rfl ?_
            refine am_callV (ac' := 0) (as' := 0) (xs := [_, _]) dC_neutralOther_87 lkC_184 (by first | rfl | exact sk8 (by omega) | exact sk9 (by omega) | exact sk10 (by omega) | exact sk11 (by omega)) rfl rfl rfl rfl (Nat.le_of_ble_eq_true rfl) rfl rfl (cC_isSplat (by omega) e4 (fun cb => ?_) (fun cb => ?_))
            · refine am_if_eq_F (tgt := 100) dC_neutralOther_90 (by decide) (by decide) ?_
              refine am_aload_n (i := 1) dC_neutralOther_93 rfl rfl ?_
              refine am_getf dC_neutralOther_94 flC_132 (by first | rfl | exact sk8 (by omega) | exact sk9 (by omega) | exact sk10 (by omega) | exact sk11 (by omega)) rfl ?_
              refine am_goto (tgt := 101) dC_neutralOther_97 (by decide) ?_
              refine am_iret (st := []) rfl rfl dC_neutralOther_101 ?_
              exact k _ (by unfold q_neut; grind)
            · refine am_if_eq_T (tgt := 100) dC_neutralOther_90 (by decide) (by decide) ?_
              refine am_iconst (v := (-1)) dC_neutralOther_100 (by decide) ?_
              refine am_iret (st := []) rfl rfl dC_neutralOther_101 ?_
              exact k _ (by unfold q_neut; grind)
      · refine am_iconst (v := (-1)) dC_neutralOther_48 (by decide) ?_
        refine am_iret (st := []) rfl rfl dC_neutralOther_49 ?_
        exact k _ (by unfold q_neut; grind)
set_option maxRecDepth 100000 in
set_option maxHeartbeats 4000000 in
theorem lpC_alike {g : am_G} {d : Nat} {Q : Option am_V → am_H → Prop} {Y : Nat → Nat → Nat → am_V} {A P : Nat → Nat → Int32} {st mk lv : Nat → Int32} {cl pr : Nat → Nat → Int32} {us : Nat → Int32} {va si wk : Int32} {v : Nat} (hv : v < 28) (kf : ∀ u, u < v → st u = nI u → q_like P u v → (∀ w, w < u → ¬ (st w = nI w ∧ q_like P w v)) → Q (some (am_I (nI u))) (hm (xc A P st mk lv cl pr (upd us 6 (us 6 + 1)) va si wk) Y)) (kn : (∀ w, w < v → ¬ (st w = nI w ∧ q_like P w v)) → Q (some (am_I (nI v))) (hm (xc A P st mk lv cl pr us va si wk) Y)) : ∀ (j i : Nat), i + j = v → (∀ w, w < i → ¬ (st w = nI w ∧ q_like P w v)) → am_T g mC_alikeOrItself (d + 2) 0 0 2 [some (am_O 0 0), some (am_I (nI v)), some (am_I (nI i))] [] (hm (xc A P st mk lv cl pr us va si wk) Y) Q := by
  intro j
  induction j with
  | zero =>
    intro i hi hw
    have e : i = v := by omega
    subst e
    refine am_iload_n (i := 2) dC_alikeOrItself_2 rfl rfl ?_
    refine am_iload_n (i := 1) dC_alikeOrItself_3 rfl rfl ?_
    refine am_icmp_ge_T (tgt := 54) dC_alikeOrItself_4 (by decide) ((nI_le' (by omega) (by omega)).mpr (by omega)) ?_
    refine am_iload_n (i := 1) dC_alikeOrItself_54 rfl rfl ?_
    refine am_iret (st := []) rfl rfl dC_alikeOrItself_55 ?_
    exact kn hw
  | succ j ih =>
    intro i hi hw
    refine am_iload_n (i := 2) dC_alikeOrItself_2 rfl rfl ?_
    refine am_iload_n (i := 1) dC_alikeOrItself_3 rfl rfl ?_
    refine am_icmp_ge_F (tgt := 54) dC_alikeOrItself_4 (by decide) (fun q => absurd ((nI_le' (by omega) (by omega)).mp q) (by omega)) ?_
    refine am_aload_n (i := 0) dC_alikeOrItself_7 rfl rfl ?_
    refine am_getf dC_alikeOrItself_8 flC_18 (by first | rfl | exact sk8 (by omega) | exact sk9 (by omega) | exact sk10 (by omega) | exact sk11 (by omega)) rfl ?_
    refine am_iload_n (i := 2) dC_alikeOrItself_11 rfl rfl ?_
    refine am_iald dC_alikeOrItself_12 (by first | rfl | exact sk8 (by omega) | exact sk9 (by omega) | exact sk10 (by omega) | exact sk11 (by omega)) rfl (by first | omega | assumption | decide) (by decide) (by decide) rfl ?_
    refine am_iload_n (i := 2) dC_alikeOrItself_13 rfl rfl ?_
    refine am_icmp_ne (tgt := 48) dC_alikeOrItself_14 (by decide) (fun c14 => ?_) (fun c14 => ?_)
    · refine am_iinc dC_alikeOrItself_48 rfl (by first | exact nI_1 _ | exact pk_m1 _ | rfl) (by decide) ?_
      refine am_goto (tgt := 2) dC_alikeOrItself_51 (by decide) ?_
      exact ih (i + 1) (by omega) (fun w hw' => by
        rcases Nat.lt_or_ge w i with q | q
        · exact hw w q
        · have e : w = i := by omega
          subst e
          grind)
    · refine am_aload_n (i := 0) dC_alikeOrItself_17 rfl rfl ?_
      refine am_getf dC_alikeOrItself_18 flC_15 (by first | rfl | exact sk8 (by omega) | exact sk9 (by omega) | exact sk10 (by omega) | exact sk11 (by omega)) rfl ?_
      refine am_iload_n (i := 2) dC_alikeOrItself_21 rfl rfl ?_
      refine am_aald dC_alikeOrItself_22 (by first | rfl | exact sk8 (by omega) | exact sk9 (by omega) | exact sk10 (by omega) | exact sk11 (by omega)) rfl (by first | omega | assumption | decide) (by decide) (by decide) rfl rfl ?_
      refine am_aload_n (i := 0) dC_alikeOrItself_23 rfl rfl ?_
      refine am_getf dC_alikeOrItself_24 flC_15 (by first | rfl | exact sk8 (by omega) | exact sk9 (by omega) | exact sk10 (by omega) | exact sk11 (by omega)) rfl ?_
      refine am_iload_n (i := 1) dC_alikeOrItself_27 rfl rfl ?_
      refine am_aald dC_alikeOrItself_28 (by first | rfl | exact sk8 (by omega) | exact sk9 (by omega) | exact sk10 (by omega) | exact sk11 (by omega)) rfl (by first | omega | assumption | decide) (by decide) (by decide) rfl rfl ?_
      refine am_callV (ac' := 0) (as' := 0) (xs := [_]) dC_alikeOrItself_29 lkC_201 (by first | rfl | exact sk8 (by omega) | exact sk9 (by omega) | exact sk10 (by omega) | exact sk11 (by omega)) rfl rfl rfl rfl (Nat.le_of_ble_eq_true rfl) rfl rfl (cO_isLike (by omega) hv (fun cs => ?_) (fun cs => ?_))
      · refine am_if_eq_F (tgt := 48) dC_alikeOrItself_32 (by decide) (by decide) ?_
        refine am_aload_n (i := 0) dC_alikeOrItself_35 rfl rfl ?_
        refine am_getf dC_alikeOrItself_36 flC_37 (by first | rfl | exact sk8 (by omega) | exact sk9 (by omega) | exact sk10 (by omega) | exact sk11 (by omega)) rfl ?_
        refine am_bipush (v := 6) dC_alikeOrItself_39 (by decide) ?_
        refine am_dup2 dC_alikeOrItself_41 rfl rfl ?_
        refine am_iald dC_alikeOrItself_42 (by first | rfl | exact sk8 (by omega) | exact sk9 (by omega) | exact sk10 (by omega) | exact sk11 (by omega)) rfl (by first | omega | assumption | decide) (by decide) (by decide) rfl ?_
        refine am_iconst (v := 1) dC_alikeOrItself_43 (by decide) ?_
        refine am_iadd dC_alikeOrItself_44 ?_
        refine am_iast' dC_alikeOrItself_45 (by first | rfl | exact sk8 (by omega) | exact sk9 (by omega) | exact sk10 (by omega) | exact sk11 (by omega)) rfl (by first | omega | assumption | decide) (by decide) (by decide) (by first | exact wx_st | exact wx_mk | exact wx_lv | exact wx_us | exact wx_A | exact wx_P | exact wx_cl | exact wx_pr | exact wx_va | exact wx_si | exact wx_wk) ?_
        refine am_iload_n (i := 2) dC_alikeOrItself_46 rfl rfl ?_
        refine am_iret (st := []) rfl rfl dC_alikeOrItself_47 ?_
        exact kf i (by omega) (by grind) cs hw
      · refine am_if_eq_T (tgt := 48) dC_alikeOrItself_32 (by decide) (by decide) ?_
        refine am_iinc dC_alikeOrItself_48 rfl (by first | exact nI_1 _ | exact pk_m1 _ | rfl) (by decide) ?_
        refine am_goto (tgt := 2) dC_alikeOrItself_51 (by decide) ?_
        exact ih (i + 1) (by omega) (fun w hw' => by
          rcases Nat.lt_or_ge w i with q | q
          · exact hw w q
          · have e : w = i := by omega
            subst e
            grind)
set_option maxRecDepth 100000 in
set_option maxHeartbeats 4000000 in
theorem cC_alikeOrItself {g : am_G} {d : Nat} {Q : Option am_V → am_H → Prop} {Y : Nat → Nat → Nat → am_V} {A P : Nat → Nat → Int32} {st mk lv : Nat → Int32} {cl pr : Nat → Nat → Int32} {us : Nat → Int32} {va si wk : Int32} {v : Nat} (hv : v < 28) (kf : ∀ u, u < v → st u = nI u → q_like P u v → (∀ w, w < u → ¬ (st w = nI w ∧ q_like P w v)) → Q (some (am_I (nI u))) (hm (xc A P st mk lv cl pr (upd us 6 (us 6 + 1)) va si wk) Y)) (kn : (∀ w, w < v → ¬ (st w = nI w ∧ q_like P w v)) → Q (some (am_I (nI v))) (hm (xc A P st mk lv cl pr us va si wk) Y)) : am_C g mC_alikeOrItself (d + 2) 0 0 [am_O 0 0, am_I (nI v)] (hm (xc A P st mk lv cl pr us va si wk) Y) Q := by
  refine am_enter (lv := [some (am_O 0 0), some (am_I (nI v)), none]) rfl rfl (am_cat1 rfl) (Nat.le_of_ble_eq_true rfl) ?_
  refine am_iconst (v := 0) dC_alikeOrItself_0 (by decide) ?_
  refine am_istore_n (i := 2) dC_alikeOrItself_1 rfl (by decide) ?_
  exact lpC_alike hv kf kn v 0 (by omega) (fun w hw => absurd hw (by omega))
set_option maxRecDepth 100000 in
set_option maxHeartbeats 4000000 in
theorem cC_replaceArguments {g : am_G} {d : Nat} {Q : Option am_V → am_H → Prop} {Y : Nat → Nat → Nat → am_V} {A P : Nat → Nat → Int32} {st mk lv : Nat → Int32} {cl pr : Nat → Nat → Int32} {us : Nat → Int32} {va si wk : Int32} {v : Nat} (hv : v < 28) (h3 : q_arg (P v 3) v) (h4 : q_arg (P v 4) v) (k : ∀ T, T = q_rep st P v → Q none (hm (xc A T st mk lv cl pr us va si wk) Y)) : am_C g mC_replaceArguments (d + 1) 0 0 [am_O 0 0, am_O 9 v] (hm (xc A P st mk lv cl pr us va si wk) Y) Q := by
  refine am_enter (lv := [some (am_O 0 0), some (am_O 9 v), none]) rfl rfl (am_cat1 rfl) (Nat.le_of_ble_eq_true rfl) ?_
  refine am_aload_n (i := 1) dC_replaceArguments_0 rfl rfl ?_
  refine am_getf dC_replaceArguments_1 flC_132 (by first | rfl | exact sk8 (by omega) | exact sk9 (by omega) | exact sk10 (by omega) | exact sk11 (by omega)) rfl ?_
  refine am_iconst (v := (-1)) dC_replaceArguments_4 (by decide) ?_
  refine am_icmp_eq (tgt := 21) dC_replaceArguments_5 (by decide) (fun c5 => ?_) (fun c5 => ?_)
  · refine am_aload_n (i := 1) dC_replaceArguments_21 rfl rfl ?_
    refine am_getf dC_replaceArguments_22 flC_135 (by first | rfl | exact sk8 (by omega) | exact sk9 (by omega) | exact sk10 (by omega) | exact sk11 (by omega)) (by first | exact congrArg am_I (up2_eq _ _ _ _) | exact congrArg am_I ((up2_k (by decide)).trans (up2_eq _ _ _ _)) | exact congrArg am_I ((up2_k (by decide)).trans (up2_k (by decide))) | exact congrArg am_I (up2_k (by decide)) | rfl) ?_
    refine am_iconst (v := (-1)) dC_replaceArguments_25 (by decide) ?_
    refine am_icmp_eq (tgt := 42) dC_replaceArguments_26 (by decide) (fun c26 => ?_) (fun c26 => ?_)
    · refine am_aload_n (i := 1) dC_replaceArguments_42 rfl rfl ?_
      refine am_callV (ac' := 0) (as' := 0) (xs := []) dC_replaceArguments_43 lkC_165 (by first | rfl | exact sk8 (by omega) | exact sk9 (by omega) | exact sk10 (by omega) | exact sk11 (by omega)) rfl rfl rfl rfl (Nat.le_of_ble_eq_true rfl) rfl rfl (cO_takesPairs hv (fun cs => ?_) (fun cs => ?_))
      · refine am_if_eq_F (tgt := 78) dC_replaceArguments_46 (by decide) (by decide) ?_
        refine am_aload_n (i := 1) dC_replaceArguments_49 rfl rfl ?_
        refine am_getf dC_replaceArguments_50 flC_132 (by first | rfl | exact sk8 (by omega) | exact sk9 (by omega) | exact sk10 (by omega) | exact sk11 (by omega)) (by first | exact congrArg am_I (up2_eq _ _ _ _) | exact congrArg am_I ((up2_k (by decide)).trans (up2_eq _ _ _ _)) | exact congrArg am_I ((up2_k (by decide)).trans (up2_k (by decide))) | exact congrArg am_I (up2_k (by decide)) | rfl) ?_
        refine am_aload_n (i := 1) dC_replaceArguments_53 rfl rfl ?_
        refine am_getf dC_replaceArguments_54 flC_135 (by first | rfl | exact sk8 (by omega) | exact sk9 (by omega) | exact sk10 (by omega) | exact sk11 (by omega)) (by first | exact congrArg am_I (up2_eq _ _ _ _) | exact congrArg am_I ((up2_k (by decide)).trans (up2_eq _ _ _ _)) | exact congrArg am_I ((up2_k (by decide)).trans (up2_k (by decide))) | exact congrArg am_I (up2_k (by decide)) | rfl) ?_
        refine am_icmp_le (tgt := 78) dC_replaceArguments_57 (by decide) (fun c57 => ?_) (fun c57 => ?_)
        · refine am_vret (st := []) rfl dC_replaceArguments_78 ?_
          refine k _ ?_
          unfold q_rep
          funext i m
          unfold q_sw q_r3 q_r4
          unfold up2 at *
          grind
        · refine am_aload_n (i := 1) dC_replaceArguments_60 rfl rfl ?_
          refine am_getf dC_replaceArguments_61 flC_132 (by first | rfl | exact sk8 (by omega) | exact sk9 (by omega) | exact sk10 (by omega) | exact sk11 (by omega)) (by first | exact congrArg am_I (up2_eq _ _ _ _) | exact congrArg am_I ((up2_k (by decide)).trans (up2_eq _ _ _ _)) | exact congrArg am_I ((up2_k (by decide)).trans (up2_k (by decide))) | exact congrArg am_I (up2_k (by decide)) | rfl) ?_
          refine am_istore_n (i := 2) dC_replaceArguments_64 rfl (by decide) ?_
          refine am_aload_n (i := 1) dC_replaceArguments_65 rfl rfl ?_
          refine am_aload_n (i := 1) dC_replaceArguments_66 rfl rfl ?_
          refine am_getf dC_replaceArguments_67 flC_135 (by first | rfl | exact sk8 (by omega) | exact sk9 (by omega) | exact sk10 (by omega) | exact sk11 (by omega)) (by first | exact congrArg am_I (up2_eq _ _ _ _) | exact congrArg am_I ((up2_k (by decide)).trans (up2_eq _ _ _ _)) | exact congrArg am_I ((up2_k (by decide)).trans (up2_k (by decide))) | exact congrArg am_I (up2_k (by decide)) | rfl) ?_
          refine am_putf' dC_replaceArguments_70 flC_132 (by first | rfl | exact sk8 (by omega) | exact sk9 (by omega) | exact sk10 (by omega) | exact sk11 (by omega)) rfl (fun _ => ⟨rfl, rfl⟩) (by first | exact wx_st | exact wx_mk | exact wx_lv | exact wx_us | exact wx_A | exact wx_P | exact wx_cl | exact wx_pr | exact wx_va | exact wx_si | exact wx_wk) ?_
          refine am_aload_n (i := 1) dC_replaceArguments_73 rfl rfl ?_
          refine am_iload_n (i := 2) dC_replaceArguments_74 rfl rfl ?_
          refine am_putf' dC_replaceArguments_75 flC_135 (by first | rfl | exact sk8 (by omega) | exact sk9 (by omega) | exact sk10 (by omega) | exact sk11 (by omega)) rfl (fun _ => ⟨rfl, rfl⟩) (by first | exact wx_st | exact wx_mk | exact wx_lv | exact wx_us | exact wx_A | exact wx_P | exact wx_cl | exact wx_pr | exact wx_va | exact wx_si | exact wx_wk) ?_
          refine am_vret (st := []) rfl dC_replaceArguments_78 ?_
          refine k _ ?_
          unfold q_rep
          funext i m
          unfold q_sw q_r3 q_r4
          unfold up2 at *
          grind
      · refine am_if_eq_T (tgt := 78) dC_replaceArguments_46 (by decide) (by decide) ?_
        refine am_vret (st := []) rfl dC_replaceArguments_78 ?_
        refine k _ ?_
        unfold q_rep
        funext i m
        unfold q_sw q_r3 q_r4
        unfold up2 at *
        grind
    · obtain ⟨g4, e4⟩ := h4.ix c26 (by omega)
      refine am_aload_n (i := 1) dC_replaceArguments_29 rfl rfl ?_
      refine am_aload_n (i := 0) dC_replaceArguments_30 rfl rfl ?_
      refine am_getf dC_replaceArguments_31 flC_18 (by first | rfl | exact sk8 (by omega) | exact sk9 (by omega) | exact sk10 (by omega) | exact sk11 (by omega)) rfl ?_
      refine am_aload_n (i := 1) dC_replaceArguments_34 rfl rfl ?_
      refine am_getf dC_replaceArguments_35 flC_135 (by first | rfl | exact sk8 (by omega) | exact sk9 (by omega) | exact sk10 (by omega) | exact sk11 (by omega)) (by first | exact congrArg am_I (up2_eq _ _ _ _) | exact congrArg am_I ((up2_k (by decide)).trans (up2_eq _ _ _ _)) | exact congrArg am_I ((up2_k (by decide)).trans (up2_k (by decide))) | exact congrArg am_I (up2_k (by decide)) | rfl) ?_
      refine am_iald dC_replaceArguments_38 (by first | rfl | exact sk8 (by omega) | exact sk9 (by omega) | exact sk10 (by omega) | exact sk11 (by omega)) e4 (by first | omega | assumption | decide) (by decide) (by decide) rfl ?_
      refine am_putf' dC_replaceArguments_39 flC_135 (by first | rfl | exact sk8 (by omega) | exact sk9 (by omega) | exact sk10 (by omega) | exact sk11 (by omega)) rfl (fun _ => ⟨rfl, rfl⟩) (by first | exact wx_st | exact wx_mk | exact wx_lv | exact wx_us | exact wx_A | exact wx_P | exact wx_cl | exact wx_pr | exact wx_va | exact wx_si | exact wx_wk) ?_
      refine am_aload_n (i := 1) dC_replaceArguments_42 rfl rfl ?_
      refine am_callV (ac' := 0) (as' := 0) (xs := []) dC_replaceArguments_43 lkC_165 (by first | rfl | exact sk8 (by omega) | exact sk9 (by omega) | exact sk10 (by omega) | exact sk11 (by omega)) rfl rfl rfl rfl (Nat.le_of_ble_eq_true rfl) rfl rfl (cO_takesPairs hv (fun cs => ?_) (fun cs => ?_))
      · refine am_if_eq_F (tgt := 78) dC_replaceArguments_46 (by decide) (by decide) ?_
        refine am_aload_n (i := 1) dC_replaceArguments_49 rfl rfl ?_
        refine am_getf dC_replaceArguments_50 flC_132 (by first | rfl | exact sk8 (by omega) | exact sk9 (by omega) | exact sk10 (by omega) | exact sk11 (by omega)) (by first | exact congrArg am_I (up2_eq _ _ _ _) | exact congrArg am_I ((up2_k (by decide)).trans (up2_eq _ _ _ _)) | exact congrArg am_I ((up2_k (by decide)).trans (up2_k (by decide))) | exact congrArg am_I (up2_k (by decide)) | rfl) ?_
        refine am_aload_n (i := 1) dC_replaceArguments_53 rfl rfl ?_
        refine am_getf dC_replaceArguments_54 flC_135 (by first | rfl | exact sk8 (by omega) | exact sk9 (by omega) | exact sk10 (by omega) | exact sk11 (by omega)) (by first | exact congrArg am_I (up2_eq _ _ _ _) | exact congrArg am_I ((up2_k (by decide)).trans (up2_eq _ _ _ _)) | exact congrArg am_I ((up2_k (by decide)).trans (up2_k (by decide))) | exact congrArg am_I (up2_k (by decide)) | rfl) ?_
        refine am_icmp_le (tgt := 78) dC_replaceArguments_57 (by decide) (fun c57 => ?_) (fun c57 => ?_)
        · refine am_vret (st := []) rfl dC_replaceArguments_78 ?_
          refine k _ ?_
          unfold q_rep
          funext i m
          unfold q_sw q_r3 q_r4
          unfold up2 at *
          grind
        · refine am_aload_n (i := 1) dC_replaceArguments_60 rfl rfl ?_
          refine am_getf dC_replaceArguments_61 flC_132 (by first | rfl | exact sk8 (by omega) | exact sk9 (by omega) | exact sk10 (by omega) | exact sk11 (by omega)) (by first | exact congrArg am_I (up2_eq _ _ _ _) | exact congrArg am_I ((up2_k (by decide)).trans (up2_eq _ _ _ _)) | exact congrArg am_I ((up2_k (by decide)).trans (up2_k (by decide))) | exact congrArg am_I (up2_k (by decide)) | rfl) ?_
          refine am_istore_n (i := 2) dC_replaceArguments_64 rfl (by decide) ?_
          refine am_aload_n (i := 1) dC_replaceArguments_65 rfl rfl ?_
          refine am_aload_n (i := 1) dC_replaceArguments_66 rfl rfl ?_
          refine am_getf dC_replaceArguments_67 flC_135 (by first | rfl | exact sk8 (by omega) | exact sk9 (by omega) | exact sk10 (by omega) | exact sk11 (by omega)) (by first | exact congrArg am_I (up2_eq _ _ _ _) | exact congrArg am_I ((up2_k (by decide)).trans (up2_eq _ _ _ _)) | exact congrArg am_I ((up2_k (by decide)).trans (up2_k (by decide))) | exact congrArg am_I (up2_k (by decide)) | rfl) ?_
          refine am_putf' dC_replaceArguments_70 flC_132 (by first | rfl | exact sk8 (by omega) | exact sk9 (by omega) | exact sk10 (by omega) | exact sk11 (by omega)) rfl (fun _ => ⟨rfl, rfl⟩) (by first | exact wx_st | exact wx_mk | exact wx_lv | exact wx_us | exact wx_A | exact wx_P | exact wx_cl | exact wx_pr | exact wx_va | exact wx_si | exact wx_wk) ?_
          refine am_aload_n (i := 1) dC_replaceArguments_73 rfl rfl ?_
          refine am_iload_n (i := 2) dC_replaceArguments_74 rfl rfl ?_
          refine am_putf' dC_replaceArguments_75 flC_135 (by first | rfl | exact sk8 (by omega) | exact sk9 (by omega) | exact sk10 (by omega) | exact sk11 (by omega)) rfl (fun _ => ⟨rfl, rfl⟩) (by first | exact wx_st | exact wx_mk | exact wx_lv | exact wx_us | exact wx_A | exact wx_P | exact wx_cl | exact wx_pr | exact wx_va | exact wx_si | exact wx_wk) ?_
          refine am_vret (st := []) rfl dC_replaceArguments_78 ?_
          refine k _ ?_
          unfold q_rep
          funext i m
          unfold q_sw q_r3 q_r4
          unfold up2 at *
          grind
      · refine am_if_eq_T (tgt := 78) dC_replaceArguments_46 (by decide) (by decide) ?_
        refine am_vret (st := []) rfl dC_replaceArguments_78 ?_
        refine k _ ?_
        unfold q_rep
        funext i m
        unfold q_sw q_r3 q_r4
        unfold up2 at *
        grind
  · obtain ⟨g3, e3⟩ := h3.ix c5 (by omega)
    refine am_aload_n (i := 1) dC_replaceArguments_8 rfl rfl ?_
    refine am_aload_n (i := 0) dC_replaceArguments_9 rfl rfl ?_
    refine am_getf dC_replaceArguments_10 flC_18 (by first | rfl | exact sk8 (by omega) | exact sk9 (by omega) | exact sk10 (by omega) | exact sk11 (by omega)) rfl ?_
    refine am_aload_n (i := 1) dC_replaceArguments_13 rfl rfl ?_
    refine am_getf dC_replaceArguments_14 flC_132 (by first | rfl | exact sk8 (by omega) | exact sk9 (by omega) | exact sk10 (by omega) | exact sk11 (by omega)) rfl ?_
    refine am_iald dC_replaceArguments_17 (by first | rfl | exact sk8 (by omega) | exact sk9 (by omega) | exact sk10 (by omega) | exact sk11 (by omega)) e3 (by first | omega | assumption | decide) (by decide) (by decide) rfl ?_
    refine am_putf' dC_replaceArguments_18 flC_132 (by first | rfl | exact sk8 (by omega) | exact sk9 (by omega) | exact sk10 (by omega) | exact sk11 (by omega)) rfl (fun _ => ⟨rfl, rfl⟩) (by first | exact wx_st | exact wx_mk | exact wx_lv | exact wx_us | exact wx_A | exact wx_P | exact wx_cl | exact wx_pr | exact wx_va | exact wx_si | exact wx_wk) ?_
    refine am_aload_n (i := 1) dC_replaceArguments_21 rfl rfl ?_
    refine am_getf dC_replaceArguments_22 flC_135 (by first | rfl | exact sk8 (by omega) | exact sk9 (by omega) | exact sk10 (by omega) | exact sk11 (by omega)) (by first | exact congrArg am_I (up2_eq _ _ _ _) | exact congrArg am_I ((up2_k (by decide)).trans (up2_eq _ _ _ _)) | exact congrArg am_I ((up2_k (by decide)).trans (up2_k (by decide))) | exact congrArg am_I (up2_k (by decide)) | rfl) ?_
    refine am_iconst (v := (-1)) dC_replaceArguments_25 (by decide) ?_
    refine am_icmp_eq (tgt := 42) dC_replaceArguments_26 (by decide) (fun c26 => ?_) (fun c26 => ?_)
    · refine am_aload_n (i := 1) dC_replaceArguments_42 rfl rfl ?_
      refine am_callV (ac' := 0) (as' := 0) (xs := []) dC_replaceArguments_43 lkC_165 (by first | rfl | exact sk8 (by omega) | exact sk9 (by omega) | exact sk10 (by omega) | exact sk11 (by omega)) rfl rfl rfl rfl (Nat.le_of_ble_eq_true rfl) rfl rfl (cO_takesPairs hv (fun cs => ?_) (fun cs => ?_))
      · refine am_if_eq_F (tgt := 78) dC_replaceArguments_46 (by decide) (by decide) ?_
        refine am_aload_n (i := 1) dC_replaceArguments_49 rfl rfl ?_
        refine am_getf dC_replaceArguments_50 flC_132 (by first | rfl | exact sk8 (by omega) | exact sk9 (by omega) | exact sk10 (by omega) | exact sk11 (by omega)) (by first | exact congrArg am_I (up2_eq _ _ _ _) | exact congrArg am_I ((up2_k (by decide)).trans (up2_eq _ _ _ _)) | exact congrArg am_I ((up2_k (by decide)).trans (up2_k (by decide))) | exact congrArg am_I (up2_k (by decide)) | rfl) ?_
        refine am_aload_n (i := 1) dC_replaceArguments_53 rfl rfl ?_
        refine am_getf dC_replaceArguments_54 flC_135 (by first | rfl | exact sk8 (by omega) | exact sk9 (by omega) | exact sk10 (by omega) | exact sk11 (by omega)) (by first | exact congrArg am_I (up2_eq _ _ _ _) | exact congrArg am_I ((up2_k (by decide)).trans (up2_eq _ _ _ _)) | exact congrArg am_I ((up2_k (by decide)).trans (up2_k (by decide))) | exact congrArg am_I (up2_k (by decide)) | rfl) ?_
        refine am_icmp_le (tgt := 78) dC_replaceArguments_57 (by decide) (fun c57 => ?_) (fun c57 => ?_)
        · refine am_vret (st := []) rfl dC_replaceArguments_78 ?_
          refine k _ ?_
          unfold q_rep
          funext i m
          unfold q_sw q_r3 q_r4
          unfold up2 at *
          grind
        · refine am_aload_n (i := 1) dC_replaceArguments_60 rfl rfl ?_
          refine am_getf dC_replaceArguments_61 flC_132 (by first | rfl | exact sk8 (by omega) | exact sk9 (by omega) | exact sk10 (by omega) | exact sk11 (by omega)) (by first | exact congrArg am_I (up2_eq _ _ _ _) | exact congrArg am_I ((up2_k (by decide)).trans (up2_eq _ _ _ _)) | exact congrArg am_I ((up2_k (by decide)).trans (up2_k (by decide))) | exact congrArg am_I (up2_k (by decide)) | rfl) ?_
          refine am_istore_n (i := 2) dC_replaceArguments_64 rfl (by decide) ?_
          refine am_aload_n (i := 1) dC_replaceArguments_65 rfl rfl ?_
          refine am_aload_n (i := 1) dC_replaceArguments_66 rfl rfl ?_
          refine am_getf dC_replaceArguments_67 flC_135 (by first | rfl | exact sk8 (by omega) | exact sk9 (by omega) | exact sk10 (by omega) | exact sk11 (by omega)) (by first | exact congrArg am_I (up2_eq _ _ _ _) | exact congrArg am_I ((up2_k (by decide)).trans (up2_eq _ _ _ _)) | exact congrArg am_I ((up2_k (by decide)).trans (up2_k (by decide))) | exact congrArg am_I (up2_k (by decide)) | rfl) ?_
          refine am_putf' dC_replaceArguments_70 flC_132 (by first | rfl | exact sk8 (by omega) | exact sk9 (by omega) | exact sk10 (by omega) | exact sk11 (by omega)) rfl (fun _ => ⟨rfl, rfl⟩) (by first | exact wx_st | exact wx_mk | exact wx_lv | exact wx_us | exact wx_A | exact wx_P | exact wx_cl | exact wx_pr | exact wx_va | exact wx_si | exact wx_wk) ?_
          refine am_aload_n (i := 1) dC_replaceArguments_73 rfl rfl ?_
          refine am_iload_n (i := 2) dC_replaceArguments_74 rfl rfl ?_
          refine am_putf' dC_replaceArguments_75 flC_135 (by first | rfl | exact sk8 (by omega) | exact sk9 (by omega) | exact sk10 (by omega) | exact sk11 (by omega)) rfl (fun _ => ⟨rfl, rfl⟩) (by first | exact wx_st | exact wx_mk | exact wx_lv | exact wx_us | exact wx_A | exact wx_P | exact wx_cl | exact wx_pr | exact wx_va | exact wx_si | exact wx_wk) ?_
          refine am_vret (st := []) rfl dC_replaceArguments_78 ?_
          refine k _ ?_
          unfold q_rep
          funext i m
          unfold q_sw q_r3 q_r4
          unfold up2 at *
          grind
      · refine am_if_eq_T (tgt := 78) dC_replaceArguments_46 (by decide) (by decide) ?_
        refine am_vret (st := []) rfl dC_replaceArguments_78 ?_
        refine k _ ?_
        unfold q_rep
        funext i m
        unfold q_sw q_r3 q_r4
        unfold up2 at *
        grind
    · obtain ⟨g4, e4⟩ := h4.ix c26 (by omega)
      refine am_aload_n (i := 1) dC_replaceArguments_29 rfl rfl ?_
      refine am_aload_n (i := 0) dC_replaceArguments_30 rfl rfl ?_
      refine am_getf dC_replaceArguments_31 flC_18 (by first | rfl | exact sk8 (by omega) | exact sk9 (by omega) | exact sk10 (by omega) | exact sk11 (by omega)) rfl ?_
      refine am_aload_n (i := 1) dC_replaceArguments_34 rfl rfl ?_
      refine am_getf dC_replaceArguments_35 flC_135 (by first | rfl | exact sk8 (by omega) | exact sk9 (by omega) | exact sk10 (by omega) | exact sk11 (by omega)) (by first | exact congrArg am_I (up2_eq _ _ _ _) | exact congrArg am_I ((up2_k (by decide)).trans (up2_eq _ _ _ _)) | exact congrArg am_I ((up2_k (by decide)).trans (up2_k (by decide))) | exact congrArg am_I (up2_k (by decide)) | rfl) ?_
      refine am_iald dC_replaceArguments_38 (by first | rfl | exact sk8 (by omega) | exact sk9 (by omega) | exact sk10 (by omega) | exact sk11 (by omega)) e4 (by first | omega | assumption | decide) (by decide) (by decide) rfl ?_
      refine am_putf' dC_replaceArguments_39 flC_135 (by first | rfl | exact sk8 (by omega) | exact sk9 (by omega) | exact sk10 (by omega) | exact sk11 (by omega)) rfl (fun _ => ⟨rfl, rfl⟩) (by first | exact wx_st | exact wx_mk | exact wx_lv | exact wx_us | exact wx_A | exact wx_P | exact wx_cl | exact wx_pr | exact wx_va | exact wx_si | exact wx_wk) ?_
      refine am_aload_n (i := 1) dC_replaceArguments_42 rfl rfl ?_
      refine am_callV (ac' := 0) (as' := 0) (xs := []) dC_replaceArguments_43 lkC_165 (by first | rfl | exact sk8 (by omega) | exact sk9 (by omega) | exact sk10 (by omega) | exact sk11 (by omega)) rfl rfl rfl rfl (Nat.le_of_ble_eq_true rfl) rfl rfl (cO_takesPairs hv (fun cs => ?_) (fun cs => ?_))
      · refine am_if_eq_F (tgt := 78) dC_replaceArguments_46 (by decide) (by decide) ?_
        refine am_aload_n (i := 1) dC_replaceArguments_49 rfl rfl ?_
        refine am_getf dC_replaceArguments_50 flC_132 (by first | rfl | exact sk8 (by omega) | exact sk9 (by omega) | exact sk10 (by omega) | exact sk11 (by omega)) (by first | exact congrArg am_I (up2_eq _ _ _ _) | exact congrArg am_I ((up2_k (by decide)).trans (up2_eq _ _ _ _)) | exact congrArg am_I ((up2_k (by decide)).trans (up2_k (by decide))) | exact congrArg am_I (up2_k (by decide)) | rfl) ?_
        refine am_aload_n (i := 1) dC_replaceArguments_53 rfl rfl ?_
        refine am_getf dC_replaceArguments_54 flC_135 (by first | rfl | exact sk8 (by omega) | exact sk9 (by omega) | exact sk10 (by omega) | exact sk11 (by omega)) (by first | exact congrArg am_I (up2_eq _ _ _ _) | exact congrArg am_I ((up2_k (by decide)).trans (up2_eq _ _ _ _)) | exact congrArg am_I ((up2_k (by decide)).trans (up2_k (by decide))) | exact congrArg am_I (up2_k (by decide)) | rfl) ?_
        refine am_icmp_le (tgt := 78) dC_replaceArguments_57 (by decide) (fun c57 => ?_) (fun c57 => ?_)
        · refine am_vret (st := []) rfl dC_replaceArguments_78 ?_
          refine k _ ?_
          unfold q_rep
          funext i m
          unfold q_sw q_r3 q_r4
          unfold up2 at *
          grind
        · refine am_aload_n (i := 1) dC_replaceArguments_60 rfl rfl ?_
          refine am_getf dC_replaceArguments_61 flC_132 (by first | rfl | exact sk8 (by omega) | exact sk9 (by omega) | exact sk10 (by omega) | exact sk11 (by omega)) (by first | exact congrArg am_I (up2_eq _ _ _ _) | exact congrArg am_I ((up2_k (by decide)).trans (up2_eq _ _ _ _)) | exact congrArg am_I ((up2_k (by decide)).trans (up2_k (by decide))) | exact congrArg am_I (up2_k (by decide)) | rfl) ?_
          refine am_istore_n (i := 2) dC_replaceArguments_64 rfl (by decide) ?_
          refine am_aload_n (i := 1) dC_replaceArguments_65 rfl rfl ?_
          refine am_aload_n (i := 1) dC_replaceArguments_66 rfl rfl ?_
          refine am_getf dC_replaceArguments_67 flC_135 (by first | rfl | exact sk8 (by omega) | exact sk9 (by omega) | exact sk10 (by omega) | exact sk11 (by omega)) (by first | exact congrArg am_I (up2_eq _ _ _ _) | exact congrArg am_I ((up2_k (by decide)).trans (up2_eq _ _ _ _)) | exact congrArg am_I ((up2_k (by decide)).trans (up2_k (by decide))) | exact congrArg am_I (up2_k (by decide)) | rfl) ?_
          refine am_putf' dC_replaceArguments_70 flC_132 (by first | rfl | exact sk8 (by omega) | exact sk9 (by omega) | exact sk10 (by omega) | exact sk11 (by omega)) rfl (fun _ => ⟨rfl, rfl⟩) (by first | exact wx_st | exact wx_mk | exact wx_lv | exact wx_us | exact wx_A | exact wx_P | exact wx_cl | exact wx_pr | exact wx_va | exact wx_si | exact wx_wk) ?_
          refine am_aload_n (i := 1) dC_replaceArguments_73 rfl rfl ?_
          refine am_iload_n (i := 2) dC_replaceArguments_74 rfl rfl ?_
          refine am_putf' dC_replaceArguments_75 flC_135 (by first | rfl | exact sk8 (by omega) | exact sk9 (by omega) | exact sk10 (by omega) | exact sk11 (by omega)) rfl (fun _ => ⟨rfl, rfl⟩) (by first | exact wx_st | exact wx_mk | exact wx_lv | exact wx_us | exact wx_A | exact wx_P | exact wx_cl | exact wx_pr | exact wx_va | exact wx_si | exact wx_wk) ?_
          refine am_vret (st := []) rfl dC_replaceArguments_78 ?_
          refine k _ ?_
          unfold q_rep
          funext i m
          unfold q_sw q_r3 q_r4
          unfold up2 at *
          grind
      · refine am_if_eq_T (tgt := 78) dC_replaceArguments_46 (by decide) (by decide) ?_
        refine am_vret (st := []) rfl dC_replaceArguments_78 ?_
        refine k _ ?_
        unfold q_rep
        funext i m
        unfold q_sw q_r3 q_r4
        unfold up2 at *
        grind
end
section
/-! ===== one step of simplifying, pure ===== -/
def q_spt (P : Nat → Nat → Int32) (v : Nat) (x : Int32) : Nat → Nat → Int32 := up2 (up2 (up2 (up2 (up2 P v 0 1) v 3 (-1)) v 4 (-1)) v 5 x) v 6 0
def q_alr (st : Nat → Int32) (P : Nat → Nat → Int32) (v : Nat) : Nat → Nat → Nat
  | 0, _ => v
  | j + 1, i => if st i = nI i ∧ q_like P i v then i else q_alr st P v j (i + 1)
def q_al (st : Nat → Int32) (P : Nat → Nat → Int32) (v : Nat) : Nat := q_alr st P v v 0
theorem q_alr_hit {st : Nat → Int32} {P : Nat → Nat → Int32} {v u : Nat} (hl : st u = nI u ∧ q_like P u v) : ∀ (j i : Nat), i ≤ u → u < i + j → (∀ w, i ≤ w → w < u → ¬ (st w = nI w ∧ q_like P w v)) → q_alr st P v j i = u := by
  intro j
  induction j with
  | zero => intro i h1 h2; omega
  | succ j ih =>
    intro i h1 h2 hn
    unfold q_alr
    by_cases e : i = u
    · subst e
      rw [if_pos hl]
    · rw [if_neg (hn i (Nat.le_refl _) (by omega))]
      exact ih (i + 1) (by omega) (by omega) (fun w a b => hn w (by omega) b)
theorem q_alr_none {st : Nat → Int32} {P : Nat → Nat → Int32} {v : Nat} : ∀ (j i : Nat), (∀ w, i ≤ w → w < i + j → ¬ (st w = nI w ∧ q_like P w v)) → q_alr st P v j i = v := by
  intro j
  induction j with
  | zero => intro i _; rfl
  | succ j ih =>
    intro i hn
    unfold q_alr
    rw [if_neg (hn i (Nat.le_refl _) (by omega))]
    exact ih (i + 1) (fun w a b => hn w (by omega) (by omega))
theorem q_al_hit {st : Nat → Int32} {P : Nat → Nat → Int32} {v u : Nat} (hu : u < v) (hs : st u = nI u) (hl : q_like P u v) (hn : ∀ w, w < u → ¬ (st w = nI w ∧ q_like P w v)) : q_al st P v = u := q_alr_hit ⟨hs, hl⟩ v 0 (by omega) (by omega) (fun w _ b => hn w b)
theorem q_al_none {st : Nat → Int32} {P : Nat → Nat → Int32} {v : Nat} (hn : ∀ w, w < v → ¬ (st w = nI w ∧ q_like P w v)) : q_al st P v = v := q_alr_none v 0 (fun w _ b => hn w (by omega))
abbrev q_z3 (P : Nat → Nat → Int32) (v : Nat) : Prop := P v 0 = 4 ∧ (q_spl P (P v 3) 0 ∨ q_spl P (P v 4) 0)
abbrev q_z4 (P : Nat → Nat → Int32) (v : Nat) : Prop := P v 0 = 5 ∧ P v 3 = P v 4
def q_rul (P : Nat → Nat → Int32) (v : Nat) : Nat := if q_only P v then 1 else if ¬ q_neut P v = -1 then 2 else if q_z3 P v then 3 else if q_z4 P v then 4 else if ¬ q_twi P v = -1 then 5 else 0
def q_tab (P : Nat → Nat → Int32) (v : Nat) : Nat → Nat → Int32 := if q_rul P v = 1 then q_spt P v (q_foldV P v) else if q_rul P v = 3 then q_spt P v 0 else if q_rul P v = 5 ∧ ¬ q_shp P v (ix (q_twi P v)) then up2 P v 3 (q_twi P v) else P
def q_dir (P : Nat → Nat → Int32) (v : Nat) : Int32 := if q_rul P v = 2 then q_neut P v else if q_rul P v = 4 then P v 3 else if q_rul P v = 5 ∧ q_shp P v (ix (q_twi P v)) then q_twi P v else -1
def q_std (st : Nat → Int32) (P : Nat → Nat → Int32) (v : Nat) : Int32 := if q_dir P v = -1 then nI (q_al st (q_tab P v) v) else q_dir P v
def q_us1 (P : Nat → Nat → Int32) (us : Nat → Int32) (v : Nat) : Nat → Int32 := if q_rul P v = 0 then us else upd us (q_rul P v) (us (q_rul P v) + 1)
def q_use (st : Nat → Int32) (P : Nat → Nat → Int32) (us : Nat → Int32) (v : Nat) : Nat → Int32 := if q_dir P v = -1 ∧ ¬ q_al st (q_tab P v) v = v then upd (q_us1 P us v) 6 (q_us1 P us v 6 + 1) else q_us1 P us v
theorem ru1 {P : Nat → Nat → Int32} {v : Nat} (h : q_only P v) : q_rul P v = 1 := by unfold q_rul; rw [if_pos h]
theorem ru2 {P : Nat → Nat → Int32} {v : Nat} (h1 : ¬ q_only P v) (h2 : ¬ q_neut P v = -1) : q_rul P v = 2 := by unfold q_rul; rw [if_neg h1, if_pos h2]
theorem ru3 {P : Nat → Nat → Int32} {v : Nat} (h1 : ¬ q_only P v) (h2 : q_neut P v = -1) (h3 : q_z3 P v) : q_rul P v = 3 := by unfold q_rul; rw [if_neg h1, if_neg (fun q => q h2), if_pos h3]
theorem ru4 {P : Nat → Nat → Int32} {v : Nat} (h1 : ¬ q_only P v) (h2 : q_neut P v = -1) (h3 : ¬ q_z3 P v) (h4 : q_z4 P v) : q_rul P v = 4 := by unfold q_rul; rw [if_neg h1, if_neg (fun q => q h2), if_neg h3, if_pos h4]
theorem ru5 {P : Nat → Nat → Int32} {v : Nat} (h1 : ¬ q_only P v) (h2 : q_neut P v = -1) (h3 : ¬ q_z3 P v) (h4 : ¬ q_z4 P v) (h5 : ¬ q_twi P v = -1) : q_rul P v = 5 := by unfold q_rul; rw [if_neg h1, if_neg (fun q => q h2), if_neg h3, if_neg h4, if_pos h5]
theorem ru0 {P : Nat → Nat → Int32} {v : Nat} (h1 : ¬ q_only P v) (h2 : q_neut P v = -1) (h3 : ¬ q_z3 P v) (h4 : ¬ q_z4 P v) (h5 : q_twi P v = -1) : q_rul P v = 0 := by unfold q_rul; rw [if_neg h1, if_neg (fun q => q h2), if_neg h3, if_neg h4, if_neg (fun q => q h5)]
theorem upd_i {f : Nat → Int32} {k j : Nat} {x : Int32} (h : j ≠ k) : upd f k x j = f j := if_neg h
/-- what a step gives, by its rule -/
theorem q_out {st us : Nat → Int32} {P T : Nat → Nat → Int32} {v r : Nat} {y : Int32} (hr : q_rul P v = r) (ht : q_tab P v = T) (hd : q_dir P v = y) :
    (q_std st P v = if y = -1 then nI (q_al st T v) else y) ∧ (q_use st P us v = if y = -1 ∧ ¬ q_al st T v = v then upd (if r = 0 then us else upd us r (us r + 1)) 6 ((if r = 0 then us else upd us r (us r + 1)) 6 + 1) else (if r = 0 then us else upd us r (us r + 1))) := by
  subst hr; subst ht; subst hd
  exact ⟨rfl, rfl⟩
set_option maxRecDepth 100000 in
set_option maxHeartbeats 4000000 in
theorem cC_standInByRules {g : am_G} {d : Nat} {Q : Option am_V → am_H → Prop} {Y : Nat → Nat → Nat → am_V} {A P : Nat → Nat → Int32} {st mk lv : Nat → Int32} {cl pr : Nat → Nat → Int32} {us : Nat → Int32} {va si wk : Int32} {v : Nat} (hv : v < 28) (h3 : q_arg (P v 3) v) (h4 : q_arg (P v 4) v) (hq3 : 2 < P v 0 → ¬ P v 3 = -1) (hq4 : (P v 0 = 3 ∨ P v 0 = 4 ∨ P v 0 = 5 ∨ P v 0 = 8) → ¬ P v 4 = -1) (hr : ∀ u, u < v → q_arg (P u 3) u) (k : ∀ x T U, x = q_std st P v → T = q_tab P v → U = q_use st P us v → Q (some (am_I x)) (hm (xc A T st mk lv cl pr U va si wk) Y)) : am_C g mC_standInByRules (d + 3) 0 0 [am_O 0 0, am_I (nI v)] (hm (xc A P st mk lv cl pr us va si wk) Y) Q := by
  refine am_enter (lv := [some (am_O 0 0), some (am_I (nI v)), none, none, none]) rfl rfl (am_cat1 rfl) (Nat.le_of_ble_eq_true rfl) ?_
  refine am_aload_n (i := 0) dC_standInByRules_0 rfl rfl ?_
  refine am_getf dC_standInByRules_1 flC_15 (by first | rfl | exact sk8 (by omega) | exact sk9 (by omega) | exact sk10 (by omega) | exact sk11 (by omega)) rfl ?_
  refine am_iload_n (i := 1) dC_standInByRules_4 rfl rfl ?_
  refine am_aald dC_standInByRules_5 (by first | rfl | exact sk8 (by omega) | exact sk9 (by omega) | exact sk10 (by omega) | exact sk11 (by omega)) rfl (by first | omega | assumption | decide) (by decide) (by decide) rfl rfl ?_
  refine am_astore_n (i := 2) dC_standInByRules_6 rfl (by decide) ?_
  refine am_aload_n (i := 0) dC_standInByRules_7 rfl rfl ?_
  refine am_aload_n (i := 2) dC_standInByRules_8 rfl rfl ?_
  refine am_callV (ac' := 0) (as' := 0) (xs := [_]) dC_standInByRules_9 lkC_169 (by first | rfl | exact sk8 (by omega) | exact sk9 (by omega) | exact sk10 (by omega) | exact sk11 (by omega)) rfl rfl rfl rfl (Nat.le_of_ble_eq_true rfl) rfl rfl (cC_hasOnlySplats hv h3 h4 (fun co => ?_) (fun co => ?_))
  · refine am_if_eq_F (tgt := 40) dC_standInByRules_12 (by decide) (by decide) ?_
    refine am_aload_n (i := 0) dC_standInByRules_15 rfl rfl ?_
    refine am_getf dC_standInByRules_16 flC_37 (by first | rfl | exact sk8 (by omega) | exact sk9 (by omega) | exact sk10 (by omega) | exact sk11 (by omega)) rfl ?_
    refine am_iconst (v := 1) dC_standInByRules_19 (by decide) ?_
    refine am_dup2 dC_standInByRules_20 rfl rfl ?_
    refine am_iald dC_standInByRules_21 (by first | rfl | exact sk8 (by omega) | exact sk9 (by omega) | exact sk10 (by omega) | exact sk11 (by omega)) (show (1 : Int32) = nI 1 from rfl) (by first | omega | assumption | decide) (by decide) (by decide) rfl ?_
    refine am_iconst (v := 1) dC_standInByRules_22 (by decide) ?_
    refine am_iadd dC_standInByRules_23 ?_
    refine am_iast' dC_standInByRules_24 (by first | rfl | exact sk8 (by omega) | exact sk9 (by omega) | exact sk10 (by omega) | exact sk11 (by omega)) (show (1 : Int32) = nI 1 from rfl) (by first | omega | assumption | decide) (by decide) (by decide) (by first | exact wx_st | exact wx_mk | exact wx_lv | exact wx_us | exact wx_A | exact wx_P | exact wx_cl | exact wx_pr | exact wx_va | exact wx_si | exact wx_wk) ?_
    refine am_aload_n (i := 2) dC_standInByRules_25 rfl rfl ?_
    refine am_aload_n (i := 0) dC_standInByRules_26 rfl rfl ?_
    refine am_aload_n (i := 2) dC_standInByRules_27 rfl rfl ?_
    refine am_callV (ac' := 0) (as' := 0) (xs := [_]) dC_standInByRules_28 lkC_172 (by first | rfl | exact sk8 (by omega) | exact sk9 (by omega) | exact sk10 (by omega) | exact sk11 (by omega)) rfl rfl rfl rfl (Nat.le_of_ble_eq_true rfl) rfl rfl (cC_foldedCell hv h3 h4 co.1 (fun xf ef => ?_))
    refine am_callV (ac' := 0) (as' := 0) (xs := [_]) dC_standInByRules_31 lkC_175 (by first | rfl | exact sk8 (by omega) | exact sk9 (by omega) | exact sk10 (by omega) | exact sk11 (by omega)) rfl rfl rfl rfl (Nat.le_of_ble_eq_true rfl) rfl rfl (cO_becomeSplat hv ?_)
    refine am_aload_n (i := 0) dC_standInByRules_34 rfl rfl ?_
    refine am_iload_n (i := 1) dC_standInByRules_35 rfl rfl ?_
    refine am_callV (ac' := 0) (as' := 0) (xs := [_]) dC_standInByRules_36 lkC_178 (by first | rfl | exact sk8 (by omega) | exact sk9 (by omega) | exact sk10 (by omega) | exact sk11 (by omega)) rfl rfl rfl rfl (Nat.le_of_ble_eq_true rfl) rfl rfl (cC_alikeOrItself hv (fun u hu hsu hlu hnu => ?_) (fun hnu => ?_))
    · refine am_iret (st := []) rfl rfl dC_standInByRules_39 ?_
      have hr1 : q_rul P v = 1 := ru1 co
      have ht : q_tab P v = q_spt P v xf := by unfold q_tab; rw [if_pos hr1, ← ef]
      have hd : q_dir P v = -1 := by unfold q_dir; rw [if_neg (by omega), if_neg (by omega), if_neg (fun q => by omega)]
      obtain ⟨o1, o2⟩ := q_out (st := st) (us := us) hr1 ht hd
      have ha : q_al st (q_spt P v xf) v = _ := q_al_hit hu hsu hlu hnu
      exact k _ _ _ (by rw [o1, if_pos rfl, ha]) ht.symm (by rw [o2, if_pos ⟨rfl, by rw [ha]; omega⟩]; rfl)
    · refine am_iret (st := []) rfl rfl dC_standInByRules_39 ?_
      have hr1 : q_rul P v = 1 := ru1 co
      have ht : q_tab P v = q_spt P v xf := by unfold q_tab; rw [if_pos hr1, ← ef]
      have hd : q_dir P v = -1 := by unfold q_dir; rw [if_neg (by omega), if_neg (by omega), if_neg (fun q => by omega)]
      obtain ⟨o1, o2⟩ := q_out (st := st) (us := us) hr1 ht hd
      have ha : q_al st (q_spt P v xf) v = _ := q_al_none hnu
      exact k _ _ _ (by rw [o1, if_pos rfl, ha]) ht.symm (by rw [o2, if_neg (fun q => q.2 ha)]; rfl)
  · refine am_if_eq_T (tgt := 40) dC_standInByRules_12 (by decide) (by decide) ?_
    refine am_aload_n (i := 0) dC_standInByRules_40 rfl rfl ?_
    refine am_aload_n (i := 2) dC_standInByRules_41 rfl rfl ?_
    refine am_callV (ac' := 0) (as' := 0) (xs := [_]) dC_standInByRules_42 lkC_181 (by first | rfl | exact sk8 (by omega) | exact sk9 (by omega) | exact sk10 (by omega) | exact sk11 (by omega)) rfl rfl rfl rfl (Nat.le_of_ble_eq_true rfl) rfl rfl (cC_neutralOther hv h3 h4 hq3 hq4 (fun x2 e2 => ?_))
    refine am_istore_n (i := 3) dC_standInByRules_45 rfl (by decide) ?_
    refine am_iload_n (i := 3) dC_standInByRules_46 rfl rfl ?_
    refine am_iconst (v := (-1)) dC_standInByRules_47 (by decide) ?_
    refine am_icmp_eq (tgt := 63) dC_standInByRules_48 (by decide) (fun c48 => ?_) (fun c48 => ?_)
    · refine am_aload_n (i := 2) dC_standInByRules_63 rfl rfl ?_
      refine am_getf dC_standInByRules_64 flC_129 (by first | rfl | exact sk8 (by omega) | exact sk9 (by omega) | exact sk10 (by omega) | exact sk11 (by omega)) rfl ?_
      refine am_iconst (v := 4) dC_standInByRules_67 (by decide) ?_
      refine am_icmp_ne (tgt := 116) dC_standInByRules_68 (by decide) (fun c68 => ?_) (fun c68 => ?_)
      · refine am_aload_n (i := 2) dC_standInByRules_116 rfl rfl ?_
        refine am_getf dC_standInByRules_117 flC_129 (by first | rfl | exact sk8 (by omega) | exact sk9 (by omega) | exact sk10 (by omega) | exact sk11 (by omega)) rfl ?_
        refine am_iconst (v := 5) dC_standInByRules_120 (by decide) ?_
        refine am_icmp_ne (tgt := 150) dC_standInByRules_121 (by decide) (fun c121 => ?_) (fun c121 => ?_)
        · have htw : ¬ P v 3 = -1 ∨ ¬ (P v 0 = 6 ∨ P v 0 = 7 ∨ P v 0 = 11) := by
            by_cases hz : P v 0 = 6 ∨ P v 0 = 7 ∨ P v 0 = 11
            · exact Or.inl (hq3 (by rcases hz with q | q | q <;> exact k2_of _ q (by decide)))
            · exact Or.inr hz
          refine am_aload_n (i := 0) dC_standInByRules_150 rfl rfl ?_
          refine am_aload_n (i := 2) dC_standInByRules_151 rfl rfl ?_
          refine am_callV (ac' := 0) (as' := 0) (xs := [_]) dC_standInByRules_152 lkC_187 (by first | rfl | exact sk8 (by omega) | exact sk9 (by omega) | exact sk10 (by omega) | exact sk11 (by omega)) rfl rfl rfl rfl (Nat.le_of_ble_eq_true rfl) rfl rfl (cC_twiceInner hv h3 h4 htw (fun x5 e5' => ?_))
          have e5 : x5 = q_twi P v := e5'
          refine am_istore (i := 4) dC_standInByRules_155 (by decide) ?_
          refine am_iload (i := 4) dC_standInByRules_157 rfl ?_
          refine am_iconst (v := (-1)) dC_standInByRules_159 (by decide) ?_
          refine am_icmp_eq (tgt := 196) dC_standInByRules_160 (by decide) (fun c160 => ?_) (fun c160 => ?_)
          · refine am_aload_n (i := 0) dC_standInByRules_196 rfl rfl ?_
            refine am_iload_n (i := 1) dC_standInByRules_197 rfl rfl ?_
            refine am_callV (ac' := 0) (as' := 0) (xs := [_]) dC_standInByRules_198 lkC_178 (by first | rfl | exact sk8 (by omega) | exact sk9 (by omega) | exact sk10 (by omega) | exact sk11 (by omega)) rfl rfl rfl rfl (Nat.le_of_ble_eq_true rfl) rfl rfl (cC_alikeOrItself hv (fun u hu hsu hlu hnu => ?_) (fun hnu => ?_))
            · refine am_iret (st := []) rfl rfl dC_standInByRules_201 ?_
              have hr5 : q_rul P v = 0 := ru0 co (e2 ▸ c48) (by grind) (by grind) (e5 ▸ c160)
              have ht : q_tab P v = P := by unfold q_tab; rw [if_neg (by omega), if_neg (by omega), if_neg (fun q => by omega)]
              have hd : q_dir P v = -1 := by unfold q_dir; rw [if_neg (by omega), if_neg (by omega), if_neg (fun q => by omega)]
              obtain ⟨o1, o2⟩ := q_out (st := st) (us := us) hr5 ht hd
              have ha : q_al st P v = _ := q_al_hit hu hsu hlu hnu
              exact k _ _ _ (by rw [o1, if_pos rfl, ha]) ht.symm (by rw [o2, if_pos ⟨rfl, by rw [ha]; omega⟩]; rfl)
            · refine am_iret (st := []) rfl rfl dC_standInByRules_201 ?_
              have hr5 : q_rul P v = 0 := ru0 co (e2 ▸ c48) (by grind) (by grind) (e5 ▸ c160)
              have ht : q_tab P v = P := by unfold q_tab; rw [if_neg (by omega), if_neg (by omega), if_neg (fun q => by omega)]
              have hd : q_dir P v = -1 := by unfold q_dir; rw [if_neg (by omega), if_neg (by omega), if_neg (fun q => by omega)]
              obtain ⟨o1, o2⟩ := q_out (st := st) (us := us) hr5 ht hd
              have ha : q_al st P v = _ := q_al_none hnu
              exact k _ _ _ (by rw [o1, if_pos rfl, ha]) ht.symm (by rw [o2, if_neg (fun q => q.2 ha)]; rfl)
          · have gi : q_arg x5 (ix (P v 3)) := by
              rw [e5']
              split
              · split
                · exact hr _ (h3.ix (hq3 (by rename_i hz _; rcases hz with q | q | q <;> exact k2_of _ q (by decide))) (by omega)).1
                · exact Or.inl rfl
              · exact Or.inl rfl
            have g3 : ix (P v 3) < 28 := by
              by_cases hz : P v 3 = -1
              · rw [hz]; decide
              · have := (h3.ix hz (by omega)).1; omega
            have ein := gi.ix (show ¬ x5 = -1 from c160) (by omega)
            refine am_aload_n (i := 0) dC_standInByRules_163 rfl rfl ?_
            refine am_getf dC_standInByRules_164 flC_37 (by first | rfl | exact sk8 (by omega) | exact sk9 (by omega) | exact sk10 (by omega) | exact sk11 (by omega)) rfl ?_
            refine am_iconst (v := 5) dC_standInByRules_167 (by decide) ?_
            refine am_dup2 dC_standInByRules_168 rfl rfl ?_
            refine am_iald dC_standInByRules_169 (by first | rfl | exact sk8 (by omega) | exact sk9 (by omega) | exact sk10 (by omega) | exact sk11 (by omega)) (show (5 : Int32) = nI 5 from rfl) (by first | omega | assumption | decide) (by decide) (by decide) rfl ?_
            refine am_iconst (v := 1) dC_standInByRules_170 (by decide) ?_
            refine am_iadd dC_standInByRules_171 ?_
            refine am_iast' dC_standInByRules_172 (by first | rfl | exact sk8 (by omega) | exact sk9 (by omega) | exact sk10 (by omega) | exact sk11 (by omega)) (show (5 : Int32) = nI 5 from rfl) (by first | omega | assumption | decide) (by decide) (by decide) (by first | exact wx_st | exact wx_mk | exact wx_lv | exact wx_us | exact wx_A | exact wx_P | exact wx_cl | exact wx_pr | exact wx_va | exact wx_si | exact wx_wk) ?_
            refine am_aload_n (i := 2) dC_standInByRules_173 rfl rfl ?_
            refine am_aload_n (i := 0) dC_standInByRules_174 rfl rfl ?_
            refine am_getf dC_standInByRules_175 flC_15 (by first | rfl | exact sk8 (by omega) | exact sk9 (by omega) | exact sk10 (by omega) | exact sk11 (by omega)) rfl ?_
            refine am_iload (i := 4) dC_standInByRules_178 rfl ?_
            refine am_aald dC_standInByRules_180 (by first | rfl | exact sk8 (by omega) | exact sk9 (by omega) | exact sk10 (by omega) | exact sk11 (by omega)) ein.2 (by first | omega | assumption | decide) (by decide) (by decide) rfl rfl ?_
            refine am_callV (ac' := 0) (as' := 0) (xs := [_]) dC_standInByRules_181 lkC_147 (by first | rfl | exact sk8 (by omega) | exact sk9 (by omega) | exact sk10 (by omega) | exact sk11 (by omega)) rfl rfl rfl rfl (Nat.le_of_ble_eq_true rfl) rfl rfl (cO_hasShapeOf9 hv (by omega) (fun cs => ?_) (fun cs => ?_))
            · refine am_if_eq_F (tgt := 190) dC_standInByRules_184 (by decide) (by decide) ?_
              refine am_iload (i := 4) dC_standInByRules_187 rfl ?_
              refine am_iret (st := []) rfl rfl dC_standInByRules_189 ?_
              have hr5 : q_rul P v = 5 := ru5 co (e2 ▸ c48) (by grind) (by grind) (fun q => c160 (e5.trans q))
              obtain ⟨o1, o2⟩ := q_out (st := st) (us := us) (T := P) (y := x5) hr5 (by unfold q_tab; rw [if_neg (by omega), if_neg (by omega), if_neg (fun q => q.2 (e5 ▸ cs))]) (by unfold q_dir; rw [if_neg (by omega), if_neg (by omega), if_pos ⟨hr5, e5 ▸ cs⟩, e5])
              exact k _ _ _ (by rw [o1, if_neg c160]) (by unfold q_tab; rw [if_neg (by omega), if_neg (by omega), if_neg (fun q => q.2 (e5 ▸ cs))]) (by rw [o2, if_neg (fun q => c160 q.1)]; rfl)
            · refine am_if_eq_T (tgt := 190) dC_standInByRules_184 (by decide) (by decide) ?_
              refine am_aload_n (i := 2) dC_standInByRules_190 rfl rfl ?_
              refine am_iload (i := 4) dC_standInByRules_191 rfl ?_
              refine am_putf' dC_standInByRules_193 flC_132 (by first | rfl | exact sk8 (by omega) | exact sk9 (by omega) | exact sk10 (by omega) | exact sk11 (by omega)) rfl (fun _ => ⟨rfl, rfl⟩) (by first | exact wx_st | exact wx_mk | exact wx_lv | exact wx_us | exact wx_A | exact wx_P | exact wx_cl | exact wx_pr | exact wx_va | exact wx_si | exact wx_wk) ?_
              refine am_aload_n (i := 0) dC_standInByRules_196 rfl rfl ?_
              refine am_iload_n (i := 1) dC_standInByRules_197 rfl rfl ?_
              refine am_callV (ac' := 0) (as' := 0) (xs := [_]) dC_standInByRules_198 lkC_178 (by first | rfl | exact sk8 (by omega) | exact sk9 (by omega) | exact sk10 (by omega) | exact sk11 (by omega)) rfl rfl rfl rfl (Nat.le_of_ble_eq_true rfl) rfl rfl (cC_alikeOrItself hv (fun u hu hsu hlu hnu => ?_) (fun hnu => ?_))
              · refine am_iret (st := []) rfl rfl dC_standInByRules_201 ?_
                have hr5 : q_rul P v = 5 := ru5 co (e2 ▸ c48) (by grind) (by grind) (fun q => c160 (e5.trans q))
                have ht : q_tab P v = up2 P v 3 x5 := by unfold q_tab; rw [if_neg (by omega), if_neg (by omega), if_pos ⟨hr5, e5 ▸ cs⟩, e5]
                have hd : q_dir P v = -1 := by unfold q_dir; rw [if_neg (by omega), if_neg (by omega), if_neg (fun q => (e5 ▸ cs) q.2)]
                obtain ⟨o1, o2⟩ := q_out (st := st) (us := us) hr5 ht hd
                have ha : q_al st (up2 P v 3 x5) v = _ := q_al_hit hu hsu hlu hnu
                exact k _ _ _ (by rw [o1, if_pos rfl, ha]) ht.symm (by rw [o2, if_pos ⟨rfl, by rw [ha]; omega⟩]; rfl)
              · refine am_iret (st := []) rfl rfl dC_standInByRules_201 ?_
                have hr5 : q_rul P v = 5 := ru5 co (e2 ▸ c48) (by grind) (by grind) (fun q => c160 (e5.trans q))
                have ht : q_tab P v = up2 P v 3 x5 := by unfold q_tab; rw [if_neg (by omega), if_neg (by omega), if_pos ⟨hr5, e5 ▸ cs⟩, e5]
                have hd : q_dir P v = -1 := by unfold q_dir; rw [if_neg (by omega), if_neg (by omega), if_neg (fun q => (e5 ▸ cs) q.2)]
                obtain ⟨o1, o2⟩ := q_out (st := st) (us := us) hr5 ht hd
                have ha : q_al st (up2 P v 3 x5) v = _ := q_al_none hnu
                exact k _ _ _ (by rw [o1, if_pos rfl, ha]) ht.symm (by rw [o2, if_neg (fun q => q.2 ha)]; rfl)
        · refine am_aload_n (i := 2) dC_standInByRules_124 rfl rfl ?_
          refine am_getf dC_standInByRules_125 flC_132 (by first | rfl | exact sk8 (by omega) | exact sk9 (by omega) | exact sk10 (by omega) | exact sk11 (by omega)) rfl ?_
          refine am_aload_n (i := 2) dC_standInByRules_128 rfl rfl ?_
          refine am_getf dC_standInByRules_129 flC_135 (by first | rfl | exact sk8 (by omega) | exact sk9 (by omega) | exact sk10 (by omega) | exact sk11 (by omega)) rfl ?_
          refine am_icmp_ne (tgt := 150) dC_standInByRules_132 (by decide) (fun c132 => ?_) (fun c132 => ?_)
          · have htw : ¬ P v 3 = -1 ∨ ¬ (P v 0 = 6 ∨ P v 0 = 7 ∨ P v 0 = 11) := by
              by_cases hz : P v 0 = 6 ∨ P v 0 = 7 ∨ P v 0 = 11
              · exact Or.inl (hq3 (by rcases hz with q | q | q <;> exact k2_of _ q (by decide)))
              · exact Or.inr hz
            refine am_aload_n (i := 0) dC_standInByRules_150 rfl rfl ?_
            refine am_aload_n (i := 2) dC_standInByRules_151 rfl rfl ?_
            refine am_callV (ac' := 0) (as' := 0) (xs := [_]) dC_standInByRules_152 lkC_187 (by first | rfl | exact sk8 (by omega) | exact sk9 (by omega) | exact sk10 (by omega) | exact sk11 (by omega)) rfl rfl rfl rfl (Nat.le_of_ble_eq_true rfl) rfl rfl (cC_twiceInner hv h3 h4 htw (fun x5 e5' => ?_))
            have e5 : x5 = q_twi P v := e5'
            refine am_istore (i := 4) dC_standInByRules_155 (by decide) ?_
            refine am_iload (i := 4) dC_standInByRules_157 rfl ?_
            refine am_iconst (v := (-1)) dC_standInByRules_159 (by decide) ?_
            refine am_icmp_eq (tgt := 196) dC_standInByRules_160 (by decide) (fun c160 => ?_) (fun c160 => ?_)
            · refine am_aload_n (i := 0) dC_standInByRules_196 rfl rfl ?_
              refine am_iload_n (i := 1) dC_standInByRules_197 rfl rfl ?_
              refine am_callV (ac' := 0) (as' := 0) (xs := [_]) dC_standInByRules_198 lkC_178 (by first | rfl | exact sk8 (by omega) | exact sk9 (by omega) | exact sk10 (by omega) | exact sk11 (by omega)) rfl rfl rfl rfl (Nat.le_of_ble_eq_true rfl) rfl rfl (cC_alikeOrItself hv (fun u hu hsu hlu hnu => ?_) (fun hnu => ?_))
              · refine am_iret (st := []) rfl rfl dC_standInByRules_201 ?_
                have hr5 : q_rul P v = 0 := ru0 co (e2 ▸ c48) (by grind) (by grind) (e5 ▸ c160)
                have ht : q_tab P v = P := by unfold q_tab; rw [if_neg (by omega), if_neg (by omega), if_neg (fun q => by omega)]
                have hd : q_dir P v = -1 := by unfold q_dir; rw [if_neg (by omega), if_neg (by omega), if_neg (fun q => by omega)]
                obtain ⟨o1, o2⟩ := q_out (st := st) (us := us) hr5 ht hd
                have ha : q_al st P v = _ := q_al_hit hu hsu hlu hnu
                exact k _ _ _ (by rw [o1, if_pos rfl, ha]) ht.symm (by rw [o2, if_pos ⟨rfl, by rw [ha]; omega⟩]; rfl)
              · refine am_iret (st := []) rfl rfl dC_standInByRules_201 ?_
                have hr5 : q_rul P v = 0 := ru0 co (e2 ▸ c48) (by grind) (by grind) (e5 ▸ c160)
                have ht : q_tab P v = P := by unfold q_tab; rw [if_neg (by omega), if_neg (by omega), if_neg (fun q => by omega)]
                have hd : q_dir P v = -1 := by unfold q_dir; rw [if_neg (by omega), if_neg (by omega), if_neg (fun q => by omega)]
                obtain ⟨o1, o2⟩ := q_out (st := st) (us := us) hr5 ht hd
                have ha : q_al st P v = _ := q_al_none hnu
                exact k _ _ _ (by rw [o1, if_pos rfl, ha]) ht.symm (by rw [o2, if_neg (fun q => q.2 ha)]; rfl)
            · have gi : q_arg x5 (ix (P v 3)) := by
                rw [e5']
                split
                · split
                  · exact hr _ (h3.ix (hq3 (by rename_i hz _; rcases hz with q | q | q <;> exact k2_of _ q (by decide))) (by omega)).1
                  · exact Or.inl rfl
                · exact Or.inl rfl
              have g3 : ix (P v 3) < 28 := by
                by_cases hz : P v 3 = -1
                · rw [hz]; decide
                · have := (h3.ix hz (by omega)).1; omega
              have ein := gi.ix (show ¬ x5 = -1 from c160) (by omega)
              refine am_aload_n (i := 0) dC_standInByRules_163 rfl rfl ?_
              refine am_getf dC_standInByRules_164 flC_37 (by first | rfl | exact sk8 (by omega) | exact sk9 (by omega) | exact sk10 (by omega) | exact sk11 (by omega)) rfl ?_
              refine am_iconst (v := 5) dC_standInByRules_167 (by decide) ?_
              refine am_dup2 dC_standInByRules_168 rfl rfl ?_
              refine am_iald dC_standInByRules_169 (by first | rfl | exact sk8 (by omega) | exact sk9 (by omega) | exact sk10 (by omega) | exact sk11 (by omega)) (show (5 : Int32) = nI 5 from rfl) (by first | omega | assumption | decide) (by decide) (by decide) rfl ?_
              refine am_iconst (v := 1) dC_standInByRules_170 (by decide) ?_
              refine am_iadd dC_standInByRules_171 ?_
              refine am_iast' dC_standInByRules_172 (by first | rfl | exact sk8 (by omega) | exact sk9 (by omega) | exact sk10 (by omega) | exact sk11 (by omega)) (show (5 : Int32) = nI 5 from rfl) (by first | omega | assumption | decide) (by decide) (by decide) (by first | exact wx_st | exact wx_mk | exact wx_lv | exact wx_us | exact wx_A | exact wx_P | exact wx_cl | exact wx_pr | exact wx_va | exact wx_si | exact wx_wk) ?_
              refine am_aload_n (i := 2) dC_standInByRules_173 rfl rfl ?_
              refine am_aload_n (i := 0) dC_standInByRules_174 rfl rfl ?_
              refine am_getf dC_standInByRules_175 flC_15 (by first | rfl | exact sk8 (by omega) | exact sk9 (by omega) | exact sk10 (by omega) | exact sk11 (by omega)) rfl ?_
              refine am_iload (i := 4) dC_standInByRules_178 rfl ?_
              refine am_aald dC_standInByRules_180 (by first | rfl | exact sk8 (by omega) | exact sk9 (by omega) | exact sk10 (by omega) | exact sk11 (by omega)) ein.2 (by first | omega | assumption | decide) (by decide) (by decide) rfl rfl ?_
              refine am_callV (ac' := 0) (as' := 0) (xs := [_]) dC_standInByRules_181 lkC_147 (by first | rfl | exact sk8 (by omega) | exact sk9 (by omega) | exact sk10 (by omega) | exact sk11 (by omega)) rfl rfl rfl rfl (Nat.le_of_ble_eq_true rfl) rfl rfl (cO_hasShapeOf9 hv (by omega) (fun cs => ?_) (fun cs => ?_))
              · refine am_if_eq_F (tgt := 190) dC_standInByRules_184 (by decide) (by decide) ?_
                refine am_iload (i := 4) dC_standInByRules_187 rfl ?_
                refine am_iret (st := []) rfl rfl dC_standInByRules_189 ?_
                have hr5 : q_rul P v = 5 := ru5 co (e2 ▸ c48) (by grind) (by grind) (fun q => c160 (e5.trans q))
                obtain ⟨o1, o2⟩ := q_out (st := st) (us := us) (T := P) (y := x5) hr5 (by unfold q_tab; rw [if_neg (by omega), if_neg (by omega), if_neg (fun q => q.2 (e5 ▸ cs))]) (by unfold q_dir; rw [if_neg (by omega), if_neg (by omega), if_pos ⟨hr5, e5 ▸ cs⟩, e5])
                exact k _ _ _ (by rw [o1, if_neg c160]) (by unfold q_tab; rw [if_neg (by omega), if_neg (by omega), if_neg (fun q => q.2 (e5 ▸ cs))]) (by rw [o2, if_neg (fun q => c160 q.1)]; rfl)
              · refine am_if_eq_T (tgt := 190) dC_standInByRules_184 (by decide) (by decide) ?_
                refine am_aload_n (i := 2) dC_standInByRules_190 rfl rfl ?_
                refine am_iload (i := 4) dC_standInByRules_191 rfl ?_
                refine am_putf' dC_standInByRules_193 flC_132 (by first | rfl | exact sk8 (by omega) | exact sk9 (by omega) | exact sk10 (by omega) | exact sk11 (by omega)) rfl (fun _ => ⟨rfl, rfl⟩) (by first | exact wx_st | exact wx_mk | exact wx_lv | exact wx_us | exact wx_A | exact wx_P | exact wx_cl | exact wx_pr | exact wx_va | exact wx_si | exact wx_wk) ?_
                refine am_aload_n (i := 0) dC_standInByRules_196 rfl rfl ?_
                refine am_iload_n (i := 1) dC_standInByRules_197 rfl rfl ?_
                refine am_callV (ac' := 0) (as' := 0) (xs := [_]) dC_standInByRules_198 lkC_178 (by first | rfl | exact sk8 (by omega) | exact sk9 (by omega) | exact sk10 (by omega) | exact sk11 (by omega)) rfl rfl rfl rfl (Nat.le_of_ble_eq_true rfl) rfl rfl (cC_alikeOrItself hv (fun u hu hsu hlu hnu => ?_) (fun hnu => ?_))
                · refine am_iret (st := []) rfl rfl dC_standInByRules_201 ?_
                  have hr5 : q_rul P v = 5 := ru5 co (e2 ▸ c48) (by grind) (by grind) (fun q => c160 (e5.trans q))
                  have ht : q_tab P v = up2 P v 3 x5 := by unfold q_tab; rw [if_neg (by omega), if_neg (by omega), if_pos ⟨hr5, e5 ▸ cs⟩, e5]
                  have hd : q_dir P v = -1 := by unfold q_dir; rw [if_neg (by omega), if_neg (by omega), if_neg (fun q => (e5 ▸ cs) q.2)]
                  obtain ⟨o1, o2⟩ := q_out (st := st) (us := us) hr5 ht hd
                  have ha : q_al st (up2 P v 3 x5) v = _ := q_al_hit hu hsu hlu hnu
                  exact k _ _ _ (by rw [o1, if_pos rfl, ha]) ht.symm (by rw [o2, if_pos ⟨rfl, by rw [ha]; omega⟩]; rfl)
                · refine am_iret (st := []) rfl rfl dC_standInByRules_201 ?_
                  have hr5 : q_rul P v = 5 := ru5 co (e2 ▸ c48) (by grind) (by grind) (fun q => c160 (e5.trans q))
                  have ht : q_tab P v = up2 P v 3 x5 := by unfold q_tab; rw [if_neg (by omega), if_neg (by omega), if_pos ⟨hr5, e5 ▸ cs⟩, e5]
                  have hd : q_dir P v = -1 := by unfold q_dir; rw [if_neg (by omega), if_neg (by omega), if_neg (fun q => (e5 ▸ cs) q.2)]
                  obtain ⟨o1, o2⟩ := q_out (st := st) (us := us) hr5 ht hd
                  have ha : q_al st (up2 P v 3 x5) v = _ := q_al_none hnu
                  exact k _ _ _ (by rw [o1, if_pos rfl, ha]) ht.symm (by rw [o2, if_neg (fun q => q.2 ha)]; rfl)
          · refine am_aload_n (i := 0) dC_standInByRules_135 rfl rfl ?_
            refine am_getf dC_standInByRules_136 flC_37 (by first | rfl | exact sk8 (by omega) | exact sk9 (by omega) | exact sk10 (by omega) | exact sk11 (by omega)) rfl ?_
            refine am_iconst (v := 4) dC_standInByRules_139 (by decide) ?_
            refine am_dup2 dC_standInByRules_140 rfl rfl ?_
            refine am_iald dC_standInByRules_141 (by first | rfl | exact sk8 (by omega) | exact sk9 (by omega) | exact sk10 (by omega) | exact sk11 (by omega)) (show (4 : Int32) = nI 4 from rfl) (by first | omega | assumption | decide) (by decide) (by decide) rfl ?_
            refine am_iconst (v := 1) dC_standInByRules_142 (by decide) ?_
            refine am_iadd dC_standInByRules_143 ?_
            refine am_iast' dC_standInByRules_144 (by first | rfl | exact sk8 (by omega) | exact sk9 (by omega) | exact sk10 (by omega) | exact sk11 (by omega)) (show (4 : Int32) = nI 4 from rfl) (by first | omega | assumption | decide) (by decide) (by decide) (by first | exact wx_st | exact wx_mk | exact wx_lv | exact wx_us | exact wx_A | exact wx_P | exact wx_cl | exact wx_pr | exact wx_va | exact wx_si | exact wx_wk) ?_
            refine am_aload_n (i := 2) dC_standInByRules_145 rfl rfl ?_
            refine am_getf dC_standInByRules_146 flC_132 (by first | rfl | exact sk8 (by omega) | exact sk9 (by omega) | exact sk10 (by omega) | exact sk11 (by omega)) rfl ?_
            refine am_iret (st := []) rfl rfl dC_standInByRules_149 ?_
            have hr4 : q_rul P v = 4 := ru4 co (e2 ▸ c48) (by grind) ⟨by grind, by grind⟩
            have hn3 : ¬ P v 3 = -1 := hq3 (k2_of 5 (by grind) (by decide))
            obtain ⟨o1, o2⟩ := q_out (st := st) (us := us) (T := P) (y := P v 3) hr4 (by unfold q_tab; rw [hr4]; rfl) (by unfold q_dir; rw [hr4]; rfl)
            exact k _ _ _ (by rw [o1, if_neg hn3]) (by unfold q_tab; rw [hr4]; rfl) (by rw [o2, if_neg (fun q => hn3 q.1)]; rfl)
      · obtain ⟨g3, e3⟩ := h3.ix (hq3 (k2_of _ c68 (by decide))) (by omega)
        obtain ⟨g4, e4⟩ := h4.ix (hq4 (by grind)) (by omega)
        refine am_aload_n (i := 0) dC_standInByRules_71 rfl rfl ?_
        refine am_aload_n (i := 2) dC_standInByRules_72 rfl rfl ?_
        refine am_getf dC_standInByRules_73 flC_132 (by first | rfl | exact sk8 (by omega) | exact sk9 (by omega) | exact sk10 (by omega) | exact sk11 (by omega)) rfl ?_
        refine am_iconst (v := 0) dC_standInByRules_76 (by decide) ?_
        refine am_callV (ac' := 0) (as' := 0) (xs := [_, _]) dC_standInByRules_77 lkC_184 (by first | rfl | exact sk8 (by omega) | exact sk9 (by omega) | exact sk10 (by omega) | exact sk11 (by omega)) rfl rfl rfl rfl (Nat.le_of_ble_eq_true rfl) rfl rfl (cC_isSplat (by omega) e3 (fun ca => ?_) (fun ca => ?_))
        · refine am_if_ne_T (tgt := 95) dC_standInByRules_80 (by decide) (by decide) ?_
          refine am_aload_n (i := 0) dC_standInByRules_95 rfl rfl ?_
          refine am_getf dC_standInByRules_96 flC_37 (by first | rfl | exact sk8 (by omega) | exact sk9 (by omega) | exact sk10 (by omega) | exact sk11 (by omega)) rfl ?_
          refine am_iconst (v := 3) dC_standInByRules_99 (by decide) ?_
          refine am_dup2 dC_standInByRules_100 rfl rfl ?_
          refine am_iald dC_standInByRules_101 (by first | rfl | exact sk8 (by omega) | exact sk9 (by omega) | exact sk10 (by omega) | exact sk11 (by omega)) (show (3 : Int32) = nI 3 from rfl) (by first | omega | assumption | decide) (by decide) (by decide) rfl ?_
          refine am_iconst (v := 1) dC_standInByRules_102 (by decide) ?_
          refine am_iadd dC_standInByRules_103 ?_
          refine am_iast' dC_standInByRules_104 (by first | rfl | exact sk8 (by omega) | exact sk9 (by omega) | exact sk10 (by omega) | exact sk11 (by omega)) (show (3 : Int32) = nI 3 from rfl) (by first | omega | assumption | decide) (by decide) (by decide) (by first | exact wx_st | exact wx_mk | exact wx_lv | exact wx_us | exact wx_A | exact wx_P | exact wx_cl | exact wx_pr | exact wx_va | exact wx_si | exact wx_wk) ?_
          refine am_aload_n (i := 2) dC_standInByRules_105 rfl rfl ?_
          refine am_iconst (v := 0) dC_standInByRules_106 (by decide) ?_
          refine am_callV (ac' := 0) (as' := 0) (xs := [_]) dC_standInByRules_107 lkC_175 (by first | rfl | exact sk8 (by omega) | exact sk9 (by omega) | exact sk10 (by omega) | exact sk11 (by omega)) rfl rfl rfl rfl (Nat.le_of_ble_eq_true rfl) rfl rfl (cO_becomeSplat hv ?_)
          refine am_aload_n (i := 0) dC_standInByRules_110 rfl rfl ?_
          refine am_iload_n (i := 1) dC_standInByRules_111 rfl rfl ?_
          refine am_callV (ac' := 0) (as' := 0) (xs := [_]) dC_standInByRules_112 lkC_178 (by first | rfl | exact sk8 (by omega) | exact sk9 (by omega) | exact sk10 (by omega) | exact sk11 (by omega)) rfl rfl rfl rfl (Nat.le_of_ble_eq_true rfl) rfl rfl (cC_alikeOrItself hv (fun u hu hsu hlu hnu => ?_) (fun hnu => ?_))
          · refine am_iret (st := []) rfl rfl dC_standInByRules_115 ?_
            have hr1 : q_rul P v = 3 := ru3 co (e2 ▸ c48) (by grind)
            have ht : q_tab P v = q_spt P v 0 := by unfold q_tab; rw [if_neg (by omega), if_pos hr1]
            have hd : q_dir P v = -1 := by unfold q_dir; rw [if_neg (by omega), if_neg (by omega), if_neg (fun q => by omega)]
            obtain ⟨o1, o2⟩ := q_out (st := st) (us := us) hr1 ht hd
            have ha : q_al st (q_spt P v 0) v = _ := q_al_hit hu hsu hlu hnu
            exact k _ _ _ (by rw [o1, if_pos rfl, ha]) ht.symm (by rw [o2, if_pos ⟨rfl, by rw [ha]; omega⟩]; rfl)
          · refine am_iret (st := []) rfl rfl dC_standInByRules_115 ?_
            have hr1 : q_rul P v = 3 := ru3 co (e2 ▸ c48) (by grind)
            have ht : q_tab P v = q_spt P v 0 := by unfold q_tab; rw [if_neg (by omega), if_pos hr1]
            have hd : q_dir P v = -1 := by unfold q_dir; rw [if_neg (by omega), if_neg (by omega), if_neg (fun q => by omega)]
            obtain ⟨o1, o2⟩ := q_out (st := st) (us := us) hr1 ht hd
            have ha : q_al st (q_spt P v 0) v = _ := q_al_none hnu
            exact k _ _ _ (by rw [o1, if_pos rfl, ha]) ht.symm (by rw [o2, if_neg (fun q => q.2 ha)]; rfl)
        · refine am_if_ne_F (tgt := 95) dC_standInByRules_80 (by decide) (by decide) ?_
          refine am_aload_n (i := 0) dC_standInByRules_83 rfl rfl ?_
          refine am_aload_n (i := 2) dC_standInByRules_84 rfl rfl ?_
          refine am_getf dC_standInByRules_85 flC_135 (by first | rfl | exact sk8 (by omega) | exact sk9 (by omega) | exact sk10 (by omega) | exact sk11 (by omega)) rfl ?_
          refine am_iconst (v := 0) dC_standInByRules_88 (by decide) ?_
          refine am_callV (ac' := 0) (as' := 0) (xs := [_, _]) dC_standInByRules_89 lkC_184 (by first | rfl | exact sk8 (by omega) | exact sk9 (by omega) | exact sk10 (by omega) | exact sk11 (by omega)) rfl rfl rfl rfl (Nat.le_of_ble_eq_true rfl) rfl rfl (cC_isSplat (by omega) e4 (fun cb => ?_) (fun cb => ?_))
          · refine am_if_eq_F (tgt := 116) dC_standInByRules_92 (by decide) (by decide) ?_
            refine am_aload_n (i := 0) dC_standInByRules_95 rfl rfl ?_
            refine am_getf dC_standInByRules_96 flC_37 (by first | rfl | exact sk8 (by omega) | exact sk9 (by omega) | exact sk10 (by omega) | exact sk11 (by omega)) rfl ?_
            refine am_iconst (v := 3) dC_standInByRules_99 (by decide) ?_
            refine am_dup2 dC_standInByRules_100 rfl rfl ?_
            refine am_iald dC_standInByRules_101 (by first | rfl | exact sk8 (by omega) | exact sk9 (by omega) | exact sk10 (by omega) | exact sk11 (by omega)) (show (3 : Int32) = nI 3 from rfl) (by first | omega | assumption | decide) (by decide) (by decide) rfl ?_
            refine am_iconst (v := 1) dC_standInByRules_102 (by decide) ?_
            refine am_iadd dC_standInByRules_103 ?_
            refine am_iast' dC_standInByRules_104 (by first | rfl | exact sk8 (by omega) | exact sk9 (by omega) | exact sk10 (by omega) | exact sk11 (by omega)) (show (3 : Int32) = nI 3 from rfl) (by first | omega | assumption | decide) (by decide) (by decide) (by first | exact wx_st | exact wx_mk | exact wx_lv | exact wx_us | exact wx_A | exact wx_P | exact wx_cl | exact wx_pr | exact wx_va | exact wx_si | exact wx_wk) ?_
            refine am_aload_n (i := 2) dC_standInByRules_105 rfl rfl ?_
            refine am_iconst (v := 0) dC_standInByRules_106 (by decide) ?_
            refine am_callV (ac' := 0) (as' := 0) (xs := [_]) dC_standInByRules_107 lkC_175 (by first | rfl | exact sk8 (by omega) | exact sk9 (by omega) | exact sk10 (by omega) | exact sk11 (by omega)) rfl rfl rfl rfl (Nat.le_of_ble_eq_true rfl) rfl rfl (cO_becomeSplat hv ?_)
            refine am_aload_n (i := 0) dC_standInByRules_110 rfl rfl ?_
            refine am_iload_n (i := 1) dC_standInByRules_111 rfl rfl ?_
            refine am_callV (ac' := 0) (as' := 0) (xs := [_]) dC_standInByRules_112 lkC_178 (by first | rfl | exact sk8 (by omega) | exact sk9 (by omega) | exact sk10 (by omega) | exact sk11 (by omega)) rfl rfl rfl rfl (Nat.le_of_ble_eq_true rfl) rfl rfl (cC_alikeOrItself hv (fun u hu hsu hlu hnu => ?_) (fun hnu => ?_))
            · refine am_iret (st := []) rfl rfl dC_standInByRules_115 ?_
              have hr1 : q_rul P v = 3 := ru3 co (e2 ▸ c48) (by grind)
              have ht : q_tab P v = q_spt P v 0 := by unfold q_tab; rw [if_neg (by omega), if_pos hr1]
              have hd : q_dir P v = -1 := by unfold q_dir; rw [if_neg (by omega), if_neg (by omega), if_neg (fun q => by omega)]
              obtain ⟨o1, o2⟩ := q_out (st := st) (us := us) hr1 ht hd
              have ha : q_al st (q_spt P v 0) v = _ := q_al_hit hu hsu hlu hnu
              exact k _ _ _ (by rw [o1, if_pos rfl, ha]) ht.symm (by rw [o2, if_pos ⟨rfl, by rw [ha]; omega⟩]; rfl)
            · refine am_iret (st := []) rfl rfl dC_standInByRules_115 ?_
              have hr1 : q_rul P v = 3 := ru3 co (e2 ▸ c48) (by grind)
              have ht : q_tab P v = q_spt P v 0 := by unfold q_tab; rw [if_neg (by omega), if_pos hr1]
              have hd : q_dir P v = -1 := by unfold q_dir; rw [if_neg (by omega), if_neg (by omega), if_neg (fun q => by omega)]
              obtain ⟨o1, o2⟩ := q_out (st := st) (us := us) hr1 ht hd
              have ha : q_al st (q_spt P v 0) v = _ := q_al_none hnu
              exact k _ _ _ (by rw [o1, if_pos rfl, ha]) ht.symm (by rw [o2, if_neg (fun q => q.2 ha)]; rfl)
          · refine am_if_eq_T (tgt := 116) dC_standInByRules_92 (by decide) (by decide) ?_
            refine am_aload_n (i := 2) dC_standInByRules_116 rfl rfl ?_
            refine am_getf dC_standInByRules_117 flC_129 (by first | rfl | exact sk8 (by omega) | exact sk9 (by omega) | exact sk10 (by omega) | exact sk11 (by omega)) rfl ?_
            refine am_iconst (v := 5) dC_standInByRules_120 (by decide) ?_
            refine am_icmp_ne (tgt := 150) dC_standInByRules_121 (by decide) (fun c121 => ?_) (fun c121 => ?_)
            · have htw : ¬ P v 3 = -1 ∨ ¬ (P v 0 = 6 ∨ P v 0 = 7 ∨ P v 0 = 11) := by
                by_cases hz : P v 0 = 6 ∨ P v 0 = 7 ∨ P v 0 = 11
                · exact Or.inl (hq3 (by rcases hz with q | q | q <;> exact k2_of _ q (by decide)))
                · exact Or.inr hz
              refine am_aload_n (i := 0) dC_standInByRules_150 rfl rfl ?_
              refine am_aload_n (i := 2) dC_standInByRules_151 rfl rfl ?_
              refine am_callV (ac' := 0) (as' := 0) (xs := [_]) dC_standInByRules_152 lkC_187 (by first | rfl | exact sk8 (by omega) | exact sk9 (by omega) | exact sk10 (by omega) | exact sk11 (by omega)) rfl rfl rfl rfl (Nat.le_of_ble_eq_true rfl) rfl rfl (cC_twiceInner hv h3 h4 htw (fun x5 e5' => ?_))
              have e5 : x5 = q_twi P v := e5'
              refine am_istore (i := 4) dC_standInByRules_155 (by decide) ?_
              refine am_iload (i := 4) dC_standInByRules_157 rfl ?_
              refine am_iconst (v := (-1)) dC_standInByRules_159 (by decide) ?_
              refine am_icmp_eq (tgt := 196) dC_standInByRules_160 (by decide) (fun c160 => ?_) (fun c160 => ?_)
              · refine am_aload_n (i := 0) dC_standInByRules_196 rfl rfl ?_
                refine am_iload_n (i := 1) dC_standInByRules_197 rfl rfl ?_
                refine am_callV (ac' := 0) (as' := 0) (xs := [_]) dC_standInByRules_198 lkC_178 (by first | rfl | exact sk8 (by omega) | exact sk9 (by omega) | exact sk10 (by omega) | exact sk11 (by omega)) rfl rfl rfl rfl (Nat.le_of_ble_eq_true rfl) rfl rfl (cC_alikeOrItself hv (fun u hu hsu hlu hnu => ?_) (fun hnu => ?_))
                · refine am_iret (st := []) rfl rfl dC_standInByRules_201 ?_
                  have hr5 : q_rul P v = 0 := ru0 co (e2 ▸ c48) (by grind) (by grind) (e5 ▸ c160)
                  have ht : q_tab P v = P := by unfold q_tab; rw [if_neg (by omega), if_neg (by omega), if_neg (fun q => by omega)]
                  have hd : q_dir P v = -1 := by unfold q_dir; rw [if_neg (by omega), if_neg (by omega), if_neg (fun q => by omega)]
                  obtain ⟨o1, o2⟩ := q_out (st := st) (us := us) hr5 ht hd
                  have ha : q_al st P v = _ := q_al_hit hu hsu hlu hnu
                  exact k _ _ _ (by rw [o1, if_pos rfl, ha]) ht.symm (by rw [o2, if_pos ⟨rfl, by rw [ha]; omega⟩]; rfl)
                · refine am_iret (st := []) rfl rfl dC_standInByRules_201 ?_
                  have hr5 : q_rul P v = 0 := ru0 co (e2 ▸ c48) (by grind) (by grind) (e5 ▸ c160)
                  have ht : q_tab P v = P := by unfold q_tab; rw [if_neg (by omega), if_neg (by omega), if_neg (fun q => by omega)]
                  have hd : q_dir P v = -1 := by unfold q_dir; rw [if_neg (by omega), if_neg (by omega), if_neg (fun q => by omega)]
                  obtain ⟨o1, o2⟩ := q_out (st := st) (us := us) hr5 ht hd
                  have ha : q_al st P v = _ := q_al_none hnu
                  exact k _ _ _ (by rw [o1, if_pos rfl, ha]) ht.symm (by rw [o2, if_neg (fun q => q.2 ha)]; rfl)
              · have gi : q_arg x5 (ix (P v 3)) := by
                  rw [e5']
                  split
                  · split
                    · exact hr _ (h3.ix (hq3 (by rename_i hz _; rcases hz with q | q | q <;> exact k2_of _ q (by decide))) (by omega)).1
                    · exact Or.inl rfl
                  · exact Or.inl rfl
                have g3 : ix (P v 3) < 28 := by
                  by_cases hz : P v 3 = -1
                  · rw [hz]; decide
                  · have := (h3.ix hz (by omega)).1; omega
                have ein := gi.ix (show ¬ x5 = -1 from c160) (by omega)
                refine am_aload_n (i := 0) dC_standInByRules_163 rfl rfl ?_
                refine am_getf dC_standInByRules_164 flC_37 (by first | rfl | exact sk8 (by omega) | exact sk9 (by omega) | exact sk10 (by omega) | exact sk11 (by omega)) rfl ?_
                refine am_iconst (v := 5) dC_standInByRules_167 (by decide) ?_
                refine am_dup2 dC_standInByRules_168 rfl rfl ?_
                refine am_iald dC_standInByRules_169 (by first | rfl | exact sk8 (by omega) | exact sk9 (by omega) | exact sk10 (by omega) | exact sk11 (by omega)) (show (5 : Int32) = nI 5 from rfl) (by first | omega | assumption | decide) (by decide) (by decide) rfl ?_
                refine am_iconst (v := 1) dC_standInByRules_170 (by decide) ?_
                refine am_iadd dC_standInByRules_171 ?_
                refine am_iast' dC_standInByRules_172 (by first | rfl | exact sk8 (by omega) | exact sk9 (by omega) | exact sk10 (by omega) | exact sk11 (by omega)) (show (5 : Int32) = nI 5 from rfl) (by first | omega | assumption | decide) (by decide) (by decide) (by first | exact wx_st | exact wx_mk | exact wx_lv | exact wx_us | exact wx_A | exact wx_P | exact wx_cl | exact wx_pr | exact wx_va | exact wx_si | exact wx_wk) ?_
                refine am_aload_n (i := 2) dC_standInByRules_173 rfl rfl ?_
                refine am_aload_n (i := 0) dC_standInByRules_174 rfl rfl ?_
                refine am_getf dC_standInByRules_175 flC_15 (by first | rfl | exact sk8 (by omega) | exact sk9 (by omega) | exact sk10 (by omega) | exact sk11 (by omega)) rfl ?_
                refine am_iload (i := 4) dC_standInByRules_178 rfl ?_
                refine am_aald dC_standInByRules_180 (by first | rfl | exact sk8 (by omega) | exact sk9 (by omega) | exact sk10 (by omega) | exact sk11 (by omega)) ein.2 (by first | omega | assumption | decide) (by decide) (by decide) rfl rfl ?_
                refine am_callV (ac' := 0) (as' := 0) (xs := [_]) dC_standInByRules_181 lkC_147 (by first | rfl | exact sk8 (by omega) | exact sk9 (by omega) | exact sk10 (by omega) | exact sk11 (by omega)) rfl rfl rfl rfl (Nat.le_of_ble_eq_true rfl) rfl rfl (cO_hasShapeOf9 hv (by omega) (fun cs => ?_) (fun cs => ?_))
                · refine am_if_eq_F (tgt := 190) dC_standInByRules_184 (by decide) (by decide) ?_
                  refine am_iload (i := 4) dC_standInByRules_187 rfl ?_
                  refine am_iret (st := []) rfl rfl dC_standInByRules_189 ?_
                  have hr5 : q_rul P v = 5 := ru5 co (e2 ▸ c48) (by grind) (by grind) (fun q => c160 (e5.trans q))
                  obtain ⟨o1, o2⟩ := q_out (st := st) (us := us) (T := P) (y := x5) hr5 (by unfold q_tab; rw [if_neg (by omega), if_neg (by omega), if_neg (fun q => q.2 (e5 ▸ cs))]) (by unfold q_dir; rw [if_neg (by omega), if_neg (by omega), if_pos ⟨hr5, e5 ▸ cs⟩, e5])
                  exact k _ _ _ (by rw [o1, if_neg c160]) (by unfold q_tab; rw [if_neg (by omega), if_neg (by omega), if_neg (fun q => q.2 (e5 ▸ cs))]) (by rw [o2, if_neg (fun q => c160 q.1)]; rfl)
                · refine am_if_eq_T (tgt := 190) dC_standInByRules_184 (by decide) (by decide) ?_
                  refine am_aload_n (i := 2) dC_standInByRules_190 rfl rfl ?_
                  refine am_iload (i := 4) dC_standInByRules_191 rfl ?_
                  refine am_putf' dC_standInByRules_193 flC_132 (by first | rfl | exact sk8 (by omega) | exact sk9 (by omega) | exact sk10 (by omega) | exact sk11 (by omega)) rfl (fun _ => ⟨rfl, rfl⟩) (by first | exact wx_st | exact wx_mk | exact wx_lv | exact wx_us | exact wx_A | exact wx_P | exact wx_cl | exact wx_pr | exact wx_va | exact wx_si | exact wx_wk) ?_
                  refine am_aload_n (i := 0) dC_standInByRules_196 rfl rfl ?_
                  refine am_iload_n (i := 1) dC_standInByRules_197 rfl rfl ?_
                  refine am_callV (ac' := 0) (as' := 0) (xs := [_]) dC_standInByRules_198 lkC_178 (by first | rfl | exact sk8 (by omega) | exact sk9 (by omega) | exact sk10 (by omega) | exact sk11 (by omega)) rfl rfl rfl rfl (Nat.le_of_ble_eq_true rfl) rfl rfl (cC_alikeOrItself hv (fun u hu hsu hlu hnu => ?_) (fun hnu => ?_))
                  · refine am_iret (st := []) rfl rfl dC_standInByRules_201 ?_
                    have hr5 : q_rul P v = 5 := ru5 co (e2 ▸ c48) (by grind) (by grind) (fun q => c160 (e5.trans q))
                    have ht : q_tab P v = up2 P v 3 x5 := by unfold q_tab; rw [if_neg (by omega), if_neg (by omega), if_pos ⟨hr5, e5 ▸ cs⟩, e5]
                    have hd : q_dir P v = -1 := by unfold q_dir; rw [if_neg (by omega), if_neg (by omega), if_neg (fun q => (e5 ▸ cs) q.2)]
                    obtain ⟨o1, o2⟩ := q_out (st := st) (us := us) hr5 ht hd
                    have ha : q_al st (up2 P v 3 x5) v = _ := q_al_hit hu hsu hlu hnu
                    exact k _ _ _ (by rw [o1, if_pos rfl, ha]) ht.symm (by rw [o2, if_pos ⟨rfl, by rw [ha]; omega⟩]; rfl)
                  · refine am_iret (st := []) rfl rfl dC_standInByRules_201 ?_
                    have hr5 : q_rul P v = 5 := ru5 co (e2 ▸ c48) (by grind) (by grind) (fun q => c160 (e5.trans q))
                    have ht : q_tab P v = up2 P v 3 x5 := by unfold q_tab; rw [if_neg (by omega), if_neg (by omega), if_pos ⟨hr5, e5 ▸ cs⟩, e5]
                    have hd : q_dir P v = -1 := by unfold q_dir; rw [if_neg (by omega), if_neg (by omega), if_neg (fun q => (e5 ▸ cs) q.2)]
                    obtain ⟨o1, o2⟩ := q_out (st := st) (us := us) hr5 ht hd
                    have ha : q_al st (up2 P v 3 x5) v = _ := q_al_none hnu
                    exact k _ _ _ (by rw [o1, if_pos rfl, ha]) ht.symm (by rw [o2, if_neg (fun q => q.2 ha)]; rfl)
            · refine am_aload_n (i := 2) dC_standInByRules_124 rfl rfl ?_
              refine am_getf dC_standInByRules_125 flC_132 (by first | rfl | exact sk8 (by omega) | exact sk9 (by omega) | exact sk10 (by omega) | exact sk11 (by omega)) rfl ?_
              refine am_aload_n (i := 2) dC_standInByRules_128 rfl rfl ?_
              refine am_getf dC_standInByRules_129 flC_135 (by first | rfl | exact sk8 (by omega) | exact sk9 (by omega) | exact sk10 (by omega) | exact sk11 (by omega)) rfl ?_
              refine am_icmp_ne (tgt := 150) dC_standInByRules_132 (by decide) (fun c132 => ?_) (fun c132 => ?_)
              · have htw : ¬ P v 3 = -1 ∨ ¬ (P v 0 = 6 ∨ P v 0 = 7 ∨ P v 0 = 11) := by
                  by_cases hz : P v 0 = 6 ∨ P v 0 = 7 ∨ P v 0 = 11
                  · exact Or.inl (hq3 (by rcases hz with q | q | q <;> exact k2_of _ q (by decide)))
                  · exact Or.inr hz
                refine am_aload_n (i := 0) dC_standInByRules_150 rfl rfl ?_
                refine am_aload_n (i := 2) dC_standInByRules_151 rfl rfl ?_
                refine am_callV (ac' := 0) (as' := 0) (xs := [_]) dC_standInByRules_152 lkC_187 (by first | rfl | exact sk8 (by omega) | exact sk9 (by omega) | exact sk10 (by omega) | exact sk11 (by omega)) rfl rfl rfl rfl (Nat.le_of_ble_eq_true rfl) rfl rfl (cC_twiceInner hv h3 h4 htw (fun x5 e5' => ?_))
                have e5 : x5 = q_twi P v := e5'
                refine am_istore (i := 4) dC_standInByRules_155 (by decide) ?_
                refine am_iload (i := 4) dC_standInByRules_157 rfl ?_
                refine am_iconst (v := (-1)) dC_standInByRules_159 (by decide) ?_
                refine am_icmp_eq (tgt := 196) dC_standInByRules_160 (by decide) (fun c160 => ?_) (fun c160 => ?_)
                · refine am_aload_n (i := 0) dC_standInByRules_196 rfl rfl ?_
                  refine am_iload_n (i := 1) dC_standInByRules_197 rfl rfl ?_
                  refine am_callV (ac' := 0) (as' := 0) (xs := [_]) dC_standInByRules_198 lkC_178 (by first | rfl | exact sk8 (by omega) | exact sk9 (by omega) | exact sk10 (by omega) | exact sk11 (by omega)) rfl rfl rfl rfl (Nat.le_of_ble_eq_true rfl) rfl rfl (cC_alikeOrItself hv (fun u hu hsu hlu hnu => ?_) (fun hnu => ?_))
                  · refine am_iret (st := []) rfl rfl dC_standInByRules_201 ?_
                    have hr5 : q_rul P v = 0 := ru0 co (e2 ▸ c48) (by grind) (by grind) (e5 ▸ c160)
                    have ht : q_tab P v = P := by unfold q_tab; rw [if_neg (by omega), if_neg (by omega), if_neg (fun q => by omega)]
                    have hd : q_dir P v = -1 := by unfold q_dir; rw [if_neg (by omega), if_neg (by omega), if_neg (fun q => by omega)]
                    obtain ⟨o1, o2⟩ := q_out (st := st) (us := us) hr5 ht hd
                    have ha : q_al st P v = _ := q_al_hit hu hsu hlu hnu
                    exact k _ _ _ (by rw [o1, if_pos rfl, ha]) ht.symm (by rw [o2, if_pos ⟨rfl, by rw [ha]; omega⟩]; rfl)
                  · refine am_iret (st := []) rfl rfl dC_standInByRules_201 ?_
                    have hr5 : q_rul P v = 0 := ru0 co (e2 ▸ c48) (by grind) (by grind) (e5 ▸ c160)
                    have ht : q_tab P v = P := by unfold q_tab; rw [if_neg (by omega), if_neg (by omega), if_neg (fun q => by omega)]
                    have hd : q_dir P v = -1 := by unfold q_dir; rw [if_neg (by omega), if_neg (by omega), if_neg (fun q => by omega)]
                    obtain ⟨o1, o2⟩ := q_out (st := st) (us := us) hr5 ht hd
                    have ha : q_al st P v = _ := q_al_none hnu
                    exact k _ _ _ (by rw [o1, if_pos rfl, ha]) ht.symm (by rw [o2, if_neg (fun q => q.2 ha)]; rfl)
                · have gi : q_arg x5 (ix (P v 3)) := by
                    rw [e5']
                    split
                    · split
                      · exact hr _ (h3.ix (hq3 (by rename_i hz _; rcases hz with q | q | q <;> exact k2_of _ q (by decide))) (by omega)).1
                      · exact Or.inl rfl
                    · exact Or.inl rfl
                  have g3 : ix (P v 3) < 28 := by
                    by_cases hz : P v 3 = -1
                    · rw [hz]; decide
                    · have := (h3.ix hz (by omega)).1; omega
                  have ein := gi.ix (show ¬ x5 = -1 from c160) (by omega)
                  refine am_aload_n (i := 0) dC_standInByRules_163 rfl rfl ?_
                  refine am_getf dC_standInByRules_164 flC_37 (by first | rfl | exact sk8 (by omega) | exact sk9 (by omega) | exact sk10 (by omega) | exact sk11 (by omega)) rfl ?_
                  refine am_iconst (v := 5) dC_standInByRules_167 (by decide) ?_
                  refine am_dup2 dC_standInByRules_168 rfl rfl ?_
                  refine am_iald dC_standInByRules_169 (by first | rfl | exact sk8 (by omega) | exact sk9 (by omega) | exact sk10 (by omega) | exact sk11 (by omega)) (show (5 : Int32) = nI 5 from rfl) (by first | omega | assumption | decide) (by decide) (by decide) rfl ?_
                  refine am_iconst (v := 1) dC_standInByRules_170 (by decide) ?_
                  refine am_iadd dC_standInByRules_171 ?_
                  refine am_iast' dC_standInByRules_172 (by first | rfl | exact sk8 (by omega) | exact sk9 (by omega) | exact sk10 (by omega) | exact sk11 (by omega)) (show (5 : Int32) = nI 5 from rfl) (by first | omega | assumption | decide) (by decide) (by decide) (by first | exact wx_st | exact wx_mk | exact wx_lv | exact wx_us | exact wx_A | exact wx_P | exact wx_cl | exact wx_pr | exact wx_va | exact wx_si | exact wx_wk) ?_
                  refine am_aload_n (i := 2) dC_standInByRules_173 rfl rfl ?_
                  refine am_aload_n (i := 0) dC_standInByRules_174 rfl rfl ?_
                  refine am_getf dC_standInByRules_175 flC_15 (by first | rfl | exact sk8 (by omega) | exact sk9 (by omega) | exact sk10 (by omega) | exact sk11 (by omega)) rfl ?_
                  refine am_iload (i := 4) dC_standInByRules_178 rfl ?_
                  refine am_aald dC_standInByRules_180 (by first | rfl | exact sk8 (by omega) | exact sk9 (by omega) | exact sk10 (by omega) | exact sk11 (by omega)) ein.2 (by first | omega | assumption | decide) (by decide) (by decide) rfl rfl ?_
                  refine am_callV (ac' := 0) (as' := 0) (xs := [_]) dC_standInByRules_181 lkC_147 (by first | rfl | exact sk8 (by omega) | exact sk9 (by omega) | exact sk10 (by omega) | exact sk11 (by omega)) rfl rfl rfl rfl (Nat.le_of_ble_eq_true rfl) rfl rfl (cO_hasShapeOf9 hv (by omega) (fun cs => ?_) (fun cs => ?_))
                  · refine am_if_eq_F (tgt := 190) dC_standInByRules_184 (by decide) (by decide) ?_
                    refine am_iload (i := 4) dC_standInByRules_187 rfl ?_
                    refine am_iret (st := []) rfl rfl dC_standInByRules_189 ?_
                    have hr5 : q_rul P v = 5 := ru5 co (e2 ▸ c48) (by grind) (by grind) (fun q => c160 (e5.trans q))
                    obtain ⟨o1, o2⟩ := q_out (st := st) (us := us) (T := P) (y := x5) hr5 (by unfold q_tab; rw [if_neg (by omega), if_neg (by omega), if_neg (fun q => q.2 (e5 ▸ cs))]) (by unfold q_dir; rw [if_neg (by omega), if_neg (by omega), if_pos ⟨hr5, e5 ▸ cs⟩, e5])
                    exact k _ _ _ (by rw [o1, if_neg c160]) (by unfold q_tab; rw [if_neg (by omega), if_neg (by omega), if_neg (fun q => q.2 (e5 ▸ cs))]) (by rw [o2, if_neg (fun q => c160 q.1)]; rfl)
                  · refine am_if_eq_T (tgt := 190) dC_standInByRules_184 (by decide) (by decide) ?_
                    refine am_aload_n (i := 2) dC_standInByRules_190 rfl rfl ?_
                    refine am_iload (i := 4) dC_standInByRules_191 rfl ?_
                    refine am_putf' dC_standInByRules_193 flC_132 (by first | rfl | exact sk8 (by omega) | exact sk9 (by omega) | exact sk10 (by omega) | exact sk11 (by omega)) rfl (fun _ => ⟨rfl, rfl⟩) (by first | exact wx_st | exact wx_mk | exact wx_lv | exact wx_us | exact wx_A | exact wx_P | exact wx_cl | exact wx_pr | exact wx_va | exact wx_si | exact wx_wk) ?_
                    refine am_aload_n (i := 0) dC_standInByRules_196 rfl rfl ?_
                    refine am_iload_n (i := 1) dC_standInByRules_197 rfl rfl ?_
                    refine am_callV (ac' := 0) (as' := 0) (xs := [_]) dC_standInByRules_198 lkC_178 (by first | rfl | exact sk8 (by omega) | exact sk9 (by omega) | exact sk10 (by omega) | exact sk11 (by omega)) rfl rfl rfl rfl (Nat.le_of_ble_eq_true rfl) rfl rfl (cC_alikeOrItself hv (fun u hu hsu hlu hnu => ?_) (fun hnu => ?_))
                    · refine am_iret (st := []) rfl rfl dC_standInByRules_201 ?_
                      have hr5 : q_rul P v = 5 := ru5 co (e2 ▸ c48) (by grind) (by grind) (fun q => c160 (e5.trans q))
                      have ht : q_tab P v = up2 P v 3 x5 := by unfold q_tab; rw [if_neg (by omega), if_neg (by omega), if_pos ⟨hr5, e5 ▸ cs⟩, e5]
                      have hd : q_dir P v = -1 := by unfold q_dir; rw [if_neg (by omega), if_neg (by omega), if_neg (fun q => (e5 ▸ cs) q.2)]
                      obtain ⟨o1, o2⟩ := q_out (st := st) (us := us) hr5 ht hd
                      have ha : q_al st (up2 P v 3 x5) v = _ := q_al_hit hu hsu hlu hnu
                      exact k _ _ _ (by rw [o1, if_pos rfl, ha]) ht.symm (by rw [o2, if_pos ⟨rfl, by rw [ha]; omega⟩]; rfl)
                    · refine am_iret (st := []) rfl rfl dC_standInByRules_201 ?_
                      have hr5 : q_rul P v = 5 := ru5 co (e2 ▸ c48) (by grind) (by grind) (fun q => c160 (e5.trans q))
                      have ht : q_tab P v = up2 P v 3 x5 := by unfold q_tab; rw [if_neg (by omega), if_neg (by omega), if_pos ⟨hr5, e5 ▸ cs⟩, e5]
                      have hd : q_dir P v = -1 := by unfold q_dir; rw [if_neg (by omega), if_neg (by omega), if_neg (fun q => (e5 ▸ cs) q.2)]
                      obtain ⟨o1, o2⟩ := q_out (st := st) (us := us) hr5 ht hd
                      have ha : q_al st (up2 P v 3 x5) v = _ := q_al_none hnu
                      exact k _ _ _ (by rw [o1, if_pos rfl, ha]) ht.symm (by rw [o2, if_neg (fun q => q.2 ha)]; rfl)
              · refine am_aload_n (i := 0) dC_standInByRules_135 rfl rfl ?_
                refine am_getf dC_standInByRules_136 flC_37 (by first | rfl | exact sk8 (by omega) | exact sk9 (by omega) | exact sk10 (by omega) | exact sk11 (by omega)) rfl ?_
                refine am_iconst (v := 4) dC_standInByRules_139 (by decide) ?_
                refine am_dup2 dC_standInByRules_140 rfl rfl ?_
                refine am_iald dC_standInByRules_141 (by first | rfl | exact sk8 (by omega) | exact sk9 (by omega) | exact sk10 (by omega) | exact sk11 (by omega)) (show (4 : Int32) = nI 4 from rfl) (by first | omega | assumption | decide) (by decide) (by decide) rfl ?_
                refine am_iconst (v := 1) dC_standInByRules_142 (by decide) ?_
                refine am_iadd dC_standInByRules_143 ?_
                refine am_iast' dC_standInByRules_144 (by first | rfl | exact sk8 (by omega) | exact sk9 (by omega) | exact sk10 (by omega) | exact sk11 (by omega)) (show (4 : Int32) = nI 4 from rfl) (by first | omega | assumption | decide) (by decide) (by decide) (by first | exact wx_st | exact wx_mk | exact wx_lv | exact wx_us | exact wx_A | exact wx_P | exact wx_cl | exact wx_pr | exact wx_va | exact wx_si | exact wx_wk) ?_
                refine am_aload_n (i := 2) dC_standInByRules_145 rfl rfl ?_
                refine am_getf dC_standInByRules_146 flC_132 (by first | rfl | exact sk8 (by omega) | exact sk9 (by omega) | exact sk10 (by omega) | exact sk11 (by omega)) rfl ?_
                refine am_iret (st := []) rfl rfl dC_standInByRules_149 ?_
                have hr4 : q_rul P v = 4 := ru4 co (e2 ▸ c48) (by grind) ⟨by grind, by grind⟩
                have hn3 : ¬ P v 3 = -1 := hq3 (k2_of 5 (by grind) (by decide))
                obtain ⟨o1, o2⟩ := q_out (st := st) (us := us) (T := P) (y := P v 3) hr4 (by unfold q_tab; rw [hr4]; rfl) (by unfold q_dir; rw [hr4]; rfl)
                exact k _ _ _ (by rw [o1, if_neg hn3]) (by unfold q_tab; rw [hr4]; rfl) (by rw [o2, if_neg (fun q => hn3 q.1)]; rfl)
    · refine am_aload_n (i := 0) dC_standInByRules_51 rfl rfl ?_
      refine am_getf dC_standInByRules_52 flC_37 (by first | rfl | exact sk8 (by omega) | exact sk9 (by omega) | exact sk10 (by omega) | exact sk11 (by omega)) rfl ?_
      refine am_iconst (v := 2) dC_standInByRules_55 (by decide) ?_
      refine am_dup2 dC_standInByRules_56 rfl rfl ?_
      refine am_iald dC_standInByRules_57 (by first | rfl | exact sk8 (by omega) | exact sk9 (by omega) | exact sk10 (by omega) | exact sk11 (by omega)) (show (2 : Int32) = nI 2 from rfl) (by first | omega | assumption | decide) (by decide) (by decide) rfl ?_
      refine am_iconst (v := 1) dC_standInByRules_58 (by decide) ?_
      refine am_iadd dC_standInByRules_59 ?_
      refine am_iast' dC_standInByRules_60 (by first | rfl | exact sk8 (by omega) | exact sk9 (by omega) | exact sk10 (by omega) | exact sk11 (by omega)) (show (2 : Int32) = nI 2 from rfl) (by first | omega | assumption | decide) (by decide) (by decide) (by first | exact wx_st | exact wx_mk | exact wx_lv | exact wx_us | exact wx_A | exact wx_P | exact wx_cl | exact wx_pr | exact wx_va | exact wx_si | exact wx_wk) ?_
      refine am_iload_n (i := 3) dC_standInByRules_61 rfl rfl ?_
      refine am_iret (st := []) rfl rfl dC_standInByRules_62 ?_
      have hr2 : q_rul P v = 2 := ru2 co (fun q => c48 (e2.trans q))
      obtain ⟨o1, o2⟩ := q_out (st := st) (us := us) (T := P) (y := x2) hr2 (by unfold q_tab; rw [hr2]; rfl) (by unfold q_dir; rw [hr2, ← e2]; rfl)
      exact k _ _ _ (by rw [o1, if_neg c48]) (by unfold q_tab; rw [hr2]; rfl) (by rw [o2, if_neg (fun q => c48 q.1)]; rfl)
end
section
/-! ===== live values, undoing: pure ===== -/
def q_fl0 (n : Nat) (lv : Nat → Int32) : Nat → Int32 := fun u => if u < n then 0 else lv u
def q_fl1 (mk st lv : Nat → Int32) : Nat → Nat → Int32
  | 0 => lv
  | i + 1 => if mk i = 0 then q_fl1 mk st lv i else upd (q_fl1 mk st lv i) (ix (st i)) 1
def q_mkl (l : Nat → Int32) (x : Int32) : Nat → Int32 := if x = -1 then l else upd l (ix x) 1
def q_fl2 (P : Nat → Nat → Int32) : Nat → (Nat → Int32) → (Nat → Int32)
  | 0, l => l
  | v + 1, l => q_fl2 P v (if l v = 0 then l else q_mkl (q_mkl l (P v 3)) (P v 4))
def q_live (n : Nat) (mk st : Nat → Int32) (P : Nat → Nat → Int32) (lv : Nat → Int32) : Nat → Int32 := q_fl2 P n (q_fl1 mk st (q_fl0 n lv) n)
def q_cp (A P : Nat → Nat → Int32) (v : Nat) : Nat → Nat → Int32 := fun i k => if i = v ∧ k < 7 then A v k else P i k
def q_cpn (n : Nat) (A P : Nat → Nat → Int32) : Nat → Nat → Int32 := fun i k => if i < n ∧ k < 7 then A i k else P i k
def q_idn (n : Nat) (st : Nat → Int32) : Nat → Int32 := fun i => if i < n then nI i else st i
theorem nI_dec (x : Int32) : x + Int32.ofInt (-1) = x - 1 := by rw [Int32.sub_eq_add_neg]; rfl
theorem q_ixs {st : Nat → Int32} {i n : Nat} (h : ∃ j, j < n ∧ st i = nI j) (hn : n ≤ 28) : ix (st i) < n ∧ st i = nI (ix (st i)) := by
  obtain ⟨j, hj, e⟩ := h
  rw [e, ix_nI (by omega)]
  exact ⟨hj, rfl⟩
set_option maxRecDepth 100000 in
set_option maxHeartbeats 4000000 in
theorem cO_copyFrom {g : am_G} {d : Nat} {Q : Option am_V → am_H → Prop} {Y : Nat → Nat → Nat → am_V} {A P : Nat → Nat → Int32} {st mk lv : Nat → Int32} {cl pr : Nat → Nat → Int32} {us : Nat → Int32} {va si wk : Int32} {v : Nat} (hv : v < 28) (k : ∀ T, T = q_cp A P v → Q none (hm (xc A T st mk lv cl pr us va si wk) Y)) : am_C g mO_copyFrom (d + 1) 0 0 [am_O 9 v, am_O 8 v] (hm (xc A P st mk lv cl pr us va si wk) Y) Q := by
  refine am_enter (lv := [some (am_O 9 v), some (am_O 8 v)]) rfl rfl (am_cat1 rfl) (Nat.le_of_ble_eq_true rfl) ?_
  refine am_aload_n (i := 0) dO_copyFrom_0 rfl rfl ?_
  refine am_aload_n (i := 1) dO_copyFrom_1 rfl rfl ?_
  refine am_getf dO_copyFrom_2 flO_9 (by first | rfl | exact sk8 (by omega) | exact sk9 (by omega) | exact sk10 (by omega) | exact sk11 (by omega)) rfl ?_
  refine am_aload_n (i := 1) dO_copyFrom_5 rfl rfl ?_
  refine am_getf dO_copyFrom_6 flO_15 (by first | rfl | exact sk8 (by omega) | exact sk9 (by omega) | exact sk10 (by omega) | exact sk11 (by omega)) rfl ?_
  refine am_callV (ac' := 0) (as' := 0) (xs := [_, _]) dO_copyFrom_9 lkO_37 (by first | rfl | exact sk8 (by omega) | exact sk9 (by omega) | exact sk10 (by omega) | exact sk11 (by omega)) rfl rfl rfl rfl (Nat.le_of_ble_eq_true rfl) rfl rfl (cO_takeShape9 hv ?_)
  refine am_aload_n (i := 0) dO_copyFrom_12 rfl rfl ?_
  refine am_aload_n (i := 1) dO_copyFrom_13 rfl rfl ?_
  refine am_getf dO_copyFrom_14 flO_18 (by first | rfl | exact sk8 (by omega) | exact sk9 (by omega) | exact sk10 (by omega) | exact sk11 (by omega)) rfl ?_
  refine am_aload_n (i := 1) dO_copyFrom_17 rfl rfl ?_
  refine am_getf dO_copyFrom_18 flO_21 (by first | rfl | exact sk8 (by omega) | exact sk9 (by omega) | exact sk10 (by omega) | exact sk11 (by omega)) rfl ?_
  refine am_aload_n (i := 1) dO_copyFrom_21 rfl rfl ?_
  refine am_getf dO_copyFrom_22 flO_24 (by first | rfl | exact sk8 (by omega) | exact sk9 (by omega) | exact sk10 (by omega) | exact sk11 (by omega)) rfl ?_
  refine am_aload_n (i := 1) dO_copyFrom_25 rfl rfl ?_
  refine am_getf dO_copyFrom_26 flO_27 (by first | rfl | exact sk8 (by omega) | exact sk9 (by omega) | exact sk10 (by omega) | exact sk11 (by omega)) rfl ?_
  refine am_aload_n (i := 1) dO_copyFrom_29 rfl rfl ?_
  refine am_getf dO_copyFrom_30 flO_30 (by first | rfl | exact sk8 (by omega) | exact sk9 (by omega) | exact sk10 (by omega) | exact sk11 (by omega)) rfl ?_
  refine am_callV (ac' := 0) (as' := 0) (xs := [_, _, _, _, _]) dO_copyFrom_33 lkO_33 (by first | rfl | exact sk8 (by omega) | exact sk9 (by omega) | exact sk10 (by omega) | exact sk11 (by omega)) rfl rfl rfl rfl (Nat.le_of_ble_eq_true rfl) rfl rfl (cO_become9 hv ?_)
  refine am_vret (st := []) rfl dO_copyFrom_36 ?_
  refine k _ ?_
  funext i m
  unfold q_cp up2
  by_cases hi : i = v
  · subst hi
    match m with
    | 0 => simp
    | 1 => simp
    | 2 => simp
    | 3 => simp
    | 4 => simp
    | 5 => simp
    | 6 => simp
    | m + 7 => simp; intro h; omega
  · simp [hi]
set_option maxRecDepth 100000 in
set_option maxHeartbeats 4000000 in
theorem lpC_find1 {g : am_G} {d : Nat} {Q : Option am_V → am_H → Prop} {Y : Nat → Nat → Nat → am_V} {A P : Nat → Nat → Int32} {st mk lv : Nat → Int32} {cl pr : Nat → Nat → Int32} {us : Nat → Int32} {si wk : Int32} {n : Nat} (hn : n ≤ 28) (K : am_T g mC_findLive (d + 1) 0 0 23 [some (am_O 0 0), some (am_I (nI n))] [] (hm (xc A P st mk (fun u => if u < n then 0 else lv u) cl pr us (nI n) si wk) Y) Q) : ∀ (j i : Nat), i + j = n → am_T g mC_findLive (d + 1) 0 0 2 [some (am_O 0 0), some (am_I (nI i))] [] (hm (xc A P st mk (fun u => if u < i then 0 else lv u) cl pr us (nI n) si wk) Y) Q := by
  intro j
  induction j with
  | zero =>
    intro i hi
    refine am_iload_n (i := 1) dC_findLive_2 rfl rfl ?_
    refine am_aload_n (i := 0) dC_findLive_3 rfl rfl ?_
    refine am_getf dC_findLive_4 flC_40 (by first | rfl | exact sk8 (by omega) | exact sk9 (by omega) | exact sk10 (by omega) | exact sk11 (by omega)) rfl ?_
    refine am_icmp_ge_T (tgt := 23) dC_findLive_7 (by decide) ((nI_le' (by omega) (by omega)).mpr (by omega)) ?_
    have e : i = n := by omega
    subst e
    exact K
  | succ j ih =>
    intro i hi
    refine am_iload_n (i := 1) dC_findLive_2 rfl rfl ?_
    refine am_aload_n (i := 0) dC_findLive_3 rfl rfl ?_
    refine am_getf dC_findLive_4 flC_40 (by first | rfl | exact sk8 (by omega) | exact sk9 (by omega) | exact sk10 (by omega) | exact sk11 (by omega)) rfl ?_
    refine am_icmp_ge_F (tgt := 23) dC_findLive_7 (by decide) (fun q => absurd ((nI_le' (by omega) (by omega)).mp q) (by omega)) ?_
    refine am_aload_n (i := 0) dC_findLive_10 rfl rfl ?_
    refine am_getf dC_findLive_11 flC_26 (by first | rfl | exact sk8 (by omega) | exact sk9 (by omega) | exact sk10 (by omega) | exact sk11 (by omega)) rfl ?_
    refine am_iload_n (i := 1) dC_findLive_14 rfl rfl ?_
    refine am_iconst (v := 0) dC_findLive_15 (by decide) ?_
    refine am_zast' dC_findLive_16 (by first | rfl | exact sk8 (by omega) | exact sk9 (by omega) | exact sk10 (by omega) | exact sk11 (by omega)) rfl (by first | omega | assumption | decide) (by decide) (by decide) rfl (by first | exact wx_st | exact wx_mk | exact wx_lv | exact wx_us | exact wx_A | exact wx_P | exact wx_cl | exact wx_pr | exact wx_va | exact wx_si | exact wx_wk) ?_
    refine am_iinc dC_findLive_17 rfl (by first | exact nI_1 _ | exact pk_m1 _ | rfl) (by decide) ?_
    refine am_goto (tgt := 2) dC_findLive_20 (by decide) ?_
    refine am_hT (h' := (hm (xc A P st mk (fun u => if u < i + 1 then 0 else lv u) cl pr us (nI n) si wk) Y)) ?_ (ih (i + 1) (by omega))
    congr 2
    funext u
    unfold upd
    grind
set_option maxRecDepth 100000 in
set_option maxHeartbeats 4000000 in
theorem lpC_find2 {g : am_G} {d : Nat} {Q : Option am_V → am_H → Prop} {Y : Nat → Nat → Nat → am_V} {A P : Nat → Nat → Int32} {st mk lv : Nat → Int32} {cl pr : Nat → Nat → Int32} {us : Nat → Int32} {si wk : Int32} {n : Nat} (hn : n ≤ 28) (hs : ∀ m, m < n → ∃ j, j < n ∧ st m = nI j) (K : am_T g mC_findLive (d + 1) 0 0 60 [some (am_O 0 0), some (am_I (nI n))] [] (hm (xc A P st mk (q_fl1 mk st lv n) cl pr us (nI n) si wk) Y) Q) : ∀ (j i : Nat), i + j = n → am_T g mC_findLive (d + 1) 0 0 25 [some (am_O 0 0), some (am_I (nI i))] [] (hm (xc A P st mk (q_fl1 mk st lv i) cl pr us (nI n) si wk) Y) Q := by
  intro j
  induction j with
  | zero =>
    intro i hi
    refine am_iload_n (i := 1) dC_findLive_25 rfl rfl ?_
    refine am_aload_n (i := 0) dC_findLive_26 rfl rfl ?_
    refine am_getf dC_findLive_27 flC_40 (by first | rfl | exact sk8 (by omega) | exact sk9 (by omega) | exact sk10 (by omega) | exact sk11 (by omega)) rfl ?_
    refine am_icmp_ge_T (tgt := 60) dC_findLive_30 (by decide) ((nI_le' (by omega) (by omega)).mpr (by omega)) ?_
    have e : i = n := by omega
    subst e
    exact K
  | succ j ih =>
    intro i hi
    refine am_iload_n (i := 1) dC_findLive_25 rfl rfl ?_
    refine am_aload_n (i := 0) dC_findLive_26 rfl rfl ?_
    refine am_getf dC_findLive_27 flC_40 (by first | rfl | exact sk8 (by omega) | exact sk9 (by omega) | exact sk10 (by omega) | exact sk11 (by omega)) rfl ?_
    refine am_icmp_ge_F (tgt := 60) dC_findLive_30 (by decide) (fun q => absurd ((nI_le' (by omega) (by omega)).mp q) (by omega)) ?_
    refine am_aload_n (i := 0) dC_findLive_33 rfl rfl ?_
    refine am_getf dC_findLive_34 flC_22 (by first | rfl | exact sk8 (by omega) | exact sk9 (by omega) | exact sk10 (by omega) | exact sk11 (by omega)) rfl ?_
    refine am_iload_n (i := 1) dC_findLive_37 rfl rfl ?_
    refine am_zald dC_findLive_38 (by first | rfl | exact sk8 (by omega) | exact sk9 (by omega) | exact sk10 (by omega) | exact sk11 (by omega)) rfl (by first | omega | assumption | decide) (by decide) (by decide) rfl ?_
    refine am_if_eq (tgt := 54) dC_findLive_39 (by decide) (fun c39 => ?_) (fun c39 => ?_)
    · refine am_iinc dC_findLive_54 rfl (by first | exact nI_1 _ | exact pk_m1 _ | rfl) (by decide) ?_
      refine am_goto (tgt := 25) dC_findLive_57 (by decide) ?_
      refine am_hT (h' := (hm (xc A P st mk (q_fl1 mk st lv (i + 1)) cl pr us (nI n) si wk) Y)) ?_ (ih (i + 1) (by omega))
      congr 2
      exact (show q_fl1 mk st lv (i + 1) = _ by first | exact if_pos c39 | exact if_neg c39).symm
    · obtain ⟨hj, ej⟩ := q_ixs (hs i (by omega)) hn
      refine am_aload_n (i := 0) dC_findLive_42 rfl rfl ?_
      refine am_getf dC_findLive_43 flC_26 (by first | rfl | exact sk8 (by omega) | exact sk9 (by omega) | exact sk10 (by omega) | exact sk11 (by omega)) rfl ?_
      refine am_aload_n (i := 0) dC_findLive_46 rfl rfl ?_
      refine am_getf dC_findLive_47 flC_18 (by first | rfl | exact sk8 (by omega) | exact sk9 (by omega) | exact sk10 (by omega) | exact sk11 (by omega)) rfl ?_
      refine am_iload_n (i := 1) dC_findLive_50 rfl rfl ?_
      refine am_iald dC_findLive_51 (by first | rfl | exact sk8 (by omega) | exact sk9 (by omega) | exact sk10 (by omega) | exact sk11 (by omega)) rfl (by first | omega | assumption | decide) (by decide) (by decide) rfl ?_
      refine am_iconst (v := 1) dC_findLive_52 (by decide) ?_
      refine am_zast' dC_findLive_53 (by first | rfl | exact sk8 (by omega) | exact sk9 (by omega) | exact sk10 (by omega) | exact sk11 (by omega)) ej (by first | omega | assumption | decide) (by decide) (by decide) rfl (by first | exact wx_st | exact wx_mk | exact wx_lv | exact wx_us | exact wx_A | exact wx_P | exact wx_cl | exact wx_pr | exact wx_va | exact wx_si | exact wx_wk) ?_
      refine am_iinc dC_findLive_54 rfl (by first | exact nI_1 _ | exact pk_m1 _ | rfl) (by decide) ?_
      refine am_goto (tgt := 25) dC_findLive_57 (by decide) ?_
      refine am_hT (h' := (hm (xc A P st mk (q_fl1 mk st lv (i + 1)) cl pr us (nI n) si wk) Y)) ?_ (ih (i + 1) (by omega))
      congr 2
      exact (show q_fl1 mk st lv (i + 1) = _ by first | exact if_pos c39 | exact if_neg c39).symm
set_option maxRecDepth 100000 in
set_option maxHeartbeats 4000000 in
theorem lpC_find3 {g : am_G} {d : Nat} {Q : Option am_V → am_H → Prop} {Y : Nat → Nat → Nat → am_V} {A P : Nat → Nat → Int32} {st mk : Nat → Int32} {cl pr : Nat → Nat → Int32} {us : Nat → Int32} {si wk : Int32} {n : Nat} (hn : n ≤ 28) (hP : ∀ m, m < n → q_arg (P m 3) m ∧ q_arg (P m 4) m) : ∀ (i : Nat) (lv : Nat → Int32), i ≤ n → ∀ x : Int32, x = nI i - 1 → (∀ l, l = q_fl2 P i lv → Q none (hm (xc A P st mk l cl pr us (nI n) si wk) Y)) → am_T g mC_findLive (d + 1) 0 0 67 [some (am_O 0 0), some (am_I (x))] [] (hm (xc A P st mk lv cl pr us (nI n) si wk) Y) Q := by
  intro i
  induction i with
  | zero =>
    intro lv hi x hx K
    refine am_iload_n (i := 1) dC_findLive_67 rfl rfl ?_
    refine am_if_lt_T (tgt := 112) dC_findLive_68 (by decide) (by rw [hx]; decide) ?_
    refine am_vret (st := []) rfl dC_findLive_112 ?_
    exact K lv rfl
  | succ i ih =>
    intro lv hi x hx K
    have hxi : x = nI i := by rw [hx, nI_pred]
    subst hxi
    refine am_iload_n (i := 1) dC_findLive_67 rfl rfl ?_
    refine am_if_lt_F (tgt := 112) dC_findLive_68 (by decide) (by rw [hx, nI_pred]; exact nI_pos (by omega)) ?_
    refine am_aload_n (i := 0) dC_findLive_71 rfl rfl ?_
    refine am_getf dC_findLive_72 flC_26 (by first | rfl | exact sk8 (by omega) | exact sk9 (by omega) | exact sk10 (by omega) | exact sk11 (by omega)) rfl ?_
    
    refine am_iload_n (i := 1) dC_findLive_75 rfl rfl ?_
    refine am_zald dC_findLive_76 (by first | rfl | exact sk8 (by omega) | exact sk9 (by omega) | exact sk10 (by omega) | exact sk11 (by omega)) rfl (by first | omega | assumption | decide) (by decide) (by decide) rfl ?_
    refine am_if_eq (tgt := 106) dC_findLive_77 (by decide) (fun c77 => ?_) (fun c77 => ?_)
    · refine am_iinc dC_findLive_106 rfl (nI_dec _) (by decide) ?_
      refine am_goto (tgt := 67) dC_findLive_109 (by decide) ?_
      refine ih _ (by omega) _ rfl (fun l hl => K l ?_)
      rw [hl]
      show _ = q_fl2 P i (if lv i = 0 then lv else q_mkl (q_mkl lv (P i 3)) (P i 4))
      first
        | (rw [if_pos c77]; done)
        | (rw [if_neg c77, e2, e1]; rfl)
    · refine am_aload_n (i := 0) dC_findLive_80 rfl rfl ?_
      refine am_aload_n (i := 0) dC_findLive_81 rfl rfl ?_
      refine am_getf dC_findLive_82 flC_15 (by first | rfl | exact sk8 (by omega) | exact sk9 (by omega) | exact sk10 (by omega) | exact sk11 (by omega)) rfl ?_
      refine am_iload_n (i := 1) dC_findLive_85 rfl rfl ?_
      refine am_aald dC_findLive_86 (by first | rfl | exact sk8 (by omega) | exact sk9 (by omega) | exact sk10 (by omega) | exact sk11 (by omega)) rfl (by first | omega | assumption | decide) (by decide) (by decide) rfl rfl ?_
      refine am_getf dC_findLive_87 flC_132 (by first | rfl | exact sk8 (by omega) | exact sk9 (by omega) | exact sk10 (by omega) | exact sk11 (by omega)) rfl ?_
      refine am_callV (ac' := 0) (as' := 0) (xs := [_]) dC_findLive_90 lkC_158 (by first | rfl | exact sk8 (by omega) | exact sk9 (by omega) | exact sk10 (by omega) | exact sk11 (by omega)) rfl rfl rfl rfl (Nat.le_of_ble_eq_true rfl) rfl rfl (cC_makeLive (v := i) (by omega) (hP i (by omega)).1 (fun l1 e1 => ?_))
      refine am_aload_n (i := 0) dC_findLive_93 rfl rfl ?_
      refine am_aload_n (i := 0) dC_findLive_94 rfl rfl ?_
      refine am_getf dC_findLive_95 flC_15 (by first | rfl | exact sk8 (by omega) | exact sk9 (by omega) | exact sk10 (by omega) | exact sk11 (by omega)) rfl ?_
      refine am_iload_n (i := 1) dC_findLive_98 rfl rfl ?_
      refine am_aald dC_findLive_99 (by first | rfl | exact sk8 (by omega) | exact sk9 (by omega) | exact sk10 (by omega) | exact sk11 (by omega)) rfl (by first | omega | assumption | decide) (by decide) (by decide) rfl rfl ?_
      refine am_getf dC_findLive_100 flC_135 (by first | rfl | exact sk8 (by omega) | exact sk9 (by omega) | exact sk10 (by omega) | exact sk11 (by omega)) rfl ?_
      refine am_callV (ac' := 0) (as' := 0) (xs := [_]) dC_findLive_103 lkC_158 (by first | rfl | exact sk8 (by omega) | exact sk9 (by omega) | exact sk10 (by omega) | exact sk11 (by omega)) rfl rfl rfl rfl (Nat.le_of_ble_eq_true rfl) rfl rfl (cC_makeLive (v := i) (by omega) (hP i (by omega)).2 (fun l2 e2 => ?_))
      refine am_iinc dC_findLive_106 rfl (nI_dec _) (by decide) ?_
      refine am_goto (tgt := 67) dC_findLive_109 (by decide) ?_
      refine ih _ (by omega) _ rfl (fun l hl => K l ?_)
      rw [hl]
      show _ = q_fl2 P i (if lv i = 0 then lv else q_mkl (q_mkl lv (P i 3)) (P i 4))
      first
        | (rw [if_pos c77]; done)
        | (rw [if_neg c77, e2, e1]; rfl)
set_option maxRecDepth 100000 in
set_option maxHeartbeats 4000000 in
theorem cC_findLive {g : am_G} {d : Nat} {Q : Option am_V → am_H → Prop} {Y : Nat → Nat → Nat → am_V} {A P : Nat → Nat → Int32} {st mk lv : Nat → Int32} {cl pr : Nat → Nat → Int32} {us : Nat → Int32} {si wk : Int32} {n : Nat} (hn : n ≤ 28) (hs : ∀ m, m < n → ∃ j, j < n ∧ st m = nI j) (hP : ∀ m, m < n → q_arg (P m 3) m ∧ q_arg (P m 4) m) (k : ∀ l, l = q_live n mk st P lv → Q none (hm (xc A P st mk l cl pr us (nI n) si wk) Y)) : am_C g mC_findLive (d + 1) 0 0 [am_O 0 0] (hm (xc A P st mk lv cl pr us (nI n) si wk) Y) Q := by
  refine am_enter (lv := [some (am_O 0 0), none]) rfl rfl (am_cat1 rfl) (Nat.le_of_ble_eq_true rfl) ?_
  refine am_iconst (v := 0) dC_findLive_0 (by decide) ?_
  refine am_istore_n (i := 1) dC_findLive_1 rfl (by decide) ?_
  refine am_hT (h' := (hm (xc A P st mk (fun u => if u < 0 then 0 else lv u) cl pr us (nI n) si wk) Y)) (by congr 2) (lpC_find1 hn ?_ n 0 (by omega))
  refine am_iconst (v := 0) dC_findLive_23 (by decide) ?_
  refine am_istore_n (i := 1) dC_findLive_24 rfl (by decide) ?_
  refine am_hT (h' := (hm (xc A P st mk (q_fl1 mk st (q_fl0 n lv) 0) cl pr us (nI n) si wk) Y)) rfl (lpC_find2 hn hs ?_ n 0 (by omega))
  refine am_aload_n (i := 0) dC_findLive_60 rfl rfl ?_
  refine am_getf dC_findLive_61 flC_40 (by first | rfl | exact sk8 (by omega) | exact sk9 (by omega) | exact sk10 (by omega) | exact sk11 (by omega)) rfl ?_
  refine am_iconst (v := 1) dC_findLive_64 (by decide) ?_
  refine am_isub dC_findLive_65 ?_
  refine am_istore_n (i := 1) dC_findLive_66 rfl (by decide) ?_
  exact lpC_find3 hn hP n _ (Nat.le_refl _) _ rfl k
set_option maxRecDepth 100000 in
set_option maxHeartbeats 4000000 in
theorem lpC_undo {g : am_G} {d : Nat} {Q : Option am_V → am_H → Prop} {Y : Nat → Nat → Nat → am_V} {A P : Nat → Nat → Int32} {st mk lv : Nat → Int32} {cl pr : Nat → Nat → Int32} {us : Nat → Int32} {si wk : Int32} {n : Nat} (hn : n ≤ 28) (K : am_T g mC_undoSimplifying (d + 2) 0 0 38 [some (am_O 0 0), some (am_I (nI n))] [] (hm (xc A (q_cpn n A P) (q_idn n st) mk lv cl pr us (nI n) si wk) Y) Q) : ∀ (j i : Nat), i + j = n → am_T g mC_undoSimplifying (d + 2) 0 0 2 [some (am_O 0 0), some (am_I (nI i))] [] (hm (xc A (q_cpn i A P) (q_idn i st) mk lv cl pr us (nI n) si wk) Y) Q := by
  intro j
  induction j with
  | zero =>
    intro i hi
    refine am_iload_n (i := 1) dC_undoSimplifying_2 rfl rfl ?_
    refine am_aload_n (i := 0) dC_undoSimplifying_3 rfl rfl ?_
    refine am_getf dC_undoSimplifying_4 flC_40 (by first | rfl | exact sk8 (by omega) | exact sk9 (by omega) | exact sk10 (by omega) | exact sk11 (by omega)) rfl ?_
    refine am_icmp_ge_T (tgt := 38) dC_undoSimplifying_7 (by decide) ((nI_le' (by omega) (by omega)).mpr (by omega)) ?_
    have e : i = n := by omega
    subst e
    exact K
  | succ j ih =>
    intro i hi
    refine am_iload_n (i := 1) dC_undoSimplifying_2 rfl rfl ?_
    refine am_aload_n (i := 0) dC_undoSimplifying_3 rfl rfl ?_
    refine am_getf dC_undoSimplifying_4 flC_40 (by first | rfl | exact sk8 (by omega) | exact sk9 (by omega) | exact sk10 (by omega) | exact sk11 (by omega)) rfl ?_
    refine am_icmp_ge_F (tgt := 38) dC_undoSimplifying_7 (by decide) (fun q => absurd ((nI_le' (by omega) (by omega)).mp q) (by omega)) ?_
    refine am_aload_n (i := 0) dC_undoSimplifying_10 rfl rfl ?_
    refine am_getf dC_undoSimplifying_11 flC_15 (by first | rfl | exact sk8 (by omega) | exact sk9 (by omega) | exact sk10 (by omega) | exact sk11 (by omega)) rfl ?_
    refine am_iload_n (i := 1) dC_undoSimplifying_14 rfl rfl ?_
    refine am_aald dC_undoSimplifying_15 (by first | rfl | exact sk8 (by omega) | exact sk9 (by omega) | exact sk10 (by omega) | exact sk11 (by omega)) rfl (by first | omega | assumption | decide) (by decide) (by decide) rfl rfl ?_
    refine am_aload_n (i := 0) dC_undoSimplifying_16 rfl rfl ?_
    refine am_getf dC_undoSimplifying_17 flC_11 (by first | rfl | exact sk8 (by omega) | exact sk9 (by omega) | exact sk10 (by omega) | exact sk11 (by omega)) rfl ?_
    refine am_iload_n (i := 1) dC_undoSimplifying_20 rfl rfl ?_
    refine am_aald dC_undoSimplifying_21 (by first | rfl | exact sk8 (by omega) | exact sk9 (by omega) | exact sk10 (by omega) | exact sk11 (by omega)) rfl (by first | omega | assumption | decide) (by decide) (by decide) rfl rfl ?_
    refine am_callV (ac' := 0) (as' := 0) (xs := [_]) dC_undoSimplifying_22 lkC_155 (by first | rfl | exact sk8 (by omega) | exact sk9 (by omega) | exact sk10 (by omega) | exact sk11 (by omega)) rfl rfl rfl rfl (Nat.le_of_ble_eq_true rfl) rfl rfl (cO_copyFrom (by omega) (fun T eT => ?_))
    refine am_aload_n (i := 0) dC_undoSimplifying_25 rfl rfl ?_
    refine am_getf dC_undoSimplifying_26 flC_18 (by first | rfl | exact sk8 (by omega) | exact sk9 (by omega) | exact sk10 (by omega) | exact sk11 (by omega)) rfl ?_
    refine am_iload_n (i := 1) dC_undoSimplifying_29 rfl rfl ?_
    refine am_iload_n (i := 1) dC_undoSimplifying_30 rfl rfl ?_
    refine am_iast' dC_undoSimplifying_31 (by first | rfl | exact sk8 (by omega) | exact sk9 (by omega) | exact sk10 (by omega) | exact sk11 (by omega)) rfl (by first | omega | assumption | decide) (by decide) (by decide) (by first | exact wx_st | exact wx_mk | exact wx_lv | exact wx_us | exact wx_A | exact wx_P | exact wx_cl | exact wx_pr | exact wx_va | exact wx_si | exact wx_wk) ?_
    refine am_iinc dC_undoSimplifying_32 rfl (by first | exact nI_1 _ | exact pk_m1 _ | rfl) (by decide) ?_
    refine am_goto (tgt := 2) dC_undoSimplifying_35 (by decide) ?_
    refine am_hT (h' := (hm (xc A (q_cpn (i + 1) A P) (q_idn (i + 1) st) mk lv cl pr us (nI n) si wk) Y)) ?_ (ih (i + 1) (by omega))
    rw [eT]
    congr 2
    · funext u m
      unfold q_cp q_cpn
      grind
    · funext u
      unfold upd q_idn
      grind
set_option maxRecDepth 100000 in
set_option maxHeartbeats 4000000 in
theorem cC_undo {g : am_G} {d : Nat} {Q : Option am_V → am_H → Prop} {Y : Nat → Nat → Nat → am_V} {A P : Nat → Nat → Int32} {st mk lv : Nat → Int32} {cl pr : Nat → Nat → Int32} {us : Nat → Int32} {si wk : Int32} {n : Nat} (hn : n ≤ 28) (hA : ∀ m, m < n → q_arg (A m 3) m ∧ q_arg (A m 4) m) (k : ∀ T S L, T = q_cpn n A P → S = q_idn n st → L = q_live n mk S T lv → Q none (hm (xc A T S mk L cl pr us (nI n) 0 0) Y)) : am_C g mC_undoSimplifying (d + 2) 0 0 [am_O 0 0] (hm (xc A P st mk lv cl pr us (nI n) si wk) Y) Q := by
  refine am_enter (lv := [some (am_O 0 0), none]) rfl rfl (am_cat1 rfl) (Nat.le_of_ble_eq_true rfl) ?_
  refine am_iconst (v := 0) dC_undoSimplifying_0 (by decide) ?_
  refine am_istore_n (i := 1) dC_undoSimplifying_1 rfl (by decide) ?_
  refine am_hT (h' := (hm (xc A (q_cpn 0 A P) (q_idn 0 st) mk lv cl pr us (nI n) si wk) Y)) ?_ (lpC_undo hn ?_ n 0 (by omega))
  · congr 2
  refine am_aload_n (i := 0) dC_undoSimplifying_38 rfl rfl ?_
  refine am_iconst (v := 0) dC_undoSimplifying_39 (by decide) ?_
  refine am_putf' dC_undoSimplifying_40 flC_44 (by first | rfl | exact sk8 (by omega) | exact sk9 (by omega) | exact sk10 (by omega) | exact sk11 (by omega)) rfl (fun _ => ⟨rfl, rfl⟩) (by first | exact wx_st | exact wx_mk | exact wx_lv | exact wx_us | exact wx_A | exact wx_P | exact wx_cl | exact wx_pr | exact wx_va | exact wx_si | exact wx_wk) ?_
  refine am_aload_n (i := 0) dC_undoSimplifying_43 rfl rfl ?_
  refine am_iconst (v := 0) dC_undoSimplifying_44 (by decide) ?_
  refine am_putf' dC_undoSimplifying_45 flC_48 (by first | rfl | exact sk8 (by omega) | exact sk9 (by omega) | exact sk10 (by omega) | exact sk11 (by omega)) rfl (fun _ => ⟨rfl, rfl⟩) (by first | exact wx_st | exact wx_mk | exact wx_lv | exact wx_us | exact wx_A | exact wx_P | exact wx_cl | exact wx_pr | exact wx_va | exact wx_si | exact wx_wk) ?_
  have hP' : ∀ m, m < n → q_arg (q_cpn n A P m 3) m ∧ q_arg (q_cpn n A P m 4) m := fun m hm => by
    unfold q_cpn
    rw [if_pos ⟨hm, by omega⟩, if_pos ⟨hm, by omega⟩]
    exact hA m hm
  refine am_aload_n (i := 0) dC_undoSimplifying_48 rfl rfl ?_
  refine am_callV (ac' := 0) (as' := 0) (xs := []) dC_undoSimplifying_49 lkC_112 (by first | rfl | exact sk8 (by omega) | exact sk9 (by omega) | exact sk10 (by omega) | exact sk11 (by omega)) rfl rfl rfl rfl (Nat.le_of_ble_eq_true rfl) rfl rfl (cC_findLive hn (fun m hm => ⟨m, hm, if_pos hm⟩) hP' (fun L eL => ?_))
  refine am_vret (st := []) rfl dC_undoSimplifying_52 ?_
  exact k _ _ _ rfl rfl eL
end
section
/-! ===== adding: pure ===== -/
def q_bec (A : Nat → Nat → Int32) (n : Nat) (κ a b p q : Int32) : Nat → Nat → Int32 := up2 (up2 (up2 (up2 (up2 A n 0 κ) n 3 a) n 4 b) n 5 p) n 6 q
def q_new (A : Nat → Nat → Int32) (n : Nat) (κ a b p q x y : Int32) : Nat → Nat → Int32 := up2 (up2 (q_bec A n κ a b p q) n 1 x) n 2 y
theorem q_bec_old {A : Nat → Nat → Int32} {n : Nat} {κ a b p q : Int32} {v k : Nat} (h : v ≠ n) : q_bec A n κ a b p q v k = A v k := by
  unfold q_bec
  rw [up2_i h, up2_i h, up2_i h, up2_i h, up2_i h]
theorem q_bec_3 {A : Nat → Nat → Int32} {n : Nat} {κ a b p q : Int32} : q_bec A n κ a b p q n 3 = a := by simp [q_bec, up2]
theorem q_bec_4 {A : Nat → Nat → Int32} {n : Nat} {κ a b p q : Int32} : q_bec A n κ a b p q n 4 = b := by simp [q_bec, up2]
abbrev q_val (x : Int32) (n : Nat) : Prop := ¬ (x < 0 ∨ nI n ≤ x)
theorem q_val_of {j n : Nat} (h : j < n) (hn : n ≤ 28) : q_val (nI j) n := by
  rintro (q | q)
  · exact nI_pos (by omega) q
  · have := (nI_le' (by omega) (by omega)).mp q; omega
theorem q_lt28 {n : Nat} (hn : n ≤ 28) : nI n < 28 ↔ n < 28 := nI_lt' (b := 28) (by omega) (by omega)
theorem q_args_bec {A : Nat → Nat → Int32} {n : Nat} {κ a b p q : Int32} (hA : ∀ m, m < n → q_arg (A m 3) m ∧ q_arg (A m 4) m) (ha : q_arg a n) (hb : q_arg b n) : ∀ m, m < n + 1 → q_arg (q_bec A n κ a b p q m 3) m ∧ q_arg (q_bec A n κ a b p q m 4) m := fun m hm => by
  by_cases e : m = n
  · subst e
    rw [q_bec_3, q_bec_4]
    exact ⟨ha, hb⟩
  · rw [q_bec_old e, q_bec_old e]
    exact hA m (by omega)
set_option maxRecDepth 100000 in
set_option maxHeartbeats 4000000 in
theorem cC_addWithShape {g : am_G} {d : Nat} {Q : Option am_V → am_H → Prop} {Y : Nat → Nat → Nat → am_V} {A P : Nat → Nat → Int32} {st mk lv : Nat → Int32} {cl pr : Nat → Nat → Int32} {us : Nat → Int32} {si wk : Int32} {n : Nat} {x y : Int32} (hn : n < 28) (hA : ∀ m, m < n + 1 → q_arg (A m 3) m ∧ q_arg (A m 4) m) (ka : ∀ A1 T S L, A1 = up2 (up2 A n 1 x) n 2 y → T = q_cpn (n + 1) A1 P → S = q_idn (n + 1) st → L = q_live (n + 1) mk S T lv → Q (some (am_I (nI n))) (hm (xc A1 T S mk L cl pr us (nI (n + 1)) 0 0) Y)) : am_C g mC_addWithShape (d + 3) 0 0 [am_O 0 0, am_I x, am_I y] (hm (xc A P st mk lv cl pr us (nI n) si wk) Y) Q := by
  refine am_enter (lv := [some (am_O 0 0), some (am_I x), some (am_I y), none]) rfl rfl (am_cat1 rfl) (Nat.le_of_ble_eq_true rfl) ?_
  refine am_aload_n (i := 0) dC_addWithShape_0 rfl rfl ?_
  refine am_getf dC_addWithShape_1 flC_40 (by first | rfl | exact sk8 (by omega) | exact sk9 (by omega) | exact sk10 (by omega) | exact sk11 (by omega)) rfl ?_
  refine am_istore_n (i := 3) dC_addWithShape_4 rfl (by decide) ?_
  refine am_aload_n (i := 0) dC_addWithShape_5 rfl rfl ?_
  refine am_getf dC_addWithShape_6 flC_11 (by first | rfl | exact sk8 (by omega) | exact sk9 (by omega) | exact sk10 (by omega) | exact sk11 (by omega)) rfl ?_
  refine am_iload_n (i := 3) dC_addWithShape_9 rfl rfl ?_
  refine am_aald dC_addWithShape_10 (by first | rfl | exact sk8 (by omega) | exact sk9 (by omega) | exact sk10 (by omega) | exact sk11 (by omega)) rfl (by first | omega | assumption | decide) (by decide) (by decide) rfl rfl ?_
  refine am_iload_n (i := 1) dC_addWithShape_11 rfl rfl ?_
  refine am_iload_n (i := 2) dC_addWithShape_12 rfl rfl ?_
  refine am_callV (ac' := 0) (as' := 0) (xs := [_, _]) dC_addWithShape_13 lkC_151 (by first | rfl | exact sk8 (by omega) | exact sk9 (by omega) | exact sk10 (by omega) | exact sk11 (by omega)) rfl rfl rfl rfl (Nat.le_of_ble_eq_true rfl) rfl rfl (cO_takeShape8 (v := n) hn ?_)
  refine am_aload_n (i := 0) dC_addWithShape_16 rfl rfl ?_
  refine am_dup dC_addWithShape_17 rfl ?_
  refine am_getf dC_addWithShape_18 flC_40 (by first | rfl | exact sk8 (by omega) | exact sk9 (by omega) | exact sk10 (by omega) | exact sk11 (by omega)) rfl ?_
  refine am_iconst (v := 1) dC_addWithShape_21 (by decide) ?_
  refine am_iadd dC_addWithShape_22 ?_
  refine am_sT (st' := am_I (nI (n + 1)) :: _) (congrArg (fun z => am_I z :: _) (nI_1 n)) ?_
  refine am_putf' dC_addWithShape_23 flC_40 (by first | rfl | exact sk8 (by omega) | exact sk9 (by omega) | exact sk10 (by omega) | exact sk11 (by omega)) rfl (fun _ => ⟨rfl, rfl⟩) (by first | exact wx_st | exact wx_mk | exact wx_lv | exact wx_us | exact wx_A | exact wx_P | exact wx_cl | exact wx_pr | exact wx_va | exact wx_si | exact wx_wk) ?_
  have hA' : ∀ m, m < n + 1 → q_arg (up2 (up2 A n 1 x) n 2 y m 3) m ∧ q_arg (up2 (up2 A n 1 x) n 2 y m 4) m := fun m hm => by
    rw [up2_k (by decide), up2_k (by decide), up2_k (by decide), up2_k (by decide)]
    exact hA m hm
  refine am_aload_n (i := 0) dC_addWithShape_26 rfl rfl ?_
  refine am_callV (ac' := 0) (as' := 0) (xs := []) dC_addWithShape_27 lkC_95 (by first | rfl | exact sk8 (by omega) | exact sk9 (by omega) | exact sk10 (by omega) | exact sk11 (by omega)) rfl rfl rfl rfl (Nat.le_of_ble_eq_true rfl) rfl rfl (cC_undo (n := n + 1) (by omega) hA' (fun T S L eT eS eL => ?_))
  refine am_iload_n (i := 3) dC_addWithShape_30 rfl rfl ?_
  refine am_iret (st := []) rfl rfl dC_addWithShape_31 ?_
  exact ka _ _ _ _ rfl eT eS eL
abbrev q_shOk (x y : Int32) : Prop := ¬ x < 1 ∧ ¬ 4 < x ∧ ¬ y < 1 ∧ ¬ 4 < y
abbrev q_plOk (x y : Int32) : Prop := ¬ x < 0 ∧ ¬ 4 ≤ x ∧ ¬ y < 0 ∧ ¬ 4 ≤ y
abbrev q_snOk (x y : Int32) : Prop := x = 1 ∨ (¬ y < 0 ∧ ((x = 0 ∧ ¬ 4 ≤ y) ∨ (¬ x = 0 ∧ ¬ 2 ≤ y)))
abbrev q_srcOk (κ x y p : Int32) : Prop := ¬ κ < 0 ∧ ¬ 2 < κ ∧ q_shOk x y ∧ q_snOk κ p
abbrev q_one (κ : Int32) : Prop := κ = 6 ∨ κ = 7 ∨ κ = 9
abbrev q_opOk (n : Nat) (κ a b p : Int32) : Prop := ¬ κ < 3 ∧ ¬ 9 < κ ∧ q_val a n ∧ q_val b n ∧ (q_one κ → b = a) ∧ ¬ p < 0 ∧ p ≤ (if κ = 9 then 1 else 0)
abbrev q_opFit (A : Nat → Nat → Int32) (κ : Int32) (a b : Nat) : Prop := (κ = 8 ∧ A a 2 = A b 1) ∨ (¬ κ = 8 ∧ A a 1 = A b 1 ∧ A a 2 = A b 2)
def q_opR (A : Nat → Nat → Int32) (κ p : Int32) (a : Nat) : Int32 := if κ = 7 then A a 2 else if κ = 9 ∧ p = 0 then 1 else A a 1
def q_opC (A : Nat → Nat → Int32) (κ p : Int32) (a b : Nat) : Int32 := if κ = 7 then A a 1 else if κ = 9 ∧ p = 1 then 1 else A b 2
abbrev q_reOk (n : Nat) (κ a x y : Int32) : Prop := ¬ κ < 10 ∧ ¬ 11 < κ ∧ q_val a n ∧ q_shOk x y
abbrev q_reFit (A : Nat → Nat → Int32) (κ x y : Int32) (a : Nat) : Prop := (κ = 10 ∧ (A a 1 = 1 ∨ A a 1 = x) ∧ (A a 2 = 1 ∨ A a 2 = y)) ∨ (¬ κ = 10 ∧ A a 1 * A a 2 = x * y)
abbrev q_paOk (n : Nat) (a p q x y : Int32) : Prop := q_val a n ∧ q_plOk p q ∧ q_shOk x y
abbrev q_paFit (A : Nat → Nat → Int32) (p q x y : Int32) (a : Nat) : Prop := ¬ A a 1 < p + x ∧ q + y ≤ A a 2
set_option maxRecDepth 100000 in
set_option maxHeartbeats 4000000 in
theorem cC_source {g : am_G} {d : Nat} {Q : Option am_V → am_H → Prop} {Y : Nat → Nat → Nat → am_V} {A P : Nat → Nat → Int32} {st mk lv : Nat → Int32} {cl pr : Nat → Nat → Int32} {us : Nat → Int32} {si wk : Int32} {n : Nat} {κ x y p : Int32} (hn : n ≤ 28) (hA : ∀ m, m < n → q_arg (A m 3) m ∧ q_arg (A m 4) m) (kr : ¬ q_srcOk κ x y p → Q (some (am_I (-1))) (hm (xc A P st mk lv cl pr us (nI n) si wk) Y)) (kf : q_srcOk κ x y p → n = 28 → Q (some (am_I (-2))) (hm (xc A P st mk lv cl pr us (nI n) si wk) Y)) (ka : q_srcOk κ x y p → n < 28 → ∀ A1 T S L, A1 = q_new A n κ (-1) (-1) p 0 x y → T = q_cpn (n + 1) A1 P → S = q_idn (n + 1) st → L = q_live (n + 1) mk S T lv → Q (some (am_I (nI n))) (hm (xc A1 T S mk L cl pr us (nI (n + 1)) 0 0) Y)) : am_C g mC_source (d + 4) 0 0 [am_O 0 0, am_I κ, am_I x, am_I y, am_I p] (hm (xc A P st mk lv cl pr us (nI n) si wk) Y) Q := by
  refine am_enter (lv := [some (am_O 0 0), some (am_I κ), some (am_I x), some (am_I y), some (am_I p)]) rfl rfl (am_cat1 rfl) (Nat.le_of_ble_eq_true rfl) ?_
  refine am_iload_n (i := 1) dC_source_0 rfl rfl ?_
  refine am_if_lt (tgt := 26) dC_source_1 (by decide) (fun c1 => ?_) (fun c1 => ?_)
  · refine am_iconst (v := (-1)) dC_source_26 (by decide) ?_
    refine am_iret (st := []) rfl rfl dC_source_27 ?_
    exact kr (by grind)
  · refine am_iload_n (i := 1) dC_source_4 rfl rfl ?_
    refine am_iconst (v := 2) dC_source_5 (by decide) ?_
    refine am_icmp_gt (tgt := 26) dC_source_6 (by decide) (fun c6 => ?_) (fun c6 => ?_)
    · refine am_iconst (v := (-1)) dC_source_26 (by decide) ?_
      refine am_iret (st := []) rfl rfl dC_source_27 ?_
      exact kr (by grind)
    · refine am_iload_n (i := 2) dC_source_9 rfl rfl ?_
      refine am_iload_n (i := 3) dC_source_10 rfl rfl ?_
      refine am_callS (ac' := 0) (as' := 0) (xs := [_, _]) dC_source_11 lkC_52 rfl rfl (Nat.le_of_ble_eq_true rfl) rfl rfl (cC_isShape (fun cs => ?_) (fun cs => ?_))
      · refine am_if_eq_F (tgt := 26) dC_source_14 (by decide) (by decide) ?_
        refine am_iload_n (i := 1) dC_source_17 rfl rfl ?_
        refine am_iload (i := 4) dC_source_18 rfl ?_
        refine am_callS (ac' := 0) (as' := 0) (xs := [_, _]) dC_source_20 lkC_56 rfl rfl (Nat.le_of_ble_eq_true rfl) rfl rfl (cC_isSourceNumber (fun cn => ?_) (fun cn => ?_))
        · refine am_if_ne_T (tgt := 28) dC_source_23 (by decide) (by decide) ?_
          refine am_aload_n (i := 0) dC_source_28 rfl rfl ?_
          refine am_getf dC_source_29 flC_40 (by first | rfl | exact sk8 (by omega) | exact sk9 (by omega) | exact sk10 (by omega) | exact sk11 (by omega)) rfl ?_
          refine am_bipush (v := 28) dC_source_32 (by decide) ?_
          refine am_icmp_lt (tgt := 40) dC_source_34 (by decide) (fun c34 => ?_) (fun c34 => ?_)
          · have hlt : n < 28 := (q_lt28 hn).mp c34
            refine am_aload_n (i := 0) dC_source_40 rfl rfl ?_
            refine am_getf dC_source_41 flC_11 (by first | rfl | exact sk8 (by omega) | exact sk9 (by omega) | exact sk10 (by omega) | exact sk11 (by omega)) rfl ?_
            refine am_aload_n (i := 0) dC_source_44 rfl rfl ?_
            refine am_getf dC_source_45 flC_40 (by first | rfl | exact sk8 (by omega) | exact sk9 (by omega) | exact sk10 (by omega) | exact sk11 (by omega)) rfl ?_
            refine am_aald dC_source_48 (by first | rfl | exact sk8 (by omega) | exact sk9 (by omega) | exact sk10 (by omega) | exact sk11 (by omega)) rfl (by first | omega | assumption | decide) (by decide) (by decide) rfl rfl ?_
            refine am_iload_n (i := 1) dC_source_49 rfl rfl ?_
            refine am_iconst (v := (-1)) dC_source_50 (by decide) ?_
            refine am_iconst (v := (-1)) dC_source_51 (by decide) ?_
            refine am_iload (i := 4) dC_source_52 rfl ?_
            refine am_iconst (v := 0) dC_source_54 (by decide) ?_
            refine am_callV (ac' := 0) (as' := 0) (xs := [_, _, _, _, _]) dC_source_55 lkC_59 (by first | rfl | exact sk8 (by omega) | exact sk9 (by omega) | exact sk10 (by omega) | exact sk11 (by omega)) rfl rfl rfl rfl (Nat.le_of_ble_eq_true rfl) rfl rfl (cO_become8 (v := n) hlt ?_)
            refine am_aload_n (i := 0) dC_source_58 rfl rfl ?_
            refine am_iload_n (i := 2) dC_source_59 rfl rfl ?_
            refine am_iload_n (i := 3) dC_source_60 rfl rfl ?_
            refine am_callV (ac' := 0) (as' := 0) (xs := [_, _]) dC_source_61 lkC_63 (by first | rfl | exact sk8 (by omega) | exact sk9 (by omega) | exact sk10 (by omega) | exact sk11 (by omega)) rfl rfl rfl rfl (Nat.le_of_ble_eq_true rfl) rfl rfl (cC_addWithShape (A := q_bec A n κ (-1) (-1) p 0) hlt (q_args_bec hA (Or.inl rfl) (Or.inl rfl)) (fun A1 T S L e1 e2 e3 e4 => ?_))
            refine am_iret (st := []) rfl rfl dC_source_64 ?_
            exact ka ⟨c1, c6, cs, cn⟩ hlt _ _ _ _ e1 e2 e3 e4
          · refine am_bipush (v := (-2)) dC_source_37 (by decide) ?_
            refine am_iret (st := []) rfl rfl dC_source_39 ?_
            exact kf ⟨c1, c6, cs, cn⟩ (by have := mt (q_lt28 hn).mpr c34; omega)
        · refine am_if_ne_F (tgt := 28) dC_source_23 (by decide) (by decide) ?_
          refine am_iconst (v := (-1)) dC_source_26 (by decide) ?_
          refine am_iret (st := []) rfl rfl dC_source_27 ?_
          exact kr (by grind)
      · refine am_if_eq_T (tgt := 26) dC_source_14 (by decide) (by decide) ?_
        refine am_iconst (v := (-1)) dC_source_26 (by decide) ?_
        refine am_iret (st := []) rfl rfl dC_source_27 ?_
        exact kr (by grind)
set_option maxRecDepth 100000 in
set_option maxHeartbeats 4000000 in
theorem cC_reshape {g : am_G} {d : Nat} {Q : Option am_V → am_H → Prop} {Y : Nat → Nat → Nat → am_V} {A P : Nat → Nat → Int32} {st mk lv : Nat → Int32} {cl pr : Nat → Nat → Int32} {us : Nat → Int32} {si wk : Int32} {n : Nat} {κ xa x y : Int32} (hn : n ≤ 28) (hA : ∀ m, m < n → q_arg (A m 3) m ∧ q_arg (A m 4) m) (kr : ¬ q_reOk n κ xa x y → Q (some (am_I (-1))) (hm (xc A P st mk lv cl pr us (nI n) si wk) Y)) (ks : ∀ a, a < n → xa = nI a → q_reOk n κ xa x y → ¬ q_reFit A κ x y a → Q (some (am_I (-3))) (hm (xc A P st mk lv cl pr us (nI n) si wk) Y)) (kf : ∀ a, a < n → xa = nI a → q_reOk n κ xa x y → q_reFit A κ x y a → n = 28 → Q (some (am_I (-2))) (hm (xc A P st mk lv cl pr us (nI n) si wk) Y)) (ka : ∀ a, a < n → xa = nI a → q_reOk n κ xa x y → q_reFit A κ x y a → n < 28 → ∀ A1 T S L, A1 = q_new A n κ xa (-1) 0 0 x y → T = q_cpn (n + 1) A1 P → S = q_idn (n + 1) st → L = q_live (n + 1) mk S T lv → Q (some (am_I (nI n))) (hm (xc A1 T S mk L cl pr us (nI (n + 1)) 0 0) Y)) : am_C g mC_reshape (d + 4) 0 0 [am_O 0 0, am_I κ, am_I xa, am_I x, am_I y] (hm (xc A P st mk lv cl pr us (nI n) si wk) Y) Q := by
  refine am_enter (lv := [some (am_O 0 0), some (am_I κ), some (am_I xa), some (am_I x), some (am_I y), none, none]) rfl rfl (am_cat1 rfl) (Nat.le_of_ble_eq_true rfl) ?_
  refine am_iload_n (i := 1) dC_reshape_0 rfl rfl ?_
  refine am_bipush (v := 10) dC_reshape_1 (by decide) ?_
  refine am_icmp_lt (tgt := 29) dC_reshape_3 (by decide) (fun c3 => ?_) (fun c3 => ?_)
  · refine am_iconst (v := (-1)) dC_reshape_29 (by decide) ?_
    refine am_iret (st := []) rfl rfl dC_reshape_30 ?_
    exact kr (by grind)
  · refine am_iload_n (i := 1) dC_reshape_6 rfl rfl ?_
    refine am_bipush (v := 11) dC_reshape_7 (by decide) ?_
    refine am_icmp_gt (tgt := 29) dC_reshape_9 (by decide) (fun c9 => ?_) (fun c9 => ?_)
    · refine am_iconst (v := (-1)) dC_reshape_29 (by decide) ?_
      refine am_iret (st := []) rfl rfl dC_reshape_30 ?_
      exact kr (by grind)
    · refine am_aload_n (i := 0) dC_reshape_12 rfl rfl ?_
      refine am_iload_n (i := 2) dC_reshape_13 rfl rfl ?_
      refine am_callV (ac' := 0) (as' := 0) (xs := [_]) dC_reshape_14 lkC_67 (by first | rfl | exact sk8 (by omega) | exact sk9 (by omega) | exact sk10 (by omega) | exact sk11 (by omega)) rfl rfl rfl rfl (Nat.le_of_ble_eq_true rfl) rfl rfl (cC_isValue rfl hn (fun a ha ea => ?_) (fun na => ?_))
      · refine am_if_eq_F (tgt := 29) dC_reshape_17 (by decide) (by decide) ?_
        refine am_iload_n (i := 3) dC_reshape_20 rfl rfl ?_
        refine am_iload (i := 4) dC_reshape_21 rfl ?_
        refine am_callS (ac' := 0) (as' := 0) (xs := [_, _]) dC_reshape_23 lkC_52 rfl rfl (Nat.le_of_ble_eq_true rfl) rfl rfl (cC_isShape (fun cs => ?_) (fun cs => ?_))
        · refine am_if_ne_T (tgt := 31) dC_reshape_26 (by decide) (by decide) ?_
          refine am_aload_n (i := 0) dC_reshape_31 rfl rfl ?_
          refine am_getf dC_reshape_32 flC_11 (by first | rfl | exact sk8 (by omega) | exact sk9 (by omega) | exact sk10 (by omega) | exact sk11 (by omega)) rfl ?_
          refine am_iload_n (i := 2) dC_reshape_35 rfl rfl ?_
          refine am_aald dC_reshape_36 (by first | rfl | exact sk8 (by omega) | exact sk9 (by omega) | exact sk10 (by omega) | exact sk11 (by omega)) ea (by first | omega | assumption | decide) (by decide) (by decide) rfl rfl ?_
          refine am_astore (i := 5) dC_reshape_37 (by decide) ?_
          refine am_iload_n (i := 1) dC_reshape_39 rfl rfl ?_
          refine am_bipush (v := 10) dC_reshape_40 (by decide) ?_
          refine am_icmp_ne (tgt := 78) dC_reshape_42 (by decide) (fun c42 => ?_) (fun c42 => ?_)
          · refine am_aload (i := 5) dC_reshape_78 rfl ?_
            refine am_getf dC_reshape_80 flC_83 (by first | rfl | exact sk8 (by omega) | exact sk9 (by omega) | exact sk10 (by omega) | exact sk11 (by omega)) rfl ?_
            refine am_aload (i := 5) dC_reshape_83 rfl ?_
            refine am_getf dC_reshape_85 flC_89 (by first | rfl | exact sk8 (by omega) | exact sk9 (by omega) | exact sk10 (by omega) | exact sk11 (by omega)) rfl ?_
            refine am_imul dC_reshape_88 ?_
            refine am_iload_n (i := 3) dC_reshape_89 rfl rfl ?_
            refine am_iload (i := 4) dC_reshape_90 rfl ?_
            refine am_imul dC_reshape_92 ?_
            refine am_icmp_ne (tgt := 100) dC_reshape_93 (by decide) (fun c93 => ?_) (fun c93 => ?_)
            · refine am_iconst (v := 0) dC_reshape_100 (by decide) ?_
              refine am_istore (i := 6) dC_reshape_101 (by decide) ?_
              refine am_iload (i := 6) dC_reshape_103 rfl ?_
              refine am_if_ne_F (tgt := 111) dC_reshape_105 (by decide) (by decide) ?_
              refine am_bipush (v := (-3)) dC_reshape_108 (by decide) ?_
              refine am_iret (st := []) rfl rfl dC_reshape_110 ?_
              exact ks a ha ea ⟨c3, c9, ea ▸ q_val_of ha hn, cs⟩ (by grind)
            · refine am_iconst (v := 1) dC_reshape_96 (by decide) ?_
              refine am_goto (tgt := 101) dC_reshape_97 (by decide) ?_
              refine am_istore (i := 6) dC_reshape_101 (by decide) ?_
              refine am_iload (i := 6) dC_reshape_103 rfl ?_
              refine am_if_ne_T (tgt := 111) dC_reshape_105 (by decide) (by decide) ?_
              refine am_aload_n (i := 0) dC_reshape_111 rfl rfl ?_
              refine am_getf dC_reshape_112 flC_40 (by first | rfl | exact sk8 (by omega) | exact sk9 (by omega) | exact sk10 (by omega) | exact sk11 (by omega)) rfl ?_
              refine am_bipush (v := 28) dC_reshape_115 (by decide) ?_
              refine am_icmp_lt (tgt := 123) dC_reshape_117 (by decide) (fun c117 => ?_) (fun c117 => ?_)
              · have hlt : n < 28 := (q_lt28 hn).mp c117
                refine am_aload_n (i := 0) dC_reshape_123 rfl rfl ?_
                refine am_getf dC_reshape_124 flC_11 (by first | rfl | exact sk8 (by omega) | exact sk9 (by omega) | exact sk10 (by omega) | exact sk11 (by omega)) rfl ?_
                refine am_aload_n (i := 0) dC_reshape_127 rfl rfl ?_
                refine am_getf dC_reshape_128 flC_40 (by first | rfl | exact sk8 (by omega) | exact sk9 (by omega) | exact sk10 (by omega) | exact sk11 (by omega)) rfl ?_
                refine am_aald dC_reshape_131 (by first | rfl | exact sk8 (by omega) | exact sk9 (by omega) | exact sk10 (by omega) | exact sk11 (by omega)) rfl (by first | omega | assumption | decide) (by decide) (by decide) rfl rfl ?_
                refine am_iload_n (i := 1) dC_reshape_132 rfl rfl ?_
                refine am_iload_n (i := 2) dC_reshape_133 rfl rfl ?_
                refine am_iconst (v := (-1)) dC_reshape_134 (by decide) ?_
                refine am_iconst (v := 0) dC_reshape_135 (by decide) ?_
                refine am_iconst (v := 0) dC_reshape_136 (by decide) ?_
                refine am_callV (ac' := 0) (as' := 0) (xs := [_, _, _, _, _]) dC_reshape_137 lkC_59 (by first | rfl | exact sk8 (by omega) | exact sk9 (by omega) | exact sk10 (by omega) | exact sk11 (by omega)) rfl rfl rfl rfl (Nat.le_of_ble_eq_true rfl) rfl rfl (cO_become8 (v := n) hlt ?_)
                refine am_aload_n (i := 0) dC_reshape_140 rfl rfl ?_
                refine am_iload_n (i := 3) dC_reshape_141 rfl rfl ?_
                refine am_iload (i := 4) dC_reshape_142 rfl ?_
                refine am_callV (ac' := 0) (as' := 0) (xs := [_, _]) dC_reshape_144 lkC_63 (by first | rfl | exact sk8 (by omega) | exact sk9 (by omega) | exact sk10 (by omega) | exact sk11 (by omega)) rfl rfl rfl rfl (Nat.le_of_ble_eq_true rfl) rfl rfl (cC_addWithShape (A := q_bec A n κ xa (-1) 0 0) hlt (q_args_bec hA (Or.inr ⟨a, ha, ea⟩) (Or.inl rfl)) (fun A1 T S L e1 e2 e3 e4 => ?_))
                refine am_iret (st := []) rfl rfl dC_reshape_147 ?_
                exact ka a ha ea ⟨c3, c9, ea ▸ q_val_of ha hn, cs⟩ (by grind) hlt _ _ _ _ e1 e2 e3 e4
              · refine am_bipush (v := (-2)) dC_reshape_120 (by decide) ?_
                refine am_iret (st := []) rfl rfl dC_reshape_122 ?_
                exact kf a ha ea ⟨c3, c9, ea ▸ q_val_of ha hn, cs⟩ (by grind) (by have := mt (q_lt28 hn).mpr c117; omega)
          · refine am_aload (i := 5) dC_reshape_45 rfl ?_
            refine am_getf dC_reshape_47 flC_83 (by first | rfl | exact sk8 (by omega) | exact sk9 (by omega) | exact sk10 (by omega) | exact sk11 (by omega)) rfl ?_
            refine am_iload_n (i := 3) dC_reshape_50 rfl rfl ?_
            refine am_callS (ac' := 0) (as' := 0) (xs := [_, _]) dC_reshape_51 lkC_86 rfl rfl (Nat.le_of_ble_eq_true rfl) rfl rfl (cC_spreads (fun c51 => ?_) (fun c51 => ?_))
            · refine am_if_eq_F (tgt := 74) dC_reshape_54 (by decide) (by decide) ?_
              refine am_aload (i := 5) dC_reshape_57 rfl ?_
              refine am_getf dC_reshape_59 flC_89 (by first | rfl | exact sk8 (by omega) | exact sk9 (by omega) | exact sk10 (by omega) | exact sk11 (by omega)) rfl ?_
              refine am_iload (i := 4) dC_reshape_62 rfl ?_
              refine am_callS (ac' := 0) (as' := 0) (xs := [_, _]) dC_reshape_64 lkC_86 rfl rfl (Nat.le_of_ble_eq_true rfl) rfl rfl (cC_spreads (fun c64 => ?_) (fun c64 => ?_))
              · refine am_if_eq_F (tgt := 74) dC_reshape_67 (by decide) (by decide) ?_
                refine am_iconst (v := 1) dC_reshape_70 (by decide) ?_
                refine am_goto (tgt := 101) dC_reshape_71 (by decide) ?_
                refine am_istore (i := 6) dC_reshape_101 (by decide) ?_
                refine am_iload (i := 6) dC_reshape_103 rfl ?_
                refine am_if_ne_T (tgt := 111) dC_reshape_105 (by decide) (by decide) ?_
                refine am_aload_n (i := 0) dC_reshape_111 rfl rfl ?_
                refine am_getf dC_reshape_112 flC_40 (by first | rfl | exact sk8 (by omega) | exact sk9 (by omega) | exact sk10 (by omega) | exact sk11 (by omega)) rfl ?_
                refine am_bipush (v := 28) dC_reshape_115 (by decide) ?_
                refine am_icmp_lt (tgt := 123) dC_reshape_117 (by decide) (fun c117 => ?_) (fun c117 => ?_)
                · have hlt : n < 28 := (q_lt28 hn).mp c117
                  refine am_aload_n (i := 0) dC_reshape_123 rfl rfl ?_
                  refine am_getf dC_reshape_124 flC_11 (by first | rfl | exact sk8 (by omega) | exact sk9 (by omega) | exact sk10 (by omega) | exact sk11 (by omega)) rfl ?_
                  refine am_aload_n (i := 0) dC_reshape_127 rfl rfl ?_
                  refine am_getf dC_reshape_128 flC_40 (by first | rfl | exact sk8 (by omega) | exact sk9 (by omega) | exact sk10 (by omega) | exact sk11 (by omega)) rfl ?_
                  refine am_aald dC_reshape_131 (by first | rfl | exact sk8 (by omega) | exact sk9 (by omega) | exact sk10 (by omega) | exact sk11 (by omega)) rfl (by first | omega | assumption | decide) (by decide) (by decide) rfl rfl ?_
                  refine am_iload_n (i := 1) dC_reshape_132 rfl rfl ?_
                  refine am_iload_n (i := 2) dC_reshape_133 rfl rfl ?_
                  refine am_iconst (v := (-1)) dC_reshape_134 (by decide) ?_
                  refine am_iconst (v := 0) dC_reshape_135 (by decide) ?_
                  refine am_iconst (v := 0) dC_reshape_136 (by decide) ?_
                  refine am_callV (ac' := 0) (as' := 0) (xs := [_, _, _, _, _]) dC_reshape_137 lkC_59 (by first | rfl | exact sk8 (by omega) | exact sk9 (by omega) | exact sk10 (by omega) | exact sk11 (by omega)) rfl rfl rfl rfl (Nat.le_of_ble_eq_true rfl) rfl rfl (cO_become8 (v := n) hlt ?_)
                  refine am_aload_n (i := 0) dC_reshape_140 rfl rfl ?_
                  refine am_iload_n (i := 3) dC_reshape_141 rfl rfl ?_
                  refine am_iload (i := 4) dC_reshape_142 rfl ?_
                  refine am_callV (ac' := 0) (as' := 0) (xs := [_, _]) dC_reshape_144 lkC_63 (by first | rfl | exact sk8 (by omega) | exact sk9 (by omega) | exact sk10 (by omega) | exact sk11 (by omega)) rfl rfl rfl rfl (Nat.le_of_ble_eq_true rfl) rfl rfl (cC_addWithShape (A := q_bec A n κ xa (-1) 0 0) hlt (q_args_bec hA (Or.inr ⟨a, ha, ea⟩) (Or.inl rfl)) (fun A1 T S L e1 e2 e3 e4 => ?_))
                  refine am_iret (st := []) rfl rfl dC_reshape_147 ?_
                  exact ka a ha ea ⟨c3, c9, ea ▸ q_val_of ha hn, cs⟩ (by grind) hlt _ _ _ _ e1 e2 e3 e4
                · refine am_bipush (v := (-2)) dC_reshape_120 (by decide) ?_
                  refine am_iret (st := []) rfl rfl dC_reshape_122 ?_
                  exact kf a ha ea ⟨c3, c9, ea ▸ q_val_of ha hn, cs⟩ (by grind) (by have := mt (q_lt28 hn).mpr c117; omega)
              · refine am_if_eq_T (tgt := 74) dC_reshape_67 (by decide) (by decide) ?_
                refine am_iconst (v := 0) dC_reshape_74 (by decide) ?_
                refine am_goto (tgt := 101) dC_reshape_75 (by decide) ?_
                refine am_istore (i := 6) dC_reshape_101 (by decide) ?_
                refine am_iload (i := 6) dC_reshape_103 rfl ?_
                refine am_if_ne_F (tgt := 111) dC_reshape_105 (by decide) (by decide) ?_
                refine am_bipush (v := (-3)) dC_reshape_108 (by decide) ?_
                refine am_iret (st := []) rfl rfl dC_reshape_110 ?_
                exact ks a ha ea ⟨c3, c9, ea ▸ q_val_of ha hn, cs⟩ (by grind)
            · refine am_if_eq_T (tgt := 74) dC_reshape_54 (by decide) (by decide) ?_
              refine am_iconst (v := 0) dC_reshape_74 (by decide) ?_
              refine am_goto (tgt := 101) dC_reshape_75 (by decide) ?_
              refine am_istore (i := 6) dC_reshape_101 (by decide) ?_
              refine am_iload (i := 6) dC_reshape_103 rfl ?_
              refine am_if_ne_F (tgt := 111) dC_reshape_105 (by decide) (by decide) ?_
              refine am_bipush (v := (-3)) dC_reshape_108 (by decide) ?_
              refine am_iret (st := []) rfl rfl dC_reshape_110 ?_
              exact ks a ha ea ⟨c3, c9, ea ▸ q_val_of ha hn, cs⟩ (by grind)
        · refine am_if_ne_F (tgt := 31) dC_reshape_26 (by decide) (by decide) ?_
          refine am_iconst (v := (-1)) dC_reshape_29 (by decide) ?_
          refine am_iret (st := []) rfl rfl dC_reshape_30 ?_
          exact kr (by grind)
      · refine am_if_eq_T (tgt := 29) dC_reshape_17 (by decide) (by decide) ?_
        refine am_iconst (v := (-1)) dC_reshape_29 (by decide) ?_
        refine am_iret (st := []) rfl rfl dC_reshape_30 ?_
        exact kr (by grind)
set_option maxRecDepth 100000 in
set_option maxHeartbeats 4000000 in
theorem cC_part {g : am_G} {d : Nat} {Q : Option am_V → am_H → Prop} {Y : Nat → Nat → Nat → am_V} {A P : Nat → Nat → Int32} {st mk lv : Nat → Int32} {cl pr : Nat → Nat → Int32} {us : Nat → Int32} {si wk : Int32} {n : Nat} {xa p q x y : Int32} (hn : n ≤ 28) (hA : ∀ m, m < n → q_arg (A m 3) m ∧ q_arg (A m 4) m) (kr : ¬ q_paOk n xa p q x y → Q (some (am_I (-1))) (hm (xc A P st mk lv cl pr us (nI n) si wk) Y)) (ks : ∀ a, a < n → xa = nI a → q_paOk n xa p q x y → ¬ q_paFit A p q x y a → Q (some (am_I (-3))) (hm (xc A P st mk lv cl pr us (nI n) si wk) Y)) (kf : ∀ a, a < n → xa = nI a → q_paOk n xa p q x y → q_paFit A p q x y a → n = 28 → Q (some (am_I (-2))) (hm (xc A P st mk lv cl pr us (nI n) si wk) Y)) (ka : ∀ a, a < n → xa = nI a → q_paOk n xa p q x y → q_paFit A p q x y a → n < 28 → ∀ A1 T S L, A1 = q_new A n 12 xa (-1) p q x y → T = q_cpn (n + 1) A1 P → S = q_idn (n + 1) st → L = q_live (n + 1) mk S T lv → Q (some (am_I (nI n))) (hm (xc A1 T S mk L cl pr us (nI (n + 1)) 0 0) Y)) : am_C g mC_part (d + 4) 0 0 [am_O 0 0, am_I xa, am_I p, am_I q, am_I x, am_I y] (hm (xc A P st mk lv cl pr us (nI n) si wk) Y) Q := by
  refine am_enter (lv := [some (am_O 0 0), some (am_I xa), some (am_I p), some (am_I q), some (am_I x), some (am_I y)]) rfl rfl (am_cat1 rfl) (Nat.le_of_ble_eq_true rfl) ?_
  refine am_aload_n (i := 0) dC_part_0 rfl rfl ?_
  refine am_iload_n (i := 1) dC_part_1 rfl rfl ?_
  refine am_callV (ac' := 0) (as' := 0) (xs := [_]) dC_part_2 lkC_67 (by first | rfl | exact sk8 (by omega) | exact sk9 (by omega) | exact sk10 (by omega) | exact sk11 (by omega)) rfl rfl rfl rfl (Nat.le_of_ble_eq_true rfl) rfl rfl (cC_isValue rfl hn (fun a ha ea => ?_) (fun na => ?_))
  · refine am_if_eq_F (tgt := 26) dC_part_5 (by decide) (by decide) ?_
    refine am_iload_n (i := 2) dC_part_8 rfl rfl ?_
    refine am_iload_n (i := 3) dC_part_9 rfl rfl ?_
    refine am_callS (ac' := 0) (as' := 0) (xs := [_, _]) dC_part_10 lkC_92 rfl rfl (Nat.le_of_ble_eq_true rfl) rfl rfl (cC_isPlace (fun cp => ?_) (fun cp => ?_))
    · refine am_if_eq_F (tgt := 26) dC_part_13 (by decide) (by decide) ?_
      refine am_iload (i := 4) dC_part_16 rfl ?_
      refine am_iload (i := 5) dC_part_18 rfl ?_
      refine am_callS (ac' := 0) (as' := 0) (xs := [_, _]) dC_part_20 lkC_52 rfl rfl (Nat.le_of_ble_eq_true rfl) rfl rfl (cC_isShape (fun cs => ?_) (fun cs => ?_))
      · refine am_if_ne_T (tgt := 28) dC_part_23 (by decide) (by decide) ?_
        refine am_iload_n (i := 2) dC_part_28 rfl rfl ?_
        refine am_iload (i := 4) dC_part_29 rfl ?_
        refine am_iadd dC_part_31 ?_
        refine am_aload_n (i := 0) dC_part_32 rfl rfl ?_
        refine am_getf dC_part_33 flC_11 (by first | rfl | exact sk8 (by omega) | exact sk9 (by omega) | exact sk10 (by omega) | exact sk11 (by omega)) rfl ?_
        refine am_iload_n (i := 1) dC_part_36 rfl rfl ?_
        refine am_aald dC_part_37 (by first | rfl | exact sk8 (by omega) | exact sk9 (by omega) | exact sk10 (by omega) | exact sk11 (by omega)) ea (by first | omega | assumption | decide) (by decide) (by decide) rfl rfl ?_
        refine am_getf dC_part_38 flC_83 (by first | rfl | exact sk8 (by omega) | exact sk9 (by omega) | exact sk10 (by omega) | exact sk11 (by omega)) rfl ?_
        refine am_icmp_gt (tgt := 60) dC_part_41 (by decide) (fun c41 => ?_) (fun c41 => ?_)
        · refine am_bipush (v := (-3)) dC_part_60 (by decide) ?_
          refine am_iret (st := []) rfl rfl dC_part_62 ?_
          exact ks a ha ea ⟨ea ▸ q_val_of ha hn, cp, cs⟩ (by grind)
        · refine am_iload_n (i := 3) dC_part_44 rfl rfl ?_
          refine am_iload (i := 5) dC_part_45 rfl ?_
          refine am_iadd dC_part_47 ?_
          refine am_aload_n (i := 0) dC_part_48 rfl rfl ?_
          refine am_getf dC_part_49 flC_11 (by first | rfl | exact sk8 (by omega) | exact sk9 (by omega) | exact sk10 (by omega) | exact sk11 (by omega)) rfl ?_
          refine am_iload_n (i := 1) dC_part_52 rfl rfl ?_
          refine am_aald dC_part_53 (by first | rfl | exact sk8 (by omega) | exact sk9 (by omega) | exact sk10 (by omega) | exact sk11 (by omega)) ea (by first | omega | assumption | decide) (by decide) (by decide) rfl rfl ?_
          refine am_getf dC_part_54 flC_89 (by first | rfl | exact sk8 (by omega) | exact sk9 (by omega) | exact sk10 (by omega) | exact sk11 (by omega)) rfl ?_
          refine am_icmp_le (tgt := 63) dC_part_57 (by decide) (fun c57 => ?_) (fun c57 => ?_)
          · refine am_aload_n (i := 0) dC_part_63 rfl rfl ?_
            refine am_getf dC_part_64 flC_40 (by first | rfl | exact sk8 (by omega) | exact sk9 (by omega) | exact sk10 (by omega) | exact sk11 (by omega)) rfl ?_
            refine am_bipush (v := 28) dC_part_67 (by decide) ?_
            refine am_icmp_lt (tgt := 75) dC_part_69 (by decide) (fun c69 => ?_) (fun c69 => ?_)
            · have hlt : n < 28 := (q_lt28 hn).mp c69
              refine am_aload_n (i := 0) dC_part_75 rfl rfl ?_
              refine am_getf dC_part_76 flC_11 (by first | rfl | exact sk8 (by omega) | exact sk9 (by omega) | exact sk10 (by omega) | exact sk11 (by omega)) rfl ?_
              refine am_aload_n (i := 0) dC_part_79 rfl rfl ?_
              refine am_getf dC_part_80 flC_40 (by first | rfl | exact sk8 (by omega) | exact sk9 (by omega) | exact sk10 (by omega) | exact sk11 (by omega)) rfl ?_
              refine am_aald dC_part_83 (by first | rfl | exact sk8 (by omega) | exact sk9 (by omega) | exact sk10 (by omega) | exact sk11 (by omega)) rfl (by first | omega | assumption | decide) (by decide) (by decide) rfl rfl ?_
              refine am_bipush (v := 12) dC_part_84 (by decide) ?_
              refine am_iload_n (i := 1) dC_part_86 rfl rfl ?_
              refine am_iconst (v := (-1)) dC_part_87 (by decide) ?_
              refine am_iload_n (i := 2) dC_part_88 rfl rfl ?_
              refine am_iload_n (i := 3) dC_part_89 rfl rfl ?_
              refine am_callV (ac' := 0) (as' := 0) (xs := [_, _, _, _, _]) dC_part_90 lkC_59 (by first | rfl | exact sk8 (by omega) | exact sk9 (by omega) | exact sk10 (by omega) | exact sk11 (by omega)) rfl rfl rfl rfl (Nat.le_of_ble_eq_true rfl) rfl rfl (cO_become8 (v := n) hlt ?_)
              refine am_aload_n (i := 0) dC_part_93 rfl rfl ?_
              refine am_iload (i := 4) dC_part_94 rfl ?_
              refine am_iload (i := 5) dC_part_96 rfl ?_
              refine am_callV (ac' := 0) (as' := 0) (xs := [_, _]) dC_part_98 lkC_63 (by first | rfl | exact sk8 (by omega) | exact sk9 (by omega) | exact sk10 (by omega) | exact sk11 (by omega)) rfl rfl rfl rfl (Nat.le_of_ble_eq_true rfl) rfl rfl (cC_addWithShape (A := q_bec A n 12 xa (-1) p q) hlt (q_args_bec hA (Or.inr ⟨a, ha, ea⟩) (Or.inl rfl)) (fun A1 T S L e1 e2 e3 e4 => ?_))
              refine am_iret (st := []) rfl rfl dC_part_101 ?_
              exact ka a ha ea ⟨ea ▸ q_val_of ha hn, cp, cs⟩ (by grind) hlt _ _ _ _ e1 e2 e3 e4
            · refine am_bipush (v := (-2)) dC_part_72 (by decide) ?_
              refine am_iret (st := []) rfl rfl dC_part_74 ?_
              exact kf a ha ea ⟨ea ▸ q_val_of ha hn, cp, cs⟩ (by grind) (by have := mt (q_lt28 hn).mpr c69; omega)
          · refine am_bipush (v := (-3)) dC_part_60 (by decide) ?_
            refine am_iret (st := []) rfl rfl dC_part_62 ?_
            exact ks a ha ea ⟨ea ▸ q_val_of ha hn, cp, cs⟩ (by grind)
      · refine am_if_ne_F (tgt := 28) dC_part_23 (by decide) (by decide) ?_
        refine am_iconst (v := (-1)) dC_part_26 (by decide) ?_
        refine am_iret (st := []) rfl rfl dC_part_27 ?_
        exact kr (by grind)
    · refine am_if_eq_T (tgt := 26) dC_part_13 (by decide) (by decide) ?_
      refine am_iconst (v := (-1)) dC_part_26 (by decide) ?_
      refine am_iret (st := []) rfl rfl dC_part_27 ?_
      exact kr (by grind)
  · refine am_if_eq_T (tgt := 26) dC_part_5 (by decide) (by decide) ?_
    refine am_iconst (v := (-1)) dC_part_26 (by decide) ?_
    refine am_iret (st := []) rfl rfl dC_part_27 ?_
    exact kr (by grind)
set_option maxRecDepth 100000 in
set_option maxHeartbeats 4000000 in
theorem cC_operation {g : am_G} {d : Nat} {Q : Option am_V → am_H → Prop} {Y : Nat → Nat → Nat → am_V} {A P : Nat → Nat → Int32} {st mk lv : Nat → Int32} {cl pr : Nat → Nat → Int32} {us : Nat → Int32} {si wk : Int32} {n : Nat} {κ xa xb p : Int32} (hn : n ≤ 28) (hA : ∀ m, m < n → q_arg (A m 3) m ∧ q_arg (A m 4) m) (kr : ¬ q_opOk n κ xa xb p → Q (some (am_I (-1))) (hm (xc A P st mk lv cl pr us (nI n) si wk) Y)) (ks : ∀ a b, a < n → b < n → xa = nI a → xb = nI b → q_opOk n κ xa xb p → ¬ q_opFit A κ a b → Q (some (am_I (-3))) (hm (xc A P st mk lv cl pr us (nI n) si wk) Y)) (kf : ∀ a b, a < n → b < n → xa = nI a → xb = nI b → q_opOk n κ xa xb p → q_opFit A κ a b → n = 28 → Q (some (am_I (-2))) (hm (xc A P st mk lv cl pr us (nI n) si wk) Y)) (ka : ∀ a b, a < n → b < n → xa = nI a → xb = nI b → q_opOk n κ xa xb p → q_opFit A κ a b → n < 28 → ∀ A1 T S L, A1 = q_new A n κ xa (if q_one κ then -1 else xb) p 0 (q_opR A κ p a) (q_opC A κ p a b) → T = q_cpn (n + 1) A1 P → S = q_idn (n + 1) st → L = q_live (n + 1) mk S T lv → Q (some (am_I (nI n))) (hm (xc A1 T S mk L cl pr us (nI (n + 1)) 0 0) Y)) : am_C g mC_operation (d + 4) 0 0 [am_O 0 0, am_I κ, am_I xa, am_I xb, am_I p] (hm (xc A P st mk lv cl pr us (nI n) si wk) Y) Q := by
  refine am_enter (lv := [some (am_O 0 0), some (am_I κ), some (am_I xa), some (am_I xb), some (am_I p), none]) rfl rfl (am_cat1 rfl) (Nat.le_of_ble_eq_true rfl) ?_
  refine am_iload_n (i := 1) dC_operation_0 rfl rfl ?_
  refine am_iconst (v := 3) dC_operation_1 (by decide) ?_
  refine am_icmp_lt (tgt := 27) dC_operation_2 (by decide) (fun c2 => ?_) (fun c2 => ?_)
  · refine am_iconst (v := (-1)) dC_operation_27 (by decide) ?_
    refine am_iret (st := []) rfl rfl dC_operation_28 ?_
    exact kr (by grind)
  · refine am_iload_n (i := 1) dC_operation_5 rfl rfl ?_
    refine am_bipush (v := 9) dC_operation_6 (by decide) ?_
    refine am_icmp_gt (tgt := 27) dC_operation_8 (by decide) (fun c8 => ?_) (fun c8 => ?_)
    · refine am_iconst (v := (-1)) dC_operation_27 (by decide) ?_
      refine am_iret (st := []) rfl rfl dC_operation_28 ?_
      exact kr (by grind)
    · refine am_aload_n (i := 0) dC_operation_11 rfl rfl ?_
      refine am_iload_n (i := 2) dC_operation_12 rfl rfl ?_
      refine am_callV (ac' := 0) (as' := 0) (xs := [_]) dC_operation_13 lkC_67 (by first | rfl | exact sk8 (by omega) | exact sk9 (by omega) | exact sk10 (by omega) | exact sk11 (by omega)) rfl rfl rfl rfl (Nat.le_of_ble_eq_true rfl) rfl rfl (cC_isValue rfl hn (fun a ha ea => ?_) (fun na => ?_))
      · refine am_if_eq_F (tgt := 27) dC_operation_16 (by decide) (by decide) ?_
        refine am_aload_n (i := 0) dC_operation_19 rfl rfl ?_
        refine am_iload_n (i := 3) dC_operation_20 rfl rfl ?_
        refine am_callV (ac' := 0) (as' := 0) (xs := [_]) dC_operation_21 lkC_67 (by first | rfl | exact sk8 (by omega) | exact sk9 (by omega) | exact sk10 (by omega) | exact sk11 (by omega)) rfl rfl rfl rfl (Nat.le_of_ble_eq_true rfl) rfl rfl (cC_isValue rfl hn (fun b hb eb => ?_) (fun nb => ?_))
        · refine am_if_ne_T (tgt := 29) dC_operation_24 (by decide) (by decide) ?_
          refine am_iload_n (i := 1) dC_operation_29 rfl rfl ?_
          refine am_bipush (v := 6) dC_operation_30 (by decide) ?_
          refine am_icmp_eq (tgt := 47) dC_operation_32 (by decide) (fun c32 => ?_) (fun c32 => ?_)
          · refine am_iconst (v := 1) dC_operation_47 (by decide) ?_
            refine am_goto (tgt := 52) dC_operation_48 (by decide) ?_
            refine am_istore (i := 5) dC_operation_52 (by decide) ?_
            refine am_iload (i := 5) dC_operation_54 rfl ?_
            refine am_if_eq_F (tgt := 64) dC_operation_56 (by decide) (by decide) ?_
            refine am_iload_n (i := 3) dC_operation_59 rfl rfl ?_
            refine am_iload_n (i := 2) dC_operation_60 rfl rfl ?_
            refine am_icmp_ne (tgt := 85) dC_operation_61 (by decide) (fun c61 => ?_) (fun c61 => ?_)
            · refine am_iconst (v := (-1)) dC_operation_85 (by decide) ?_
              refine am_iret (st := []) rfl rfl dC_operation_86 ?_
              exact kr (by grind)
            · refine am_iload (i := 4) dC_operation_64 rfl ?_
              refine am_if_lt (tgt := 85) dC_operation_66 (by decide) (fun c66 => ?_) (fun c66 => ?_)
              · refine am_iconst (v := (-1)) dC_operation_85 (by decide) ?_
                refine am_iret (st := []) rfl rfl dC_operation_86 ?_
                exact kr (by grind)
              · refine am_iload (i := 4) dC_operation_69 rfl ?_
                refine am_iload_n (i := 1) dC_operation_71 rfl rfl ?_
                refine am_bipush (v := 9) dC_operation_72 (by decide) ?_
                refine am_icmp_ne_T (tgt := 81) dC_operation_74 (by decide) (by rw [c32]; decide) ?_
                refine am_iconst (v := 0) dC_operation_81 (by decide) ?_
                refine am_icmp_le (tgt := 87) dC_operation_82 (by decide) (fun c82 => ?_) (fun c82 => ?_)
                · refine am_iload_n (i := 1) dC_operation_87 rfl rfl ?_
                  refine am_aload_n (i := 0) dC_operation_88 rfl rfl ?_
                  refine am_getf dC_operation_89 flC_11 (by first | rfl | exact sk8 (by omega) | exact sk9 (by omega) | exact sk10 (by omega) | exact sk11 (by omega)) rfl ?_
                  refine am_iload_n (i := 2) dC_operation_92 rfl rfl ?_
                  refine am_aald dC_operation_93 (by first | rfl | exact sk8 (by omega) | exact sk9 (by omega) | exact sk10 (by omega) | exact sk11 (by omega)) ea (by first | omega | assumption | decide) (by decide) (by decide) rfl rfl ?_
                  refine am_aload_n (i := 0) dC_operation_94 rfl rfl ?_
                  refine am_getf dC_operation_95 flC_11 (by first | rfl | exact sk8 (by omega) | exact sk9 (by omega) | exact sk10 (by omega) | exact sk11 (by omega)) rfl ?_
                  refine am_iload_n (i := 3) dC_operation_98 rfl rfl ?_
                  refine am_aald dC_operation_99 (by first | rfl | exact sk8 (by omega) | exact sk9 (by omega) | exact sk10 (by omega) | exact sk11 (by omega)) eb (by first | omega | assumption | decide) (by decide) (by decide) rfl rfl ?_
                  refine am_callS (ac' := 0) (as' := 0) (xs := [_, _, _]) dC_operation_100 lkC_71 rfl rfl (Nat.le_of_ble_eq_true rfl) rfl rfl (cC_shapesFit (v := a) (u := b) (by omega) (by omega) (fun cf => ?_) (fun cf => ?_))
                  · refine am_if_ne_T (tgt := 109) dC_operation_103 (by decide) (by decide) ?_
                    refine am_aload_n (i := 0) dC_operation_109 rfl rfl ?_
                    refine am_getf dC_operation_110 flC_40 (by first | rfl | exact sk8 (by omega) | exact sk9 (by omega) | exact sk10 (by omega) | exact sk11 (by omega)) rfl ?_
                    refine am_bipush (v := 28) dC_operation_113 (by decide) ?_
                    refine am_icmp_lt (tgt := 121) dC_operation_115 (by decide) (fun c115 => ?_) (fun c115 => ?_)
                    · have hlt : n < 28 := (q_lt28 hn).mp c115
                      refine am_aload_n (i := 0) dC_operation_121 rfl rfl ?_
                      refine am_getf dC_operation_122 flC_11 (by first | rfl | exact sk8 (by omega) | exact sk9 (by omega) | exact sk10 (by omega) | exact sk11 (by omega)) rfl ?_
                      refine am_aload_n (i := 0) dC_operation_125 rfl rfl ?_
                      refine am_getf dC_operation_126 flC_40 (by first | rfl | exact sk8 (by omega) | exact sk9 (by omega) | exact sk10 (by omega) | exact sk11 (by omega)) rfl ?_
                      refine am_aald dC_operation_129 (by first | rfl | exact sk8 (by omega) | exact sk9 (by omega) | exact sk10 (by omega) | exact sk11 (by omega)) rfl (by first | omega | assumption | decide) (by decide) (by decide) rfl rfl ?_
                      refine am_iload_n (i := 1) dC_operation_130 rfl rfl ?_
                      refine am_iload_n (i := 2) dC_operation_131 rfl rfl ?_
                      refine am_iload (i := 5) dC_operation_132 rfl ?_
                      refine am_if_eq_F (tgt := 141) dC_operation_134 (by decide) (by decide) ?_
                      refine am_iconst (v := (-1)) dC_operation_137 (by decide) ?_
                      refine am_goto (tgt := 142) dC_operation_138 (by decide) ?_
                      refine am_iload (i := 4) dC_operation_142 rfl ?_
                      refine am_iconst (v := 0) dC_operation_144 (by decide) ?_
                      refine am_callV (ac' := 0) (as' := 0) (xs := [_, _, _, _, _]) dC_operation_145 lkC_59 (by first | rfl | exact sk8 (by omega) | exact sk9 (by omega) | exact sk10 (by omega) | exact sk11 (by omega)) rfl rfl rfl rfl (Nat.le_of_ble_eq_true rfl) rfl rfl (cO_become8 (v := n) hlt ?_)
                      refine am_aload_n (i := 0) dC_operation_148 rfl rfl ?_
                      refine am_iload_n (i := 1) dC_operation_149 rfl rfl ?_
                      refine am_aload_n (i := 0) dC_operation_150 rfl rfl ?_
                      refine am_getf dC_operation_151 flC_11 (by first | rfl | exact sk8 (by omega) | exact sk9 (by omega) | exact sk10 (by omega) | exact sk11 (by omega)) rfl ?_
                      refine am_iload_n (i := 2) dC_operation_154 rfl rfl ?_
                      refine am_aald dC_operation_155 (by first | rfl | exact sk8 (by omega) | exact sk9 (by omega) | exact sk10 (by omega) | exact sk11 (by omega)) ea (by first | omega | assumption | decide) (by decide) (by decide) rfl rfl ?_
                      refine am_iload (i := 4) dC_operation_156 rfl ?_
                      refine am_callS (ac' := 0) (as' := 0) (xs := [_, _, _]) dC_operation_158 lkC_75 rfl rfl (Nat.le_of_ble_eq_true rfl) rfl rfl (cC_rowsOf (A := q_bec A n κ xa (-1) p 0) (v := a) (by omega) (fun r er0 => ?_))
                      have er : r = q_opR A κ p a := by rw [er0, q_bec_old (by omega), q_bec_old (by omega)]; rfl
                      refine am_iload_n (i := 1) dC_operation_161 rfl rfl ?_
                      refine am_aload_n (i := 0) dC_operation_162 rfl rfl ?_
                      refine am_getf dC_operation_163 flC_11 (by first | rfl | exact sk8 (by omega) | exact sk9 (by omega) | exact sk10 (by omega) | exact sk11 (by omega)) rfl ?_
                      refine am_iload_n (i := 2) dC_operation_166 rfl rfl ?_
                      refine am_aald dC_operation_167 (by first | rfl | exact sk8 (by omega) | exact sk9 (by omega) | exact sk10 (by omega) | exact sk11 (by omega)) ea (by first | omega | assumption | decide) (by decide) (by decide) rfl rfl ?_
                      refine am_aload_n (i := 0) dC_operation_168 rfl rfl ?_
                      refine am_getf dC_operation_169 flC_11 (by first | rfl | exact sk8 (by omega) | exact sk9 (by omega) | exact sk10 (by omega) | exact sk11 (by omega)) rfl ?_
                      refine am_iload_n (i := 3) dC_operation_172 rfl rfl ?_
                      refine am_aald dC_operation_173 (by first | rfl | exact sk8 (by omega) | exact sk9 (by omega) | exact sk10 (by omega) | exact sk11 (by omega)) eb (by first | omega | assumption | decide) (by decide) (by decide) rfl rfl ?_
                      refine am_iload (i := 4) dC_operation_174 rfl ?_
                      refine am_callS (ac' := 0) (as' := 0) (xs := [_, _, _, _]) dC_operation_176 lkC_79 rfl rfl (Nat.le_of_ble_eq_true rfl) rfl rfl (cC_columnsOf (A := q_bec A n κ xa (-1) p 0) (v := a) (u := b) (by omega) (by omega) (fun c ec0 => ?_))
                      have ec : c = q_opC A κ p a b := by rw [ec0, q_bec_old (by omega), q_bec_old (by omega)]; rfl
                      refine am_callV (ac' := 0) (as' := 0) (xs := [_, _]) dC_operation_179 lkC_63 (by first | rfl | exact sk8 (by omega) | exact sk9 (by omega) | exact sk10 (by omega) | exact sk11 (by omega)) rfl rfl rfl rfl (Nat.le_of_ble_eq_true rfl) rfl rfl (cC_addWithShape (A := q_bec A n κ xa (-1) p 0) hlt (q_args_bec hA (Or.inr ⟨a, ha, ea⟩) (Or.inl rfl)) (fun A1 T S L e1 e2 e3 e4 => ?_))
                      refine am_iret (st := []) rfl rfl dC_operation_182 ?_
                      exact ka a b ha hb ea eb ⟨c2, c8, ea ▸ q_val_of ha hn, eb ▸ q_val_of hb hn, by grind, c66, by grind⟩ cf hlt _ _ _ _ (by rw [e1, er, ec]; first | rw [if_pos (by grind)]; rfl | rw [if_neg (by grind)]; rfl) e2 e3 e4
                    · refine am_bipush (v := (-2)) dC_operation_118 (by decide) ?_
                      refine am_iret (st := []) rfl rfl dC_operation_120 ?_
                      exact kf a b ha hb ea eb ⟨c2, c8, ea ▸ q_val_of ha hn, eb ▸ q_val_of hb hn, by grind, c66, by grind⟩ cf (by have := mt (q_lt28 hn).mpr c115; omega)
                  · refine am_if_ne_F (tgt := 109) dC_operation_103 (by decide) (by decide) ?_
                    refine am_bipush (v := (-3)) dC_operation_106 (by decide) ?_
                    refine am_iret (st := []) rfl rfl dC_operation_108 ?_
                    exact ks a b ha hb ea eb ⟨c2, c8, ea ▸ q_val_of ha hn, eb ▸ q_val_of hb hn, by grind, c66, by grind⟩ cf
                · refine am_iconst (v := (-1)) dC_operation_85 (by decide) ?_
                  refine am_iret (st := []) rfl rfl dC_operation_86 ?_
                  exact kr (by grind)
          · refine am_iload_n (i := 1) dC_operation_35 rfl rfl ?_
            refine am_bipush (v := 7) dC_operation_36 (by decide) ?_
            refine am_icmp_eq (tgt := 47) dC_operation_38 (by decide) (fun c38 => ?_) (fun c38 => ?_)
            · refine am_iconst (v := 1) dC_operation_47 (by decide) ?_
              refine am_goto (tgt := 52) dC_operation_48 (by decide) ?_
              refine am_istore (i := 5) dC_operation_52 (by decide) ?_
              refine am_iload (i := 5) dC_operation_54 rfl ?_
              refine am_if_eq_F (tgt := 64) dC_operation_56 (by decide) (by decide) ?_
              refine am_iload_n (i := 3) dC_operation_59 rfl rfl ?_
              refine am_iload_n (i := 2) dC_operation_60 rfl rfl ?_
              refine am_icmp_ne (tgt := 85) dC_operation_61 (by decide) (fun c61 => ?_) (fun c61 => ?_)
              · refine am_iconst (v := (-1)) dC_operation_85 (by decide) ?_
                refine am_iret (st := []) rfl rfl dC_operation_86 ?_
                exact kr (by grind)
              · refine am_iload (i := 4) dC_operation_64 rfl ?_
                refine am_if_lt (tgt := 85) dC_operation_66 (by decide) (fun c66 => ?_) (fun c66 => ?_)
                · refine am_iconst (v := (-1)) dC_operation_85 (by decide) ?_
                  refine am_iret (st := []) rfl rfl dC_operation_86 ?_
                  exact kr (by grind)
                · refine am_iload (i := 4) dC_operation_69 rfl ?_
                  refine am_iload_n (i := 1) dC_operation_71 rfl rfl ?_
                  refine am_bipush (v := 9) dC_operation_72 (by decide) ?_
                  refine am_icmp_ne_T (tgt := 81) dC_operation_74 (by decide) (by rw [c38]; decide) ?_
                  refine am_iconst (v := 0) dC_operation_81 (by decide) ?_
                  refine am_icmp_le (tgt := 87) dC_operation_82 (by decide) (fun c82 => ?_) (fun c82 => ?_)
                  · refine am_iload_n (i := 1) dC_operation_87 rfl rfl ?_
                    refine am_aload_n (i := 0) dC_operation_88 rfl rfl ?_
                    refine am_getf dC_operation_89 flC_11 (by first | rfl | exact sk8 (by omega) | exact sk9 (by omega) | exact sk10 (by omega) | exact sk11 (by omega)) rfl ?_
                    refine am_iload_n (i := 2) dC_operation_92 rfl rfl ?_
                    refine am_aald dC_operation_93 (by first | rfl | exact sk8 (by omega) | exact sk9 (by omega) | exact sk10 (by omega) | exact sk11 (by omega)) ea (by first | omega | assumption | decide) (by decide) (by decide) rfl rfl ?_
                    refine am_aload_n (i := 0) dC_operation_94 rfl rfl ?_
                    refine am_getf dC_operation_95 flC_11 (by first | rfl | exact sk8 (by omega) | exact sk9 (by omega) | exact sk10 (by omega) | exact sk11 (by omega)) rfl ?_
                    refine am_iload_n (i := 3) dC_operation_98 rfl rfl ?_
                    refine am_aald dC_operation_99 (by first | rfl | exact sk8 (by omega) | exact sk9 (by omega) | exact sk10 (by omega) | exact sk11 (by omega)) eb (by first | omega | assumption | decide) (by decide) (by decide) rfl rfl ?_
                    refine am_callS (ac' := 0) (as' := 0) (xs := [_, _, _]) dC_operation_100 lkC_71 rfl rfl (Nat.le_of_ble_eq_true rfl) rfl rfl (cC_shapesFit (v := a) (u := b) (by omega) (by omega) (fun cf => ?_) (fun cf => ?_))
                    · refine am_if_ne_T (tgt := 109) dC_operation_103 (by decide) (by decide) ?_
                      refine am_aload_n (i := 0) dC_operation_109 rfl rfl ?_
                      refine am_getf dC_operation_110 flC_40 (by first | rfl | exact sk8 (by omega) | exact sk9 (by omega) | exact sk10 (by omega) | exact sk11 (by omega)) rfl ?_
                      refine am_bipush (v := 28) dC_operation_113 (by decide) ?_
                      refine am_icmp_lt (tgt := 121) dC_operation_115 (by decide) (fun c115 => ?_) (fun c115 => ?_)
                      · have hlt : n < 28 := (q_lt28 hn).mp c115
                        refine am_aload_n (i := 0) dC_operation_121 rfl rfl ?_
                        refine am_getf dC_operation_122 flC_11 (by first | rfl | exact sk8 (by omega) | exact sk9 (by omega) | exact sk10 (by omega) | exact sk11 (by omega)) rfl ?_
                        refine am_aload_n (i := 0) dC_operation_125 rfl rfl ?_
                        refine am_getf dC_operation_126 flC_40 (by first | rfl | exact sk8 (by omega) | exact sk9 (by omega) | exact sk10 (by omega) | exact sk11 (by omega)) rfl ?_
                        refine am_aald dC_operation_129 (by first | rfl | exact sk8 (by omega) | exact sk9 (by omega) | exact sk10 (by omega) | exact sk11 (by omega)) rfl (by first | omega | assumption | decide) (by decide) (by decide) rfl rfl ?_
                        refine am_iload_n (i := 1) dC_operation_130 rfl rfl ?_
                        refine am_iload_n (i := 2) dC_operation_131 rfl rfl ?_
                        refine am_iload (i := 5) dC_operation_132 rfl ?_
                        refine am_if_eq_F (tgt := 141) dC_operation_134 (by decide) (by decide) ?_
                        refine am_iconst (v := (-1)) dC_operation_137 (by decide) ?_
                        refine am_goto (tgt := 142) dC_operation_138 (by decide) ?_
                        refine am_iload (i := 4) dC_operation_142 rfl ?_
                        refine am_iconst (v := 0) dC_operation_144 (by decide) ?_
                        refine am_callV (ac' := 0) (as' := 0) (xs := [_, _, _, _, _]) dC_operation_145 lkC_59 (by first | rfl | exact sk8 (by omega) | exact sk9 (by omega) | exact sk10 (by omega) | exact sk11 (by omega)) rfl rfl rfl rfl (Nat.le_of_ble_eq_true rfl) rfl rfl (cO_become8 (v := n) hlt ?_)
                        refine am_aload_n (i := 0) dC_operation_148 rfl rfl ?_
                        refine am_iload_n (i := 1) dC_operation_149 rfl rfl ?_
                        refine am_aload_n (i := 0) dC_operation_150 rfl rfl ?_
                        refine am_getf dC_operation_151 flC_11 (by first | rfl | exact sk8 (by omega) | exact sk9 (by omega) | exact sk10 (by omega) | exact sk11 (by omega)) rfl ?_
                        refine am_iload_n (i := 2) dC_operation_154 rfl rfl ?_
                        refine am_aald dC_operation_155 (by first | rfl | exact sk8 (by omega) | exact sk9 (by omega) | exact sk10 (by omega) | exact sk11 (by omega)) ea (by first | omega | assumption | decide) (by decide) (by decide) rfl rfl ?_
                        refine am_iload (i := 4) dC_operation_156 rfl ?_
                        refine am_callS (ac' := 0) (as' := 0) (xs := [_, _, _]) dC_operation_158 lkC_75 rfl rfl (Nat.le_of_ble_eq_true rfl) rfl rfl (cC_rowsOf (A := q_bec A n κ xa (-1) p 0) (v := a) (by omega) (fun r er0 => ?_))
                        have er : r = q_opR A κ p a := by rw [er0, q_bec_old (by omega), q_bec_old (by omega)]; rfl
                        refine am_iload_n (i := 1) dC_operation_161 rfl rfl ?_
                        refine am_aload_n (i := 0) dC_operation_162 rfl rfl ?_
                        refine am_getf dC_operation_163 flC_11 (by first | rfl | exact sk8 (by omega) | exact sk9 (by omega) | exact sk10 (by omega) | exact sk11 (by omega)) rfl ?_
                        refine am_iload_n (i := 2) dC_operation_166 rfl rfl ?_
                        refine am_aald dC_operation_167 (by first | rfl | exact sk8 (by omega) | exact sk9 (by omega) | exact sk10 (by omega) | exact sk11 (by omega)) ea (by first | omega | assumption | decide) (by decide) (by decide) rfl rfl ?_
                        refine am_aload_n (i := 0) dC_operation_168 rfl rfl ?_
                        refine am_getf dC_operation_169 flC_11 (by first | rfl | exact sk8 (by omega) | exact sk9 (by omega) | exact sk10 (by omega) | exact sk11 (by omega)) rfl ?_
                        refine am_iload_n (i := 3) dC_operation_172 rfl rfl ?_
                        refine am_aald dC_operation_173 (by first | rfl | exact sk8 (by omega) | exact sk9 (by omega) | exact sk10 (by omega) | exact sk11 (by omega)) eb (by first | omega | assumption | decide) (by decide) (by decide) rfl rfl ?_
                        refine am_iload (i := 4) dC_operation_174 rfl ?_
                        refine am_callS (ac' := 0) (as' := 0) (xs := [_, _, _, _]) dC_operation_176 lkC_79 rfl rfl (Nat.le_of_ble_eq_true rfl) rfl rfl (cC_columnsOf (A := q_bec A n κ xa (-1) p 0) (v := a) (u := b) (by omega) (by omega) (fun c ec0 => ?_))
                        have ec : c = q_opC A κ p a b := by rw [ec0, q_bec_old (by omega), q_bec_old (by omega)]; rfl
                        refine am_callV (ac' := 0) (as' := 0) (xs := [_, _]) dC_operation_179 lkC_63 (by first | rfl | exact sk8 (by omega) | exact sk9 (by omega) | exact sk10 (by omega) | exact sk11 (by omega)) rfl rfl rfl rfl (Nat.le_of_ble_eq_true rfl) rfl rfl (cC_addWithShape (A := q_bec A n κ xa (-1) p 0) hlt (q_args_bec hA (Or.inr ⟨a, ha, ea⟩) (Or.inl rfl)) (fun A1 T S L e1 e2 e3 e4 => ?_))
                        refine am_iret (st := []) rfl rfl dC_operation_182 ?_
                        exact ka a b ha hb ea eb ⟨c2, c8, ea ▸ q_val_of ha hn, eb ▸ q_val_of hb hn, by grind, c66, by grind⟩ cf hlt _ _ _ _ (by rw [e1, er, ec]; first | rw [if_pos (by grind)]; rfl | rw [if_neg (by grind)]; rfl) e2 e3 e4
                      · refine am_bipush (v := (-2)) dC_operation_118 (by decide) ?_
                        refine am_iret (st := []) rfl rfl dC_operation_120 ?_
                        exact kf a b ha hb ea eb ⟨c2, c8, ea ▸ q_val_of ha hn, eb ▸ q_val_of hb hn, by grind, c66, by grind⟩ cf (by have := mt (q_lt28 hn).mpr c115; omega)
                    · refine am_if_ne_F (tgt := 109) dC_operation_103 (by decide) (by decide) ?_
                      refine am_bipush (v := (-3)) dC_operation_106 (by decide) ?_
                      refine am_iret (st := []) rfl rfl dC_operation_108 ?_
                      exact ks a b ha hb ea eb ⟨c2, c8, ea ▸ q_val_of ha hn, eb ▸ q_val_of hb hn, by grind, c66, by grind⟩ cf
                  · refine am_iconst (v := (-1)) dC_operation_85 (by decide) ?_
                    refine am_iret (st := []) rfl rfl dC_operation_86 ?_
                    exact kr (by grind)
            · refine am_iload_n (i := 1) dC_operation_41 rfl rfl ?_
              refine am_bipush (v := 9) dC_operation_42 (by decide) ?_
              refine am_icmp_ne (tgt := 51) dC_operation_44 (by decide) (fun c44 => ?_) (fun c44 => ?_)
              · refine am_iconst (v := 0) dC_operation_51 (by decide) ?_
                refine am_istore (i := 5) dC_operation_52 (by decide) ?_
                refine am_iload (i := 5) dC_operation_54 rfl ?_
                refine am_if_eq_T (tgt := 64) dC_operation_56 (by decide) (by decide) ?_
                refine am_iload (i := 4) dC_operation_64 rfl ?_
                refine am_if_lt (tgt := 85) dC_operation_66 (by decide) (fun c66 => ?_) (fun c66 => ?_)
                · refine am_iconst (v := (-1)) dC_operation_85 (by decide) ?_
                  refine am_iret (st := []) rfl rfl dC_operation_86 ?_
                  exact kr (by grind)
                · refine am_iload (i := 4) dC_operation_69 rfl ?_
                  refine am_iload_n (i := 1) dC_operation_71 rfl rfl ?_
                  refine am_bipush (v := 9) dC_operation_72 (by decide) ?_
                  refine am_icmp_ne_T (tgt := 81) dC_operation_74 (by decide) c44 ?_
                  refine am_iconst (v := 0) dC_operation_81 (by decide) ?_
                  refine am_icmp_le (tgt := 87) dC_operation_82 (by decide) (fun c82 => ?_) (fun c82 => ?_)
                  · refine am_iload_n (i := 1) dC_operation_87 rfl rfl ?_
                    refine am_aload_n (i := 0) dC_operation_88 rfl rfl ?_
                    refine am_getf dC_operation_89 flC_11 (by first | rfl | exact sk8 (by omega) | exact sk9 (by omega) | exact sk10 (by omega) | exact sk11 (by omega)) rfl ?_
                    refine am_iload_n (i := 2) dC_operation_92 rfl rfl ?_
                    refine am_aald dC_operation_93 (by first | rfl | exact sk8 (by omega) | exact sk9 (by omega) | exact sk10 (by omega) | exact sk11 (by omega)) ea (by first | omega | assumption | decide) (by decide) (by decide) rfl rfl ?_
                    refine am_aload_n (i := 0) dC_operation_94 rfl rfl ?_
                    refine am_getf dC_operation_95 flC_11 (by first | rfl | exact sk8 (by omega) | exact sk9 (by omega) | exact sk10 (by omega) | exact sk11 (by omega)) rfl ?_
                    refine am_iload_n (i := 3) dC_operation_98 rfl rfl ?_
                    refine am_aald dC_operation_99 (by first | rfl | exact sk8 (by omega) | exact sk9 (by omega) | exact sk10 (by omega) | exact sk11 (by omega)) eb (by first | omega | assumption | decide) (by decide) (by decide) rfl rfl ?_
                    refine am_callS (ac' := 0) (as' := 0) (xs := [_, _, _]) dC_operation_100 lkC_71 rfl rfl (Nat.le_of_ble_eq_true rfl) rfl rfl (cC_shapesFit (v := a) (u := b) (by omega) (by omega) (fun cf => ?_) (fun cf => ?_))
                    · refine am_if_ne_T (tgt := 109) dC_operation_103 (by decide) (by decide) ?_
                      refine am_aload_n (i := 0) dC_operation_109 rfl rfl ?_
                      refine am_getf dC_operation_110 flC_40 (by first | rfl | exact sk8 (by omega) | exact sk9 (by omega) | exact sk10 (by omega) | exact sk11 (by omega)) rfl ?_
                      refine am_bipush (v := 28) dC_operation_113 (by decide) ?_
                      refine am_icmp_lt (tgt := 121) dC_operation_115 (by decide) (fun c115 => ?_) (fun c115 => ?_)
                      · have hlt : n < 28 := (q_lt28 hn).mp c115
                        refine am_aload_n (i := 0) dC_operation_121 rfl rfl ?_
                        refine am_getf dC_operation_122 flC_11 (by first | rfl | exact sk8 (by omega) | exact sk9 (by omega) | exact sk10 (by omega) | exact sk11 (by omega)) rfl ?_
                        refine am_aload_n (i := 0) dC_operation_125 rfl rfl ?_
                        refine am_getf dC_operation_126 flC_40 (by first | rfl | exact sk8 (by omega) | exact sk9 (by omega) | exact sk10 (by omega) | exact sk11 (by omega)) rfl ?_
                        refine am_aald dC_operation_129 (by first | rfl | exact sk8 (by omega) | exact sk9 (by omega) | exact sk10 (by omega) | exact sk11 (by omega)) rfl (by first | omega | assumption | decide) (by decide) (by decide) rfl rfl ?_
                        refine am_iload_n (i := 1) dC_operation_130 rfl rfl ?_
                        refine am_iload_n (i := 2) dC_operation_131 rfl rfl ?_
                        refine am_iload (i := 5) dC_operation_132 rfl ?_
                        refine am_if_eq_T (tgt := 141) dC_operation_134 (by decide) (by decide) ?_
                        refine am_iload_n (i := 3) dC_operation_141 rfl rfl ?_
                        refine am_iload (i := 4) dC_operation_142 rfl ?_
                        refine am_iconst (v := 0) dC_operation_144 (by decide) ?_
                        refine am_callV (ac' := 0) (as' := 0) (xs := [_, _, _, _, _]) dC_operation_145 lkC_59 (by first | rfl | exact sk8 (by omega) | exact sk9 (by omega) | exact sk10 (by omega) | exact sk11 (by omega)) rfl rfl rfl rfl (Nat.le_of_ble_eq_true rfl) rfl rfl (cO_become8 (v := n) hlt ?_)
                        refine am_aload_n (i := 0) dC_operation_148 rfl rfl ?_
                        refine am_iload_n (i := 1) dC_operation_149 rfl rfl ?_
                        refine am_aload_n (i := 0) dC_operation_150 rfl rfl ?_
                        refine am_getf dC_operation_151 flC_11 (by first | rfl | exact sk8 (by omega) | exact sk9 (by omega) | exact sk10 (by omega) | exact sk11 (by omega)) rfl ?_
                        refine am_iload_n (i := 2) dC_operation_154 rfl rfl ?_
                        refine am_aald dC_operation_155 (by first | rfl | exact sk8 (by omega) | exact sk9 (by omega) | exact sk10 (by omega) | exact sk11 (by omega)) ea (by first | omega | assumption | decide) (by decide) (by decide) rfl rfl ?_
                        refine am_iload (i := 4) dC_operation_156 rfl ?_
                        refine am_callS (ac' := 0) (as' := 0) (xs := [_, _, _]) dC_operation_158 lkC_75 rfl rfl (Nat.le_of_ble_eq_true rfl) rfl rfl (cC_rowsOf (A := q_bec A n κ xa (xb) p 0) (v := a) (by omega) (fun r er0 => ?_))
                        have er : r = q_opR A κ p a := by rw [er0, q_bec_old (by omega), q_bec_old (by omega)]; rfl
                        refine am_iload_n (i := 1) dC_operation_161 rfl rfl ?_
                        refine am_aload_n (i := 0) dC_operation_162 rfl rfl ?_
                        refine am_getf dC_operation_163 flC_11 (by first | rfl | exact sk8 (by omega) | exact sk9 (by omega) | exact sk10 (by omega) | exact sk11 (by omega)) rfl ?_
                        refine am_iload_n (i := 2) dC_operation_166 rfl rfl ?_
                        refine am_aald dC_operation_167 (by first | rfl | exact sk8 (by omega) | exact sk9 (by omega) | exact sk10 (by omega) | exact sk11 (by omega)) ea (by first | omega | assumption | decide) (by decide) (by decide) rfl rfl ?_
                        refine am_aload_n (i := 0) dC_operation_168 rfl rfl ?_
                        refine am_getf dC_operation_169 flC_11 (by first | rfl | exact sk8 (by omega) | exact sk9 (by omega) | exact sk10 (by omega) | exact sk11 (by omega)) rfl ?_
                        refine am_iload_n (i := 3) dC_operation_172 rfl rfl ?_
                        refine am_aald dC_operation_173 (by first | rfl | exact sk8 (by omega) | exact sk9 (by omega) | exact sk10 (by omega) | exact sk11 (by omega)) eb (by first | omega | assumption | decide) (by decide) (by decide) rfl rfl ?_
                        refine am_iload (i := 4) dC_operation_174 rfl ?_
                        refine am_callS (ac' := 0) (as' := 0) (xs := [_, _, _, _]) dC_operation_176 lkC_79 rfl rfl (Nat.le_of_ble_eq_true rfl) rfl rfl (cC_columnsOf (A := q_bec A n κ xa (xb) p 0) (v := a) (u := b) (by omega) (by omega) (fun c ec0 => ?_))
                        have ec : c = q_opC A κ p a b := by rw [ec0, q_bec_old (by omega), q_bec_old (by omega)]; rfl
                        refine am_callV (ac' := 0) (as' := 0) (xs := [_, _]) dC_operation_179 lkC_63 (by first | rfl | exact sk8 (by omega) | exact sk9 (by omega) | exact sk10 (by omega) | exact sk11 (by omega)) rfl rfl rfl rfl (Nat.le_of_ble_eq_true rfl) rfl rfl (cC_addWithShape (A := q_bec A n κ xa (xb) p 0) hlt (q_args_bec hA (Or.inr ⟨a, ha, ea⟩) (Or.inr ⟨b, hb, eb⟩)) (fun A1 T S L e1 e2 e3 e4 => ?_))
                        refine am_iret (st := []) rfl rfl dC_operation_182 ?_
                        exact ka a b ha hb ea eb ⟨c2, c8, ea ▸ q_val_of ha hn, eb ▸ q_val_of hb hn, by grind, c66, by grind⟩ cf hlt _ _ _ _ (by rw [e1, er, ec]; first | rw [if_pos (by grind)]; rfl | rw [if_neg (by grind)]; rfl) e2 e3 e4
                      · refine am_bipush (v := (-2)) dC_operation_118 (by decide) ?_
                        refine am_iret (st := []) rfl rfl dC_operation_120 ?_
                        exact kf a b ha hb ea eb ⟨c2, c8, ea ▸ q_val_of ha hn, eb ▸ q_val_of hb hn, by grind, c66, by grind⟩ cf (by have := mt (q_lt28 hn).mpr c115; omega)
                    · refine am_if_ne_F (tgt := 109) dC_operation_103 (by decide) (by decide) ?_
                      refine am_bipush (v := (-3)) dC_operation_106 (by decide) ?_
                      refine am_iret (st := []) rfl rfl dC_operation_108 ?_
                      exact ks a b ha hb ea eb ⟨c2, c8, ea ▸ q_val_of ha hn, eb ▸ q_val_of hb hn, by grind, c66, by grind⟩ cf
                  · refine am_iconst (v := (-1)) dC_operation_85 (by decide) ?_
                    refine am_iret (st := []) rfl rfl dC_operation_86 ?_
                    exact kr (by grind)
              · refine am_iconst (v := 1) dC_operation_47 (by decide) ?_
                refine am_goto (tgt := 52) dC_operation_48 (by decide) ?_
                refine am_istore (i := 5) dC_operation_52 (by decide) ?_
                refine am_iload (i := 5) dC_operation_54 rfl ?_
                refine am_if_eq_F (tgt := 64) dC_operation_56 (by decide) (by decide) ?_
                refine am_iload_n (i := 3) dC_operation_59 rfl rfl ?_
                refine am_iload_n (i := 2) dC_operation_60 rfl rfl ?_
                refine am_icmp_ne (tgt := 85) dC_operation_61 (by decide) (fun c61 => ?_) (fun c61 => ?_)
                · refine am_iconst (v := (-1)) dC_operation_85 (by decide) ?_
                  refine am_iret (st := []) rfl rfl dC_operation_86 ?_
                  exact kr (by grind)
                · refine am_iload (i := 4) dC_operation_64 rfl ?_
                  refine am_if_lt (tgt := 85) dC_operation_66 (by decide) (fun c66 => ?_) (fun c66 => ?_)
                  · refine am_iconst (v := (-1)) dC_operation_85 (by decide) ?_
                    refine am_iret (st := []) rfl rfl dC_operation_86 ?_
                    exact kr (by grind)
                  · refine am_iload (i := 4) dC_operation_69 rfl ?_
                    refine am_iload_n (i := 1) dC_operation_71 rfl rfl ?_
                    refine am_bipush (v := 9) dC_operation_72 (by decide) ?_
                    refine am_icmp_ne_F (tgt := 81) dC_operation_74 (by decide) c44 ?_
                    refine am_iconst (v := 1) dC_operation_77 (by decide) ?_
                    refine am_goto (tgt := 82) dC_operation_78 (by decide) ?_
                    refine am_icmp_le (tgt := 87) dC_operation_82 (by decide) (fun c82 => ?_) (fun c82 => ?_)
                    · refine am_iload_n (i := 1) dC_operation_87 rfl rfl ?_
                      refine am_aload_n (i := 0) dC_operation_88 rfl rfl ?_
                      refine am_getf dC_operation_89 flC_11 (by first | rfl | exact sk8 (by omega) | exact sk9 (by omega) | exact sk10 (by omega) | exact sk11 (by omega)) rfl ?_
                      refine am_iload_n (i := 2) dC_operation_92 rfl rfl ?_
                      refine am_aald dC_operation_93 (by first | rfl | exact sk8 (by omega) | exact sk9 (by omega) | exact sk10 (by omega) | exact sk11 (by omega)) ea (by first | omega | assumption | decide) (by decide) (by decide) rfl rfl ?_
                      refine am_aload_n (i := 0) dC_operation_94 rfl rfl ?_
                      refine am_getf dC_operation_95 flC_11 (by first | rfl | exact sk8 (by omega) | exact sk9 (by omega) | exact sk10 (by omega) | exact sk11 (by omega)) rfl ?_
                      refine am_iload_n (i := 3) dC_operation_98 rfl rfl ?_
                      refine am_aald dC_operation_99 (by first | rfl | exact sk8 (by omega) | exact sk9 (by omega) | exact sk10 (by omega) | exact sk11 (by omega)) eb (by first | omega | assumption | decide) (by decide) (by decide) rfl rfl ?_
                      refine am_callS (ac' := 0) (as' := 0) (xs := [_, _, _]) dC_operation_100 lkC_71 rfl rfl (Nat.le_of_ble_eq_true rfl) rfl rfl (cC_shapesFit (v := a) (u := b) (by omega) (by omega) (fun cf => ?_) (fun cf => ?_))
                      · refine am_if_ne_T (tgt := 109) dC_operation_103 (by decide) (by decide) ?_
                        refine am_aload_n (i := 0) dC_operation_109 rfl rfl ?_
                        refine am_getf dC_operation_110 flC_40 (by first | rfl | exact sk8 (by omega) | exact sk9 (by omega) | exact sk10 (by omega) | exact sk11 (by omega)) rfl ?_
                        refine am_bipush (v := 28) dC_operation_113 (by decide) ?_
                        refine am_icmp_lt (tgt := 121) dC_operation_115 (by decide) (fun c115 => ?_) (fun c115 => ?_)
                        · have hlt : n < 28 := (q_lt28 hn).mp c115
                          refine am_aload_n (i := 0) dC_operation_121 rfl rfl ?_
                          refine am_getf dC_operation_122 flC_11 (by first | rfl | exact sk8 (by omega) | exact sk9 (by omega) | exact sk10 (by omega) | exact sk11 (by omega)) rfl ?_
                          refine am_aload_n (i := 0) dC_operation_125 rfl rfl ?_
                          refine am_getf dC_operation_126 flC_40 (by first | rfl | exact sk8 (by omega) | exact sk9 (by omega) | exact sk10 (by omega) | exact sk11 (by omega)) rfl ?_
                          refine am_aald dC_operation_129 (by first | rfl | exact sk8 (by omega) | exact sk9 (by omega) | exact sk10 (by omega) | exact sk11 (by omega)) rfl (by first | omega | assumption | decide) (by decide) (by decide) rfl rfl ?_
                          refine am_iload_n (i := 1) dC_operation_130 rfl rfl ?_
                          refine am_iload_n (i := 2) dC_operation_131 rfl rfl ?_
                          refine am_iload (i := 5) dC_operation_132 rfl ?_
                          refine am_if_eq_F (tgt := 141) dC_operation_134 (by decide) (by decide) ?_
                          refine am_iconst (v := (-1)) dC_operation_137 (by decide) ?_
                          refine am_goto (tgt := 142) dC_operation_138 (by decide) ?_
                          refine am_iload (i := 4) dC_operation_142 rfl ?_
                          refine am_iconst (v := 0) dC_operation_144 (by decide) ?_
                          refine am_callV (ac' := 0) (as' := 0) (xs := [_, _, _, _, _]) dC_operation_145 lkC_59 (by first | rfl | exact sk8 (by omega) | exact sk9 (by omega) | exact sk10 (by omega) | exact sk11 (by omega)) rfl rfl rfl rfl (Nat.le_of_ble_eq_true rfl) rfl rfl (cO_become8 (v := n) hlt ?_)
                          refine am_aload_n (i := 0) dC_operation_148 rfl rfl ?_
                          refine am_iload_n (i := 1) dC_operation_149 rfl rfl ?_
                          refine am_aload_n (i := 0) dC_operation_150 rfl rfl ?_
                          refine am_getf dC_operation_151 flC_11 (by first | rfl | exact sk8 (by omega) | exact sk9 (by omega) | exact sk10 (by omega) | exact sk11 (by omega)) rfl ?_
                          refine am_iload_n (i := 2) dC_operation_154 rfl rfl ?_
                          refine am_aald dC_operation_155 (by first | rfl | exact sk8 (by omega) | exact sk9 (by omega) | exact sk10 (by omega) | exact sk11 (by omega)) ea (by first | omega | assumption | decide) (by decide) (by decide) rfl rfl ?_
                          refine am_iload (i := 4) dC_operation_156 rfl ?_
                          refine am_callS (ac' := 0) (as' := 0) (xs := [_, _, _]) dC_operation_158 lkC_75 rfl rfl (Nat.le_of_ble_eq_true rfl) rfl rfl (cC_rowsOf (A := q_bec A n κ xa (-1) p 0) (v := a) (by omega) (fun r er0 => ?_))
                          have er : r = q_opR A κ p a := by rw [er0, q_bec_old (by omega), q_bec_old (by omega)]; rfl
                          refine am_iload_n (i := 1) dC_operation_161 rfl rfl ?_
                          refine am_aload_n (i := 0) dC_operation_162 rfl rfl ?_
                          refine am_getf dC_operation_163 flC_11 (by first | rfl | exact sk8 (by omega) | exact sk9 (by omega) | exact sk10 (by omega) | exact sk11 (by omega)) rfl ?_
                          refine am_iload_n (i := 2) dC_operation_166 rfl rfl ?_
                          refine am_aald dC_operation_167 (by first | rfl | exact sk8 (by omega) | exact sk9 (by omega) | exact sk10 (by omega) | exact sk11 (by omega)) ea (by first | omega | assumption | decide) (by decide) (by decide) rfl rfl ?_
                          refine am_aload_n (i := 0) dC_operation_168 rfl rfl ?_
                          refine am_getf dC_operation_169 flC_11 (by first | rfl | exact sk8 (by omega) | exact sk9 (by omega) | exact sk10 (by omega) | exact sk11 (by omega)) rfl ?_
                          refine am_iload_n (i := 3) dC_operation_172 rfl rfl ?_
                          refine am_aald dC_operation_173 (by first | rfl | exact sk8 (by omega) | exact sk9 (by omega) | exact sk10 (by omega) | exact sk11 (by omega)) eb (by first | omega | assumption | decide) (by decide) (by decide) rfl rfl ?_
                          refine am_iload (i := 4) dC_operation_174 rfl ?_
                          refine am_callS (ac' := 0) (as' := 0) (xs := [_, _, _, _]) dC_operation_176 lkC_79 rfl rfl (Nat.le_of_ble_eq_true rfl) rfl rfl (cC_columnsOf (A := q_bec A n κ xa (-1) p 0) (v := a) (u := b) (by omega) (by omega) (fun c ec0 => ?_))
                          have ec : c = q_opC A κ p a b := by rw [ec0, q_bec_old (by omega), q_bec_old (by omega)]; rfl
                          refine am_callV (ac' := 0) (as' := 0) (xs := [_, _]) dC_operation_179 lkC_63 (by first | rfl | exact sk8 (by omega) | exact sk9 (by omega) | exact sk10 (by omega) | exact sk11 (by omega)) rfl rfl rfl rfl (Nat.le_of_ble_eq_true rfl) rfl rfl (cC_addWithShape (A := q_bec A n κ xa (-1) p 0) hlt (q_args_bec hA (Or.inr ⟨a, ha, ea⟩) (Or.inl rfl)) (fun A1 T S L e1 e2 e3 e4 => ?_))
                          refine am_iret (st := []) rfl rfl dC_operation_182 ?_
                          exact ka a b ha hb ea eb ⟨c2, c8, ea ▸ q_val_of ha hn, eb ▸ q_val_of hb hn, by grind, c66, by grind⟩ cf hlt _ _ _ _ (by rw [e1, er, ec]; first | rw [if_pos (by grind)]; rfl | rw [if_neg (by grind)]; rfl) e2 e3 e4
                        · refine am_bipush (v := (-2)) dC_operation_118 (by decide) ?_
                          refine am_iret (st := []) rfl rfl dC_operation_120 ?_
                          exact kf a b ha hb ea eb ⟨c2, c8, ea ▸ q_val_of ha hn, eb ▸ q_val_of hb hn, by grind, c66, by grind⟩ cf (by have := mt (q_lt28 hn).mpr c115; omega)
                      · refine am_if_ne_F (tgt := 109) dC_operation_103 (by decide) (by decide) ?_
                        refine am_bipush (v := (-3)) dC_operation_106 (by decide) ?_
                        refine am_iret (st := []) rfl rfl dC_operation_108 ?_
                        exact ks a b ha hb ea eb ⟨c2, c8, ea ▸ q_val_of ha hn, eb ▸ q_val_of hb hn, by grind, c66, by grind⟩ cf
                    · refine am_iconst (v := (-1)) dC_operation_85 (by decide) ?_
                      refine am_iret (st := []) rfl rfl dC_operation_86 ?_
                      exact kr (by grind)
        · refine am_if_ne_F (tgt := 29) dC_operation_24 (by decide) (by decide) ?_
          refine am_iconst (v := (-1)) dC_operation_27 (by decide) ?_
          refine am_iret (st := []) rfl rfl dC_operation_28 ?_
          exact kr (by grind)
      · refine am_if_eq_T (tgt := 27) dC_operation_16 (by decide) (by decide) ?_
        refine am_iconst (v := (-1)) dC_operation_27 (by decide) ?_
        refine am_iret (st := []) rfl rfl dC_operation_28 ?_
        exact kr (by grind)
set_option maxRecDepth 100000 in
set_option maxHeartbeats 4000000 in
theorem cC_mark {g : am_G} {d : Nat} {Q : Option am_V → am_H → Prop} {Y : Nat → Nat → Nat → am_V} {A P : Nat → Nat → Int32} {st mk lv : Nat → Int32} {cl pr : Nat → Nat → Int32} {us : Nat → Int32} {si wk : Int32} {n : Nat} {x o : Int32} (ho : o = 0 ∨ o = 1) (hn : n ≤ 28) (hA : ∀ m, m < n → q_arg (A m 3) m ∧ q_arg (A m 4) m) (kr : ¬ q_val x n → Q (some (am_I (-1))) (hm (xc A P st mk lv cl pr us (nI n) si wk) Y)) (k : ∀ v T S L, v < n → x = nI v → T = q_cpn n A P → S = q_idn n st → L = q_live n (upd mk v o) S T lv → Q (some (am_I 0)) (hm (xc A T S (upd mk v o) L cl pr us (nI n) 0 0) Y)) : am_C g mC_mark (d + 3) 0 0 [am_O 0 0, am_I x, am_I o] (hm (xc A P st mk lv cl pr us (nI n) si wk) Y) Q := by
  refine am_enter (lv := [some (am_O 0 0), some (am_I x), some (am_I o)]) rfl rfl (am_cat1 rfl) (Nat.le_of_ble_eq_true rfl) ?_
  refine am_aload_n (i := 0) dC_mark_0 rfl rfl ?_
  refine am_iload_n (i := 1) dC_mark_1 rfl rfl ?_
  refine am_callV (ac' := 0) (as' := 0) (xs := [_]) dC_mark_2 lkC_67 (by first | rfl | exact sk8 (by omega) | exact sk9 (by omega) | exact sk10 (by omega) | exact sk11 (by omega)) rfl rfl rfl rfl (Nat.le_of_ble_eq_true rfl) rfl rfl (cC_isValue rfl hn (fun v hv ev => ?_) (fun nv => ?_))
  · refine am_if_ne_T (tgt := 10) dC_mark_5 (by decide) (by decide) ?_
    refine am_aload_n (i := 0) dC_mark_10 rfl rfl ?_
    refine am_getf dC_mark_11 flC_22 (by first | rfl | exact sk8 (by omega) | exact sk9 (by omega) | exact sk10 (by omega) | exact sk11 (by omega)) rfl ?_
    refine am_iload_n (i := 1) dC_mark_14 rfl rfl ?_
    refine am_iload_n (i := 2) dC_mark_15 rfl rfl ?_
    refine am_zast' dC_mark_16 (by first | rfl | exact sk8 (by omega) | exact sk9 (by omega) | exact sk10 (by omega) | exact sk11 (by omega)) ev (by first | omega | assumption | decide) (by decide) (by decide) (by rcases ho with q | q <;> rw [q] <;> rfl) (by first | exact wx_st | exact wx_mk | exact wx_lv | exact wx_us | exact wx_A | exact wx_P | exact wx_cl | exact wx_pr | exact wx_va | exact wx_si | exact wx_wk) ?_
    refine am_aload_n (i := 0) dC_mark_17 rfl rfl ?_
    refine am_callV (ac' := 0) (as' := 0) (xs := []) dC_mark_18 lkC_95 (by first | rfl | exact sk8 (by omega) | exact sk9 (by omega) | exact sk10 (by omega) | exact sk11 (by omega)) rfl rfl rfl rfl (Nat.le_of_ble_eq_true rfl) rfl rfl (cC_undo hn hA (fun T S L eT eS eL => ?_))
    refine am_iconst (v := 0) dC_mark_21 (by decide) ?_
    refine am_iret (st := []) rfl rfl dC_mark_22 ?_
    exact k v _ _ _ hv ev eT eS eL
  · refine am_if_ne_F (tgt := 10) dC_mark_5 (by decide) (by decide) ?_
    refine am_iconst (v := (-1)) dC_mark_8 (by decide) ?_
    refine am_iret (st := []) rfl rfl dC_mark_9 ?_
    exact kr (by grind)
theorem q_ix4 {x : Int32} (h0 : ¬ x < 0) (h1 : ¬ 4 ≤ x) : ∃ j, j < 4 ∧ x = nI j := by
  rcases pk_ix x (n := 4) (by omega) with q | q | ⟨j, hj, e⟩
  · exact absurd q h0
  · exact absurd q h1
  · exact ⟨j, hj, e⟩
theorem nI_ij (i c j : Nat) : nI i * nI c + nI j = nI (i * c + j) := by rw [pk_mul, nI_add]
set_option maxRecDepth 100000 in
set_option maxHeartbeats 4000000 in
theorem cC_set {g : am_G} {d : Nat} {Q : Option am_V → am_H → Prop} {Y : Nat → Nat → Nat → am_V} {A P : Nat → Nat → Int32} {st mk lv : Nat → Int32} {cl pr : Nat → Nat → Int32} {us : Nat → Int32} {si wk : Int32} {n : Nat} {p i j x : Int32} (kr : ¬ (¬ p < 0 ∧ ¬ 4 ≤ p ∧ q_plOk i j) → Q (some (am_I (-1))) (hm (xc A P st mk lv cl pr us (nI n) si wk) Y)) (k : ∀ p0 i0 j0, p0 < 4 → i0 < 4 → j0 < 4 → p = nI p0 → i = nI i0 → j = nI j0 → Q (some (am_I 0)) (hm (xc A P st mk lv cl (up2 pr p0 (i0 * 4 + j0) x) us (nI n) si wk) Y)) : am_C g mC_set (d + 1) 0 0 [am_O 0 0, am_I p, am_I i, am_I j, am_I x] (hm (xc A P st mk lv cl pr us (nI n) si wk) Y) Q := by
  refine am_enter (lv := [some (am_O 0 0), some (am_I p), some (am_I i), some (am_I j), some (am_I x)]) rfl rfl (am_cat1 rfl) (Nat.le_of_ble_eq_true rfl) ?_
  refine am_iload_n (i := 1) dC_set_0 rfl rfl ?_
  refine am_if_lt (tgt := 17) dC_set_1 (by decide) (fun c1 => ?_) (fun c1 => ?_)
  · refine am_iconst (v := (-1)) dC_set_17 (by decide) ?_
    refine am_iret (st := []) rfl rfl dC_set_18 ?_
    exact kr (by grind)
  · refine am_iload_n (i := 1) dC_set_4 rfl rfl ?_
    refine am_iconst (v := 4) dC_set_5 (by decide) ?_
    refine am_icmp_ge (tgt := 17) dC_set_6 (by decide) (fun c6 => ?_) (fun c6 => ?_)
    · refine am_iconst (v := (-1)) dC_set_17 (by decide) ?_
      refine am_iret (st := []) rfl rfl dC_set_18 ?_
      exact kr (by grind)
    · refine am_iload_n (i := 2) dC_set_9 rfl rfl ?_
      refine am_iload_n (i := 3) dC_set_10 rfl rfl ?_
      refine am_callS (ac' := 0) (as' := 0) (xs := [_, _]) dC_set_11 lkC_92 rfl rfl (Nat.le_of_ble_eq_true rfl) rfl rfl (cC_isPlace (fun cp => ?_) (fun cp => ?_))
      · refine am_if_ne_T (tgt := 19) dC_set_14 (by decide) (by decide) ?_
        obtain ⟨p0, hp0, ep0⟩ := q_ix4 c1 c6
        obtain ⟨i0, hi0, ei0⟩ := q_ix4 cp.1 cp.2.1
        obtain ⟨j0, hj0, ej0⟩ := q_ix4 cp.2.2.1 cp.2.2.2
        refine am_aload_n (i := 0) dC_set_19 rfl rfl ?_
        refine am_getf dC_set_20 flC_34 (by first | rfl | exact sk8 (by omega) | exact sk9 (by omega) | exact sk10 (by omega) | exact sk11 (by omega)) rfl ?_
        refine am_iload_n (i := 1) dC_set_23 rfl rfl ?_
        refine am_aald dC_set_24 (by first | rfl | exact sk8 (by omega) | exact sk9 (by omega) | exact sk10 (by omega) | exact sk11 (by omega)) ep0 (by first | omega | assumption | decide) (by decide) (by decide) rfl rfl ?_
        refine am_iload_n (i := 2) dC_set_25 rfl rfl ?_
        refine am_iconst (v := 4) dC_set_26 (by decide) ?_
        refine am_imul dC_set_27 ?_
        refine am_iload_n (i := 3) dC_set_28 rfl rfl ?_
        refine am_iadd dC_set_29 ?_
        refine am_iload (i := 4) dC_set_30 rfl ?_
        refine am_iast' dC_set_32 (by first | rfl | exact sk8 (by omega) | exact sk9 (by omega) | exact sk10 (by omega) | exact sk11 (by omega)) (show i * 4 + j = nI (i0 * 4 + j0) by rw [ei0, ej0]; exact nI_ij i0 4 j0) (by first | omega | assumption | decide) (by decide) (by decide) (by first | exact wx_st | exact wx_mk | exact wx_lv | exact wx_us | exact wx_A | exact wx_P | exact wx_cl | exact wx_pr | exact wx_va | exact wx_si | exact wx_wk) ?_
        refine am_iconst (v := 0) dC_set_33 (by decide) ?_
        refine am_iret (st := []) rfl rfl dC_set_34 ?_
        exact k p0 i0 j0 hp0 hi0 hj0 ep0 ei0 ej0
      · refine am_if_ne_F (tgt := 19) dC_set_14 (by decide) (by decide) ?_
        refine am_iconst (v := (-1)) dC_set_17 (by decide) ?_
        refine am_iret (st := []) rfl rfl dC_set_18 ?_
        exact kr (by grind)
set_option maxRecDepth 100000 in
set_option maxHeartbeats 4000000 in
theorem cC_standIn {g : am_G} {d : Nat} {Q : Option am_V → am_H → Prop} {Y : Nat → Nat → Nat → am_V} {A P : Nat → Nat → Int32} {st mk lv : Nat → Int32} {cl pr : Nat → Nat → Int32} {us : Nat → Int32} {si wk : Int32} {n : Nat} {x : Int32} (hn : n ≤ 28) (kr : ¬ q_val x n → Q (some (am_I (-1))) (hm (xc A P st mk lv cl pr us (nI n) si wk) Y)) (k : ∀ v, v < n → x = nI v → Q (some (am_I (st v))) (hm (xc A P st mk lv cl pr us (nI n) si wk) Y)) : am_C g mC_standIn (d + 1) 0 0 [am_O 0 0, am_I x] (hm (xc A P st mk lv cl pr us (nI n) si wk) Y) Q := by
  refine am_enter (lv := [some (am_O 0 0), some (am_I x)]) rfl rfl (am_cat1 rfl) (Nat.le_of_ble_eq_true rfl) ?_
  refine am_aload_n (i := 0) dC_standIn_0 rfl rfl ?_
  refine am_iload_n (i := 1) dC_standIn_1 rfl rfl ?_
  refine am_callV (ac' := 0) (as' := 0) (xs := [_]) dC_standIn_2 lkC_67 (by first | rfl | exact sk8 (by omega) | exact sk9 (by omega) | exact sk10 (by omega) | exact sk11 (by omega)) rfl rfl rfl rfl (Nat.le_of_ble_eq_true rfl) rfl rfl (cC_isValue rfl hn (fun v hv ev => ?_) (fun nv => ?_))
  · refine am_if_eq_F (tgt := 17) dC_standIn_5 (by decide) (by decide) ?_
    refine am_aload_n (i := 0) dC_standIn_8 rfl rfl ?_
    refine am_getf dC_standIn_9 flC_18 (by first | rfl | exact sk8 (by omega) | exact sk9 (by omega) | exact sk10 (by omega) | exact sk11 (by omega)) rfl ?_
    refine am_iload_n (i := 1) dC_standIn_12 rfl rfl ?_
    refine am_iald dC_standIn_13 (by first | rfl | exact sk8 (by omega) | exact sk9 (by omega) | exact sk10 (by omega) | exact sk11 (by omega)) ev (by first | omega | assumption | decide) (by decide) (by decide) rfl ?_
    refine am_goto (tgt := 18) dC_standIn_14 (by decide) ?_
    refine am_iret (st := []) rfl rfl dC_standIn_18 ?_
    exact k v hv ev
  · refine am_if_eq_T (tgt := 17) dC_standIn_5 (by decide) (by decide) ?_
    refine am_iconst (v := (-1)) dC_standIn_17 (by decide) ?_
    refine am_iret (st := []) rfl rfl dC_standIn_18 ?_
    exact kr (by grind)
end
section
/-! ===== well-formed tables ===== -/
def q_dim (x : Int32) : Prop := ∃ r, 1 ≤ r ∧ r ≤ 4 ∧ x = nI r
def q_kind (x : Int32) : Prop := ∃ κ, κ ≤ 12 ∧ x = nI κ
def q_bas (P : Nat → Nat → Int32) (v : Nat) : Prop := q_arg (P v 3) v ∧ q_arg (P v 4) v ∧ (2 < P v 0 → ¬ P v 3 = -1) ∧ ((P v 0 = 3 ∨ P v 0 = 4 ∨ P v 0 = 5 ∨ P v 0 = 8) → ¬ P v 4 = -1)
/-- the shapes fit: r, c the value's, ra, ca, rb, cb its arguments' -/
def q_fit (κ p q r c ra ca rb cb : Int32) : Prop :=
  ((κ = 3 ∨ κ = 4 ∨ κ = 5) → (r = ra ∧ c = ca) ∧ r = rb ∧ c = cb) ∧ (κ = 6 → r = ra ∧ c = ca) ∧ (κ = 7 → r = ca ∧ c = ra) ∧ (κ = 8 → r = ra ∧ c = cb ∧ ca = rb) ∧
  (κ = 9 → (p = 0 ∧ r = 1 ∧ c = ca) ∨ (p = 1 ∧ r = ra ∧ c = 1)) ∧ (κ = 10 → (ra = 1 ∨ ra = r) ∧ (ca = 1 ∨ ca = c)) ∧ (κ = 11 → ra * ca = r * c) ∧
  (κ = 12 → ∃ p0 q0 : Nat, p = nI p0 ∧ q = nI q0 ∧ p0 + ix r ≤ ix ra ∧ q0 + ix c ≤ ix ca) ∧ (κ = 0 → ∃ p0 : Nat, p0 < 4 ∧ p = nI p0)
def q_com (P : Nat → Nat → Int32) (v : Nat) : Prop := q_fit (P v 0) (P v 5) (P v 6) (P v 1) (P v 2) (P (ix (P v 3)) 1) (P (ix (P v 3)) 2) (P (ix (P v 4)) 1) (P (ix (P v 4)) 2)
def q_ok (P : Nat → Nat → Int32) (v : Nat) : Prop := q_bas P v ∧ q_com P v ∧ q_kind (P v 0) ∧ q_dim (P v 1) ∧ q_dim (P v 2)
theorem q_fit1 {p q r c ra ca rb cb : Int32} : q_fit 1 p q r c ra ca rb cb := ⟨fun h => absurd h (by decide), fun h => absurd h (by decide), fun h => absurd h (by decide), fun h => absurd h (by decide), fun h => absurd h (by decide), fun h => absurd h (by decide), fun h => absurd h (by decide), fun h => absurd h (by decide), fun h => absurd h (by decide)⟩
/-- the state of simplifying: rows fit; each stand-in is a value not after it, of its shape; those from i on stand for themselves -/
def q_J (n i : Nat) (P : Nat → Nat → Int32) (st : Nat → Int32) : Prop := (∀ v, v < n → q_ok P v) ∧ ∀ u, u < n → ∃ j, j ≤ u ∧ st u = nI j ∧ q_shp P u j ∧ (i ≤ u → j = u)
def q_sP (st : Nat → Int32) (P : Nat → Nat → Int32) (v : Nat) : Nat → Nat → Int32 := q_tab (q_rep st P v) v
def q_sx (st : Nat → Int32) (P : Nat → Nat → Int32) (v : Nat) : Int32 := q_std st (q_rep st P v) v
def q_sU (st : Nat → Int32) (P : Nat → Nat → Int32) (us : Nat → Int32) (v : Nat) : Nat → Int32 := q_use st (q_rep st P v) us v
def q_run : Nat → Nat → (Nat → Nat → Int32) → (Nat → Int32) → (Nat → Int32) → Nat → ((Nat → Nat → Int32) × (Nat → Int32) × (Nat → Int32) × Nat)
  | 0, _, P, st, us, c => (P, st, us, c)
  | j + 1, i, P, st, us, c => q_run j (i + 1) (q_sP st P i) (upd st i (q_sx st P i)) (q_sU st P us i) (if q_sx st P i = nI i then c + 1 else c)
/-! a step keeps it -/
theorem q_rep_o {st : Nat → Int32} {P : Nat → Nat → Int32} {v u k : Nat} (h : u ≠ v ∨ (k ≠ 3 ∧ k ≠ 4)) : q_rep st P v u k = P u k := by
  unfold q_rep up2
  grind
theorem q_rep_3 {st : Nat → Int32} {P : Nat → Nat → Int32} {v : Nat} : q_rep st P v v 3 = if q_sw st P v then q_r4 st P v else q_r3 st P v := by
  unfold q_rep up2
  grind
theorem q_rep_4 {st : Nat → Int32} {P : Nat → Nat → Int32} {v : Nat} : q_rep st P v v 4 = if q_sw st P v then q_r3 st P v else q_r4 st P v := by
  unfold q_rep up2
  grind
theorem q_J_st {n i u : Nat} {P : Nat → Nat → Int32} {st : Nat → Int32} (hJ : q_J n i P st) (hu : u < n) (hn : n ≤ 28) : ix (st u) ≤ u ∧ st u = nI (ix (st u)) ∧ q_shp P u (ix (st u)) := by
  obtain ⟨j, h1, h2, h3, -⟩ := hJ.2 u hu
  rw [h2, ix_nI (by omega)]
  exact ⟨h1, rfl, h3⟩
/-- an argument's stand-in: an argument again, of the same shape -/
theorem q_J_ar {n i v : Nat} {P : Nat → Nat → Int32} {st : Nat → Int32} {x y : Int32} (hJ : q_J n i P st) (hv : v < n) (hn : n ≤ 28) (hx : q_arg x v) (hy : y = if x = -1 then -1 else st (ix x)) :
    q_arg y v ∧ (x = -1 ↔ y = -1) ∧ (¬ x = -1 → q_shp P (ix x) (ix y)) := by
  by_cases e : x = -1
  · rw [if_pos e] at hy
    exact ⟨Or.inl hy, ⟨fun _ => hy, fun _ => e⟩, fun q => absurd e q⟩
  · rw [if_neg e] at hy
    obtain ⟨g1, g2⟩ := hx.ix e (by omega)
    obtain ⟨a1, a2, a3⟩ := q_J_st hJ (u := ix x) (by omega) hn
    refine ⟨Or.inr ⟨ix (st (ix x)), by omega, by rw [hy]; exact a2⟩, ⟨fun q => absurd q e, fun q => ?_⟩, fun _ => by rw [hy]; exact a3⟩
    rw [hy, a2] at q
    exact absurd q (nI_m1 (by omega))
theorem q_rep_ok {n i v : Nat} {P : Nat → Nat → Int32} {st : Nat → Int32} (hJ : q_J n i P st) (hv : v < n) (hn : n ≤ 28) : q_ok (q_rep st P v) v := by
  obtain ⟨⟨h3, h4, hq3, hq4⟩, hc, hk, hd1, hd2⟩ := hJ.1 v hv
  obtain ⟨b1, b2, b3⟩ := q_J_ar hJ hv hn h3 (y := q_r3 st P v) rfl
  obtain ⟨c1, c2, c3⟩ := q_J_ar hJ hv hn h4 (y := q_r4 st P v) rfl
  have e0 : q_rep st P v v 0 = P v 0 := q_rep_o (Or.inr ⟨by decide, by decide⟩)
  have e1 : ∀ u, q_rep st P v u 1 = P u 1 := fun u => q_rep_o (Or.inr ⟨by decide, by decide⟩)
  have e2 : ∀ u, q_rep st P v u 2 = P u 2 := fun u => q_rep_o (Or.inr ⟨by decide, by decide⟩)
  have e5 : q_rep st P v v 5 = P v 5 := q_rep_o (Or.inr ⟨by decide, by decide⟩)
  have e6 : q_rep st P v v 6 = P v 6 := q_rep_o (Or.inr ⟨by decide, by decide⟩)
  unfold q_ok q_bas q_com
  rw [e0, e1, e2, e5, e6, e1, e2, e1, e2, q_rep_3, q_rep_4]
  unfold q_com at hc
  by_cases hs : q_sw st P v
  · rw [if_pos hs, if_pos hs]
    have n4 : ¬ P v 4 = -1 := hq4 (by grind)
    have n3 : ¬ P v 3 = -1 := hq3 (by rcases hs.1 with q | q | q <;> exact k2_of _ q (by decide))
    have s3 := b3 n3
    have s4 := c3 n4
    refine ⟨⟨c1, b1, fun _ q => n4 (c2.mpr q), fun _ q => n3 (b2.mpr q)⟩, ?_, hk, hd1, hd2⟩
    rw [← s3.1, ← s3.2, ← s4.1, ← s4.2]
    unfold q_fit at hc ⊢
    have hks := hs.1
    refine ⟨fun h => ⟨(hc.1 h).2, (hc.1 h).1⟩, ?_, ?_, ?_, ?_, ?_, ?_, ?_, ?_⟩ <;> intro h <;> exfalso <;> rw [h] at hks <;> revert hks <;> decide
  · rw [if_neg hs, if_neg hs]
    refine ⟨⟨b1, c1, fun h q => hq3 h (b2.mpr q), fun h q => hq4 h (c2.mpr q)⟩, ?_, hk, hd1, hd2⟩
    by_cases n3 : P v 3 = -1
    · have hk2 : ¬ 2 < P v 0 := fun h => hq3 h n3
      have hno : ∀ j : Int32, (2 : Int32) < j → ¬ P v 0 = j := fun j hj q => hk2 (q ▸ hj)
      refine ⟨fun h => ?_, fun h => ?_, fun h => ?_, fun h => ?_, fun h => ?_, fun h => ?_, fun h => ?_, fun h => ?_, hc.2.2.2.2.2.2.2.2⟩
      · rcases h with h | h | h <;> exact absurd h (hno _ (by decide))
      all_goals exact absurd h (hno _ (by decide))
    · have s3 := b3 n3
      rw [← s3.1, ← s3.2]
      by_cases n4 : P v 4 = -1
      · have h34 : ¬ (P v 0 = 3 ∨ P v 0 = 4 ∨ P v 0 = 5 ∨ P v 0 = 8) := fun h => hq4 h n4
        exact ⟨fun h => absurd h (fun q => h34 (by grind)), hc.2.1, hc.2.2.1, fun h => absurd h (fun q => h34 (by grind)), hc.2.2.2.2.1, hc.2.2.2.2.2.1, hc.2.2.2.2.2.2.1, hc.2.2.2.2.2.2.2.1, hc.2.2.2.2.2.2.2.2⟩
      · have s4 := c3 n4
        rw [← s4.1, ← s4.2]
        exact hc
theorem q_rep_J {n i v : Nat} {P : Nat → Nat → Int32} {st : Nat → Int32} (hJ : q_J n i P st) (hv : v < n) (hn : n ≤ 28) : q_J n i (q_rep st P v) st := by
  have e1 : ∀ u, q_rep st P v u 1 = P u 1 := fun u => q_rep_o (Or.inr ⟨by decide, by decide⟩)
  have e2 : ∀ u, q_rep st P v u 2 = P u 2 := fun u => q_rep_o (Or.inr ⟨by decide, by decide⟩)
  refine ⟨fun u hu => ?_, fun u hu => ?_⟩
  · by_cases e : u = v
    · subst e
      exact q_rep_ok hJ hu hn
    · have h := hJ.1 u hu
      unfold q_ok q_bas q_com at h ⊢
      rw [e1, e2, e1, e2, e1, e2, q_rep_o (Or.inl e), q_rep_o (Or.inl e), q_rep_o (Or.inl e), q_rep_o (Or.inl e), q_rep_o (Or.inl e)]
      exact h
  · obtain ⟨j, h1, h2, h3, h4⟩ := hJ.2 u hu
    exact ⟨j, h1, h2, by unfold q_shp at h3 ⊢; rw [e1, e1, e2, e2]; exact h3, h4⟩
end
section
/-! ===== a step of simplifying keeps the tables well formed ===== -/
theorem q_spt_o {P : Nat → Nat → Int32} {v u k : Nat} {x : Int32} (h : u ≠ v ∨ k = 1 ∨ k = 2) : q_spt P v x u k = P u k := by
  unfold q_spt up2
  grind
theorem q_spt_v {P : Nat → Nat → Int32} {v : Nat} {x : Int32} : q_spt P v x v 0 = 1 ∧ q_spt P v x v 3 = -1 ∧ q_spt P v x v 4 = -1 ∧ q_spt P v x v 5 = x ∧ q_spt P v x v 6 = 0 := by
  unfold q_spt up2
  simp
theorem q_tab_o {P : Nat → Nat → Int32} {v u k : Nat} (h : u ≠ v ∨ k = 1 ∨ k = 2) : q_tab P v u k = P u k := by
  unfold q_tab
  split
  · exact q_spt_o h
  · split
    · exact q_spt_o h
    · split
      · rcases h with h | h | h
        · exact up2_i h
        · exact up2_k (by omega)
        · exact up2_k (by omega)
      · rfl
theorem q_dim_pos {x : Int32} (h : q_dim x) : 1 ≤ ix x ∧ ix x ≤ 4 ∧ x = nI (ix x) := by
  obtain ⟨r, a, b, e⟩ := h
  rw [e, ix_nI (by omega)]
  exact ⟨a, b, rfl⟩
/-- rule 5: what is inside -/
theorem q_twi_ar {n v : Nat} {P : Nat → Nat → Int32} (hP : ∀ u, u < n → q_ok P u) (hv : v < n) (hn : n ≤ 28) (h : ¬ q_twi P v = -1) : q_tw (P v 0) ∧ P (ix (P v 3)) 0 = P v 0 ∧ q_twi P v = P (ix (P v 3)) 3 ∧ ix (P v 3) < v ∧ ∃ j, j < ix (P v 3) ∧ q_twi P v = nI j := by
  unfold q_twi at h ⊢
  by_cases h1 : q_tw (P v 0)
  · rw [if_pos h1] at h ⊢
    by_cases h2 : P (ix (P v 3)) 0 = P v 0
    · rw [if_pos h2] at h ⊢
      obtain ⟨⟨b1, -, b3, -⟩, -⟩ := hP v hv
      have n3 : ¬ P v 3 = -1 := b3 (by rcases h1 with q | q | q <;> exact k2_of _ q (by decide))
      obtain ⟨g1, g2⟩ := b1.ix n3 (by omega)
      obtain ⟨⟨c1, -⟩, -⟩ := hP (ix (P v 3)) (by omega)
      obtain ⟨j, hj, ej⟩ := c1.resolve_left h
      exact ⟨h1, h2, rfl, g1, j, hj, ej⟩
    · rw [if_neg h2] at h
      exact absurd rfl h
  · rw [if_neg h1] at h
    exact absurd rfl h
/-- rule 5 of NEG and TURN keeps the shape: only a FLAT may have another -/
theorem q_twi_11 {n v : Nat} {P : Nat → Nat → Int32} (hP : ∀ u, u < n → q_ok P u) (hv : v < n) (hn : n ≤ 28) (h : ¬ q_twi P v = -1) : (P v 0 = 6 ∨ P v 0 = 7 → q_shp P v (ix (q_twi P v))) ∧ (P v 0 = 11 → P (ix (q_twi P v)) 1 * P (ix (q_twi P v)) 2 = P v 1 * P v 2) := by
  obtain ⟨h1, h2, h3, h4, -⟩ := q_twi_ar hP hv hn h
  have cv := (hP v hv).2.1
  have ca := (hP (ix (P v 3)) (by omega)).2.1
  unfold q_com q_fit at cv ca
  rw [h2] at ca
  rw [h3]
  refine ⟨fun hk => ?_, fun hk => ?_⟩
  · rcases hk with hk | hk
    · have a := cv.2.1 hk
      have b := ca.2.1 hk
      exact ⟨a.1.trans b.1, a.2.trans b.2⟩
    · have a := cv.2.2.1 hk
      have b := ca.2.2.1 hk
      exact ⟨a.1.trans b.2, a.2.trans b.1⟩
  · exact (ca.2.2.2.2.2.2.1 hk).trans (cv.2.2.2.2.2.2.1 hk)
theorem q_neut_ar {n v : Nat} {P : Nat → Nat → Int32} (hP : ∀ u, u < n → q_ok P u) (hv : v < n) (hn : n ≤ 28) (h : ¬ q_neut P v = -1) : ∃ j, j < v ∧ q_neut P v = nI j ∧ q_shp P v j := by
  obtain ⟨⟨b1, b2, b3, b4⟩, hc, -⟩ := hP v hv
  unfold q_com q_fit at hc
  unfold q_neut at h ⊢
  by_cases h1 : q_res (P v 0)
  · rw [if_pos h1] at h ⊢
    by_cases h2 : q_shp P v (ix (P v 3))
    · rw [if_pos h2] at h ⊢
      obtain ⟨g1, g2⟩ := b1.ix h (by omega)
      exact ⟨_, g1, g2, h2⟩
    · rw [if_neg h2] at h
      exact absurd rfl h
  · rw [if_neg h1] at h ⊢
    by_cases h2 : ¬ (P v 0 = 3 ∨ P v 0 = 4)
    · rw [if_pos h2] at h
      exact absurd rfl h
    · rw [if_neg h2] at h ⊢
      have hk : P v 0 = 3 ∨ P v 0 = 4 ∨ P v 0 = 5 := by grind
      obtain ⟨s3, s4⟩ := hc.1 hk
      generalize (if P v 0 = 3 then (0 : Int32) else 1) = z at h ⊢
      by_cases h3 : q_spl P (P v 3) z
      · rw [if_pos h3] at h ⊢
        obtain ⟨g1, g2⟩ := b2.ix h (by omega)
        exact ⟨_, g1, g2, s4⟩
      · rw [if_neg h3] at h ⊢
        by_cases h4 : q_spl P (P v 4) z
        · rw [if_pos h4] at h ⊢
          obtain ⟨g1, g2⟩ := b1.ix h (by omega)
          exact ⟨_, g1, g2, s3⟩
        · rw [if_neg h4] at h
          exact absurd rfl h
theorem q_alr_or {st : Nat → Int32} {P : Nat → Nat → Int32} {v : Nat} : ∀ (j i : Nat), q_alr st P v j i = v ∨ (i ≤ q_alr st P v j i ∧ q_alr st P v j i < i + j ∧ st (q_alr st P v j i) = nI (q_alr st P v j i) ∧ q_like P (q_alr st P v j i) v) := by
  intro j
  induction j with
  | zero => intro i; exact Or.inl rfl
  | succ j ih =>
    intro i
    unfold q_alr
    by_cases h : st i = nI i ∧ q_like P i v
    · rw [if_pos h]
      exact Or.inr ⟨Nat.le_refl _, by omega, h.1, h.2⟩
    · rw [if_neg h]
      rcases ih (i + 1) with q | ⟨q1, q2, q3⟩
      · exact Or.inl q
      · exact Or.inr ⟨by omega, by omega, q3⟩
theorem q_al_or (st : Nat → Int32) (P : Nat → Nat → Int32) (v : Nat) : q_al st P v = v ∨ (q_al st P v < v ∧ st (q_al st P v) = nI (q_al st P v) ∧ q_like P (q_al st P v) v) := by
  rcases q_alr_or (st := st) (P := P) (v := v) v 0 with q | ⟨-, q2, q3⟩
  · exact Or.inl q
  · exact Or.inr ⟨by unfold q_al; omega, q3⟩
theorem q_rul_le (P : Nat → Nat → Int32) (v : Nat) : q_rul P v ≤ 5 := by
  unfold q_rul
  grind
theorem q_rul5 {P : Nat → Nat → Int32} {v : Nat} (h : q_rul P v = 5) : ¬ q_twi P v = -1 := by
  unfold q_rul at h
  grind
theorem q_rul4 {P : Nat → Nat → Int32} {v : Nat} (h : q_rul P v = 4) : q_z4 P v := by
  unfold q_rul at h
  grind
theorem q_rul2 {P : Nat → Nat → Int32} {v : Nat} (h : q_rul P v = 2) : ¬ q_neut P v = -1 := by
  unfold q_rul at h
  grind
theorem q_dir_ar {n v : Nat} {P : Nat → Nat → Int32} (hP : ∀ u, u < n → q_ok P u) (hv : v < n) (hn : n ≤ 28) (h : ¬ q_dir P v = -1) : ∃ j, j < v ∧ q_dir P v = nI j ∧ q_shp P v j := by
  unfold q_dir at h ⊢
  by_cases h2 : q_rul P v = 2
  · rw [if_pos h2] at h ⊢
    exact q_neut_ar hP hv hn h
  · rw [if_neg h2] at h ⊢
    by_cases h4 : q_rul P v = 4
    · rw [if_pos h4] at h ⊢
      obtain ⟨⟨b1, -⟩, hc, -⟩ := hP v hv
      unfold q_com q_fit at hc
      obtain ⟨g1, g2⟩ := b1.ix h (by omega)
      exact ⟨_, g1, g2, (hc.1 (Or.inr (Or.inr (q_rul4 h4).1))).1⟩
    · rw [if_neg h4] at h ⊢
      by_cases h5 : q_rul P v = 5 ∧ q_shp P v (ix (q_twi P v))
      · rw [if_pos h5] at h ⊢
        obtain ⟨-, -, -, g, j, hj, ej⟩ := q_twi_ar hP hv hn h
        refine ⟨j, by omega, ej, ?_⟩
        have := h5.2
        rw [ej, ix_nI (by omega)] at this
        exact this
      · rw [if_neg h5] at h
        exact absurd rfl h
theorem q_tab_ok {n v : Nat} {P : Nat → Nat → Int32} (hP : ∀ u, u < n → q_ok P u) (hv : v < n) (hn : n ≤ 28) : q_ok (q_tab P v) v := by
  have e1 : ∀ u, q_tab P v u 1 = P u 1 := fun u => q_tab_o (Or.inr (Or.inl rfl))
  have e2 : ∀ u, q_tab P v u 2 = P u 2 := fun u => q_tab_o (Or.inr (Or.inr rfl))
  have h0 := hP v hv
  have spl : ∀ x : Int32, q_tab P v = q_spt P v x → q_ok (q_tab P v) v := fun x hx => by
    obtain ⟨a0, a3, a4, a5, a6⟩ := q_spt_v (P := P) (v := v) (x := x)
    unfold q_ok q_bas q_com
    rw [e1, e2, hx, a0, a3, a4]
    exact ⟨⟨Or.inl rfl, Or.inl rfl, fun h => absurd h (by decide), fun h => absurd h (by decide)⟩, q_fit1, ⟨1, by omega, rfl⟩, h0.2.2.2.1, h0.2.2.2.2⟩
  by_cases r1 : q_rul P v = 1
  · exact spl _ (by unfold q_tab; rw [if_pos r1])
  · by_cases r3 : q_rul P v = 3
    · exact spl _ (by unfold q_tab; rw [if_neg r1, if_pos r3])
    · by_cases r5 : q_rul P v = 5 ∧ ¬ q_shp P v (ix (q_twi P v))
      · have ht : q_tab P v = up2 P v 3 (q_twi P v) := by unfold q_tab; rw [if_neg r1, if_neg r3, if_pos r5]
        have hne := q_rul5 r5.1
        obtain ⟨k1, k2, k3, k4, j, hj, ej⟩ := q_twi_ar hP hv hn hne
        obtain ⟨k6, k11⟩ := q_twi_11 hP hv hn hne
        have hk : P v 0 = 11 := by
          rcases k1 with q | q | q
          · exact absurd (k6 (Or.inl q)) r5.2
          · exact absurd (k6 (Or.inr q)) r5.2
          · exact q
        obtain ⟨⟨b1, b2, b3, b4⟩, hc, hkd, hd1, hd2⟩ := h0
        unfold q_ok q_bas q_com
        rw [e1, e2, e1, e2, e1, e2, ht, up2_eq, up2_k (by decide), up2_k (by decide), up2_k (by decide), up2_k (by decide), hk]
        refine ⟨⟨Or.inr ⟨j, by omega, ej⟩, b2, fun _ => hne, fun h => absurd h (by decide)⟩, ?_, ⟨11, by omega, rfl⟩, hd1, hd2⟩
        exact ⟨fun h => absurd h (by decide), fun h => absurd h (by decide), fun h => absurd h (by decide), fun h => absurd h (by decide), fun h => absurd h (by decide), fun h => absurd h (by decide), fun _ => k11 hk, fun h => absurd h (by decide), fun h => absurd h (by decide)⟩
      · have ht : q_tab P v = P := by unfold q_tab; rw [if_neg r1, if_neg r3, if_neg r5]
        rw [ht]
        exact h0
theorem q_tab_J {n v : Nat} {P : Nat → Nat → Int32} {st : Nat → Int32} (hJ : q_J n v P st) (hv : v < n) (hn : n ≤ 28) : q_J n (v + 1) (q_tab P v) (upd st v (q_std st P v)) := by
  have e1 : ∀ u, q_tab P v u 1 = P u 1 := fun u => q_tab_o (Or.inr (Or.inl rfl))
  have e2 : ∀ u, q_tab P v u 2 = P u 2 := fun u => q_tab_o (Or.inr (Or.inr rfl))
  refine ⟨fun u hu => ?_, fun u hu => ?_⟩
  · by_cases e : u = v
    · subst e
      exact q_tab_ok hJ.1 hu hn
    · have h := hJ.1 u hu
      unfold q_ok q_bas q_com at h ⊢
      rw [e1, e2, e1, e2, e1, e2, q_tab_o (Or.inl e), q_tab_o (Or.inl e), q_tab_o (Or.inl e), q_tab_o (Or.inl e), q_tab_o (Or.inl e)]
      exact h
  · by_cases e : u = v
    · subst e
      rw [upd_eq]
      unfold q_std
      by_cases hd : q_dir P u = -1
      · rw [if_pos hd]
        rcases q_al_or st (q_tab P u) u with q | ⟨q1, q2, q3⟩
        · exact ⟨u, Nat.le_refl _, by rw [q], ⟨rfl, rfl⟩, fun h => by omega⟩
        · exact ⟨q_al st (q_tab P u) u, by omega, rfl, ⟨q3.2.2.2.2.2.1.symm, q3.2.2.2.2.2.2.symm⟩, fun h => by omega⟩
      · rw [if_neg hd]
        obtain ⟨j, h1, h2, h3⟩ := q_dir_ar hJ.1 hu hn hd
        exact ⟨j, by omega, h2, by unfold q_shp; rw [e1, e1, e2, e2]; exact h3, fun h => by omega⟩
    · rw [upd_ne e]
      obtain ⟨j, h1, h2, h3, h4⟩ := hJ.2 u hu
      exact ⟨j, h1, h2, by unfold q_shp; rw [e1, e1, e2, e2]; exact h3, fun h => h4 (by omega)⟩
theorem q_s_J {n v : Nat} {P : Nat → Nat → Int32} {st : Nat → Int32} (hJ : q_J n v P st) (hv : v < n) (hn : n ≤ 28) : q_J n (v + 1) (q_sP st P v) (upd st v (q_sx st P v)) := q_tab_J (q_rep_J hJ hv hn) hv hn
end
section
def q_us0 (us : Nat → Int32) : Nat → Int32 := fun r => if r < 7 then 0 else us r
set_option maxRecDepth 100000 in
set_option maxHeartbeats 4000000 in
theorem lpA_fill {g : am_G} {d : Nat} {Q : Option am_V → am_H → Prop} {Y : Nat → Nat → Nat → am_V} {A P : Nat → Nat → Int32} {st mk lv : Nat → Int32} {cl pr : Nat → Nat → Int32} {us : Nat → Int32} {va si wk : Int32} (K : Q none (hm (xc A P st mk lv cl pr (q_us0 us) va si wk) Y)) : ∀ (j i : Nat), i + j = 7 → am_T g mA_fill d 0 0 5 [some (am_O 12 0), some (am_I 0), some (am_I (nI i)), some (am_I (nI 7))] [] (hm (xc A P st mk lv cl pr (fun r => if r < i then 0 else us r) va si wk) Y) Q := by
  intro j
  induction j with
  | zero =>
    intro i hi
    refine am_iload_n (i := 2) dA_fill_5 rfl rfl ?_
    refine am_iload_n (i := 3) dA_fill_6 rfl rfl ?_
    refine am_icmp_ge_T (tgt := 20) dA_fill_7 (by decide) ((nI_le' (by omega) (by omega)).mpr (by omega)) ?_
    refine am_vret (st := []) rfl dA_fill_20 ?_
    have e : i = 7 := by omega
    subst e
    exact K
  | succ j ih =>
    intro i hi
    refine am_iload_n (i := 2) dA_fill_5 rfl rfl ?_
    refine am_iload_n (i := 3) dA_fill_6 rfl rfl ?_
    refine am_icmp_ge_F (tgt := 20) dA_fill_7 (by decide) (fun q => absurd ((nI_le' (by omega) (by omega)).mp q) (by omega)) ?_
    refine am_aload_n (i := 0) dA_fill_10 rfl rfl ?_
    refine am_iload_n (i := 2) dA_fill_11 rfl rfl ?_
    refine am_iload_n (i := 1) dA_fill_12 rfl rfl ?_
    refine am_iast' dA_fill_13 (by first | rfl | exact sk8 (by omega) | exact sk9 (by omega) | exact sk10 (by omega) | exact sk11 (by omega)) rfl (by first | omega | assumption | decide) (by decide) (by decide) (by first | exact wx_st | exact wx_mk | exact wx_lv | exact wx_us | exact wx_A | exact wx_P | exact wx_cl | exact wx_pr | exact wx_va | exact wx_si | exact wx_wk) ?_
    refine am_iinc dA_fill_14 rfl (by first | exact nI_1 _ | exact pk_m1 _ | rfl) (by decide) ?_
    refine am_goto (tgt := 5) dA_fill_17 (by decide) ?_
    refine am_hT (h' := (hm (xc A P st mk lv cl pr (fun r => if r < i + 1 then 0 else us r) va si wk) Y)) ?_ (ih (i + 1) (by omega))
    congr 2
    funext u
    unfold upd
    grind
set_option maxRecDepth 100000 in
set_option maxHeartbeats 4000000 in
theorem cA_fill {g : am_G} {d : Nat} {Q : Option am_V → am_H → Prop} {Y : Nat → Nat → Nat → am_V} {A P : Nat → Nat → Int32} {st mk lv : Nat → Int32} {cl pr : Nat → Nat → Int32} {us : Nat → Int32} {va si wk : Int32} (k : Q none (hm (xc A P st mk lv cl pr (q_us0 us) va si wk) Y)) : am_C g mA_fill d 0 0 [am_O 12 0, am_I 0] (hm (xc A P st mk lv cl pr us va si wk) Y) Q := by
  refine am_enter (lv := [some (am_O 12 0), some (am_I 0), none, none]) rfl rfl (am_cat1 rfl) (Nat.le_of_ble_eq_true rfl) ?_
  refine am_iconst (v := 0) dA_fill_0 (by decide) ?_
  refine am_istore_n (i := 2) dA_fill_1 rfl (by decide) ?_
  refine am_aload_n (i := 0) dA_fill_2 rfl rfl ?_
  refine am_alen dA_fill_3 (by first | rfl | exact sk8 (by omega) | exact sk9 (by omega) | exact sk10 (by omega) | exact sk11 (by omega)) (by decide) ?_
  refine am_istore_n (i := 3) dA_fill_4 rfl (by decide) ?_
  refine am_hT (h' := (hm (xc A P st mk lv cl pr (fun r => if r < 0 then 0 else us r) va si wk) Y)) (by congr 2) (lpA_fill k 7 0 (by omega))
set_option maxRecDepth 100000 in
set_option maxHeartbeats 4000000 in
theorem lpC_simp {g : am_G} {d : Nat} {Q : Option am_V → am_H → Prop} {Y : Nat → Nat → Nat → am_V} {A : Nat → Nat → Int32} {mk lv : Nat → Int32} {cl pr : Nat → Nat → Int32} {si wk : Int32} {n : Nat} (hn : n ≤ 28) : ∀ (j i : Nat), i + j = n → ∀ (P : Nat → Nat → Int32) (st us : Nat → Int32) (c : Nat), q_J n i P st → (∀ T S U e, q_run j i P st us c = (T, S, U, e) → q_J n n T S → am_T g mC_simplify (d + 4) 0 0 70 [some (am_O 0 0), some (am_I (nI e)), some (am_I (nI n))] [] (hm (xc A T S mk lv cl pr U (nI n) si wk) Y) Q) → am_T g mC_simplify (d + 4) 0 0 22 [some (am_O 0 0), some (am_I (nI c)), some (am_I (nI i))] [] (hm (xc A P st mk lv cl pr us (nI n) si wk) Y) Q := by
  intro j
  induction j with
  | zero =>
    intro i hi P st us c hJ K
    refine am_iload_n (i := 2) dC_simplify_22 rfl rfl ?_
    refine am_aload_n (i := 0) dC_simplify_23 rfl rfl ?_
    refine am_getf dC_simplify_24 flC_40 (by first | rfl | exact sk8 (by omega) | exact sk9 (by omega) | exact sk10 (by omega) | exact sk11 (by omega)) rfl ?_
    refine am_icmp_ge_T (tgt := 70) dC_simplify_27 (by decide) ((nI_le' (by omega) (by omega)).mpr (by omega)) ?_
    have e : i = n := by omega
    subst e
    exact K _ _ _ _ rfl hJ
  | succ j ih =>
    intro i hi P st us c hJ K
    refine am_iload_n (i := 2) dC_simplify_22 rfl rfl ?_
    refine am_aload_n (i := 0) dC_simplify_23 rfl rfl ?_
    refine am_getf dC_simplify_24 flC_40 (by first | rfl | exact sk8 (by omega) | exact sk9 (by omega) | exact sk10 (by omega) | exact sk11 (by omega)) rfl ?_
    refine am_icmp_ge_F (tgt := 70) dC_simplify_27 (by decide) (fun q => absurd ((nI_le' (by omega) (by omega)).mp q) (by omega)) ?_
    have hok := hJ.1 i (by omega)
    refine am_aload_n (i := 0) dC_simplify_30 rfl rfl ?_
    refine am_aload_n (i := 0) dC_simplify_31 rfl rfl ?_
    refine am_getf dC_simplify_32 flC_15 (by first | rfl | exact sk8 (by omega) | exact sk9 (by omega) | exact sk10 (by omega) | exact sk11 (by omega)) rfl ?_
    refine am_iload_n (i := 2) dC_simplify_35 rfl rfl ?_
    refine am_aald dC_simplify_36 (by first | rfl | exact sk8 (by omega) | exact sk9 (by omega) | exact sk10 (by omega) | exact sk11 (by omega)) rfl (by first | omega | assumption | decide) (by decide) (by decide) rfl rfl ?_
    refine am_callV (ac' := 0) (as' := 0) (xs := [_]) dC_simplify_37 lkC_104 (by first | rfl | exact sk8 (by omega) | exact sk9 (by omega) | exact sk10 (by omega) | exact sk11 (by omega)) rfl rfl rfl rfl (Nat.le_of_ble_eq_true rfl) rfl rfl (cC_replaceArguments (by omega) hok.1.1 hok.1.2.1 (fun T1 eT1 => ?_))
    have hJ1 := q_rep_J hJ (v := i) (by omega) hn
    have hr : q_ok T1 i := eT1 ▸ hJ1.1 i (by omega)
    have hro : ∀ u, u < i → q_arg (T1 u 3) u := fun u hu => (eT1 ▸ hJ1.1 u (by omega) : q_ok T1 u).1.1
    refine am_aload_n (i := 0) dC_simplify_40 rfl rfl ?_
    refine am_getf dC_simplify_41 flC_18 (by first | rfl | exact sk8 (by omega) | exact sk9 (by omega) | exact sk10 (by omega) | exact sk11 (by omega)) rfl ?_
    refine am_iload_n (i := 2) dC_simplify_44 rfl rfl ?_
    refine am_aload_n (i := 0) dC_simplify_45 rfl rfl ?_
    refine am_iload_n (i := 2) dC_simplify_46 rfl rfl ?_
    refine am_callV (ac' := 0) (as' := 0) (xs := [_]) dC_simplify_47 lkC_108 (by first | rfl | exact sk8 (by omega) | exact sk9 (by omega) | exact sk10 (by omega) | exact sk11 (by omega)) rfl rfl rfl rfl (Nat.le_of_ble_eq_true rfl) rfl rfl (cC_standInByRules (by omega) hr.1.1 hr.1.2.1 hr.1.2.2.1 hr.1.2.2.2 hro (fun x T2 U ex eT2 eU => ?_))
    refine am_iast' dC_simplify_50 (by first | rfl | exact sk8 (by omega) | exact sk9 (by omega) | exact sk10 (by omega) | exact sk11 (by omega)) rfl (by first | omega | assumption | decide) (by decide) (by decide) (by first | exact wx_st | exact wx_mk | exact wx_lv | exact wx_us | exact wx_A | exact wx_P | exact wx_cl | exact wx_pr | exact wx_va | exact wx_si | exact wx_wk) ?_
    have e2 : T2 = q_sP st P i := by rw [eT2, eT1]; rfl
    have e3 : x = q_sx st P i := by rw [ex, eT1]; rfl
    have e4 : U = q_sU st P us i := by rw [eU, eT1]; rfl
    subst e2; subst e3; subst e4
    refine am_aload_n (i := 0) dC_simplify_51 rfl rfl ?_
    refine am_getf dC_simplify_52 flC_18 (by first | rfl | exact sk8 (by omega) | exact sk9 (by omega) | exact sk10 (by omega) | exact sk11 (by omega)) rfl ?_
    refine am_iload_n (i := 2) dC_simplify_55 rfl rfl ?_
    refine am_iald dC_simplify_56 (by first | rfl | exact sk8 (by omega) | exact sk9 (by omega) | exact sk10 (by omega) | exact sk11 (by omega)) rfl (by first | omega | assumption | decide) (by decide) (by decide) (congrArg am_I (upd_eq _ _ _)) ?_
    refine am_iload_n (i := 2) dC_simplify_57 rfl rfl ?_
    refine am_icmp_ne (tgt := 64) dC_simplify_58 (by decide) (fun c58 => ?_) (fun c58 => ?_)
    · refine am_iinc dC_simplify_64 rfl (by first | exact nI_1 _ | exact pk_m1 _ | rfl) (by decide) ?_
      refine am_goto (tgt := 22) dC_simplify_67 (by decide) ?_
      refine ih (i + 1) (by omega) _ _ _ _ (q_s_J hJ (by omega) hn) (fun T S U e he hj => K T S U e ?_ hj)
      rw [← he]
      show q_run j (i + 1) (q_sP st P i) (upd st i (q_sx st P i)) (q_sU st P us i) (if q_sx st P i = nI i then c + 1 else c) = _
      first
        | (rw [if_pos (by first | exact c58 | exact Classical.not_not.mp c58)]; done)
        | (rw [if_neg c58]; done)
    · refine am_iinc dC_simplify_61 rfl (by first | exact nI_1 _ | exact pk_m1 _ | rfl) (by decide) ?_
      refine am_iinc dC_simplify_64 rfl (by first | exact nI_1 _ | exact pk_m1 _ | rfl) (by decide) ?_
      refine am_goto (tgt := 22) dC_simplify_67 (by decide) ?_
      refine ih (i + 1) (by omega) _ _ _ _ (q_s_J hJ (by omega) hn) (fun T S U e he hj => K T S U e ?_ hj)
      rw [← he]
      show q_run j (i + 1) (q_sP st P i) (upd st i (q_sx st P i)) (q_sU st P us i) (if q_sx st P i = nI i then c + 1 else c) = _
      first
        | (rw [if_pos (by first | exact c58 | exact Classical.not_not.mp c58)]; done)
        | (rw [if_neg c58]; done)
set_option maxRecDepth 100000 in
set_option maxHeartbeats 4000000 in
theorem cC_simplify {g : am_G} {d : Nat} {Q : Option am_V → am_H → Prop} {Y : Nat → Nat → Nat → am_V} {A P : Nat → Nat → Int32} {st mk lv : Nat → Int32} {cl pr : Nat → Nat → Int32} {us : Nat → Int32} {si wk : Int32} {n : Nat} (hn : n ≤ 28) (hJ : si = 0 → q_J n 0 P st) (ks : ¬ si = 0 → Q (some (am_I (-4))) (hm (xc A P st mk lv cl pr us (nI n) si wk) Y)) (k : si = 0 → ∀ T S U e L, q_run n 0 P st (q_us0 us) 0 = (T, S, U, e) → q_J n n T S → L = q_live n mk S T lv → Q (some (am_I (nI e))) (hm (xc A T S mk L cl pr U (nI n) 1 0) Y)) : am_C g mC_simplify (d + 4) 0 0 [am_O 0 0] (hm (xc A P st mk lv cl pr us (nI n) si wk) Y) Q := by
  refine am_enter (lv := [some (am_O 0 0), none, none]) rfl rfl (am_cat1 rfl) (Nat.le_of_ble_eq_true rfl) ?_
  refine am_aload_n (i := 0) dC_simplify_0 rfl rfl ?_
  refine am_getf dC_simplify_1 flC_44 (by first | rfl | exact sk8 (by omega) | exact sk9 (by omega) | exact sk10 (by omega) | exact sk11 (by omega)) rfl ?_
  refine am_if_eq (tgt := 10) dC_simplify_4 (by decide) (fun c4 => ?_) (fun c4 => ?_)
  · refine am_aload_n (i := 0) dC_simplify_10 rfl rfl ?_
    refine am_getf dC_simplify_11 flC_37 (by first | rfl | exact sk8 (by omega) | exact sk9 (by omega) | exact sk10 (by omega) | exact sk11 (by omega)) rfl ?_
    refine am_iconst (v := 0) dC_simplify_14 (by decide) ?_
    refine am_callS (ac' := 0) (as' := 0) (xs := [_, _]) dC_simplify_15 lkC_98 rfl rfl (Nat.le_of_ble_eq_true rfl) rfl rfl (cA_fill ?_)
    refine am_iconst (v := 0) dC_simplify_18 (by decide) ?_
    refine am_istore_n (i := 1) dC_simplify_19 rfl (by decide) ?_
    refine am_iconst (v := 0) dC_simplify_20 (by decide) ?_
    refine am_istore_n (i := 2) dC_simplify_21 rfl (by decide) ?_
    refine lpC_simp hn n 0 (by omega) P st (q_us0 us) 0 (hJ c4) (fun T S U e he hj => ?_)
    refine am_aload_n (i := 0) dC_simplify_70 rfl rfl ?_
    refine am_iconst (v := 1) dC_simplify_71 (by decide) ?_
    refine am_putf' dC_simplify_72 flC_44 (by first | rfl | exact sk8 (by omega) | exact sk9 (by omega) | exact sk10 (by omega) | exact sk11 (by omega)) rfl (fun _ => ⟨rfl, rfl⟩) (by first | exact wx_st | exact wx_mk | exact wx_lv | exact wx_us | exact wx_A | exact wx_P | exact wx_cl | exact wx_pr | exact wx_va | exact wx_si | exact wx_wk) ?_
    refine am_aload_n (i := 0) dC_simplify_75 rfl rfl ?_
    refine am_iconst (v := 0) dC_simplify_76 (by decide) ?_
    refine am_putf' dC_simplify_77 flC_48 (by first | rfl | exact sk8 (by omega) | exact sk9 (by omega) | exact sk10 (by omega) | exact sk11 (by omega)) rfl (fun _ => ⟨rfl, rfl⟩) (by first | exact wx_st | exact wx_mk | exact wx_lv | exact wx_us | exact wx_A | exact wx_P | exact wx_cl | exact wx_pr | exact wx_va | exact wx_si | exact wx_wk) ?_
    have hs : ∀ m, m < n → ∃ j, j < n ∧ S m = nI j := fun m hm => by
      obtain ⟨j, a, b, -⟩ := hj.2 m hm
      exact ⟨j, by omega, b⟩
    have hP : ∀ m, m < n → q_arg (T m 3) m ∧ q_arg (T m 4) m := fun m hm => ⟨(hj.1 m hm).1.1, (hj.1 m hm).1.2.1⟩
    refine am_aload_n (i := 0) dC_simplify_80 rfl rfl ?_
    refine am_callV (ac' := 0) (as' := 0) (xs := []) dC_simplify_81 lkC_112 (by first | rfl | exact sk8 (by omega) | exact sk9 (by omega) | exact sk10 (by omega) | exact sk11 (by omega)) rfl rfl rfl rfl (Nat.le_of_ble_eq_true rfl) rfl rfl (cC_findLive hn hs hP (fun L eL => ?_))
    refine am_iload_n (i := 1) dC_simplify_84 rfl rfl ?_
    refine am_iret (st := []) rfl rfl dC_simplify_85 ?_
    exact k c4 T S U e L he hj eL
  · refine am_bipush (v := (-4)) dC_simplify_7 (by decide) ?_
    refine am_iret (st := []) rfl rfl dC_simplify_9 ?_
    exact ks c4
def q_cnt (lv : Nat → Int32) : Nat → Nat
  | 0 => 0
  | i + 1 => if lv i = 0 then q_cnt lv i else q_cnt lv i + 1
def q_wsum (P : Nat → Nat → Int32) (lv : Nat → Int32) : Nat → Int32
  | 0 => 0
  | i + 1 => if lv i = 0 then q_wsum P lv i else q_wsum P lv i + q_work P i
set_option maxRecDepth 100000 in
set_option maxHeartbeats 4000000 in
theorem lpC_lives {g : am_G} {d : Nat} {Q : Option am_V → am_H → Prop} {Y : Nat → Nat → Nat → am_V} {A P : Nat → Nat → Int32} {st mk lv : Nat → Int32} {cl pr : Nat → Nat → Int32} {us : Nat → Int32} {si wk : Int32} {n : Nat} (hn : n ≤ 28) (K : Q (some (am_I (nI (q_cnt lv n)))) (hm (xc A P st mk lv cl pr us (nI n) si wk) Y)) : ∀ (j i : Nat), i + j = n → am_T g mC_liveValues d 0 0 4 [some (am_O 0 0), some (am_I (nI (q_cnt lv i))), some (am_I (nI i))] [] (hm (xc A P st mk lv cl pr us (nI n) si wk) Y) Q := by
  intro j
  induction j with
  | zero =>
    intro i hi
    refine am_iload_n (i := 2) dC_liveValues_4 rfl rfl ?_
    refine am_aload_n (i := 0) dC_liveValues_5 rfl rfl ?_
    refine am_getf dC_liveValues_6 flC_40 (by first | rfl | exact sk8 (by omega) | exact sk9 (by omega) | exact sk10 (by omega) | exact sk11 (by omega)) rfl ?_
    refine am_icmp_ge_T (tgt := 30) dC_liveValues_9 (by decide) ((nI_le' (by omega) (by omega)).mpr (by omega)) ?_
    refine am_iload_n (i := 1) dC_liveValues_30 rfl rfl ?_
    refine am_iret (st := []) rfl rfl dC_liveValues_31 ?_
    have e : i = n := by omega
    subst e
    exact K
  | succ j ih =>
    intro i hi
    refine am_iload_n (i := 2) dC_liveValues_4 rfl rfl ?_
    refine am_aload_n (i := 0) dC_liveValues_5 rfl rfl ?_
    refine am_getf dC_liveValues_6 flC_40 (by first | rfl | exact sk8 (by omega) | exact sk9 (by omega) | exact sk10 (by omega) | exact sk11 (by omega)) rfl ?_
    refine am_icmp_ge_F (tgt := 30) dC_liveValues_9 (by decide) (fun q => absurd ((nI_le' (by omega) (by omega)).mp q) (by omega)) ?_
    refine am_aload_n (i := 0) dC_liveValues_12 rfl rfl ?_
    refine am_getf dC_liveValues_13 flC_26 (by first | rfl | exact sk8 (by omega) | exact sk9 (by omega) | exact sk10 (by omega) | exact sk11 (by omega)) rfl ?_
    refine am_iload_n (i := 2) dC_liveValues_16 rfl rfl ?_
    refine am_zald dC_liveValues_17 (by first | rfl | exact sk8 (by omega) | exact sk9 (by omega) | exact sk10 (by omega) | exact sk11 (by omega)) rfl (by first | omega | assumption | decide) (by decide) (by decide) rfl ?_
    refine am_if_eq (tgt := 24) dC_liveValues_18 (by decide) (fun c18 => ?_) (fun c18 => ?_)
    · refine am_iinc dC_liveValues_24 rfl (by first | exact nI_1 _ | exact pk_m1 _ | rfl) (by decide) ?_
      refine am_goto (tgt := 4) dC_liveValues_27 (by decide) ?_
      refine am_lT (lv' := [some (am_O 0 0), some (am_I (nI (q_cnt lv (i + 1)))), some (am_I (nI (i + 1)))]) ?_ (ih (i + 1) (by omega))
      show _ = [some (am_O 0 0), some (am_I (nI (if lv i = 0 then q_cnt lv i else q_cnt lv i + 1))), some (am_I (nI (i + 1)))]
      first
        | (rw [if_pos c18]; rfl)
        | (rw [if_neg c18]; rfl)
    · refine am_iinc dC_liveValues_21 rfl (by first | exact nI_1 _ | exact pk_m1 _ | rfl) (by decide) ?_
      refine am_iinc dC_liveValues_24 rfl (by first | exact nI_1 _ | exact pk_m1 _ | rfl) (by decide) ?_
      refine am_goto (tgt := 4) dC_liveValues_27 (by decide) ?_
      refine am_lT (lv' := [some (am_O 0 0), some (am_I (nI (q_cnt lv (i + 1)))), some (am_I (nI (i + 1)))]) ?_ (ih (i + 1) (by omega))
      show _ = [some (am_O 0 0), some (am_I (nI (if lv i = 0 then q_cnt lv i else q_cnt lv i + 1))), some (am_I (nI (i + 1)))]
      first
        | (rw [if_pos c18]; rfl)
        | (rw [if_neg c18]; rfl)
set_option maxRecDepth 100000 in
set_option maxHeartbeats 4000000 in
theorem cC_liveValues {g : am_G} {d : Nat} {Q : Option am_V → am_H → Prop} {Y : Nat → Nat → Nat → am_V} {A P : Nat → Nat → Int32} {st mk lv : Nat → Int32} {cl pr : Nat → Nat → Int32} {us : Nat → Int32} {si wk : Int32} {n : Nat} (hn : n ≤ 28) (k : Q (some (am_I (nI (q_cnt lv n)))) (hm (xc A P st mk lv cl pr us (nI n) si wk) Y)) : am_C g mC_liveValues d 0 0 [am_O 0 0] (hm (xc A P st mk lv cl pr us (nI n) si wk) Y) Q := by
  refine am_enter (lv := [some (am_O 0 0), none, none]) rfl rfl (am_cat1 rfl) (Nat.le_of_ble_eq_true rfl) ?_
  refine am_iconst (v := 0) dC_liveValues_0 (by decide) ?_
  refine am_istore_n (i := 1) dC_liveValues_1 rfl (by decide) ?_
  refine am_iconst (v := 0) dC_liveValues_2 (by decide) ?_
  refine am_istore_n (i := 2) dC_liveValues_3 rfl (by decide) ?_
  exact lpC_lives hn k n 0 (by omega)
set_option maxRecDepth 100000 in
set_option maxHeartbeats 4000000 in
theorem lpC_wlive {g : am_G} {d : Nat} {Q : Option am_V → am_H → Prop} {Y : Nat → Nat → Nat → am_V} {A P : Nat → Nat → Int32} {st mk lv : Nat → Int32} {cl pr : Nat → Nat → Int32} {us : Nat → Int32} {si wk : Int32} {n : Nat} (hn : n ≤ 28) (hP : ∀ v, v < n → q_ok P v) (K : Q (some (am_I (q_wsum P lv n))) (hm (xc A P st mk lv cl pr us (nI n) si wk) Y)) : ∀ (j i : Nat), i + j = n → am_T g mC_workOfLive (d + 1) 0 0 4 [some (am_O 0 0), some (am_I (q_wsum P lv i)), some (am_I (nI i))] [] (hm (xc A P st mk lv cl pr us (nI n) si wk) Y) Q := by
  intro j
  induction j with
  | zero =>
    intro i hi
    refine am_iload_n (i := 2) dC_workOfLive_4 rfl rfl ?_
    refine am_aload_n (i := 0) dC_workOfLive_5 rfl rfl ?_
    refine am_getf dC_workOfLive_6 flC_40 (by first | rfl | exact sk8 (by omega) | exact sk9 (by omega) | exact sk10 (by omega) | exact sk11 (by omega)) rfl ?_
    refine am_icmp_ge_T (tgt := 40) dC_workOfLive_9 (by decide) ((nI_le' (by omega) (by omega)).mpr (by omega)) ?_
    refine am_iload_n (i := 1) dC_workOfLive_40 rfl rfl ?_
    refine am_iret (st := []) rfl rfl dC_workOfLive_41 ?_
    have e : i = n := by omega
    subst e
    exact K
  | succ j ih =>
    intro i hi
    refine am_iload_n (i := 2) dC_workOfLive_4 rfl rfl ?_
    refine am_aload_n (i := 0) dC_workOfLive_5 rfl rfl ?_
    refine am_getf dC_workOfLive_6 flC_40 (by first | rfl | exact sk8 (by omega) | exact sk9 (by omega) | exact sk10 (by omega) | exact sk11 (by omega)) rfl ?_
    refine am_icmp_ge_F (tgt := 40) dC_workOfLive_9 (by decide) (fun q => absurd ((nI_le' (by omega) (by omega)).mp q) (by omega)) ?_
    refine am_aload_n (i := 0) dC_workOfLive_12 rfl rfl ?_
    refine am_getf dC_workOfLive_13 flC_26 (by first | rfl | exact sk8 (by omega) | exact sk9 (by omega) | exact sk10 (by omega) | exact sk11 (by omega)) rfl ?_
    refine am_iload_n (i := 2) dC_workOfLive_16 rfl rfl ?_
    refine am_zald dC_workOfLive_17 (by first | rfl | exact sk8 (by omega) | exact sk9 (by omega) | exact sk10 (by omega) | exact sk11 (by omega)) rfl (by first | omega | assumption | decide) (by decide) (by decide) rfl ?_
    refine am_if_eq (tgt := 34) dC_workOfLive_18 (by decide) (fun c18 => ?_) (fun c18 => ?_)
    · refine am_iinc dC_workOfLive_34 rfl (by first | exact nI_1 _ | exact pk_m1 _ | rfl) (by decide) ?_
      refine am_goto (tgt := 4) dC_workOfLive_37 (by decide) ?_
      refine am_lT (lv' := [some (am_O 0 0), some (am_I (q_wsum P lv (i + 1))), some (am_I (nI (i + 1)))]) ?_ (ih (i + 1) (by omega))
      show _ = [some (am_O 0 0), some (am_I (if lv i = 0 then q_wsum P lv i else q_wsum P lv i + q_work P i)), some (am_I (nI (i + 1)))]
      first
        | (rw [if_pos c18]; rfl)
        | (rw [if_neg c18, ← er]; rfl)
    · have hk := hP i (by omega)
      have hq : ¬ P i 3 = -1 ∨ ¬ 2 < P i 0 := by
        by_cases h2 : 2 < P i 0
        · exact Or.inl (hk.1.2.2.1 h2)
        · exact Or.inr h2
      refine am_iload_n (i := 1) dC_workOfLive_21 rfl rfl ?_
      refine am_aload_n (i := 0) dC_workOfLive_22 rfl rfl ?_
      refine am_aload_n (i := 0) dC_workOfLive_23 rfl rfl ?_
      refine am_getf dC_workOfLive_24 flC_15 (by first | rfl | exact sk8 (by omega) | exact sk9 (by omega) | exact sk10 (by omega) | exact sk11 (by omega)) rfl ?_
      refine am_iload_n (i := 2) dC_workOfLive_27 rfl rfl ?_
      refine am_aald dC_workOfLive_28 (by first | rfl | exact sk8 (by omega) | exact sk9 (by omega) | exact sk10 (by omega) | exact sk11 (by omega)) rfl (by first | omega | assumption | decide) (by decide) (by decide) rfl rfl ?_
      refine am_callV (ac' := 0) (as' := 0) (xs := [_]) dC_workOfLive_29 lkC_161 (by first | rfl | exact sk8 (by omega) | exact sk9 (by omega) | exact sk10 (by omega) | exact sk11 (by omega)) rfl rfl rfl rfl (Nat.le_of_ble_eq_true rfl) rfl rfl (cC_workOf (by omega) hk.1.1 hk.1.2.1 hq (fun r er => ?_))
      refine am_iadd dC_workOfLive_32 ?_
      refine am_istore_n (i := 1) dC_workOfLive_33 rfl (by decide) ?_
      refine am_iinc dC_workOfLive_34 rfl (by first | exact nI_1 _ | exact pk_m1 _ | rfl) (by decide) ?_
      refine am_goto (tgt := 4) dC_workOfLive_37 (by decide) ?_
      refine am_lT (lv' := [some (am_O 0 0), some (am_I (q_wsum P lv (i + 1))), some (am_I (nI (i + 1)))]) ?_ (ih (i + 1) (by omega))
      show _ = [some (am_O 0 0), some (am_I (if lv i = 0 then q_wsum P lv i else q_wsum P lv i + q_work P i)), some (am_I (nI (i + 1)))]
      first
        | (rw [if_pos c18]; rfl)
        | (rw [if_neg c18, ← er]; rfl)
set_option maxRecDepth 100000 in
set_option maxHeartbeats 4000000 in
theorem cC_workOfLive {g : am_G} {d : Nat} {Q : Option am_V → am_H → Prop} {Y : Nat → Nat → Nat → am_V} {A P : Nat → Nat → Int32} {st mk lv : Nat → Int32} {cl pr : Nat → Nat → Int32} {us : Nat → Int32} {si wk : Int32} {n : Nat} (hn : n ≤ 28) (hP : ∀ v, v < n → q_ok P v) (k : Q (some (am_I (q_wsum P lv n))) (hm (xc A P st mk lv cl pr us (nI n) si wk) Y)) : am_C g mC_workOfLive (d + 1) 0 0 [am_O 0 0] (hm (xc A P st mk lv cl pr us (nI n) si wk) Y) Q := by
  refine am_enter (lv := [some (am_O 0 0), none, none]) rfl rfl (am_cat1 rfl) (Nat.le_of_ble_eq_true rfl) ?_
  refine am_iconst (v := 0) dC_workOfLive_0 (by decide) ?_
  refine am_istore_n (i := 1) dC_workOfLive_1 rfl (by decide) ?_
  refine am_iconst (v := 0) dC_workOfLive_2 (by decide) ?_
  refine am_istore_n (i := 2) dC_workOfLive_3 rfl (by decide) ?_
  exact lpC_wlive hn hP k n 0 (by omega)
theorem q_ix16 {x : Int32} (h0 : ¬ x < 1) (h1 : ¬ 6 < x) : ∃ j, 1 ≤ j ∧ j ≤ 6 ∧ x = nI j := by
  have a : ¬ x.toInt < 1 := fun q => h0 (Int32.lt_iff_toInt_lt.mpr q)
  have b : ¬ 6 < x.toInt := fun q => h1 (Int32.lt_iff_toInt_lt.mpr q)
  refine ⟨x.toInt.toNat, by omega, by omega, ?_⟩
  apply Int32.toInt_inj.mp
  rw [nI_toInt (by omega)]
  omega
set_option maxRecDepth 100000 in
set_option maxHeartbeats 4000000 in
theorem cC_count {g : am_G} {d : Nat} {Q : Option am_V → am_H → Prop} {Y : Nat → Nat → Nat → am_V} {A P : Nat → Nat → Int32} {st mk lv : Nat → Int32} {cl pr : Nat → Nat → Int32} {us : Nat → Int32} {si wk : Int32} {n : Nat} {x : Int32} (hn : n ≤ 28) (hP : ∀ v, v < n → q_ok P v) (ku : ∀ j, 1 ≤ j → j ≤ 6 → x = nI j → Q (some (am_I (us j))) (hm (xc A P st mk lv cl pr us (nI n) si wk) Y)) (k0 : x = 0 → Q (some (am_I (nI n))) (hm (xc A P st mk lv cl pr us (nI n) si wk) Y)) (k7 : x = 7 → Q (some (am_I (nI (q_cnt lv n)))) (hm (xc A P st mk lv cl pr us (nI n) si wk) Y)) (k8 : x = 8 → Q (some (am_I (q_wsum P lv n))) (hm (xc A P st mk lv cl pr us (nI n) si wk) Y)) (k9 : x = 9 → Q (some (am_I (if si = 0 then 0 else 1))) (hm (xc A P st mk lv cl pr us (nI n) si wk) Y)) (kr : (x.toInt < 0 ∨ 9 < x.toInt) → Q (some (am_I (-1))) (hm (xc A P st mk lv cl pr us (nI n) si wk) Y)) : am_C g mC_count (d + 2) 0 0 [am_O 0 0, am_I x] (hm (xc A P st mk lv cl pr us (nI n) si wk) Y) Q := by
  refine am_enter (lv := [some (am_O 0 0), some (am_I x)]) rfl rfl (am_cat1 rfl) (Nat.le_of_ble_eq_true rfl) ?_
  refine am_iload_n (i := 1) dC_count_0 rfl rfl ?_
  refine am_iconst (v := 1) dC_count_1 (by decide) ?_
  refine am_icmp_lt (tgt := 18) dC_count_2 (by decide) (fun c2 => ?_) (fun c2 => ?_)
  · refine am_iload_n (i := 1) dC_count_18 rfl rfl ?_
    rcases sw_0_9 (x) with s19 | s19 | s19 | s19 | s19 | s19 | s19 | s19 | s19 | s19 | s19
    · refine am_tableIn (off := 53) (tgt := 72) dC_count_19 (by rw [s19]; decide) (by rw [s19]; decide) (by rw [s19]; rfl) (by decide) ?_
      refine am_aload_n (i := 0) dC_count_72 rfl rfl ?_
      refine am_getf dC_count_73 flC_40 (by first | rfl | exact sk8 (by omega) | exact sk9 (by omega) | exact sk10 (by omega) | exact sk11 (by omega)) rfl ?_
      refine am_iret (st := []) rfl rfl dC_count_76 ?_
      exact k0 s19
    · first | exact absurd c2 (by rw [s19]; decide) | exact absurd c8 (by rw [s19]; decide)
    · first | exact absurd c2 (by rw [s19]; decide) | exact absurd c8 (by rw [s19]; decide)
    · first | exact absurd c2 (by rw [s19]; decide) | exact absurd c8 (by rw [s19]; decide)
    · first | exact absurd c2 (by rw [s19]; decide) | exact absurd c8 (by rw [s19]; decide)
    · first | exact absurd c2 (by rw [s19]; decide) | exact absurd c8 (by rw [s19]; decide)
    · first | exact absurd c2 (by rw [s19]; decide) | exact absurd c8 (by rw [s19]; decide)
    · refine am_tableIn (off := 58) (tgt := 77) dC_count_19 (by rw [s19]; decide) (by rw [s19]; decide) (by rw [s19]; rfl) (by decide) ?_
      refine am_aload_n (i := 0) dC_count_77 rfl rfl ?_
      refine am_callV (ac' := 0) (as' := 0) (xs := []) dC_count_78 lkC_144 (by first | rfl | exact sk8 (by omega) | exact sk9 (by omega) | exact sk10 (by omega) | exact sk11 (by omega)) rfl rfl rfl rfl (Nat.le_of_ble_eq_true rfl) rfl rfl (cC_liveValues hn ?_)
      refine am_iret (st := []) rfl rfl dC_count_81 ?_
      exact k7 s19
    · refine am_tableIn (off := 63) (tgt := 82) dC_count_19 (by rw [s19]; decide) (by rw [s19]; decide) (by rw [s19]; rfl) (by decide) ?_
      refine am_aload_n (i := 0) dC_count_82 rfl rfl ?_
      refine am_callV (ac' := 0) (as' := 0) (xs := []) dC_count_83 lkC_119 (by first | rfl | exact sk8 (by omega) | exact sk9 (by omega) | exact sk10 (by omega) | exact sk11 (by omega)) rfl rfl rfl rfl (Nat.le_of_ble_eq_true rfl) rfl rfl (cC_workOfLive hn hP ?_)
      refine am_iret (st := []) rfl rfl dC_count_86 ?_
      exact k8 s19
    · refine am_tableIn (off := 68) (tgt := 87) dC_count_19 (by rw [s19]; decide) (by rw [s19]; decide) (by rw [s19]; rfl) (by decide) ?_
      refine am_aload_n (i := 0) dC_count_87 rfl rfl ?_
      refine am_getf dC_count_88 flC_44 (by first | rfl | exact sk8 (by omega) | exact sk9 (by omega) | exact sk10 (by omega) | exact sk11 (by omega)) rfl ?_
      refine am_if_eq (tgt := 98) dC_count_91 (by decide) (fun c91 => ?_) (fun c91 => ?_)
      · refine am_iconst (v := 0) dC_count_98 (by decide) ?_
        refine am_iret (st := []) rfl rfl dC_count_99 ?_
        first
          | (rw [if_pos c91] at k9; exact k9 s19)
          | (rw [if_neg c91] at k9; exact k9 s19)
      · refine am_iconst (v := 1) dC_count_94 (by decide) ?_
        refine am_goto (tgt := 99) dC_count_95 (by decide) ?_
        refine am_iret (st := []) rfl rfl dC_count_99 ?_
        first
          | (rw [if_pos c91] at k9; exact k9 s19)
          | (rw [if_neg c91] at k9; exact k9 s19)
    · refine am_tableOut (tgt := 100) dC_count_19 s19 (by decide) ?_
      refine am_iconst (v := (-1)) dC_count_100 (by decide) ?_
      refine am_iret (st := []) rfl rfl dC_count_101 ?_
      exact kr s19
  · refine am_iload_n (i := 1) dC_count_5 rfl rfl ?_
    refine am_bipush (v := 6) dC_count_6 (by decide) ?_
    refine am_icmp_gt (tgt := 18) dC_count_8 (by decide) (fun c8 => ?_) (fun c8 => ?_)
    · refine am_iload_n (i := 1) dC_count_18 rfl rfl ?_
      rcases sw_0_9 (x) with s19 | s19 | s19 | s19 | s19 | s19 | s19 | s19 | s19 | s19 | s19
      · refine am_tableIn (off := 53) (tgt := 72) dC_count_19 (by rw [s19]; decide) (by rw [s19]; decide) (by rw [s19]; rfl) (by decide) ?_
        refine am_aload_n (i := 0) dC_count_72 rfl rfl ?_
        refine am_getf dC_count_73 flC_40 (by first | rfl | exact sk8 (by omega) | exact sk9 (by omega) | exact sk10 (by omega) | exact sk11 (by omega)) rfl ?_
        refine am_iret (st := []) rfl rfl dC_count_76 ?_
        exact k0 s19
      · first | exact absurd c2 (by rw [s19]; decide) | exact absurd c8 (by rw [s19]; decide)
      · first | exact absurd c2 (by rw [s19]; decide) | exact absurd c8 (by rw [s19]; decide)
      · first | exact absurd c2 (by rw [s19]; decide) | exact absurd c8 (by rw [s19]; decide)
      · first | exact absurd c2 (by rw [s19]; decide) | exact absurd c8 (by rw [s19]; decide)
      · first | exact absurd c2 (by rw [s19]; decide) | exact absurd c8 (by rw [s19]; decide)
      · first | exact absurd c2 (by rw [s19]; decide) | exact absurd c8 (by rw [s19]; decide)
      · refine am_tableIn (off := 58) (tgt := 77) dC_count_19 (by rw [s19]; decide) (by rw [s19]; decide) (by rw [s19]; rfl) (by decide) ?_
        refine am_aload_n (i := 0) dC_count_77 rfl rfl ?_
        refine am_callV (ac' := 0) (as' := 0) (xs := []) dC_count_78 lkC_144 (by first | rfl | exact sk8 (by omega) | exact sk9 (by omega) | exact sk10 (by omega) | exact sk11 (by omega)) rfl rfl rfl rfl (Nat.le_of_ble_eq_true rfl) rfl rfl (cC_liveValues hn ?_)
        refine am_iret (st := []) rfl rfl dC_count_81 ?_
        exact k7 s19
      · refine am_tableIn (off := 63) (tgt := 82) dC_count_19 (by rw [s19]; decide) (by rw [s19]; decide) (by rw [s19]; rfl) (by decide) ?_
        refine am_aload_n (i := 0) dC_count_82 rfl rfl ?_
        refine am_callV (ac' := 0) (as' := 0) (xs := []) dC_count_83 lkC_119 (by first | rfl | exact sk8 (by omega) | exact sk9 (by omega) | exact sk10 (by omega) | exact sk11 (by omega)) rfl rfl rfl rfl (Nat.le_of_ble_eq_true rfl) rfl rfl (cC_workOfLive hn hP ?_)
        refine am_iret (st := []) rfl rfl dC_count_86 ?_
        exact k8 s19
      · refine am_tableIn (off := 68) (tgt := 87) dC_count_19 (by rw [s19]; decide) (by rw [s19]; decide) (by rw [s19]; rfl) (by decide) ?_
        refine am_aload_n (i := 0) dC_count_87 rfl rfl ?_
        refine am_getf dC_count_88 flC_44 (by first | rfl | exact sk8 (by omega) | exact sk9 (by omega) | exact sk10 (by omega) | exact sk11 (by omega)) rfl ?_
        refine am_if_eq (tgt := 98) dC_count_91 (by decide) (fun c91 => ?_) (fun c91 => ?_)
        · refine am_iconst (v := 0) dC_count_98 (by decide) ?_
          refine am_iret (st := []) rfl rfl dC_count_99 ?_
          first
            | (rw [if_pos c91] at k9; exact k9 s19)
            | (rw [if_neg c91] at k9; exact k9 s19)
        · refine am_iconst (v := 1) dC_count_94 (by decide) ?_
          refine am_goto (tgt := 99) dC_count_95 (by decide) ?_
          refine am_iret (st := []) rfl rfl dC_count_99 ?_
          first
            | (rw [if_pos c91] at k9; exact k9 s19)
            | (rw [if_neg c91] at k9; exact k9 s19)
      · refine am_tableOut (tgt := 100) dC_count_19 s19 (by decide) ?_
        refine am_iconst (v := (-1)) dC_count_100 (by decide) ?_
        refine am_iret (st := []) rfl rfl dC_count_101 ?_
        exact kr s19
    · obtain ⟨j, hj1, hj2, ej⟩ := q_ix16 c2 c8
      refine am_aload_n (i := 0) dC_count_11 rfl rfl ?_
      refine am_getf dC_count_12 flC_37 (by first | rfl | exact sk8 (by omega) | exact sk9 (by omega) | exact sk10 (by omega) | exact sk11 (by omega)) rfl ?_
      refine am_iload_n (i := 1) dC_count_15 rfl rfl ?_
      refine am_iald dC_count_16 (by first | rfl | exact sk8 (by omega) | exact sk9 (by omega) | exact sk10 (by omega) | exact sk11 (by omega)) ej (by first | omega | assumption | decide) (by decide) (by decide) rfl ?_
      refine am_iret (st := []) rfl rfl dC_count_17 ?_
      exact ku j hj1 hj2 ej
set_option maxRecDepth 100000 in
set_option maxHeartbeats 4000000 in
theorem cC_value {g : am_G} {d : Nat} {Q : Option am_V → am_H → Prop} {Y : Nat → Nat → Nat → am_V} {A P : Nat → Nat → Int32} {st mk lv : Nat → Int32} {cl pr : Nat → Nat → Int32} {us : Nat → Int32} {si wk : Int32} {n : Nat} {x y : Int32} (hn : n ≤ 28) (kr : ¬ q_val x n → Q (some (am_I (-1))) (hm (xc A P st mk lv cl pr us (nI n) si wk) Y)) (ko : ∀ v, v < n → x = nI v → (y.toInt < 0 ∨ 7 < y.toInt) → Q (some (am_I (-1))) (hm (xc A P st mk lv cl pr us (nI n) si wk) Y)) (k : ∀ v j, v < n → x = nI v → j ≤ 6 → y = nI j → Q (some (am_I (P v j))) (hm (xc A P st mk lv cl pr us (nI n) si wk) Y)) (k7 : ∀ v, v < n → x = nI v → y = 7 → Q (some (am_I (if lv v = 0 then 0 else 1))) (hm (xc A P st mk lv cl pr us (nI n) si wk) Y)) : am_C g mC_value (d + 1) 0 0 [am_O 0 0, am_I x, am_I y] (hm (xc A P st mk lv cl pr us (nI n) si wk) Y) Q := by
  refine am_enter (lv := [some (am_O 0 0), some (am_I x), some (am_I y), none]) rfl rfl (am_cat1 rfl) (Nat.le_of_ble_eq_true rfl) ?_
  refine am_aload_n (i := 0) dC_value_0 rfl rfl ?_
  refine am_iload_n (i := 1) dC_value_1 rfl rfl ?_
  refine am_callV (ac' := 0) (as' := 0) (xs := [_]) dC_value_2 lkC_67 (by first | rfl | exact sk8 (by omega) | exact sk9 (by omega) | exact sk10 (by omega) | exact sk11 (by omega)) rfl rfl rfl rfl (Nat.le_of_ble_eq_true rfl) rfl rfl (cC_isValue rfl hn (fun v hv ev => ?_) (fun nv => ?_))
  · refine am_if_ne_T (tgt := 10) dC_value_5 (by decide) (by decide) ?_
    refine am_aload_n (i := 0) dC_value_10 rfl rfl ?_
    refine am_getf dC_value_11 flC_15 (by first | rfl | exact sk8 (by omega) | exact sk9 (by omega) | exact sk10 (by omega) | exact sk11 (by omega)) rfl ?_
    refine am_iload_n (i := 1) dC_value_14 rfl rfl ?_
    refine am_aald dC_value_15 (by first | rfl | exact sk8 (by omega) | exact sk9 (by omega) | exact sk10 (by omega) | exact sk11 (by omega)) ev (by first | omega | assumption | decide) (by decide) (by decide) rfl rfl ?_
    refine am_astore_n (i := 3) dC_value_16 rfl (by decide) ?_
    refine am_iload_n (i := 2) dC_value_17 rfl rfl ?_
    rcases sw_0_7 (y) with s18 | s18 | s18 | s18 | s18 | s18 | s18 | s18 | s18
    · refine am_tableIn (off := 46) (tgt := 64) dC_value_18 (by rw [s18]; decide) (by rw [s18]; decide) (by rw [s18]; rfl) (by decide) ?_
      refine am_aload_n (i := 3) dC_value_64 rfl rfl ?_
      refine am_getf dC_value_65 flC_129 (by first | rfl | exact sk8 (by omega) | exact sk9 (by omega) | exact sk10 (by omega) | exact sk11 (by omega)) rfl ?_
      refine am_iret (st := []) rfl rfl dC_value_68 ?_
      exact k v 0 hv ev (by omega) s18
    · refine am_tableIn (off := 51) (tgt := 69) dC_value_18 (by rw [s18]; decide) (by rw [s18]; decide) (by rw [s18]; rfl) (by decide) ?_
      refine am_aload_n (i := 3) dC_value_69 rfl rfl ?_
      refine am_getf dC_value_70 flC_83 (by first | rfl | exact sk8 (by omega) | exact sk9 (by omega) | exact sk10 (by omega) | exact sk11 (by omega)) rfl ?_
      refine am_iret (st := []) rfl rfl dC_value_73 ?_
      exact k v 1 hv ev (by omega) s18
    · refine am_tableIn (off := 56) (tgt := 74) dC_value_18 (by rw [s18]; decide) (by rw [s18]; decide) (by rw [s18]; rfl) (by decide) ?_
      refine am_aload_n (i := 3) dC_value_74 rfl rfl ?_
      refine am_getf dC_value_75 flC_89 (by first | rfl | exact sk8 (by omega) | exact sk9 (by omega) | exact sk10 (by omega) | exact sk11 (by omega)) rfl ?_
      refine am_iret (st := []) rfl rfl dC_value_78 ?_
      exact k v 2 hv ev (by omega) s18
    · refine am_tableIn (off := 61) (tgt := 79) dC_value_18 (by rw [s18]; decide) (by rw [s18]; decide) (by rw [s18]; rfl) (by decide) ?_
      refine am_aload_n (i := 3) dC_value_79 rfl rfl ?_
      refine am_getf dC_value_80 flC_132 (by first | rfl | exact sk8 (by omega) | exact sk9 (by omega) | exact sk10 (by omega) | exact sk11 (by omega)) rfl ?_
      refine am_iret (st := []) rfl rfl dC_value_83 ?_
      exact k v 3 hv ev (by omega) s18
    · refine am_tableIn (off := 66) (tgt := 84) dC_value_18 (by rw [s18]; decide) (by rw [s18]; decide) (by rw [s18]; rfl) (by decide) ?_
      refine am_aload_n (i := 3) dC_value_84 rfl rfl ?_
      refine am_getf dC_value_85 flC_135 (by first | rfl | exact sk8 (by omega) | exact sk9 (by omega) | exact sk10 (by omega) | exact sk11 (by omega)) rfl ?_
      refine am_iret (st := []) rfl rfl dC_value_88 ?_
      exact k v 4 hv ev (by omega) s18
    · refine am_tableIn (off := 71) (tgt := 89) dC_value_18 (by rw [s18]; decide) (by rw [s18]; decide) (by rw [s18]; rfl) (by decide) ?_
      refine am_aload_n (i := 3) dC_value_89 rfl rfl ?_
      refine am_getf dC_value_90 flC_138 (by first | rfl | exact sk8 (by omega) | exact sk9 (by omega) | exact sk10 (by omega) | exact sk11 (by omega)) rfl ?_
      refine am_iret (st := []) rfl rfl dC_value_93 ?_
      exact k v 5 hv ev (by omega) s18
    · refine am_tableIn (off := 76) (tgt := 94) dC_value_18 (by rw [s18]; decide) (by rw [s18]; decide) (by rw [s18]; rfl) (by decide) ?_
      refine am_aload_n (i := 3) dC_value_94 rfl rfl ?_
      refine am_getf dC_value_95 flC_141 (by first | rfl | exact sk8 (by omega) | exact sk9 (by omega) | exact sk10 (by omega) | exact sk11 (by omega)) rfl ?_
      refine am_iret (st := []) rfl rfl dC_value_98 ?_
      exact k v 6 hv ev (by omega) s18
    · refine am_tableIn (off := 81) (tgt := 99) dC_value_18 (by rw [s18]; decide) (by rw [s18]; decide) (by rw [s18]; rfl) (by decide) ?_
      refine am_aload_n (i := 0) dC_value_99 rfl rfl ?_
      refine am_getf dC_value_100 flC_26 (by first | rfl | exact sk8 (by omega) | exact sk9 (by omega) | exact sk10 (by omega) | exact sk11 (by omega)) rfl ?_
      refine am_iload_n (i := 1) dC_value_103 rfl rfl ?_
      refine am_zald dC_value_104 (by first | rfl | exact sk8 (by omega) | exact sk9 (by omega) | exact sk10 (by omega) | exact sk11 (by omega)) ev (by first | omega | assumption | decide) (by decide) (by decide) rfl ?_
      refine am_if_eq (tgt := 112) dC_value_105 (by decide) (fun c105 => ?_) (fun c105 => ?_)
      · refine am_iconst (v := 0) dC_value_112 (by decide) ?_
        refine am_iret (st := []) rfl rfl dC_value_113 ?_
        first
          | (have := k7 v hv ev s18; rw [if_pos c105] at this; exact this)
          | (have := k7 v hv ev s18; rw [if_neg c105] at this; exact this)
      · refine am_iconst (v := 1) dC_value_108 (by decide) ?_
        refine am_goto (tgt := 113) dC_value_109 (by decide) ?_
        refine am_iret (st := []) rfl rfl dC_value_113 ?_
        first
          | (have := k7 v hv ev s18; rw [if_pos c105] at this; exact this)
          | (have := k7 v hv ev s18; rw [if_neg c105] at this; exact this)
    · refine am_tableOut (tgt := 114) dC_value_18 s18 (by decide) ?_
      refine am_iconst (v := (-1)) dC_value_114 (by decide) ?_
      refine am_iret (st := []) rfl rfl dC_value_115 ?_
      exact ko v hv ev s18
  · refine am_if_ne_F (tgt := 10) dC_value_5 (by decide) (by decide) ?_
    refine am_iconst (v := (-1)) dC_value_8 (by decide) ?_
    refine am_iret (st := []) rfl rfl dC_value_9 ?_
    exact kr (by grind)
end
