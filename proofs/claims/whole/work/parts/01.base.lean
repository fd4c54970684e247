-- ===== PART A: goes FIRST, ahead of the names: the tables' words, and 'selects' of the private methods out of them =====
/-- a private method of a class that the tables say can be made, by its rows of tables_1 -/
def lw_okq (q : MethodName × Nat) : Prop := (q.1.cls ≠ "java/lang/invoke/MethodHandle" ∧ q.1.cls ≠ "java/lang/invoke/VarHandle") ∧ Cond.instantiable q.1.cls q.2 ∈ tables_1 ∧ Cond.privateMethod q.1 ∈ tables_1 ∧ Cond.instanceMethod q.1 ∈ tables_1
theorem lw_p0 : lw_okq (⟨"MatrixModule$Operation", "become", "(IIIII)V"⟩, 7) := ⟨⟨by decide +kernel, by decide +kernel⟩, List.mem_of_getElem? (i := 18) (by decide +kernel), List.mem_of_getElem? (i := 99) (by decide +kernel), List.mem_of_getElem? (i := 100) (by decide +kernel)⟩
theorem lw_p1 : lw_okq (⟨"MatrixModule", "addWithShape", "(II)I"⟩, 11) := ⟨⟨by decide +kernel, by decide +kernel⟩, List.mem_of_getElem? (i := 7) (by decide +kernel), List.mem_of_getElem? (i := 103) (by decide +kernel), List.mem_of_getElem? (i := 104) (by decide +kernel)⟩
theorem lw_p2 : lw_okq (⟨"MatrixModule$Operation", "takeShape", "(II)V"⟩, 7) := ⟨⟨by decide +kernel, by decide +kernel⟩, List.mem_of_getElem? (i := 18) (by decide +kernel), List.mem_of_getElem? (i := 107) (by decide +kernel), List.mem_of_getElem? (i := 108) (by decide +kernel)⟩
theorem lw_p3 : lw_okq (⟨"MatrixModule", "undoSimplifying", "()V"⟩, 11) := ⟨⟨by decide +kernel, by decide +kernel⟩, List.mem_of_getElem? (i := 7) (by decide +kernel), List.mem_of_getElem? (i := 111) (by decide +kernel), List.mem_of_getElem? (i := 112) (by decide +kernel)⟩
theorem lw_p4 : lw_okq (⟨"MatrixModule$Operation", "copyFrom", "(LMatrixModule$Operation;)V"⟩, 7) := ⟨⟨by decide +kernel, by decide +kernel⟩, List.mem_of_getElem? (i := 18) (by decide +kernel), List.mem_of_getElem? (i := 115) (by decide +kernel), List.mem_of_getElem? (i := 116) (by decide +kernel)⟩
theorem lw_p5 : lw_okq (⟨"MatrixModule", "findLive", "()V"⟩, 11) := ⟨⟨by decide +kernel, by decide +kernel⟩, List.mem_of_getElem? (i := 7) (by decide +kernel), List.mem_of_getElem? (i := 121) (by decide +kernel), List.mem_of_getElem? (i := 122) (by decide +kernel)⟩
theorem lw_p6 : lw_okq (⟨"MatrixModule", "makeLive", "(I)V"⟩, 11) := ⟨⟨by decide +kernel, by decide +kernel⟩, List.mem_of_getElem? (i := 7) (by decide +kernel), List.mem_of_getElem? (i := 125) (by decide +kernel), List.mem_of_getElem? (i := 126) (by decide +kernel)⟩
theorem lw_p7 : lw_okq (⟨"MatrixModule", "isValue", "(I)Z"⟩, 11) := ⟨⟨by decide +kernel, by decide +kernel⟩, List.mem_of_getElem? (i := 7) (by decide +kernel), List.mem_of_getElem? (i := 133) (by decide +kernel), List.mem_of_getElem? (i := 134) (by decide +kernel)⟩
theorem lw_p8 : lw_okq (⟨"MatrixModule$Operation", "hasShapeOf", "(LMatrixModule$Operation;)Z"⟩, 7) := ⟨⟨by decide +kernel, by decide +kernel⟩, List.mem_of_getElem? (i := 18) (by decide +kernel), List.mem_of_getElem? (i := 140) (by decide +kernel), List.mem_of_getElem? (i := 141) (by decide +kernel)⟩
theorem lw_p9 : lw_okq (⟨"MatrixModule", "replaceArguments", "(LMatrixModule$Operation;)V"⟩, 11) := ⟨⟨by decide +kernel, by decide +kernel⟩, List.mem_of_getElem? (i := 7) (by decide +kernel), List.mem_of_getElem? (i := 179) (by decide +kernel), List.mem_of_getElem? (i := 180) (by decide +kernel)⟩
theorem lw_p10 : lw_okq (⟨"MatrixModule$Operation", "takesPairs", "()Z"⟩, 7) := ⟨⟨by decide +kernel, by decide +kernel⟩, List.mem_of_getElem? (i := 18) (by decide +kernel), List.mem_of_getElem? (i := 183) (by decide +kernel), List.mem_of_getElem? (i := 184) (by decide +kernel)⟩
theorem lw_p11 : lw_okq (⟨"MatrixModule", "standInByRules", "(I)I"⟩, 11) := ⟨⟨by decide +kernel, by decide +kernel⟩, List.mem_of_getElem? (i := 7) (by decide +kernel), List.mem_of_getElem? (i := 187) (by decide +kernel), List.mem_of_getElem? (i := 188) (by decide +kernel)⟩
theorem lw_p12 : lw_okq (⟨"MatrixModule", "hasOnlySplats", "(LMatrixModule$Operation;)Z"⟩, 11) := ⟨⟨by decide +kernel, by decide +kernel⟩, List.mem_of_getElem? (i := 7) (by decide +kernel), List.mem_of_getElem? (i := 191) (by decide +kernel), List.mem_of_getElem? (i := 192) (by decide +kernel)⟩
theorem lw_p13 : lw_okq (⟨"MatrixModule", "foldedCell", "(LMatrixModule$Operation;)I"⟩, 11) := ⟨⟨by decide +kernel, by decide +kernel⟩, List.mem_of_getElem? (i := 7) (by decide +kernel), List.mem_of_getElem? (i := 195) (by decide +kernel), List.mem_of_getElem? (i := 196) (by decide +kernel)⟩
theorem lw_p14 : lw_okq (⟨"MatrixModule$Operation", "becomeSplat", "(I)V"⟩, 7) := ⟨⟨by decide +kernel, by decide +kernel⟩, List.mem_of_getElem? (i := 18) (by decide +kernel), List.mem_of_getElem? (i := 202) (by decide +kernel), List.mem_of_getElem? (i := 203) (by decide +kernel)⟩
theorem lw_p15 : lw_okq (⟨"MatrixModule", "alikeOrItself", "(I)I"⟩, 11) := ⟨⟨by decide +kernel, by decide +kernel⟩, List.mem_of_getElem? (i := 7) (by decide +kernel), List.mem_of_getElem? (i := 206) (by decide +kernel), List.mem_of_getElem? (i := 207) (by decide +kernel)⟩
def lw_privs_1 : List (MethodName × Nat) := [(⟨"MatrixModule$Operation", "become", "(IIIII)V"⟩, 7), (⟨"MatrixModule", "addWithShape", "(II)I"⟩, 11), (⟨"MatrixModule$Operation", "takeShape", "(II)V"⟩, 7), (⟨"MatrixModule", "undoSimplifying", "()V"⟩, 11), (⟨"MatrixModule$Operation", "copyFrom", "(LMatrixModule$Operation;)V"⟩, 7), (⟨"MatrixModule", "findLive", "()V"⟩, 11), (⟨"MatrixModule", "makeLive", "(I)V"⟩, 11), (⟨"MatrixModule", "isValue", "(I)Z"⟩, 11), (⟨"MatrixModule$Operation", "hasShapeOf", "(LMatrixModule$Operation;)Z"⟩, 7), (⟨"MatrixModule", "replaceArguments", "(LMatrixModule$Operation;)V"⟩, 11), (⟨"MatrixModule$Operation", "takesPairs", "()Z"⟩, 7), (⟨"MatrixModule", "standInByRules", "(I)I"⟩, 11), (⟨"MatrixModule", "hasOnlySplats", "(LMatrixModule$Operation;)Z"⟩, 11), (⟨"MatrixModule", "foldedCell", "(LMatrixModule$Operation;)I"⟩, 11), (⟨"MatrixModule$Operation", "becomeSplat", "(I)V"⟩, 7), (⟨"MatrixModule", "alikeOrItself", "(I)I"⟩, 11)]
theorem lw_r1 : ∀ q ∈ lw_privs_1, lw_okq q := List.forall_mem_cons.mpr ⟨lw_p0, List.forall_mem_cons.mpr ⟨lw_p1, List.forall_mem_cons.mpr ⟨lw_p2, List.forall_mem_cons.mpr ⟨lw_p3, List.forall_mem_cons.mpr ⟨lw_p4, List.forall_mem_cons.mpr ⟨lw_p5, List.forall_mem_cons.mpr ⟨lw_p6, List.forall_mem_cons.mpr ⟨lw_p7, List.forall_mem_cons.mpr ⟨lw_p8, List.forall_mem_cons.mpr ⟨lw_p9, List.forall_mem_cons.mpr ⟨lw_p10, List.forall_mem_cons.mpr ⟨lw_p11, List.forall_mem_cons.mpr ⟨lw_p12, List.forall_mem_cons.mpr ⟨lw_p13, List.forall_mem_cons.mpr ⟨lw_p14, List.forall_mem_cons.mpr ⟨lw_p15, fun _ h => absurd h List.not_mem_nil⟩⟩⟩⟩⟩⟩⟩⟩⟩⟩⟩⟩⟩⟩⟩⟩
theorem lw_p16 : lw_okq (⟨"MatrixModule$Operation", "isLike", "(LMatrixModule$Operation;)Z"⟩, 7) := ⟨⟨by decide +kernel, by decide +kernel⟩, List.mem_of_getElem? (i := 18) (by decide +kernel), List.mem_of_getElem? (i := 210) (by decide +kernel), List.mem_of_getElem? (i := 211) (by decide +kernel)⟩
theorem lw_p17 : lw_okq (⟨"MatrixModule", "neutralOther", "(LMatrixModule$Operation;)I"⟩, 11) := ⟨⟨by decide +kernel, by decide +kernel⟩, List.mem_of_getElem? (i := 7) (by decide +kernel), List.mem_of_getElem? (i := 215) (by decide +kernel), List.mem_of_getElem? (i := 216) (by decide +kernel)⟩
theorem lw_p18 : lw_okq (⟨"MatrixModule$Operation", "isReshaping", "()Z"⟩, 7) := ⟨⟨by decide +kernel, by decide +kernel⟩, List.mem_of_getElem? (i := 18) (by decide +kernel), List.mem_of_getElem? (i := 219) (by decide +kernel), List.mem_of_getElem? (i := 220) (by decide +kernel)⟩
theorem lw_p19 : lw_okq (⟨"MatrixModule", "isSplat", "(II)Z"⟩, 11) := ⟨⟨by decide +kernel, by decide +kernel⟩, List.mem_of_getElem? (i := 7) (by decide +kernel), List.mem_of_getElem? (i := 223) (by decide +kernel), List.mem_of_getElem? (i := 224) (by decide +kernel)⟩
theorem lw_p20 : lw_okq (⟨"MatrixModule$Operation", "isSplatOf", "(I)Z"⟩, 7) := ⟨⟨by decide +kernel, by decide +kernel⟩, List.mem_of_getElem? (i := 18) (by decide +kernel), List.mem_of_getElem? (i := 227) (by decide +kernel), List.mem_of_getElem? (i := 228) (by decide +kernel)⟩
theorem lw_p21 : lw_okq (⟨"MatrixModule", "twiceInner", "(LMatrixModule$Operation;)I"⟩, 11) := ⟨⟨by decide +kernel, by decide +kernel⟩, List.mem_of_getElem? (i := 7) (by decide +kernel), List.mem_of_getElem? (i := 231) (by decide +kernel), List.mem_of_getElem? (i := 232) (by decide +kernel)⟩
theorem lw_p22 : lw_okq (⟨"MatrixModule", "workOut", "(I)V"⟩, 11) := ⟨⟨by decide +kernel, by decide +kernel⟩, List.mem_of_getElem? (i := 7) (by decide +kernel), List.mem_of_getElem? (i := 239) (by decide +kernel), List.mem_of_getElem? (i := 240) (by decide +kernel)⟩
theorem lw_p23 : lw_okq (⟨"MatrixModule", "workedCell", "(LMatrixModule$Operation;II)I"⟩, 11) := ⟨⟨by decide +kernel, by decide +kernel⟩, List.mem_of_getElem? (i := 7) (by decide +kernel), List.mem_of_getElem? (i := 243) (by decide +kernel), List.mem_of_getElem? (i := 244) (by decide +kernel)⟩
theorem lw_p24 : lw_okq (⟨"MatrixModule", "cellAt", "(III)I"⟩, 11) := ⟨⟨by decide +kernel, by decide +kernel⟩, List.mem_of_getElem? (i := 7) (by decide +kernel), List.mem_of_getElem? (i := 247) (by decide +kernel), List.mem_of_getElem? (i := 248) (by decide +kernel)⟩
theorem lw_p25 : lw_okq (⟨"MatrixModule", "dotCell", "(LMatrixModule$Operation;II)I"⟩, 11) := ⟨⟨by decide +kernel, by decide +kernel⟩, List.mem_of_getElem? (i := 7) (by decide +kernel), List.mem_of_getElem? (i := 251) (by decide +kernel), List.mem_of_getElem? (i := 252) (by decide +kernel)⟩
theorem lw_p26 : lw_okq (⟨"MatrixModule", "sumOfColumn", "(II)I"⟩, 11) := ⟨⟨by decide +kernel, by decide +kernel⟩, List.mem_of_getElem? (i := 7) (by decide +kernel), List.mem_of_getElem? (i := 255) (by decide +kernel), List.mem_of_getElem? (i := 256) (by decide +kernel)⟩
theorem lw_p27 : lw_okq (⟨"MatrixModule", "sumOfRow", "(II)I"⟩, 11) := ⟨⟨by decide +kernel, by decide +kernel⟩, List.mem_of_getElem? (i := 7) (by decide +kernel), List.mem_of_getElem? (i := 259) (by decide +kernel), List.mem_of_getElem? (i := 260) (by decide +kernel)⟩
theorem lw_p28 : lw_okq (⟨"MatrixModule", "spreadCell", "(III)I"⟩, 11) := ⟨⟨by decide +kernel, by decide +kernel⟩, List.mem_of_getElem? (i := 7) (by decide +kernel), List.mem_of_getElem? (i := 263) (by decide +kernel), List.mem_of_getElem? (i := 264) (by decide +kernel)⟩
theorem lw_p29 : lw_okq (⟨"MatrixModule", "workOfLive", "()I"⟩, 11) := ⟨⟨by decide +kernel, by decide +kernel⟩, List.mem_of_getElem? (i := 7) (by decide +kernel), List.mem_of_getElem? (i := 267) (by decide +kernel), List.mem_of_getElem? (i := 268) (by decide +kernel)⟩
theorem lw_p30 : lw_okq (⟨"MatrixModule", "workOf", "(LMatrixModule$Operation;)I"⟩, 11) := ⟨⟨by decide +kernel, by decide +kernel⟩, List.mem_of_getElem? (i := 7) (by decide +kernel), List.mem_of_getElem? (i := 271) (by decide +kernel), List.mem_of_getElem? (i := 272) (by decide +kernel)⟩
theorem lw_p31 : lw_okq (⟨"MatrixModule", "liveValues", "()I"⟩, 11) := ⟨⟨by decide +kernel, by decide +kernel⟩, List.mem_of_getElem? (i := 7) (by decide +kernel), List.mem_of_getElem? (i := 292) (by decide +kernel), List.mem_of_getElem? (i := 293) (by decide +kernel)⟩
def lw_privs_2 : List (MethodName × Nat) := [(⟨"MatrixModule$Operation", "isLike", "(LMatrixModule$Operation;)Z"⟩, 7), (⟨"MatrixModule", "neutralOther", "(LMatrixModule$Operation;)I"⟩, 11), (⟨"MatrixModule$Operation", "isReshaping", "()Z"⟩, 7), (⟨"MatrixModule", "isSplat", "(II)Z"⟩, 11), (⟨"MatrixModule$Operation", "isSplatOf", "(I)Z"⟩, 7), (⟨"MatrixModule", "twiceInner", "(LMatrixModule$Operation;)I"⟩, 11), (⟨"MatrixModule", "workOut", "(I)V"⟩, 11), (⟨"MatrixModule", "workedCell", "(LMatrixModule$Operation;II)I"⟩, 11), (⟨"MatrixModule", "cellAt", "(III)I"⟩, 11), (⟨"MatrixModule", "dotCell", "(LMatrixModule$Operation;II)I"⟩, 11), (⟨"MatrixModule", "sumOfColumn", "(II)I"⟩, 11), (⟨"MatrixModule", "sumOfRow", "(II)I"⟩, 11), (⟨"MatrixModule", "spreadCell", "(III)I"⟩, 11), (⟨"MatrixModule", "workOfLive", "()I"⟩, 11), (⟨"MatrixModule", "workOf", "(LMatrixModule$Operation;)I"⟩, 11), (⟨"MatrixModule", "liveValues", "()I"⟩, 11)]
theorem lw_r2 : ∀ q ∈ lw_privs_2, lw_okq q := List.forall_mem_cons.mpr ⟨lw_p16, List.forall_mem_cons.mpr ⟨lw_p17, List.forall_mem_cons.mpr ⟨lw_p18, List.forall_mem_cons.mpr ⟨lw_p19, List.forall_mem_cons.mpr ⟨lw_p20, List.forall_mem_cons.mpr ⟨lw_p21, List.forall_mem_cons.mpr ⟨lw_p22, List.forall_mem_cons.mpr ⟨lw_p23, List.forall_mem_cons.mpr ⟨lw_p24, List.forall_mem_cons.mpr ⟨lw_p25, List.forall_mem_cons.mpr ⟨lw_p26, List.forall_mem_cons.mpr ⟨lw_p27, List.forall_mem_cons.mpr ⟨lw_p28, List.forall_mem_cons.mpr ⟨lw_p29, List.forall_mem_cons.mpr ⟨lw_p30, List.forall_mem_cons.mpr ⟨lw_p31, fun _ h => absurd h List.not_mem_nil⟩⟩⟩⟩⟩⟩⟩⟩⟩⟩⟩⟩⟩⟩⟩⟩
theorem lw_p32 : lw_okq (⟨"MatrixModuleModel", "off", "(III)Z"⟩, 15) := ⟨⟨by decide +kernel, by decide +kernel⟩, List.mem_of_getElem? (i := 296) (by decide +kernel), List.mem_of_getElem? (i := 352) (by decide +kernel), List.mem_of_getElem? (i := 353) (by decide +kernel)⟩
theorem lw_p33 : lw_okq (⟨"MatrixModuleModel", "add", "(IIIIIII)I"⟩, 15) := ⟨⟨by decide +kernel, by decide +kernel⟩, List.mem_of_getElem? (i := 296) (by decide +kernel), List.mem_of_getElem? (i := 356) (by decide +kernel), List.mem_of_getElem? (i := 357) (by decide +kernel)⟩
theorem lw_p34 : lw_okq (⟨"MatrixModuleModel", "restore", "()V"⟩, 15) := ⟨⟨by decide +kernel, by decide +kernel⟩, List.mem_of_getElem? (i := 296) (by decide +kernel), List.mem_of_getElem? (i := 360) (by decide +kernel), List.mem_of_getElem? (i := 361) (by decide +kernel)⟩
theorem lw_p35 : lw_okq (⟨"MatrixModuleModel", "no", "(I)Z"⟩, 15) := ⟨⟨by decide +kernel, by decide +kernel⟩, List.mem_of_getElem? (i := 296) (by decide +kernel), List.mem_of_getElem? (i := 368) (by decide +kernel), List.mem_of_getElem? (i := 369) (by decide +kernel)⟩
theorem lw_p36 : lw_okq (⟨"MatrixModuleModel", "unary", "(I)Z"⟩, 15) := ⟨⟨by decide +kernel, by decide +kernel⟩, List.mem_of_getElem? (i := 296) (by decide +kernel), List.mem_of_getElem? (i := 372) (by decide +kernel), List.mem_of_getElem? (i := 373) (by decide +kernel)⟩
theorem lw_p37 : lw_okq (⟨"MatrixModuleModel", "simplifyOne", "(I)V"⟩, 15) := ⟨⟨by decide +kernel, by decide +kernel⟩, List.mem_of_getElem? (i := 296) (by decide +kernel), List.mem_of_getElem? (i := 396) (by decide +kernel), List.mem_of_getElem? (i := 397) (by decide +kernel)⟩
theorem lw_p38 : lw_okq (⟨"MatrixModuleModel", "rule", "(I)I"⟩, 15) := ⟨⟨by decide +kernel, by decide +kernel⟩, List.mem_of_getElem? (i := 296) (by decide +kernel), List.mem_of_getElem? (i := 400) (by decide +kernel), List.mem_of_getElem? (i := 401) (by decide +kernel)⟩
theorem lw_p39 : lw_okq (⟨"MatrixModuleModel", "folded", "(I)I"⟩, 15) := ⟨⟨by decide +kernel, by decide +kernel⟩, List.mem_of_getElem? (i := 296) (by decide +kernel), List.mem_of_getElem? (i := 404) (by decide +kernel), List.mem_of_getElem? (i := 405) (by decide +kernel)⟩
theorem lw_p40 : lw_okq (⟨"MatrixModuleModel", "become", "(II)V"⟩, 15) := ⟨⟨by decide +kernel, by decide +kernel⟩, List.mem_of_getElem? (i := 296) (by decide +kernel), List.mem_of_getElem? (i := 408) (by decide +kernel), List.mem_of_getElem? (i := 409) (by decide +kernel)⟩
theorem lw_p41 : lw_okq (⟨"MatrixModuleModel", "splat", "(II)Z"⟩, 15) := ⟨⟨by decide +kernel, by decide +kernel⟩, List.mem_of_getElem? (i := 296) (by decide +kernel), List.mem_of_getElem? (i := 412) (by decide +kernel), List.mem_of_getElem? (i := 413) (by decide +kernel)⟩
theorem lw_p42 : lw_okq (⟨"MatrixModuleModel", "sameShape", "(II)Z"⟩, 15) := ⟨⟨by decide +kernel, by decide +kernel⟩, List.mem_of_getElem? (i := 296) (by decide +kernel), List.mem_of_getElem? (i := 416) (by decide +kernel), List.mem_of_getElem? (i := 417) (by decide +kernel)⟩
theorem lw_p43 : lw_okq (⟨"MatrixModuleModel", "alike", "(II)Z"⟩, 15) := ⟨⟨by decide +kernel, by decide +kernel⟩, List.mem_of_getElem? (i := 296) (by decide +kernel), List.mem_of_getElem? (i := 420) (by decide +kernel), List.mem_of_getElem? (i := 421) (by decide +kernel)⟩
theorem lw_p44 : lw_okq (⟨"MatrixModuleModel", "isLive", "(I)Z"⟩, 15) := ⟨⟨by decide +kernel, by decide +kernel⟩, List.mem_of_getElem? (i := 296) (by decide +kernel), List.mem_of_getElem? (i := 428) (by decide +kernel), List.mem_of_getElem? (i := 429) (by decide +kernel)⟩
theorem lw_p45 : lw_okq (⟨"MatrixModuleModel", "workOf", "(I)I"⟩, 15) := ⟨⟨by decide +kernel, by decide +kernel⟩, List.mem_of_getElem? (i := 296) (by decide +kernel), List.mem_of_getElem? (i := 432) (by decide +kernel), List.mem_of_getElem? (i := 433) (by decide +kernel)⟩
theorem lw_p46 : lw_okq (⟨"MatrixModuleModel", "made", "(III)I"⟩, 15) := ⟨⟨by decide +kernel, by decide +kernel⟩, List.mem_of_getElem? (i := 296) (by decide +kernel), List.mem_of_getElem? (i := 436) (by decide +kernel), List.mem_of_getElem? (i := 437) (by decide +kernel)⟩
theorem lw_p47 : lw_okq (⟨"MatrixModuleModel", "at", "(III)I"⟩, 15) := ⟨⟨by decide +kernel, by decide +kernel⟩, List.mem_of_getElem? (i := 296) (by decide +kernel), List.mem_of_getElem? (i := 440) (by decide +kernel), List.mem_of_getElem? (i := 441) (by decide +kernel)⟩
def lw_privs_3 : List (MethodName × Nat) := [(⟨"MatrixModuleModel", "off", "(III)Z"⟩, 15), (⟨"MatrixModuleModel", "add", "(IIIIIII)I"⟩, 15), (⟨"MatrixModuleModel", "restore", "()V"⟩, 15), (⟨"MatrixModuleModel", "no", "(I)Z"⟩, 15), (⟨"MatrixModuleModel", "unary", "(I)Z"⟩, 15), (⟨"MatrixModuleModel", "simplifyOne", "(I)V"⟩, 15), (⟨"MatrixModuleModel", "rule", "(I)I"⟩, 15), (⟨"MatrixModuleModel", "folded", "(I)I"⟩, 15), (⟨"MatrixModuleModel", "become", "(II)V"⟩, 15), (⟨"MatrixModuleModel", "splat", "(II)Z"⟩, 15), (⟨"MatrixModuleModel", "sameShape", "(II)Z"⟩, 15), (⟨"MatrixModuleModel", "alike", "(II)Z"⟩, 15), (⟨"MatrixModuleModel", "isLive", "(I)Z"⟩, 15), (⟨"MatrixModuleModel", "workOf", "(I)I"⟩, 15), (⟨"MatrixModuleModel", "made", "(III)I"⟩, 15), (⟨"MatrixModuleModel", "at", "(III)I"⟩, 15)]
theorem lw_r3 : ∀ q ∈ lw_privs_3, lw_okq q := List.forall_mem_cons.mpr ⟨lw_p32, List.forall_mem_cons.mpr ⟨lw_p33, List.forall_mem_cons.mpr ⟨lw_p34, List.forall_mem_cons.mpr ⟨lw_p35, List.forall_mem_cons.mpr ⟨lw_p36, List.forall_mem_cons.mpr ⟨lw_p37, List.forall_mem_cons.mpr ⟨lw_p38, List.forall_mem_cons.mpr ⟨lw_p39, List.forall_mem_cons.mpr ⟨lw_p40, List.forall_mem_cons.mpr ⟨lw_p41, List.forall_mem_cons.mpr ⟨lw_p42, List.forall_mem_cons.mpr ⟨lw_p43, List.forall_mem_cons.mpr ⟨lw_p44, List.forall_mem_cons.mpr ⟨lw_p45, List.forall_mem_cons.mpr ⟨lw_p46, List.forall_mem_cons.mpr ⟨lw_p47, fun _ h => absurd h List.not_mem_nil⟩⟩⟩⟩⟩⟩⟩⟩⟩⟩⟩⟩⟩⟩⟩⟩
theorem lw_p48 : lw_okq (⟨"MatrixModuleModel", "total", "(III)I"⟩, 15) := ⟨⟨by decide +kernel, by decide +kernel⟩, List.mem_of_getElem? (i := 296) (by decide +kernel), List.mem_of_getElem? (i := 444) (by decide +kernel), List.mem_of_getElem? (i := 445) (by decide +kernel)⟩
def lw_privs_4 : List (MethodName × Nat) := [(⟨"MatrixModuleModel", "total", "(III)I"⟩, 15)]
theorem lw_r4 : ∀ q ∈ lw_privs_4, lw_okq q := List.forall_mem_cons.mpr ⟨lw_p48, fun _ h => absurd h List.not_mem_nil⟩
def lw_privs : List (MethodName × Nat) := lw_privs_1 ++ (lw_privs_2 ++ (lw_privs_3 ++ (lw_privs_4)))
def lw_tbl : List Cond := k2_sels lw_privs ++ tables_1
theorem lw_privs_ok : ∀ q ∈ lw_privs, lw_okq q := by
  show ∀ q ∈ lw_privs_1 ++ (lw_privs_2 ++ (lw_privs_3 ++ (lw_privs_4))), lw_okq q
  exact List.forall_mem_append.mpr ⟨lw_r1, List.forall_mem_append.mpr ⟨lw_r2, List.forall_mem_append.mpr ⟨lw_r3, lw_r4⟩⟩⟩
-- ===== end of PART A; then your names; then what follows =====
/-! ===== names of the program ===== -/
abbrev nm_O : String := "MatrixModule$Operation"
abbrev nm_C : String := "MatrixModule"
abbrev nm_M : String := "MatrixModuleModel"
abbrev nm_L : String := "MatrixModuleLaw"
def am_TW : List Cond := lw_tbl.filter goodWord
theorem am_TW_ok : ∀ w ∈ am_TW, (w.onTables && w.keeps) = true ∨ ∃ ty, w = .arrayClass ty := fun w h => good_of_word (List.mem_filter.mp h).2
theorem am_TW_in : ∀ w ∈ am_TW, w ∈ lw_tbl := fun w h => (List.mem_filter.mp h).1
theorem am_mem {w : Cond} (i : Nat) (h : lw_tbl[i]? = some w) (hg : goodWord w = true) : w ∈ am_TW := List.mem_filter.mpr ⟨List.mem_of_getElem? h, hg⟩
def tf_O : u_T := fun k => match k with
  | 0 => ("MatrixModule$Operation", "kind", "I", false)
  | 1 => ("MatrixModule$Operation", "rows", "I", false)
  | 2 => ("MatrixModule$Operation", "columns", "I", false)
  | 3 => ("MatrixModule$Operation", "first", "I", false)
  | 4 => ("MatrixModule$Operation", "second", "I", false)
  | 5 => ("MatrixModule$Operation", "p", "I", false)
  | _ => ("MatrixModule$Operation", "q", "I", false)
def ty_O : Nat → FieldType := fun k => match k with
  | 0 => .int
  | 1 => .int
  | 2 => .int
  | 3 => .int
  | 4 => .int
  | 5 => .int
  | _ => .int
def tf_C : u_T := fun k => match k with
  | 0 => ("MatrixModule", "added", "[LMatrixModule$Operation;", true)
  | 1 => ("MatrixModule", "present", "[LMatrixModule$Operation;", true)
  | 2 => ("MatrixModule", "standIns", "[I", true)
  | 3 => ("MatrixModule", "marked", "[Z", true)
  | 4 => ("MatrixModule", "live", "[Z", true)
  | 5 => ("MatrixModule", "cells", "[[I", true)
  | 6 => ("MatrixModule", "parameters", "[[I", true)
  | 7 => ("MatrixModule", "uses", "[I", true)
  | 8 => ("MatrixModule", "values", "I", false)
  | 9 => ("MatrixModule", "simplified", "Z", false)
  | _ => ("MatrixModule", "worked", "Z", false)
def ty_C : Nat → FieldType := fun k => match k with
  | 0 => .array (.object "MatrixModule$Operation")
  | 1 => .array (.object "MatrixModule$Operation")
  | 2 => .array (.int)
  | 3 => .array (.boolean)
  | 4 => .array (.boolean)
  | 5 => .array (.array (.int))
  | 6 => .array (.array (.int))
  | 7 => .array (.int)
  | 8 => .int
  | 9 => .boolean
  | _ => .boolean
def tf_M : u_T := fun k => match k with
  | 0 => ("MatrixModuleModel", "kind", "[I", true)
  | 1 => ("MatrixModuleModel", "first", "[I", true)
  | 2 => ("MatrixModuleModel", "second", "[I", true)
  | 3 => ("MatrixModuleModel", "np", "[I", true)
  | 4 => ("MatrixModuleModel", "nq", "[I", true)
  | 5 => ("MatrixModuleModel", "rows", "[I", true)
  | 6 => ("MatrixModuleModel", "columns", "[I", true)
  | 7 => ("MatrixModuleModel", "marked", "[Z", true)
  | 8 => ("MatrixModuleModel", "stand", "[I", true)
  | 9 => ("MatrixModuleModel", "parameters", "[I", true)
  | 10 => ("MatrixModuleModel", "cells", "[I", true)
  | 11 => ("MatrixModuleModel", "worked", "[Z", true)
  | 12 => ("MatrixModuleModel", "used", "[I", true)
  | 13 => ("MatrixModuleModel", "values", "I", false)
  | _ => ("MatrixModuleModel", "simple", "Z", false)
def ty_M : Nat → FieldType := fun k => match k with
  | 0 => .array (.int)
  | 1 => .array (.int)
  | 2 => .array (.int)
  | 3 => .array (.int)
  | 4 => .array (.int)
  | 5 => .array (.int)
  | 6 => .array (.int)
  | 7 => .array (.boolean)
  | 8 => .array (.int)
  | 9 => .array (.int)
  | 10 => .array (.int)
  | 11 => .array (.boolean)
  | 12 => .array (.int)
  | 13 => .int
  | _ => .boolean
def am_cl : List vw_C := [(nm_O, tf_O, 7), (nm_C, tf_C, 11), (nm_M, tf_M, 15)]
def am_ty (ci : Nat) : Nat → FieldType := match ci with
  | 0 => ty_O
  | 1 => ty_C
  | _ => ty_M
theorem cl_in_O : ∀ w ∈ u_ws nm_O tf_O 7, w ∈ am_TW := fun w h => List.mem_filter.mpr ((by decide +kernel : ∀ w ∈ u_ws nm_O tf_O 7, w ∈ lw_tbl ∧ goodWord w = true) w h)
theorem cl_ty_O : ∀ k, k < 7 → parseFieldDescriptor (tf_O k).2.2.1 = some (ty_O k) := by decide +kernel
theorem cl_nm_O : ∀ a, a < 7 → ∀ b, b < 7 → a ≠ b → (tf_O a).2.1 ≠ (tf_O b).2.1 := by decide +kernel
theorem cl_in_C : ∀ w ∈ u_ws nm_C tf_C 11, w ∈ am_TW := fun w h => List.mem_filter.mpr ((by decide +kernel : ∀ w ∈ u_ws nm_C tf_C 11, w ∈ lw_tbl ∧ goodWord w = true) w h)
theorem cl_ty_C : ∀ k, k < 11 → parseFieldDescriptor (tf_C k).2.2.1 = some (ty_C k) := by decide +kernel
theorem cl_nm_C : ∀ a, a < 11 → ∀ b, b < 11 → a ≠ b → (tf_C a).2.1 ≠ (tf_C b).2.1 := by decide +kernel
theorem cl_in_M : ∀ w ∈ u_ws nm_M tf_M 15, w ∈ am_TW := fun w h => List.mem_filter.mpr ((by decide +kernel : ∀ w ∈ u_ws nm_M tf_M 15, w ∈ lw_tbl ∧ goodWord w = true) w h)
theorem cl_ty_M : ∀ k, k < 15 → parseFieldDescriptor (tf_M k).2.2.1 = some (ty_M k) := by decide +kernel
theorem cl_nm_M : ∀ a, a < 15 → ∀ b, b < 15 → a ≠ b → (tf_M a).2.1 ≠ (tf_M b).2.1 := by decide +kernel
theorem am_cl_of {P : Nat → vw_C → Prop} (h0 : P 0 (nm_O, tf_O, 7)) (h1 : P 1 (nm_C, tf_C, 11)) (h2 : P 2 (nm_M, tf_M, 15)) {ci : Nat} {q : vw_C} (hq : am_cl[ci]? = some q) : P ci q := by
  match ci, hq with
  | 0, hq => cases hq; exact h0
  | 1, hq => cases hq; exact h1
  | 2, hq => cases hq; exact h2
  | k + 3, hq => simp [am_cl] at hq
theorem am_cl_in {ci : Nat} {q : vw_C} (hq : am_cl[ci]? = some q) : ∀ w ∈ u_ws q.1 q.2.1 q.2.2, w ∈ am_TW := am_cl_of (P := fun _ q => ∀ w ∈ u_ws q.1 q.2.1 q.2.2, w ∈ am_TW) cl_in_O cl_in_C cl_in_M hq
theorem am_cl_ty {ci : Nat} {q : vw_C} (hq : am_cl[ci]? = some q) : ∀ k, k < q.2.2 → parseFieldDescriptor (q.2.1 k).2.2.1 = some (am_ty ci k) := am_cl_of (P := fun ci q => ∀ k, k < q.2.2 → parseFieldDescriptor (q.2.1 k).2.2.1 = some (am_ty ci k)) cl_ty_O cl_ty_C cl_ty_M hq
theorem am_cl_nm {ci : Nat} {q : vw_C} (hq : am_cl[ci]? = some q) : ∀ a, a < q.2.2 → ∀ b, b < q.2.2 → a ≠ b → (q.2.1 a).2.1 ≠ (q.2.1 b).2.1 := am_cl_of (P := fun _ q => ∀ a, a < q.2.2 → ∀ b, b < q.2.2 → a ≠ b → (q.2.1 a).2.1 ≠ (q.2.1 b).2.1) cl_nm_O cl_nm_C cl_nm_M hq
def am_tys : List FieldType := [.int, .boolean, .object "MatrixModule$Operation", .array .int]
def am_AO : List String := ["MatrixModule$Operation"]
def am_NF : List (String × Nat × String × String × String × String) := [("MatrixModule", 129, "MatrixModule$Operation", "kind", "I", "MatrixModule"), ("MatrixModule", 83, "MatrixModule$Operation", "rows", "I", "MatrixModule"), ("MatrixModule", 89, "MatrixModule$Operation", "columns", "I", "MatrixModule"), ("MatrixModule", 132, "MatrixModule$Operation", "first", "I", "MatrixModule"), ("MatrixModule", 135, "MatrixModule$Operation", "second", "I", "MatrixModule"), ("MatrixModule", 138, "MatrixModule$Operation", "p", "I", "MatrixModule"), ("MatrixModule", 141, "MatrixModule$Operation", "q", "I", "MatrixModule")]
def am_NM : List (String × Nat × MethodName × String) := [("MatrixModule", 51, ⟨"MatrixModule$Operation", "<init>", "()V"⟩, "MatrixModule"), ("MatrixModule", 59, ⟨"MatrixModule$Operation", "become", "(IIIII)V"⟩, "MatrixModule"), ("MatrixModule", 151, ⟨"MatrixModule$Operation", "takeShape", "(II)V"⟩, "MatrixModule"), ("MatrixModule", 155, ⟨"MatrixModule$Operation", "copyFrom", "(LMatrixModule$Operation;)V"⟩, "MatrixModule"), ("MatrixModule", 147, ⟨"MatrixModule$Operation", "hasShapeOf", "(LMatrixModule$Operation;)Z"⟩, "MatrixModule"), ("MatrixModule", 165, ⟨"MatrixModule$Operation", "takesPairs", "()Z"⟩, "MatrixModule"), ("MatrixModule", 175, ⟨"MatrixModule$Operation", "becomeSplat", "(I)V"⟩, "MatrixModule"), ("MatrixModule", 201, ⟨"MatrixModule$Operation", "isLike", "(LMatrixModule$Operation;)Z"⟩, "MatrixModule"), ("MatrixModule", 198, ⟨"MatrixModule$Operation", "isReshaping", "()Z"⟩, "MatrixModule"), ("MatrixModule", 190, ⟨"MatrixModule$Operation", "isSplatOf", "(I)Z"⟩, "MatrixModule")]
/-- the cells in the order in which they are made -/
def am_pos (r i : Nat) : Nat := match r with
  | 0 => 0
  | 1 => 1
  | 2 => 2
  | 3 => 3
  | 4 => 4
  | 5 => 5
  | 6 => 6
  | 7 => 35
  | 8 => 41 + 2 * i
  | 9 => 42 + 2 * i
  | 10 => 7 + i
  | 11 => 36 + i
  | 12 => 40
  | n => 77 + n
abbrev mC_init : MethodName × ByteArray × Nat × Option FieldType := (⟨"MatrixModule", "<init>", "()V"⟩, prog_1_method_1_code, 2, (Option.none : Option Jvm.ClassFile.FieldType))
abbrev mC_source : MethodName × ByteArray × Nat × Option FieldType := (⟨"MatrixModule", "source", "(IIII)I"⟩, prog_1_method_2_code, 5, (Option.some Jvm.ClassFile.FieldType.int))
abbrev mC_operation : MethodName × ByteArray × Nat × Option FieldType := (⟨"MatrixModule", "operation", "(IIII)I"⟩, prog_1_method_3_code, 6, (Option.some Jvm.ClassFile.FieldType.int))
abbrev mC_reshape : MethodName × ByteArray × Nat × Option FieldType := (⟨"MatrixModule", "reshape", "(IIII)I"⟩, prog_1_method_4_code, 7, (Option.some Jvm.ClassFile.FieldType.int))
abbrev mC_part : MethodName × ByteArray × Nat × Option FieldType := (⟨"MatrixModule", "part", "(IIIII)I"⟩, prog_1_method_5_code, 6, (Option.some Jvm.ClassFile.FieldType.int))
abbrev mC_mark : MethodName × ByteArray × Nat × Option FieldType := (⟨"MatrixModule", "mark", "(IZ)I"⟩, prog_1_method_6_code, 3, (Option.some Jvm.ClassFile.FieldType.int))
abbrev mC_set : MethodName × ByteArray × Nat × Option FieldType := (⟨"MatrixModule", "set", "(IIII)I"⟩, prog_1_method_7_code, 5, (Option.some Jvm.ClassFile.FieldType.int))
abbrev mC_simplify : MethodName × ByteArray × Nat × Option FieldType := (⟨"MatrixModule", "simplify", "()I"⟩, prog_1_method_8_code, 3, (Option.some Jvm.ClassFile.FieldType.int))
abbrev mC_work : MethodName × ByteArray × Nat × Option FieldType := (⟨"MatrixModule", "work", "()I"⟩, prog_1_method_9_code, 2, (Option.some Jvm.ClassFile.FieldType.int))
abbrev mC_cell : MethodName × ByteArray × Nat × Option FieldType := (⟨"MatrixModule", "cell", "(III)J"⟩, prog_1_method_10_code, 4, (Option.some Jvm.ClassFile.FieldType.long))
abbrev mC_standIn : MethodName × ByteArray × Nat × Option FieldType := (⟨"MatrixModule", "standIn", "(I)I"⟩, prog_1_method_11_code, 2, (Option.some Jvm.ClassFile.FieldType.int))
abbrev mC_value : MethodName × ByteArray × Nat × Option FieldType := (⟨"MatrixModule", "value", "(II)I"⟩, prog_1_method_12_code, 4, (Option.some Jvm.ClassFile.FieldType.int))
abbrev mC_count : MethodName × ByteArray × Nat × Option FieldType := (⟨"MatrixModule", "count", "(I)I"⟩, prog_1_method_13_code, 2, (Option.some Jvm.ClassFile.FieldType.int))
abbrev mC_isValue : MethodName × ByteArray × Nat × Option FieldType := (⟨"MatrixModule", "isValue", "(I)Z"⟩, prog_1_method_14_code, 2, (Option.some Jvm.ClassFile.FieldType.boolean))
abbrev mC_isShape : MethodName × ByteArray × Nat × Option FieldType := (⟨"MatrixModule", "isShape", "(II)Z"⟩, prog_1_method_15_code, 2, (Option.some Jvm.ClassFile.FieldType.boolean))
abbrev mC_isPlace : MethodName × ByteArray × Nat × Option FieldType := (⟨"MatrixModule", "isPlace", "(II)Z"⟩, prog_1_method_16_code, 2, (Option.some Jvm.ClassFile.FieldType.boolean))
abbrev mC_isSourceNumber : MethodName × ByteArray × Nat × Option FieldType := (⟨"MatrixModule", "isSourceNumber", "(II)Z"⟩, prog_1_method_17_code, 2, (Option.some Jvm.ClassFile.FieldType.boolean))
abbrev mC_spreads : MethodName × ByteArray × Nat × Option FieldType := (⟨"MatrixModule", "spreads", "(II)Z"⟩, prog_1_method_18_code, 2, (Option.some Jvm.ClassFile.FieldType.boolean))
abbrev mC_shapesFit : MethodName × ByteArray × Nat × Option FieldType := (⟨"MatrixModule", "shapesFit", "(ILMatrixModule$Operation;LMatrixModule$Operation;)Z"⟩, prog_1_method_19_code, 3, (Option.some Jvm.ClassFile.FieldType.boolean))
abbrev mC_rowsOf : MethodName × ByteArray × Nat × Option FieldType := (⟨"MatrixModule", "rowsOf", "(ILMatrixModule$Operation;I)I"⟩, prog_1_method_20_code, 3, (Option.some Jvm.ClassFile.FieldType.int))
abbrev mC_columnsOf : MethodName × ByteArray × Nat × Option FieldType := (⟨"MatrixModule", "columnsOf", "(ILMatrixModule$Operation;LMatrixModule$Operation;I)I"⟩, prog_1_method_21_code, 4, (Option.some Jvm.ClassFile.FieldType.int))
abbrev mC_addWithShape : MethodName × ByteArray × Nat × Option FieldType := (⟨"MatrixModule", "addWithShape", "(II)I"⟩, prog_1_method_22_code, 4, (Option.some Jvm.ClassFile.FieldType.int))
abbrev mC_undoSimplifying : MethodName × ByteArray × Nat × Option FieldType := (⟨"MatrixModule", "undoSimplifying", "()V"⟩, prog_1_method_23_code, 2, (Option.none : Option Jvm.ClassFile.FieldType))
abbrev mC_findLive : MethodName × ByteArray × Nat × Option FieldType := (⟨"MatrixModule", "findLive", "()V"⟩, prog_1_method_24_code, 2, (Option.none : Option Jvm.ClassFile.FieldType))
abbrev mC_makeLive : MethodName × ByteArray × Nat × Option FieldType := (⟨"MatrixModule", "makeLive", "(I)V"⟩, prog_1_method_25_code, 2, (Option.none : Option Jvm.ClassFile.FieldType))
abbrev mC_liveValues : MethodName × ByteArray × Nat × Option FieldType := (⟨"MatrixModule", "liveValues", "()I"⟩, prog_1_method_26_code, 3, (Option.some Jvm.ClassFile.FieldType.int))
abbrev mC_workOfLive : MethodName × ByteArray × Nat × Option FieldType := (⟨"MatrixModule", "workOfLive", "()I"⟩, prog_1_method_27_code, 3, (Option.some Jvm.ClassFile.FieldType.int))
abbrev mC_workOf : MethodName × ByteArray × Nat × Option FieldType := (⟨"MatrixModule", "workOf", "(LMatrixModule$Operation;)I"⟩, prog_1_method_28_code, 3, (Option.some Jvm.ClassFile.FieldType.int))
abbrev mC_replaceArguments : MethodName × ByteArray × Nat × Option FieldType := (⟨"MatrixModule", "replaceArguments", "(LMatrixModule$Operation;)V"⟩, prog_1_method_29_code, 3, (Option.none : Option Jvm.ClassFile.FieldType))
abbrev mC_standInByRules : MethodName × ByteArray × Nat × Option FieldType := (⟨"MatrixModule", "standInByRules", "(I)I"⟩, prog_1_method_30_code, 5, (Option.some Jvm.ClassFile.FieldType.int))
abbrev mC_isSplat : MethodName × ByteArray × Nat × Option FieldType := (⟨"MatrixModule", "isSplat", "(II)Z"⟩, prog_1_method_31_code, 3, (Option.some Jvm.ClassFile.FieldType.boolean))
abbrev mC_hasOnlySplats : MethodName × ByteArray × Nat × Option FieldType := (⟨"MatrixModule", "hasOnlySplats", "(LMatrixModule$Operation;)Z"⟩, prog_1_method_32_code, 2, (Option.some Jvm.ClassFile.FieldType.boolean))
abbrev mC_foldedCell : MethodName × ByteArray × Nat × Option FieldType := (⟨"MatrixModule", "foldedCell", "(LMatrixModule$Operation;)I"⟩, prog_1_method_33_code, 5, (Option.some Jvm.ClassFile.FieldType.int))
abbrev mC_neutralOther : MethodName × ByteArray × Nat × Option FieldType := (⟨"MatrixModule", "neutralOther", "(LMatrixModule$Operation;)I"⟩, prog_1_method_34_code, 3, (Option.some Jvm.ClassFile.FieldType.int))
abbrev mC_twiceInner : MethodName × ByteArray × Nat × Option FieldType := (⟨"MatrixModule", "twiceInner", "(LMatrixModule$Operation;)I"⟩, prog_1_method_35_code, 3, (Option.some Jvm.ClassFile.FieldType.int))
abbrev mC_alikeOrItself : MethodName × ByteArray × Nat × Option FieldType := (⟨"MatrixModule", "alikeOrItself", "(I)I"⟩, prog_1_method_36_code, 3, (Option.some Jvm.ClassFile.FieldType.int))
abbrev mC_workOut : MethodName × ByteArray × Nat × Option FieldType := (⟨"MatrixModule", "workOut", "(I)V"⟩, prog_1_method_37_code, 5, (Option.none : Option Jvm.ClassFile.FieldType))
abbrev mC_workedCell : MethodName × ByteArray × Nat × Option FieldType := (⟨"MatrixModule", "workedCell", "(LMatrixModule$Operation;II)I"⟩, prog_1_method_38_code, 4, (Option.some Jvm.ClassFile.FieldType.int))
abbrev mC_cellAt : MethodName × ByteArray × Nat × Option FieldType := (⟨"MatrixModule", "cellAt", "(III)I"⟩, prog_1_method_39_code, 4, (Option.some Jvm.ClassFile.FieldType.int))
abbrev mC_dotCell : MethodName × ByteArray × Nat × Option FieldType := (⟨"MatrixModule", "dotCell", "(LMatrixModule$Operation;II)I"⟩, prog_1_method_40_code, 6, (Option.some Jvm.ClassFile.FieldType.int))
abbrev mC_sumOfColumn : MethodName × ByteArray × Nat × Option FieldType := (⟨"MatrixModule", "sumOfColumn", "(II)I"⟩, prog_1_method_41_code, 5, (Option.some Jvm.ClassFile.FieldType.int))
abbrev mC_sumOfRow : MethodName × ByteArray × Nat × Option FieldType := (⟨"MatrixModule", "sumOfRow", "(II)I"⟩, prog_1_method_42_code, 5, (Option.some Jvm.ClassFile.FieldType.int))
abbrev mC_spreadCell : MethodName × ByteArray × Nat × Option FieldType := (⟨"MatrixModule", "spreadCell", "(III)I"⟩, prog_1_method_43_code, 4, (Option.some Jvm.ClassFile.FieldType.int))
abbrev mO_init : MethodName × ByteArray × Nat × Option FieldType := (⟨"MatrixModule$Operation", "<init>", "()V"⟩, prog_2_method_1_code, 1, (Option.none : Option Jvm.ClassFile.FieldType))
abbrev mO_takeShape : MethodName × ByteArray × Nat × Option FieldType := (⟨"MatrixModule$Operation", "takeShape", "(II)V"⟩, prog_2_method_2_code, 3, (Option.none : Option Jvm.ClassFile.FieldType))
abbrev mO_become : MethodName × ByteArray × Nat × Option FieldType := (⟨"MatrixModule$Operation", "become", "(IIIII)V"⟩, prog_2_method_3_code, 6, (Option.none : Option Jvm.ClassFile.FieldType))
abbrev mO_becomeSplat : MethodName × ByteArray × Nat × Option FieldType := (⟨"MatrixModule$Operation", "becomeSplat", "(I)V"⟩, prog_2_method_4_code, 2, (Option.none : Option Jvm.ClassFile.FieldType))
abbrev mO_copyFrom : MethodName × ByteArray × Nat × Option FieldType := (⟨"MatrixModule$Operation", "copyFrom", "(LMatrixModule$Operation;)V"⟩, prog_2_method_5_code, 2, (Option.none : Option Jvm.ClassFile.FieldType))
abbrev mO_isSplatOf : MethodName × ByteArray × Nat × Option FieldType := (⟨"MatrixModule$Operation", "isSplatOf", "(I)Z"⟩, prog_2_method_6_code, 2, (Option.some Jvm.ClassFile.FieldType.boolean))
abbrev mO_takesPairs : MethodName × ByteArray × Nat × Option FieldType := (⟨"MatrixModule$Operation", "takesPairs", "()Z"⟩, prog_2_method_7_code, 1, (Option.some Jvm.ClassFile.FieldType.boolean))
abbrev mO_isReshaping : MethodName × ByteArray × Nat × Option FieldType := (⟨"MatrixModule$Operation", "isReshaping", "()Z"⟩, prog_2_method_8_code, 1, (Option.some Jvm.ClassFile.FieldType.boolean))
abbrev mO_hasShapeOf : MethodName × ByteArray × Nat × Option FieldType := (⟨"MatrixModule$Operation", "hasShapeOf", "(LMatrixModule$Operation;)Z"⟩, prog_2_method_9_code, 2, (Option.some Jvm.ClassFile.FieldType.boolean))
abbrev mO_isLike : MethodName × ByteArray × Nat × Option FieldType := (⟨"MatrixModule$Operation", "isLike", "(LMatrixModule$Operation;)Z"⟩, prog_2_method_10_code, 2, (Option.some Jvm.ClassFile.FieldType.boolean))
abbrev mM_init : MethodName × ByteArray × Nat × Option FieldType := (⟨"MatrixModuleModel", "<init>", "()V"⟩, prog_4_method_1_code, 1, (Option.none : Option Jvm.ClassFile.FieldType))
abbrev mM_off : MethodName × ByteArray × Nat × Option FieldType := (⟨"MatrixModuleModel", "off", "(III)Z"⟩, prog_4_method_2_code, 4, (Option.some Jvm.ClassFile.FieldType.boolean))
abbrev mM_no : MethodName × ByteArray × Nat × Option FieldType := (⟨"MatrixModuleModel", "no", "(I)Z"⟩, prog_4_method_3_code, 2, (Option.some Jvm.ClassFile.FieldType.boolean))
abbrev mM_unary : MethodName × ByteArray × Nat × Option FieldType := (⟨"MatrixModuleModel", "unary", "(I)Z"⟩, prog_4_method_4_code, 2, (Option.some Jvm.ClassFile.FieldType.boolean))
abbrev mM_restore : MethodName × ByteArray × Nat × Option FieldType := (⟨"MatrixModuleModel", "restore", "()V"⟩, prog_4_method_5_code, 2, (Option.none : Option Jvm.ClassFile.FieldType))
abbrev mM_add : MethodName × ByteArray × Nat × Option FieldType := (⟨"MatrixModuleModel", "add", "(IIIIIII)I"⟩, prog_4_method_6_code, 8, (Option.some Jvm.ClassFile.FieldType.int))
abbrev mM_source : MethodName × ByteArray × Nat × Option FieldType := (⟨"MatrixModuleModel", "source", "(IIII)I"⟩, prog_4_method_7_code, 5, (Option.some Jvm.ClassFile.FieldType.int))
abbrev mM_operation : MethodName × ByteArray × Nat × Option FieldType := (⟨"MatrixModuleModel", "operation", "(IIII)I"⟩, prog_4_method_8_code, 8, (Option.some Jvm.ClassFile.FieldType.int))
abbrev mM_reshape : MethodName × ByteArray × Nat × Option FieldType := (⟨"MatrixModuleModel", "reshape", "(IIII)I"⟩, prog_4_method_9_code, 7, (Option.some Jvm.ClassFile.FieldType.int))
abbrev mM_part : MethodName × ByteArray × Nat × Option FieldType := (⟨"MatrixModuleModel", "part", "(IIIII)I"⟩, prog_4_method_10_code, 6, (Option.some Jvm.ClassFile.FieldType.int))
abbrev mM_mark : MethodName × ByteArray × Nat × Option FieldType := (⟨"MatrixModuleModel", "mark", "(IZ)I"⟩, prog_4_method_11_code, 3, (Option.some Jvm.ClassFile.FieldType.int))
abbrev mM_set : MethodName × ByteArray × Nat × Option FieldType := (⟨"MatrixModuleModel", "set", "(IIII)I"⟩, prog_4_method_12_code, 5, (Option.some Jvm.ClassFile.FieldType.int))
abbrev mM_splat : MethodName × ByteArray × Nat × Option FieldType := (⟨"MatrixModuleModel", "splat", "(II)Z"⟩, prog_4_method_13_code, 3, (Option.some Jvm.ClassFile.FieldType.boolean))
abbrev mM_sameShape : MethodName × ByteArray × Nat × Option FieldType := (⟨"MatrixModuleModel", "sameShape", "(II)Z"⟩, prog_4_method_14_code, 3, (Option.some Jvm.ClassFile.FieldType.boolean))
abbrev mM_become : MethodName × ByteArray × Nat × Option FieldType := (⟨"MatrixModuleModel", "become", "(II)V"⟩, prog_4_method_15_code, 3, (Option.none : Option Jvm.ClassFile.FieldType))
abbrev mM_folded : MethodName × ByteArray × Nat × Option FieldType := (⟨"MatrixModuleModel", "folded", "(I)I"⟩, prog_4_method_16_code, 5, (Option.some Jvm.ClassFile.FieldType.int))
abbrev mM_rule : MethodName × ByteArray × Nat × Option FieldType := (⟨"MatrixModuleModel", "rule", "(I)I"⟩, prog_4_method_17_code, 6, (Option.some Jvm.ClassFile.FieldType.int))
abbrev mM_alike : MethodName × ByteArray × Nat × Option FieldType := (⟨"MatrixModuleModel", "alike", "(II)Z"⟩, prog_4_method_18_code, 3, (Option.some Jvm.ClassFile.FieldType.boolean))
abbrev mM_simplifyOne : MethodName × ByteArray × Nat × Option FieldType := (⟨"MatrixModuleModel", "simplifyOne", "(I)V"⟩, prog_4_method_19_code, 4, (Option.none : Option Jvm.ClassFile.FieldType))
abbrev mM_simplify : MethodName × ByteArray × Nat × Option FieldType := (⟨"MatrixModuleModel", "simplify", "()I"⟩, prog_4_method_20_code, 3, (Option.some Jvm.ClassFile.FieldType.int))
abbrev mM_isLive : MethodName × ByteArray × Nat × Option FieldType := (⟨"MatrixModuleModel", "isLive", "(I)Z"⟩, prog_4_method_21_code, 4, (Option.some Jvm.ClassFile.FieldType.boolean))
abbrev mM_workOf : MethodName × ByteArray × Nat × Option FieldType := (⟨"MatrixModuleModel", "workOf", "(I)I"⟩, prog_4_method_22_code, 2, (Option.some Jvm.ClassFile.FieldType.int))
abbrev mM_at : MethodName × ByteArray × Nat × Option FieldType := (⟨"MatrixModuleModel", "at", "(III)I"⟩, prog_4_method_23_code, 4, (Option.some Jvm.ClassFile.FieldType.int))
abbrev mM_made : MethodName × ByteArray × Nat × Option FieldType := (⟨"MatrixModuleModel", "made", "(III)I"⟩, prog_4_method_24_code, 6, (Option.some Jvm.ClassFile.FieldType.int))
abbrev mM_total : MethodName × ByteArray × Nat × Option FieldType := (⟨"MatrixModuleModel", "total", "(III)I"⟩, prog_4_method_25_code, 9, (Option.some Jvm.ClassFile.FieldType.int))
abbrev mM_work : MethodName × ByteArray × Nat × Option FieldType := (⟨"MatrixModuleModel", "work", "()I"⟩, prog_4_method_26_code, 4, (Option.some Jvm.ClassFile.FieldType.int))
abbrev mM_cell : MethodName × ByteArray × Nat × Option FieldType := (⟨"MatrixModuleModel", "cell", "(III)J"⟩, prog_4_method_27_code, 4, (Option.some Jvm.ClassFile.FieldType.long))
abbrev mM_standIn : MethodName × ByteArray × Nat × Option FieldType := (⟨"MatrixModuleModel", "standIn", "(I)I"⟩, prog_4_method_28_code, 2, (Option.some Jvm.ClassFile.FieldType.int))
abbrev mM_value : MethodName × ByteArray × Nat × Option FieldType := (⟨"MatrixModuleModel", "value", "(II)I"⟩, prog_4_method_29_code, 3, (Option.some Jvm.ClassFile.FieldType.int))
abbrev mM_count : MethodName × ByteArray × Nat × Option FieldType := (⟨"MatrixModuleModel", "count", "(I)I"⟩, prog_4_method_30_code, 4, (Option.some Jvm.ClassFile.FieldType.int))
abbrev mL_law : MethodName × ByteArray × Nat × Option FieldType := (⟨"MatrixModuleLaw", "law", "([I)Z"⟩, code, 4, (Option.some Jvm.ClassFile.FieldType.boolean))
abbrev mA_fill : MethodName × ByteArray × Nat × Option FieldType := (⟨"java/util/Arrays", "fill", "([II)V"⟩, prog_6_method_103_code, 4, (Option.none : Option Jvm.ClassFile.FieldType))
