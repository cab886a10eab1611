section
-- ===== PART A: goes FIRST, ahead of the names: the tables' words, and 'selects' of the private methods out of them =====
/-- a private method of a class that the tables say can be made, by its rows of tables_1 -/
def lw_okq (q : MethodName × Nat) : Prop := (q.1.cls ≠ "java/lang/invoke/MethodHandle" ∧ q.1.cls ≠ "java/lang/invoke/VarHandle") ∧ Cond.instantiable q.1.cls q.2 ∈ tables_1 ∧ Cond.privateMethod q.1 ∈ tables_1 ∧ Cond.instanceMethod q.1 ∈ tables_1
theorem lw_p0 : lw_okq (⟨"ThrowScenario$Program", "levelAt", "(I)I"⟩, 4) := ⟨⟨by decide +kernel, by decide +kernel⟩, List.mem_of_getElem? (i := 50) (by decide +kernel), List.mem_of_getElem? (i := 269) (by decide +kernel), List.mem_of_getElem? (i := 270) (by decide +kernel)⟩
theorem lw_p1 : lw_okq (⟨"ThrowScenario$Machine", "perform", "(IILThrowScenario$Thrown;)LThrowScenario$Way;"⟩, 15) := ⟨⟨by decide +kernel, by decide +kernel⟩, List.mem_of_getElem? (i := 114) (by decide +kernel), List.mem_of_getElem? (i := 343) (by decide +kernel), List.mem_of_getElem? (i := 344) (by decide +kernel)⟩
theorem lw_p2 : lw_okq (⟨"ThrowScenario$Machine", "mayBegin", "()Z"⟩, 15) := ⟨⟨by decide +kernel, by decide +kernel⟩, List.mem_of_getElem? (i := 114) (by decide +kernel), List.mem_of_getElem? (i := 347) (by decide +kernel), List.mem_of_getElem? (i := 348) (by decide +kernel)⟩
theorem lw_p3 : lw_okq (⟨"ThrowScenario$Machine", "sequence", "(LThrowScenario$Node;ILThrowScenario$Thrown;)LThrowScenario$Way;"⟩, 15) := ⟨⟨by decide +kernel, by decide +kernel⟩, List.mem_of_getElem? (i := 114) (by decide +kernel), List.mem_of_getElem? (i := 358) (by decide +kernel), List.mem_of_getElem? (i := 359) (by decide +kernel)⟩
theorem lw_p4 : lw_okq (⟨"ThrowScenario$Machine", "choose", "(LThrowScenario$Node;ILThrowScenario$Thrown;)LThrowScenario$Way;"⟩, 15) := ⟨⟨by decide +kernel, by decide +kernel⟩, List.mem_of_getElem? (i := 114) (by decide +kernel), List.mem_of_getElem? (i := 364) (by decide +kernel), List.mem_of_getElem? (i := 365) (by decide +kernel)⟩
theorem lw_p5 : lw_okq (⟨"ThrowScenario$Machine", "loop", "(LThrowScenario$Node;ILThrowScenario$Thrown;)LThrowScenario$Way;"⟩, 15) := ⟨⟨by decide +kernel, by decide +kernel⟩, List.mem_of_getElem? (i := 114) (by decide +kernel), List.mem_of_getElem? (i := 368) (by decide +kernel), List.mem_of_getElem? (i := 369) (by decide +kernel)⟩
theorem lw_p6 : lw_okq (⟨"ThrowScenario$Machine", "call", "(LThrowScenario$Node;I)LThrowScenario$Way;"⟩, 15) := ⟨⟨by decide +kernel, by decide +kernel⟩, List.mem_of_getElem? (i := 114) (by decide +kernel), List.mem_of_getElem? (i := 374) (by decide +kernel), List.mem_of_getElem? (i := 375) (by decide +kernel)⟩
theorem lw_p7 : lw_okq (⟨"ThrowScenario$Machine", "raise", "(IILThrowScenario$Thrown;)LThrowScenario$Way;"⟩, 15) := ⟨⟨by decide +kernel, by decide +kernel⟩, List.mem_of_getElem? (i := 114) (by decide +kernel), List.mem_of_getElem? (i := 379) (by decide +kernel), List.mem_of_getElem? (i := 380) (by decide +kernel)⟩
theorem lw_p8 : lw_okq (⟨"ThrowScenario$Machine", "tryAndCatch", "(LThrowScenario$Node;ILThrowScenario$Thrown;)LThrowScenario$Way;"⟩, 15) := ⟨⟨by decide +kernel, by decide +kernel⟩, List.mem_of_getElem? (i := 114) (by decide +kernel), List.mem_of_getElem? (i := 391) (by decide +kernel), List.mem_of_getElem? (i := 392) (by decide +kernel)⟩
theorem lw_p9 : lw_okq (⟨"ThrowScenario$Machine", "doBoth", "(LThrowScenario$Node;ILThrowScenario$Thrown;)LThrowScenario$Way;"⟩, 15) := ⟨⟨by decide +kernel, by decide +kernel⟩, List.mem_of_getElem? (i := 114) (by decide +kernel), List.mem_of_getElem? (i := 400) (by decide +kernel), List.mem_of_getElem? (i := 401) (by decide +kernel)⟩
theorem lw_p10 : lw_okq (⟨"ThrowScenario$Machine", "lock", "(LThrowScenario$Node;ILThrowScenario$Thrown;)LThrowScenario$Way;"⟩, 15) := ⟨⟨by decide +kernel, by decide +kernel⟩, List.mem_of_getElem? (i := 114) (by decide +kernel), List.mem_of_getElem? (i := 404) (by decide +kernel), List.mem_of_getElem? (i := 405) (by decide +kernel)⟩
theorem lw_p11 : lw_okq (⟨"ThrowScenario$Machine", "carry", "(ILThrowScenario$Way;)LThrowScenario$Way;"⟩, 15) := ⟨⟨by decide +kernel, by decide +kernel⟩, List.mem_of_getElem? (i := 114) (by decide +kernel), List.mem_of_getElem? (i := 408) (by decide +kernel), List.mem_of_getElem? (i := 409) (by decide +kernel)⟩
theorem lw_p12 : lw_okq (⟨"ThrowScenario$Machine", "rethrow", "(LThrowScenario$Thrown;)LThrowScenario$Way;"⟩, 15) := ⟨⟨by decide +kernel, by decide +kernel⟩, List.mem_of_getElem? (i := 114) (by decide +kernel), List.mem_of_getElem? (i := 414) (by decide +kernel), List.mem_of_getElem? (i := 415) (by decide +kernel)⟩
theorem lw_p13 : lw_okq (⟨"ThrowScenario$Machine", "divide", "(LThrowScenario$Node;)LThrowScenario$Way;"⟩, 15) := ⟨⟨by decide +kernel, by decide +kernel⟩, List.mem_of_getElem? (i := 114) (by decide +kernel), List.mem_of_getElem? (i := 418) (by decide +kernel), List.mem_of_getElem? (i := 419) (by decide +kernel)⟩
theorem lw_p14 : lw_okq (⟨"ThrowScenario$Machine", "index", "(LThrowScenario$Node;)LThrowScenario$Way;"⟩, 15) := ⟨⟨by decide +kernel, by decide +kernel⟩, List.mem_of_getElem? (i := 114) (by decide +kernel), List.mem_of_getElem? (i := 422) (by decide +kernel), List.mem_of_getElem? (i := 423) (by decide +kernel)⟩
theorem lw_p15 : lw_okq (⟨"ThrowScenario$Machine", "cast", "(LThrowScenario$Node;LThrowScenario$Thrown;)LThrowScenario$Way;"⟩, 15) := ⟨⟨by decide +kernel, by decide +kernel⟩, List.mem_of_getElem? (i := 114) (by decide +kernel), List.mem_of_getElem? (i := 426) (by decide +kernel), List.mem_of_getElem? (i := 427) (by decide +kernel)⟩
def lw_privs_1 : List (MethodName × Nat) := [(⟨"ThrowScenario$Program", "levelAt", "(I)I"⟩, 4), (⟨"ThrowScenario$Machine", "perform", "(IILThrowScenario$Thrown;)LThrowScenario$Way;"⟩, 15), (⟨"ThrowScenario$Machine", "mayBegin", "()Z"⟩, 15), (⟨"ThrowScenario$Machine", "sequence", "(LThrowScenario$Node;ILThrowScenario$Thrown;)LThrowScenario$Way;"⟩, 15), (⟨"ThrowScenario$Machine", "choose", "(LThrowScenario$Node;ILThrowScenario$Thrown;)LThrowScenario$Way;"⟩, 15), (⟨"ThrowScenario$Machine", "loop", "(LThrowScenario$Node;ILThrowScenario$Thrown;)LThrowScenario$Way;"⟩, 15), (⟨"ThrowScenario$Machine", "call", "(LThrowScenario$Node;I)LThrowScenario$Way;"⟩, 15), (⟨"ThrowScenario$Machine", "raise", "(IILThrowScenario$Thrown;)LThrowScenario$Way;"⟩, 15), (⟨"ThrowScenario$Machine", "tryAndCatch", "(LThrowScenario$Node;ILThrowScenario$Thrown;)LThrowScenario$Way;"⟩, 15), (⟨"ThrowScenario$Machine", "doBoth", "(LThrowScenario$Node;ILThrowScenario$Thrown;)LThrowScenario$Way;"⟩, 15), (⟨"ThrowScenario$Machine", "lock", "(LThrowScenario$Node;ILThrowScenario$Thrown;)LThrowScenario$Way;"⟩, 15), (⟨"ThrowScenario$Machine", "carry", "(ILThrowScenario$Way;)LThrowScenario$Way;"⟩, 15), (⟨"ThrowScenario$Machine", "rethrow", "(LThrowScenario$Thrown;)LThrowScenario$Way;"⟩, 15), (⟨"ThrowScenario$Machine", "divide", "(LThrowScenario$Node;)LThrowScenario$Way;"⟩, 15), (⟨"ThrowScenario$Machine", "index", "(LThrowScenario$Node;)LThrowScenario$Way;"⟩, 15), (⟨"ThrowScenario$Machine", "cast", "(LThrowScenario$Node;LThrowScenario$Thrown;)LThrowScenario$Way;"⟩, 15)]
theorem lw_r1 : ∀ q ∈ lw_privs_1, lw_okq q := List.forall_mem_cons.mpr ⟨lw_p0, List.forall_mem_cons.mpr ⟨lw_p1, List.forall_mem_cons.mpr ⟨lw_p2, List.forall_mem_cons.mpr ⟨lw_p3, List.forall_mem_cons.mpr ⟨lw_p4, List.forall_mem_cons.mpr ⟨lw_p5, List.forall_mem_cons.mpr ⟨lw_p6, List.forall_mem_cons.mpr ⟨lw_p7, List.forall_mem_cons.mpr ⟨lw_p8, List.forall_mem_cons.mpr ⟨lw_p9, List.forall_mem_cons.mpr ⟨lw_p10, List.forall_mem_cons.mpr ⟨lw_p11, List.forall_mem_cons.mpr ⟨lw_p12, List.forall_mem_cons.mpr ⟨lw_p13, List.forall_mem_cons.mpr ⟨lw_p14, List.forall_mem_cons.mpr ⟨lw_p15, fun _ h => absurd h List.not_mem_nil⟩⟩⟩⟩⟩⟩⟩⟩⟩⟩⟩⟩⟩⟩⟩⟩
theorem lw_p16 : lw_okq (⟨"ThrowScenario$Machine", "wake", "(LThrowScenario$Node;)LThrowScenario$Way;"⟩, 15) := ⟨⟨by decide +kernel, by decide +kernel⟩, List.mem_of_getElem? (i := 114) (by decide +kernel), List.mem_of_getElem? (i := 430) (by decide +kernel), List.mem_of_getElem? (i := 431) (by decide +kernel)⟩
theorem lw_p17 : lw_okq (⟨"ThrowScenario$Machine", "addToLog", "(I)V"⟩, 15) := ⟨⟨by decide +kernel, by decide +kernel⟩, List.mem_of_getElem? (i := 114) (by decide +kernel), List.mem_of_getElem? (i := 434) (by decide +kernel), List.mem_of_getElem? (i := 435) (by decide +kernel)⟩
theorem lw_p18 : lw_okq (⟨"ThrowScenario$Machine", "note", "(LThrowScenario$Node;LThrowScenario$Thrown;)LThrowScenario$Way;"⟩, 15) := ⟨⟨by decide +kernel, by decide +kernel⟩, List.mem_of_getElem? (i := 114) (by decide +kernel), List.mem_of_getElem? (i := 438) (by decide +kernel), List.mem_of_getElem? (i := 439) (by decide +kernel)⟩
theorem lw_p19 : lw_okq (⟨"ThrowScenario", "afterFailure", "(LThrowScenario$Thrown;)I"⟩, 8) := ⟨⟨by decide +kernel, by decide +kernel⟩, List.mem_of_getElem? (i := 23) (by decide +kernel), List.mem_of_getElem? (i := 451) (by decide +kernel), List.mem_of_getElem? (i := 452) (by decide +kernel)⟩
theorem lw_p20 : lw_okq (⟨"ThrowScenario$Report", "addChain", "(LThrowScenario$Thrown;)V"⟩, 1) := ⟨⟨by decide +kernel, by decide +kernel⟩, List.mem_of_getElem? (i := 71) (by decide +kernel), List.mem_of_getElem? (i := 660) (by decide +kernel), List.mem_of_getElem? (i := 661) (by decide +kernel)⟩
theorem lw_p21 : lw_okq (⟨"ThrowScenario$Report", "addName", "(LThrowScenario$Thrown;)V"⟩, 1) := ⟨⟨by decide +kernel, by decide +kernel⟩, List.mem_of_getElem? (i := 71) (by decide +kernel), List.mem_of_getElem? (i := 664) (by decide +kernel), List.mem_of_getElem? (i := 665) (by decide +kernel)⟩
theorem lw_p22 : lw_okq (⟨"ThrowScenarioModel", "badA", "(II)Z"⟩, 45) := ⟨⟨by decide +kernel, by decide +kernel⟩, List.mem_of_getElem? (i := 773) (by decide +kernel), List.mem_of_getElem? (i := 937) (by decide +kernel), List.mem_of_getElem? (i := 938) (by decide +kernel)⟩
theorem lw_p23 : lw_okq (⟨"ThrowScenarioModel", "noNode", "(I)Z"⟩, 45) := ⟨⟨by decide +kernel, by decide +kernel⟩, List.mem_of_getElem? (i := 773) (by decide +kernel), List.mem_of_getElem? (i := 941) (by decide +kernel), List.mem_of_getElem? (i := 942) (by decide +kernel)⟩
theorem lw_p24 : lw_okq (⟨"ThrowScenarioModel", "badB", "(II)Z"⟩, 45) := ⟨⟨by decide +kernel, by decide +kernel⟩, List.mem_of_getElem? (i := 773) (by decide +kernel), List.mem_of_getElem? (i := 945) (by decide +kernel), List.mem_of_getElem? (i := 946) (by decide +kernel)⟩
theorem lw_p25 : lw_okq (⟨"ThrowScenarioModel", "levelOf", "(IIII)I"⟩, 45) := ⟨⟨by decide +kernel, by decide +kernel⟩, List.mem_of_getElem? (i := 773) (by decide +kernel), List.mem_of_getElem? (i := 949) (by decide +kernel), List.mem_of_getElem? (i := 950) (by decide +kernel)⟩
theorem lw_p26 : lw_okq (⟨"ThrowScenarioModel", "complete", "(II)Z"⟩, 45) := ⟨⟨by decide +kernel, by decide +kernel⟩, List.mem_of_getElem? (i := 773) (by decide +kernel), List.mem_of_getElem? (i := 965) (by decide +kernel), List.mem_of_getElem? (i := 966) (by decide +kernel)⟩
theorem lw_p27 : lw_okq (⟨"ThrowScenarioModel", "begin", "(I)Z"⟩, 45) := ⟨⟨by decide +kernel, by decide +kernel⟩, List.mem_of_getElem? (i := 773) (by decide +kernel), List.mem_of_getElem? (i := 969) (by decide +kernel), List.mem_of_getElem? (i := 970) (by decide +kernel)⟩
theorem lw_p28 : lw_okq (⟨"ThrowScenarioModel", "go", "()V"⟩, 45) := ⟨⟨by decide +kernel, by decide +kernel⟩, List.mem_of_getElem? (i := 773) (by decide +kernel), List.mem_of_getElem? (i := 973) (by decide +kernel), List.mem_of_getElem? (i := 974) (by decide +kernel)⟩
theorem lw_p29 : lw_okq (⟨"ThrowScenarioModel", "simple", "(I)V"⟩, 45) := ⟨⟨by decide +kernel, by decide +kernel⟩, List.mem_of_getElem? (i := 773) (by decide +kernel), List.mem_of_getElem? (i := 980) (by decide +kernel), List.mem_of_getElem? (i := 981) (by decide +kernel)⟩
theorem lw_p30 : lw_okq (⟨"ThrowScenarioModel", "note", "(I)V"⟩, 45) := ⟨⟨by decide +kernel, by decide +kernel⟩, List.mem_of_getElem? (i := 773) (by decide +kernel), List.mem_of_getElem? (i := 984) (by decide +kernel), List.mem_of_getElem? (i := 985) (by decide +kernel)⟩
theorem lw_p31 : lw_okq (⟨"ThrowScenarioModel", "end", "(II)V"⟩, 45) := ⟨⟨by decide +kernel, by decide +kernel⟩, List.mem_of_getElem? (i := 773) (by decide +kernel), List.mem_of_getElem? (i := 988) (by decide +kernel), List.mem_of_getElem? (i := 989) (by decide +kernel)⟩
def lw_privs_2 : List (MethodName × Nat) := [(⟨"ThrowScenario$Machine", "wake", "(LThrowScenario$Node;)LThrowScenario$Way;"⟩, 15), (⟨"ThrowScenario$Machine", "addToLog", "(I)V"⟩, 15), (⟨"ThrowScenario$Machine", "note", "(LThrowScenario$Node;LThrowScenario$Thrown;)LThrowScenario$Way;"⟩, 15), (⟨"ThrowScenario", "afterFailure", "(LThrowScenario$Thrown;)I"⟩, 8), (⟨"ThrowScenario$Report", "addChain", "(LThrowScenario$Thrown;)V"⟩, 1), (⟨"ThrowScenario$Report", "addName", "(LThrowScenario$Thrown;)V"⟩, 1), (⟨"ThrowScenarioModel", "badA", "(II)Z"⟩, 45), (⟨"ThrowScenarioModel", "noNode", "(I)Z"⟩, 45), (⟨"ThrowScenarioModel", "badB", "(II)Z"⟩, 45), (⟨"ThrowScenarioModel", "levelOf", "(IIII)I"⟩, 45), (⟨"ThrowScenarioModel", "complete", "(II)Z"⟩, 45), (⟨"ThrowScenarioModel", "begin", "(I)Z"⟩, 45), (⟨"ThrowScenarioModel", "go", "()V"⟩, 45), (⟨"ThrowScenarioModel", "simple", "(I)V"⟩, 45), (⟨"ThrowScenarioModel", "note", "(I)V"⟩, 45), (⟨"ThrowScenarioModel", "end", "(II)V"⟩, 45)]
theorem lw_r2 : ∀ q ∈ lw_privs_2, lw_okq q := List.forall_mem_cons.mpr ⟨lw_p16, List.forall_mem_cons.mpr ⟨lw_p17, List.forall_mem_cons.mpr ⟨lw_p18, List.forall_mem_cons.mpr ⟨lw_p19, List.forall_mem_cons.mpr ⟨lw_p20, List.forall_mem_cons.mpr ⟨lw_p21, List.forall_mem_cons.mpr ⟨lw_p22, List.forall_mem_cons.mpr ⟨lw_p23, List.forall_mem_cons.mpr ⟨lw_p24, List.forall_mem_cons.mpr ⟨lw_p25, List.forall_mem_cons.mpr ⟨lw_p26, List.forall_mem_cons.mpr ⟨lw_p27, List.forall_mem_cons.mpr ⟨lw_p28, List.forall_mem_cons.mpr ⟨lw_p29, List.forall_mem_cons.mpr ⟨lw_p30, List.forall_mem_cons.mpr ⟨lw_p31, fun _ h => absurd h List.not_mem_nil⟩⟩⟩⟩⟩⟩⟩⟩⟩⟩⟩⟩⟩⟩⟩⟩
theorem lw_p32 : lw_okq (⟨"ThrowScenarioModel", "endThrow", "(III)V"⟩, 45) := ⟨⟨by decide +kernel, by decide +kernel⟩, List.mem_of_getElem? (i := 773) (by decide +kernel), List.mem_of_getElem? (i := 992) (by decide +kernel), List.mem_of_getElem? (i := 993) (by decide +kernel)⟩
theorem lw_p33 : lw_okq (⟨"ThrowScenarioModel", "machine", "(II)V"⟩, 45) := ⟨⟨by decide +kernel, by decide +kernel⟩, List.mem_of_getElem? (i := 773) (by decide +kernel), List.mem_of_getElem? (i := 996) (by decide +kernel), List.mem_of_getElem? (i := 997) (by decide +kernel)⟩
theorem lw_p34 : lw_okq (⟨"ThrowScenarioModel", "is", "(II)Z"⟩, 45) := ⟨⟨by decide +kernel, by decide +kernel⟩, List.mem_of_getElem? (i := 773) (by decide +kernel), List.mem_of_getElem? (i := 1000) (by decide +kernel), List.mem_of_getElem? (i := 1001) (by decide +kernel)⟩
theorem lw_p35 : lw_okq (⟨"ThrowScenarioModel", "lastOf", "(I)I"⟩, 45) := ⟨⟨by decide +kernel, by decide +kernel⟩, List.mem_of_getElem? (i := 773) (by decide +kernel), List.mem_of_getElem? (i := 1004) (by decide +kernel), List.mem_of_getElem? (i := 1005) (by decide +kernel)⟩
theorem lw_p36 : lw_okq (⟨"ThrowScenarioModel", "branch", "(II)V"⟩, 45) := ⟨⟨by decide +kernel, by decide +kernel⟩, List.mem_of_getElem? (i := 773) (by decide +kernel), List.mem_of_getElem? (i := 1008) (by decide +kernel), List.mem_of_getElem? (i := 1009) (by decide +kernel)⟩
theorem lw_p37 : lw_okq (⟨"ThrowScenarioModel", "loop", "(III)V"⟩, 45) := ⟨⟨by decide +kernel, by decide +kernel⟩, List.mem_of_getElem? (i := 773) (by decide +kernel), List.mem_of_getElem? (i := 1012) (by decide +kernel), List.mem_of_getElem? (i := 1013) (by decide +kernel)⟩
theorem lw_p38 : lw_okq (⟨"ThrowScenarioModel", "call", "(III)V"⟩, 45) := ⟨⟨by decide +kernel, by decide +kernel⟩, List.mem_of_getElem? (i := 773) (by decide +kernel), List.mem_of_getElem? (i := 1016) (by decide +kernel), List.mem_of_getElem? (i := 1017) (by decide +kernel)⟩
theorem lw_p39 : lw_okq (⟨"ThrowScenarioModel", "attempt", "(III)V"⟩, 45) := ⟨⟨by decide +kernel, by decide +kernel⟩, List.mem_of_getElem? (i := 773) (by decide +kernel), List.mem_of_getElem? (i := 1020) (by decide +kernel), List.mem_of_getElem? (i := 1021) (by decide +kernel)⟩
theorem lw_p40 : lw_okq (⟨"ThrowScenarioModel", "lock", "(II)V"⟩, 45) := ⟨⟨by decide +kernel, by decide +kernel⟩, List.mem_of_getElem? (i := 773) (by decide +kernel), List.mem_of_getElem? (i := 1024) (by decide +kernel), List.mem_of_getElem? (i := 1025) (by decide +kernel)⟩
theorem lw_p41 : lw_okq (⟨"ThrowScenarioModel", "atLast", "(III)V"⟩, 45) := ⟨⟨by decide +kernel, by decide +kernel⟩, List.mem_of_getElem? (i := 773) (by decide +kernel), List.mem_of_getElem? (i := 1028) (by decide +kernel), List.mem_of_getElem? (i := 1029) (by decide +kernel)⟩
theorem lw_p42 : lw_okq (⟨"ThrowScenarioModel", "settle", "()V"⟩, 45) := ⟨⟨by decide +kernel, by decide +kernel⟩, List.mem_of_getElem? (i := 773) (by decide +kernel), List.mem_of_getElem? (i := 1032) (by decide +kernel), List.mem_of_getElem? (i := 1033) (by decide +kernel)⟩
theorem lw_p43 : lw_okq (⟨"ThrowScenarioModel", "write", "()V"⟩, 45) := ⟨⟨by decide +kernel, by decide +kernel⟩, List.mem_of_getElem? (i := 773) (by decide +kernel), List.mem_of_getElem? (i := 1036) (by decide +kernel), List.mem_of_getElem? (i := 1037) (by decide +kernel)⟩
theorem lw_p44 : lw_okq (⟨"ThrowScenarioModel", "outcomeWord", "()V"⟩, 45) := ⟨⟨by decide +kernel, by decide +kernel⟩, List.mem_of_getElem? (i := 773) (by decide +kernel), List.mem_of_getElem? (i := 1040) (by decide +kernel), List.mem_of_getElem? (i := 1041) (by decide +kernel)⟩
theorem lw_p45 : lw_okq (⟨"ThrowScenarioModel", "word", "(JZ)V"⟩, 45) := ⟨⟨by decide +kernel, by decide +kernel⟩, List.mem_of_getElem? (i := 773) (by decide +kernel), List.mem_of_getElem? (i := 1045) (by decide +kernel), List.mem_of_getElem? (i := 1046) (by decide +kernel)⟩
theorem lw_p46 : lw_okq (⟨"ThrowScenarioModel", "letter", "(I)V"⟩, 45) := ⟨⟨by decide +kernel, by decide +kernel⟩, List.mem_of_getElem? (i := 773) (by decide +kernel), List.mem_of_getElem? (i := 1049) (by decide +kernel), List.mem_of_getElem? (i := 1050) (by decide +kernel)⟩
theorem lw_p47 : lw_okq (⟨"ThrowScenarioModel", "number", "(I)V"⟩, 45) := ⟨⟨by decide +kernel, by decide +kernel⟩, List.mem_of_getElem? (i := 773) (by decide +kernel), List.mem_of_getElem? (i := 1059) (by decide +kernel), List.mem_of_getElem? (i := 1060) (by decide +kernel)⟩
def lw_privs_3 : List (MethodName × Nat) := [(⟨"ThrowScenarioModel", "endThrow", "(III)V"⟩, 45), (⟨"ThrowScenarioModel", "machine", "(II)V"⟩, 45), (⟨"ThrowScenarioModel", "is", "(II)Z"⟩, 45), (⟨"ThrowScenarioModel", "lastOf", "(I)I"⟩, 45), (⟨"ThrowScenarioModel", "branch", "(II)V"⟩, 45), (⟨"ThrowScenarioModel", "loop", "(III)V"⟩, 45), (⟨"ThrowScenarioModel", "call", "(III)V"⟩, 45), (⟨"ThrowScenarioModel", "attempt", "(III)V"⟩, 45), (⟨"ThrowScenarioModel", "lock", "(II)V"⟩, 45), (⟨"ThrowScenarioModel", "atLast", "(III)V"⟩, 45), (⟨"ThrowScenarioModel", "settle", "()V"⟩, 45), (⟨"ThrowScenarioModel", "write", "()V"⟩, 45), (⟨"ThrowScenarioModel", "outcomeWord", "()V"⟩, 45), (⟨"ThrowScenarioModel", "word", "(JZ)V"⟩, 45), (⟨"ThrowScenarioModel", "letter", "(I)V"⟩, 45), (⟨"ThrowScenarioModel", "number", "(I)V"⟩, 45)]
theorem lw_r3 : ∀ q ∈ lw_privs_3, lw_okq q := List.forall_mem_cons.mpr ⟨lw_p32, List.forall_mem_cons.mpr ⟨lw_p33, List.forall_mem_cons.mpr ⟨lw_p34, List.forall_mem_cons.mpr ⟨lw_p35, List.forall_mem_cons.mpr ⟨lw_p36, List.forall_mem_cons.mpr ⟨lw_p37, List.forall_mem_cons.mpr ⟨lw_p38, List.forall_mem_cons.mpr ⟨lw_p39, List.forall_mem_cons.mpr ⟨lw_p40, List.forall_mem_cons.mpr ⟨lw_p41, List.forall_mem_cons.mpr ⟨lw_p42, List.forall_mem_cons.mpr ⟨lw_p43, List.forall_mem_cons.mpr ⟨lw_p44, List.forall_mem_cons.mpr ⟨lw_p45, List.forall_mem_cons.mpr ⟨lw_p46, List.forall_mem_cons.mpr ⟨lw_p47, fun _ h => absurd h List.not_mem_nil⟩⟩⟩⟩⟩⟩⟩⟩⟩⟩⟩⟩⟩⟩⟩⟩
theorem lw_p48 : lw_okq (⟨"ThrowScenarioModel", "name", "(I)V"⟩, 45) := ⟨⟨by decide +kernel, by decide +kernel⟩, List.mem_of_getElem? (i := 773) (by decide +kernel), List.mem_of_getElem? (i := 1064) (by decide +kernel), List.mem_of_getElem? (i := 1065) (by decide +kernel)⟩
theorem lw_p49 : lw_okq (⟨"ThrowScenarioModel", "chained", "(III)J"⟩, 45) := ⟨⟨by decide +kernel, by decide +kernel⟩, List.mem_of_getElem? (i := 773) (by decide +kernel), List.mem_of_getElem? (i := 1088) (by decide +kernel), List.mem_of_getElem? (i := 1089) (by decide +kernel)⟩
def lw_privs_4 : List (MethodName × Nat) := [(⟨"ThrowScenarioModel", "name", "(I)V"⟩, 45), (⟨"ThrowScenarioModel", "chained", "(III)J"⟩, 45)]
theorem lw_r4 : ∀ q ∈ lw_privs_4, lw_okq q := List.forall_mem_cons.mpr ⟨lw_p48, List.forall_mem_cons.mpr ⟨lw_p49, fun _ h => absurd h List.not_mem_nil⟩⟩
def lw_privs : List (MethodName × Nat) := lw_privs_1 ++ (lw_privs_2 ++ (lw_privs_3 ++ (lw_privs_4)))
def lw_tbl : List Cond := k2_sels lw_privs ++ tables_1
theorem lw_privs_ok : ∀ q ∈ lw_privs, lw_okq q := by
  show ∀ q ∈ lw_privs_1 ++ (lw_privs_2 ++ (lw_privs_3 ++ (lw_privs_4))), lw_okq q
  exact List.forall_mem_append.mpr ⟨lw_r1, List.forall_mem_append.mpr ⟨lw_r2, List.forall_mem_append.mpr ⟨lw_r3, lw_r4⟩⟩⟩
-- ===== end of PART A; then your names; then what follows =====
end
section
def RxT : String := "ThrowScenario"
def TxT : u_T := fun k => match k with
  | 0 => ("ThrowScenario", "classes", "LThrowScenario$Classes;", true)
  | 1 => ("ThrowScenario", "program", "LThrowScenario$Program;", true)
  | 2 => ("ThrowScenario", "text", "LThrowScenario$Report;", true)
  | 3 => ("ThrowScenario", "machine", "LThrowScenario$Machine;", true)
  | 4 => ("ThrowScenario", "dispatchedTo", "I", false)
  | 5 => ("ThrowScenario", "told", "J", false)
  | 6 => ("ThrowScenario", "firstThrown", "LThrowScenario$Thrown;", false)
  | _ => ("ThrowScenario", "secondThrown", "LThrowScenario$Thrown;", false)
def txT : Nat → FieldType := fun k => match k with
  | 0 => .object "ThrowScenario$Classes"
  | 1 => .object "ThrowScenario$Program"
  | 2 => .object "ThrowScenario$Report"
  | 3 => .object "ThrowScenario$Machine"
  | 4 => .int
  | 5 => .long
  | 6 => .object "ThrowScenario$Thrown"
  | _ => .object "ThrowScenario$Thrown"
theorem nxT : ∀ a, a < 8 → ∀ b, b < 8 → a ≠ b → (TxT a).2.1 ≠ (TxT b).2.1 := by decide +kernel
theorem oxT : ∀ k, k < 8 → parseFieldDescriptor (TxT k).2.2.1 = some (txT k) := by decide +kernel
def RxC : String := "ThrowScenario$Classes"
def TxC : u_T := fun k => match k with
  | 0 => ("ThrowScenario$Classes", "parents", "[I", true)
  | _ => ("ThrowScenario$Classes", "size", "I", false)
def txC : Nat → FieldType := fun k => match k with
  | 0 => .array .int
  | _ => .int
theorem nxC : ∀ a, a < 2 → ∀ b, b < 2 → a ≠ b → (TxC a).2.1 ≠ (TxC b).2.1 := by decide +kernel
theorem oxC : ∀ k, k < 2 → parseFieldDescriptor (TxC k).2.2.1 = some (txC k) := by decide +kernel
def RxM : String := "ThrowScenario$Machine"
def TxM : u_T := fun k => match k with
  | 0 => ("ThrowScenario$Machine", "program", "LThrowScenario$Program;", true)
  | 1 => ("ThrowScenario$Machine", "classes", "LThrowScenario$Classes;", true)
  | 2 => ("ThrowScenario$Machine", "limit", "I", true)
  | 3 => ("ThrowScenario$Machine", "variables", "[I", true)
  | 4 => ("ThrowScenario$Machine", "held", "[I", true)
  | 5 => ("ThrowScenario$Machine", "log", "[I", true)
  | 6 => ("ThrowScenario$Machine", "throwables", "[LThrowScenario$Thrown;", true)
  | 7 => ("ThrowScenario$Machine", "logSize", "I", false)
  | 8 => ("ThrowScenario$Machine", "made", "I", false)
  | 9 => ("ThrowScenario$Machine", "begun", "I", false)
  | 10 => ("ThrowScenario$Machine", "handlers", "I", false)
  | 11 => ("ThrowScenario$Machine", "secondParts", "I", false)
  | 12 => ("ThrowScenario$Machine", "deepest", "I", false)
  | 13 => ("ThrowScenario$Machine", "carried", "I", false)
  | _ => ("ThrowScenario$Machine", "thrown", "LThrowScenario$Thrown;", false)
def txM : Nat → FieldType := fun k => match k with
  | 0 => .object "ThrowScenario$Program"
  | 1 => .object "ThrowScenario$Classes"
  | 2 => .int
  | 3 => .array .int
  | 4 => .array .int
  | 5 => .array .int
  | 6 => .array (.object "ThrowScenario$Thrown")
  | 7 => .int
  | 8 => .int
  | 9 => .int
  | 10 => .int
  | 11 => .int
  | 12 => .int
  | 13 => .int
  | _ => .object "ThrowScenario$Thrown"
theorem nxM : ∀ a, a < 15 → ∀ b, b < 15 → a ≠ b → (TxM a).2.1 ≠ (TxM b).2.1 := by decide +kernel
theorem oxM : ∀ k, k < 15 → parseFieldDescriptor (TxM k).2.2.1 = some (txM k) := by decide +kernel
def RxN : String := "ThrowScenario$Node"
def TxN : u_T := fun k => match k with
  | 0 => ("ThrowScenario$Node", "kind", "I", true)
  | 1 => ("ThrowScenario$Node", "a", "I", true)
  | 2 => ("ThrowScenario$Node", "b", "I", true)
  | 3 => ("ThrowScenario$Node", "c", "I", true)
  | _ => ("ThrowScenario$Node", "level", "I", true)
def txN : Nat → FieldType := fun k => match k with
  | 0 => .int
  | 1 => .int
  | 2 => .int
  | 3 => .int
  | _ => .int
theorem nxN : ∀ a, a < 5 → ∀ b, b < 5 → a ≠ b → (TxN a).2.1 ≠ (TxN b).2.1 := by decide +kernel
theorem oxN : ∀ k, k < 5 → parseFieldDescriptor (TxN k).2.2.1 = some (txN k) := by decide +kernel
def RxP : String := "ThrowScenario$Program"
def TxP : u_T := fun k => match k with
  | 0 => ("ThrowScenario$Program", "classes", "LThrowScenario$Classes;", true)
  | 1 => ("ThrowScenario$Program", "nodes", "[LThrowScenario$Node;", true)
  | 2 => ("ThrowScenario$Program", "statements", "[I", true)
  | _ => ("ThrowScenario$Program", "size", "I", false)
def txP : Nat → FieldType := fun k => match k with
  | 0 => .object "ThrowScenario$Classes"
  | 1 => .array (.object "ThrowScenario$Node")
  | 2 => .array .int
  | _ => .int
theorem nxP : ∀ a, a < 4 → ∀ b, b < 4 → a ≠ b → (TxP a).2.1 ≠ (TxP b).2.1 := by decide +kernel
theorem oxP : ∀ k, k < 4 → parseFieldDescriptor (TxP k).2.2.1 = some (txP k) := by decide +kernel
def RxR : String := "ThrowScenario$Report"
def TxR : u_T := fun k => match k with
  | _ => ("ThrowScenario$Report", "text", "Ljava/lang/StringBuilder;", true)
def txR : Nat → FieldType := fun k => match k with
  | _ => .object "java/lang/StringBuilder"
theorem nxR : ∀ a, a < 1 → ∀ b, b < 1 → a ≠ b → (TxR a).2.1 ≠ (TxR b).2.1 := by decide +kernel
theorem oxR : ∀ k, k < 1 → parseFieldDescriptor (TxR k).2.2.1 = some (txR k) := by decide +kernel
def RxH : String := "ThrowScenario$Thrown"
def TxH : u_T := fun k => match k with
  | 0 => ("ThrowScenario$Thrown", "type", "I", false)
  | 1 => ("ThrowScenario$Thrown", "message", "I", false)
  | 2 => ("ThrowScenario$Thrown", "cause", "LThrowScenario$Thrown;", false)
  | _ => ("ThrowScenario$Thrown", "suppressed", "I", false)
def txH : Nat → FieldType := fun k => match k with
  | 0 => .int
  | 1 => .int
  | 2 => .object "ThrowScenario$Thrown"
  | _ => .int
theorem nxH : ∀ a, a < 4 → ∀ b, b < 4 → a ≠ b → (TxH a).2.1 ≠ (TxH b).2.1 := by decide +kernel
theorem oxH : ∀ k, k < 4 → parseFieldDescriptor (TxH k).2.2.1 = some (txH k) := by decide +kernel
def RxW : String := "ThrowScenario$Way"
def RxK : String := "ThrowScenario$Kind"
def RxQ : String := "ThrowScenarioModel"
def TxQ : u_T := fun k => match k with
  | 0 => ("ThrowScenarioModel", "words", "[J", true)
  | 1 => ("ThrowScenarioModel", "limit", "I", true)
  | 2 => ("ThrowScenarioModel", "parent", "[I", true)
  | 3 => ("ThrowScenarioModel", "classes", "I", false)
  | 4 => ("ThrowScenarioModel", "kind", "[I", true)
  | 5 => ("ThrowScenarioModel", "a", "[I", true)
  | 6 => ("ThrowScenarioModel", "b", "[I", true)
  | 7 => ("ThrowScenarioModel", "c", "[I", true)
  | 8 => ("ThrowScenarioModel", "level", "[I", true)
  | 9 => ("ThrowScenarioModel", "nodes", "I", false)
  | 10 => ("ThrowScenarioModel", "routine", "[I", true)
  | 11 => ("ThrowScenarioModel", "dispatched", "I", false)
  | 12 => ("ThrowScenarioModel", "tClass", "[I", true)
  | 13 => ("ThrowScenarioModel", "tMessage", "[I", true)
  | 14 => ("ThrowScenarioModel", "tCause", "[I", true)
  | 15 => ("ThrowScenarioModel", "tSuppressed", "[I", true)
  | 16 => ("ThrowScenarioModel", "throwables", "I", false)
  | 17 => ("ThrowScenarioModel", "variables", "[I", true)
  | 18 => ("ThrowScenarioModel", "monitors", "[I", true)
  | 19 => ("ThrowScenarioModel", "log", "[I", true)
  | 20 => ("ThrowScenarioModel", "logs", "I", false)
  | 21 => ("ThrowScenarioModel", "begun", "I", false)
  | 22 => ("ThrowScenarioModel", "handlers", "I", false)
  | 23 => ("ThrowScenarioModel", "lasts", "I", false)
  | 24 => ("ThrowScenarioModel", "deepest", "I", false)
  | 25 => ("ThrowScenarioModel", "ran", "Z", false)
  | 26 => ("ThrowScenarioModel", "failure", "I", false)
  | 27 => ("ThrowScenarioModel", "second", "I", false)
  | 28 => ("ThrowScenarioModel", "outcome", "I", false)
  | 29 => ("ThrowScenarioModel", "returned", "Z", false)
  | 30 => ("ThrowScenarioModel", "value", "I", false)
  | 31 => ("ThrowScenarioModel", "fNode", "[I", true)
  | 32 => ("ThrowScenarioModel", "fPhase", "[I", true)
  | 33 => ("ThrowScenarioModel", "fCount", "[I", true)
  | 34 => ("ThrowScenarioModel", "fKind", "[I", true)
  | 35 => ("ThrowScenarioModel", "fValue", "[I", true)
  | 36 => ("ThrowScenarioModel", "fHand", "[I", true)
  | 37 => ("ThrowScenarioModel", "top", "I", false)
  | 38 => ("ThrowScenarioModel", "depth", "I", false)
  | 39 => ("ThrowScenarioModel", "hand", "I", false)
  | 40 => ("ThrowScenarioModel", "doneKind", "I", false)
  | 41 => ("ThrowScenarioModel", "doneValue", "I", false)
  | 42 => ("ThrowScenarioModel", "over", "Z", false)
  | 43 => ("ThrowScenarioModel", "text", "[I", true)
  | _ => ("ThrowScenarioModel", "textLength", "I", false)
def txQ : Nat → FieldType := fun k => match k with
  | 0 => .array .long
  | 1 => .int
  | 2 => .array .int
  | 3 => .int
  | 4 => .array .int
  | 5 => .array .int
  | 6 => .array .int
  | 7 => .array .int
  | 8 => .array .int
  | 9 => .int
  | 10 => .array .int
  | 11 => .int
  | 12 => .array .int
  | 13 => .array .int
  | 14 => .array .int
  | 15 => .array .int
  | 16 => .int
  | 17 => .array .int
  | 18 => .array .int
  | 19 => .array .int
  | 20 => .int
  | 21 => .int
  | 22 => .int
  | 23 => .int
  | 24 => .int
  | 25 => .boolean
  | 26 => .int
  | 27 => .int
  | 28 => .int
  | 29 => .boolean
  | 30 => .int
  | 31 => .array .int
  | 32 => .array .int
  | 33 => .array .int
  | 34 => .array .int
  | 35 => .array .int
  | 36 => .array .int
  | 37 => .int
  | 38 => .int
  | 39 => .int
  | 40 => .int
  | 41 => .int
  | 42 => .boolean
  | 43 => .array .int
  | _ => .int
theorem nxQ : ∀ a, a < 45 → ∀ b, b < 45 → a ≠ b → (TxQ a).2.1 ≠ (TxQ b).2.1 := by decide +kernel
theorem oxQ : ∀ k, k < 45 → parseFieldDescriptor (TxQ k).2.2.1 = some (txQ k) := by decide +kernel
def RxL : String := "ThrowScenarioLaw"
def RxB : String := "java/lang/StringBuilder"
def TxB : u_T := fun k => match k with
  | 0 => ("java/lang/AbstractStringBuilder", "value", "[B", false)
  | 1 => ("java/lang/AbstractStringBuilder", "coder", "B", false)
  | 2 => ("java/lang/AbstractStringBuilder", "maybeLatin1", "Z", false)
  | _ => ("java/lang/AbstractStringBuilder", "count", "I", false)
def txB : Nat → FieldType := fun k => match k with
  | 0 => .array .byte
  | 1 => .byte
  | 2 => .boolean
  | _ => .int
theorem nxB : ∀ a, a < 4 → ∀ b, b < 4 → a ≠ b → (TxB a).2.1 ≠ (TxB b).2.1 := by decide +kernel
theorem oxB : ∀ k, k < 4 → parseFieldDescriptor (TxB k).2.2.1 = some (txB k) := by decide +kernel
def RxA : String := "java/lang/AbstractStringBuilder"
def RxS : String := "java/lang/String"
def RxU : String := "java/lang/StringLatin1"
def RxI : String := "java/lang/Integer"
def RxY : String := "java/util/Arrays"
def RxZ : String := "jdk/internal/util/ArraysSupport"
def RxV : String := "java/lang/StringUTF16"
def RxX : String := "jdk/internal/util/Preconditions"
def RxD : String := "java/lang/Math"
def RxO : String := "java/lang/Object"
def RxG : String := "java/lang/System"
def RxE : String := "java/lang/Enum"
abbrev cxT_init : ByteArray := prog_1_method_1_code
def yxT_init : MethodName := ⟨RxT, "<init>", "(I)V"⟩
abbrev cxT_declare : ByteArray := prog_1_method_2_code
def yxT_declare : MethodName := ⟨RxT, "declare", "(I)I"⟩
abbrev cxT_node : ByteArray := prog_1_method_3_code
def yxT_node : MethodName := ⟨RxT, "node", "(IIII)I"⟩
abbrev cxT_define : ByteArray := prog_1_method_4_code
def yxT_define : MethodName := ⟨RxT, "define", "(II)I"⟩
abbrev cxT_dispatch : ByteArray := prog_1_method_5_code
def yxT_dispatch : MethodName := ⟨RxT, "dispatch", "(I)I"⟩
abbrev cxT_run : ByteArray := prog_1_method_6_code
def yxT_run : MethodName := ⟨RxT, "run", "(III)I"⟩
abbrev cxT_afterFailure : ByteArray := prog_1_method_7_code
def yxT_afterFailure : MethodName := ⟨RxT, "afterFailure", "(LThrowScenario$Thrown;)I"⟩
abbrev cxT_outcomeOf : ByteArray := prog_1_method_8_code
def yxT_outcomeOf : MethodName := ⟨RxT, "outcomeOf", "(LThrowScenario$Way;I)I"⟩
abbrev cxT_variable : ByteArray := prog_1_method_9_code
def yxT_variable : MethodName := ⟨RxT, "variable", "(I)J"⟩
abbrev cxT_value : ByteArray := prog_1_method_10_code
def yxT_value : MethodName := ⟨RxT, "value", "()J"⟩
abbrev cxT_logged : ByteArray := prog_1_method_11_code
def yxT_logged : MethodName := ⟨RxT, "logged", "(I)J"⟩
abbrev cxT_failure : ByteArray := prog_1_method_12_code
def yxT_failure : MethodName := ⟨RxT, "failure", "(II)J"⟩
abbrev cxT_second : ByteArray := prog_1_method_13_code
def yxT_second : MethodName := ⟨RxT, "second", "(II)J"⟩
abbrev cxT_partOf : ByteArray := prog_1_method_14_code
def yxT_partOf : MethodName := ⟨RxT, "partOf", "(LThrowScenario$Thrown;II)J"⟩
abbrev cxT_report : ByteArray := prog_1_method_15_code
def yxT_report : MethodName := ⟨RxT, "report", "(I)I"⟩
abbrev cxT_count : ByteArray := prog_1_method_16_code
def yxT_count : MethodName := ⟨RxT, "count", "(I)I"⟩
abbrev cxQ_init : ByteArray := prog_11_method_1_code
def yxQ_init : MethodName := ⟨RxQ, "<init>", "(I)V"⟩
abbrev cxQ_out : ByteArray := prog_11_method_2_code
def yxQ_out : MethodName := ⟨RxQ, "out", "(III)Z"⟩
abbrev cxQ_is : ByteArray := prog_11_method_3_code
def yxQ_is : MethodName := ⟨RxQ, "is", "(II)Z"⟩
abbrev cxQ_declare : ByteArray := prog_11_method_4_code
def yxQ_declare : MethodName := ⟨RxQ, "declare", "(I)I"⟩
abbrev cxQ_noNode : ByteArray := prog_11_method_5_code
def yxQ_noNode : MethodName := ⟨RxQ, "noNode", "(I)Z"⟩
abbrev cxQ_badA : ByteArray := prog_11_method_6_code
def yxQ_badA : MethodName := ⟨RxQ, "badA", "(II)Z"⟩
abbrev cxQ_badB : ByteArray := prog_11_method_7_code
def yxQ_badB : MethodName := ⟨RxQ, "badB", "(II)Z"⟩
abbrev cxQ_levelOf : ByteArray := prog_11_method_8_code
def yxQ_levelOf : MethodName := ⟨RxQ, "levelOf", "(IIII)I"⟩
abbrev cxQ_node : ByteArray := prog_11_method_9_code
def yxQ_node : MethodName := ⟨RxQ, "node", "(IIII)I"⟩
abbrev cxQ_define : ByteArray := prog_11_method_10_code
def yxQ_define : MethodName := ⟨RxQ, "define", "(II)I"⟩
abbrev cxQ_dispatch : ByteArray := prog_11_method_11_code
def yxQ_dispatch : MethodName := ⟨RxQ, "dispatch", "(I)I"⟩
abbrev cxQ_begin : ByteArray := prog_11_method_12_code
def yxQ_begin : MethodName := ⟨RxQ, "begin", "(I)Z"⟩
abbrev cxQ_end : ByteArray := prog_11_method_13_code
def yxQ_end : MethodName := ⟨RxQ, "end", "(II)V"⟩
abbrev cxQ_endThrow : ByteArray := prog_11_method_14_code
def yxQ_endThrow : MethodName := ⟨RxQ, "endThrow", "(III)V"⟩
abbrev cxQ_note : ByteArray := prog_11_method_15_code
def yxQ_note : MethodName := ⟨RxQ, "note", "(I)V"⟩
abbrev cxQ_simple : ByteArray := prog_11_method_16_code
def yxQ_simple : MethodName := ⟨RxQ, "simple", "(I)V"⟩
abbrev cxQ_machine : ByteArray := prog_11_method_17_code
def yxQ_machine : MethodName := ⟨RxQ, "machine", "(II)V"⟩
abbrev cxQ_lastOf : ByteArray := prog_11_method_18_code
def yxQ_lastOf : MethodName := ⟨RxQ, "lastOf", "(I)I"⟩
abbrev cxQ_hasParts : ByteArray := prog_11_method_19_code
def yxQ_hasParts : MethodName := ⟨RxQ, "hasParts", "(I)Z"⟩
abbrev cxQ_go : ByteArray := prog_11_method_20_code
def yxQ_go : MethodName := ⟨RxQ, "go", "()V"⟩
abbrev cxQ_branch : ByteArray := prog_11_method_21_code
def yxQ_branch : MethodName := ⟨RxQ, "branch", "(II)V"⟩
abbrev cxQ_loop : ByteArray := prog_11_method_22_code
def yxQ_loop : MethodName := ⟨RxQ, "loop", "(III)V"⟩
abbrev cxQ_call : ByteArray := prog_11_method_23_code
def yxQ_call : MethodName := ⟨RxQ, "call", "(III)V"⟩
abbrev cxQ_attempt : ByteArray := prog_11_method_24_code
def yxQ_attempt : MethodName := ⟨RxQ, "attempt", "(III)V"⟩
abbrev cxQ_lock : ByteArray := prog_11_method_25_code
def yxQ_lock : MethodName := ⟨RxQ, "lock", "(II)V"⟩
abbrev cxQ_atLast : ByteArray := prog_11_method_26_code
def yxQ_atLast : MethodName := ⟨RxQ, "atLast", "(III)V"⟩
abbrev cxQ_complete : ByteArray := prog_11_method_27_code
def yxQ_complete : MethodName := ⟨RxQ, "complete", "(II)Z"⟩
abbrev cxQ_run : ByteArray := prog_11_method_28_code
def yxQ_run : MethodName := ⟨RxQ, "run", "(III)I"⟩
abbrev cxQ_settle : ByteArray := prog_11_method_29_code
def yxQ_settle : MethodName := ⟨RxQ, "settle", "()V"⟩
abbrev cxQ_letter : ByteArray := prog_11_method_30_code
def yxQ_letter : MethodName := ⟨RxQ, "letter", "(I)V"⟩
abbrev cxQ_word : ByteArray := prog_11_method_31_code
def yxQ_word : MethodName := ⟨RxQ, "word", "(JZ)V"⟩
abbrev cxQ_number : ByteArray := prog_11_method_32_code
def yxQ_number : MethodName := ⟨RxQ, "number", "(I)V"⟩
abbrev cxQ_name : ByteArray := prog_11_method_33_code
def yxQ_name : MethodName := ⟨RxQ, "name", "(I)V"⟩
abbrev cxQ_outcomeWord : ByteArray := prog_11_method_34_code
def yxQ_outcomeWord : MethodName := ⟨RxQ, "outcomeWord", "()V"⟩
abbrev cxQ_write : ByteArray := prog_11_method_35_code
def yxQ_write : MethodName := ⟨RxQ, "write", "()V"⟩
abbrev cxQ_variable : ByteArray := prog_11_method_36_code
def yxQ_variable : MethodName := ⟨RxQ, "variable", "(I)J"⟩
abbrev cxQ_value : ByteArray := prog_11_method_37_code
def yxQ_value : MethodName := ⟨RxQ, "value", "()J"⟩
abbrev cxQ_logged : ByteArray := prog_11_method_38_code
def yxQ_logged : MethodName := ⟨RxQ, "logged", "(I)J"⟩
abbrev cxQ_chained : ByteArray := prog_11_method_39_code
def yxQ_chained : MethodName := ⟨RxQ, "chained", "(III)J"⟩
abbrev cxQ_failure : ByteArray := prog_11_method_40_code
def yxQ_failure : MethodName := ⟨RxQ, "failure", "(II)J"⟩
abbrev cxQ_second : ByteArray := prog_11_method_41_code
def yxQ_second : MethodName := ⟨RxQ, "second", "(II)J"⟩
abbrev cxQ_report : ByteArray := prog_11_method_42_code
def yxQ_report : MethodName := ⟨RxQ, "report", "(I)I"⟩
abbrev cxQ_count : ByteArray := prog_11_method_43_code
def yxQ_count : MethodName := ⟨RxQ, "count", "(I)I"⟩
abbrev cxC_init : ByteArray := prog_2_method_1_code
def yxC_init : MethodName := ⟨RxC, "<init>", "()V"⟩
abbrev cxC_size : ByteArray := prog_2_method_2_code
def yxC_size : MethodName := ⟨RxC, "size", "()I"⟩
abbrev cxC_has : ByteArray := prog_2_method_3_code
def yxC_has : MethodName := ⟨RxC, "has", "(I)Z"⟩
abbrev cxC_isFull : ByteArray := prog_2_method_4_code
def yxC_isFull : MethodName := ⟨RxC, "isFull", "()Z"⟩
abbrev cxC_add : ByteArray := prog_2_method_5_code
def yxC_add : MethodName := ⟨RxC, "add", "(I)I"⟩
abbrev cxC_is : ByteArray := prog_2_method_6_code
def yxC_is : MethodName := ⟨RxC, "is", "(II)Z"⟩
abbrev cxC_isOwn : ByteArray := prog_2_method_7_code
def yxC_isOwn : MethodName := ⟨RxC, "isOwn", "(I)Z"⟩
abbrev cxC_wordOf : ByteArray := prog_2_method_8_code
def yxC_wordOf : MethodName := ⟨RxC, "wordOf", "(I)Ljava/lang/String;"⟩
abbrev cxM_init : ByteArray := prog_4_method_1_code
def yxM_init : MethodName := ⟨RxM, "<init>", "(LThrowScenario$Program;LThrowScenario$Classes;I)V"⟩
abbrev cxM_prepare : ByteArray := prog_4_method_2_code
def yxM_prepare : MethodName := ⟨RxM, "prepare", "(II)V"⟩
abbrev cxM_variableAt : ByteArray := prog_4_method_3_code
def yxM_variableAt : MethodName := ⟨RxM, "variableAt", "(I)I"⟩
abbrev cxM_tally : ByteArray := prog_4_method_4_code
def yxM_tally : MethodName := ⟨RxM, "tally", "(I)I"⟩
abbrev cxM_logSize : ByteArray := prog_4_method_5_code
def yxM_logSize : MethodName := ⟨RxM, "logSize", "()I"⟩
abbrev cxM_logAt : ByteArray := prog_4_method_6_code
def yxM_logAt : MethodName := ⟨RxM, "logAt", "(I)I"⟩
abbrev cxM_carried : ByteArray := prog_4_method_7_code
def yxM_carried : MethodName := ⟨RxM, "carried", "()I"⟩
abbrev cxM_thrown : ByteArray := prog_4_method_8_code
def yxM_thrown : MethodName := ⟨RxM, "thrown", "()LThrowScenario$Thrown;"⟩
abbrev cxM_performRoutine : ByteArray := prog_4_method_9_code
def yxM_performRoutine : MethodName := ⟨RxM, "performRoutine", "(ILThrowScenario$Thrown;)LThrowScenario$Way;"⟩
abbrev cxM_perform : ByteArray := prog_4_method_10_code
def yxM_perform : MethodName := ⟨RxM, "perform", "(IILThrowScenario$Thrown;)LThrowScenario$Way;"⟩
abbrev cxM_mayBegin : ByteArray := prog_4_method_11_code
def yxM_mayBegin : MethodName := ⟨RxM, "mayBegin", "()Z"⟩
abbrev cxM_sequence : ByteArray := prog_4_method_12_code
def yxM_sequence : MethodName := ⟨RxM, "sequence", "(LThrowScenario$Node;ILThrowScenario$Thrown;)LThrowScenario$Way;"⟩
abbrev cxM_choose : ByteArray := prog_4_method_13_code
def yxM_choose : MethodName := ⟨RxM, "choose", "(LThrowScenario$Node;ILThrowScenario$Thrown;)LThrowScenario$Way;"⟩
abbrev cxM_loop : ByteArray := prog_4_method_14_code
def yxM_loop : MethodName := ⟨RxM, "loop", "(LThrowScenario$Node;ILThrowScenario$Thrown;)LThrowScenario$Way;"⟩
abbrev cxM_call : ByteArray := prog_4_method_15_code
def yxM_call : MethodName := ⟨RxM, "call", "(LThrowScenario$Node;I)LThrowScenario$Way;"⟩
abbrev cxM_tryAndCatch : ByteArray := prog_4_method_16_code
def yxM_tryAndCatch : MethodName := ⟨RxM, "tryAndCatch", "(LThrowScenario$Node;ILThrowScenario$Thrown;)LThrowScenario$Way;"⟩
abbrev cxM_doBoth : ByteArray := prog_4_method_17_code
def yxM_doBoth : MethodName := ⟨RxM, "doBoth", "(LThrowScenario$Node;ILThrowScenario$Thrown;)LThrowScenario$Way;"⟩
abbrev cxM_lock : ByteArray := prog_4_method_18_code
def yxM_lock : MethodName := ⟨RxM, "lock", "(LThrowScenario$Node;ILThrowScenario$Thrown;)LThrowScenario$Way;"⟩
abbrev cxM_carry : ByteArray := prog_4_method_19_code
def yxM_carry : MethodName := ⟨RxM, "carry", "(ILThrowScenario$Way;)LThrowScenario$Way;"⟩
abbrev cxM_raise : ByteArray := prog_4_method_20_code
def yxM_raise : MethodName := ⟨RxM, "raise", "(IILThrowScenario$Thrown;)LThrowScenario$Way;"⟩
abbrev cxM_rethrow : ByteArray := prog_4_method_21_code
def yxM_rethrow : MethodName := ⟨RxM, "rethrow", "(LThrowScenario$Thrown;)LThrowScenario$Way;"⟩
abbrev cxM_divide : ByteArray := prog_4_method_22_code
def yxM_divide : MethodName := ⟨RxM, "divide", "(LThrowScenario$Node;)LThrowScenario$Way;"⟩
abbrev cxM_index : ByteArray := prog_4_method_23_code
def yxM_index : MethodName := ⟨RxM, "index", "(LThrowScenario$Node;)LThrowScenario$Way;"⟩
abbrev cxM_cast : ByteArray := prog_4_method_24_code
def yxM_cast : MethodName := ⟨RxM, "cast", "(LThrowScenario$Node;LThrowScenario$Thrown;)LThrowScenario$Way;"⟩
abbrev cxM_wake : ByteArray := prog_4_method_25_code
def yxM_wake : MethodName := ⟨RxM, "wake", "(LThrowScenario$Node;)LThrowScenario$Way;"⟩
abbrev cxM_note : ByteArray := prog_4_method_26_code
def yxM_note : MethodName := ⟨RxM, "note", "(LThrowScenario$Node;LThrowScenario$Thrown;)LThrowScenario$Way;"⟩
abbrev cxM_addToLog : ByteArray := prog_4_method_27_code
def yxM_addToLog : MethodName := ⟨RxM, "addToLog", "(I)V"⟩
abbrev cxN_init : ByteArray := prog_5_method_1_code
def yxN_init : MethodName := ⟨RxN, "<init>", "(IIIII)V"⟩
abbrev cxP_init : ByteArray := prog_6_method_1_code
def yxP_init : MethodName := ⟨RxP, "<init>", "(LThrowScenario$Classes;)V"⟩
abbrev cxP_size : ByteArray := prog_6_method_2_code
def yxP_size : MethodName := ⟨RxP, "size", "()I"⟩
abbrev cxP_isFull : ByteArray := prog_6_method_3_code
def yxP_isFull : MethodName := ⟨RxP, "isFull", "()Z"⟩
abbrev cxP_add : ByteArray := prog_6_method_4_code
def yxP_add : MethodName := ⟨RxP, "add", "(IIII)I"⟩
abbrev cxP_at : ByteArray := prog_6_method_5_code
def yxP_at : MethodName := ⟨RxP, "at", "(I)LThrowScenario$Node;"⟩
abbrev cxP_setStatement : ByteArray := prog_6_method_6_code
def yxP_setStatement : MethodName := ⟨RxP, "setStatement", "(II)V"⟩
abbrev cxP_statementOf : ByteArray := prog_6_method_7_code
def yxP_statementOf : MethodName := ⟨RxP, "statementOf", "(I)I"⟩
abbrev cxP_isDefined : ByteArray := prog_6_method_8_code
def yxP_isDefined : MethodName := ⟨RxP, "isDefined", "(I)Z"⟩
abbrev cxP_isNode : ByteArray := prog_6_method_9_code
def yxP_isNode : MethodName := ⟨RxP, "isNode", "(I)Z"⟩
abbrev cxP_isRoutine : ByteArray := prog_6_method_10_code
def yxP_isRoutine : MethodName := ⟨RxP, "isRoutine", "(I)Z"⟩
abbrev cxP_isVariable : ByteArray := prog_6_method_11_code
def yxP_isVariable : MethodName := ⟨RxP, "isVariable", "(I)Z"⟩
abbrev cxP_isMonitor : ByteArray := prog_6_method_12_code
def yxP_isMonitor : MethodName := ⟨RxP, "isMonitor", "(I)Z"⟩
abbrev cxP_fits : ByteArray := prog_6_method_13_code
def yxP_fits : MethodName := ⟨RxP, "fits", "(IIII)Z"⟩
abbrev cxP_levelOf : ByteArray := prog_6_method_14_code
def yxP_levelOf : MethodName := ⟨RxP, "levelOf", "(IIII)I"⟩
abbrev cxP_levelAt : ByteArray := prog_6_method_15_code
def yxP_levelAt : MethodName := ⟨RxP, "levelAt", "(I)I"⟩
abbrev cxR_init : ByteArray := prog_7_method_1_code
def yxR_init : MethodName := ⟨RxR, "<init>", "()V"⟩
abbrev cxR_length : ByteArray := prog_7_method_2_code
def yxR_length : MethodName := ⟨RxR, "length", "()I"⟩
abbrev cxR_characterAt : ByteArray := prog_7_method_3_code
def yxR_characterAt : MethodName := ⟨RxR, "characterAt", "(I)I"⟩
abbrev cxR_write : ByteArray := prog_7_method_4_code
def yxR_write : MethodName := ⟨RxR, "write", "(IJLThrowScenario$Thrown;LThrowScenario$Thrown;)V"⟩
abbrev cxR_wordsOf : ByteArray := prog_7_method_5_code
def yxR_wordsOf : MethodName := ⟨RxR, "wordsOf", "(I)Ljava/lang/String;"⟩
abbrev cxR_addChain : ByteArray := prog_7_method_6_code
def yxR_addChain : MethodName := ⟨RxR, "addChain", "(LThrowScenario$Thrown;)V"⟩
abbrev cxR_addName : ByteArray := prog_7_method_7_code
def yxR_addName : MethodName := ⟨RxR, "addName", "(LThrowScenario$Thrown;)V"⟩
abbrev cxH_init : ByteArray := prog_8_method_1_code
def yxH_init : MethodName := ⟨RxH, "<init>", "()V"⟩
abbrev cxH_become : ByteArray := prog_8_method_2_code
def yxH_become : MethodName := ⟨RxH, "become", "(IILThrowScenario$Thrown;)V"⟩
abbrev cxH_origin : ByteArray := prog_8_method_3_code
def yxH_origin : MethodName := ⟨RxH, "origin", "()LThrowScenario$Thrown;"⟩
abbrev cxL_cell : ByteArray := method_2_code
def yxL_cell : MethodName := ⟨RxL, "cell", "([II)I"⟩
abbrev cxL_law : ByteArray := code
def yxL_law : MethodName := ⟨RxL, "law", "([I)Z"⟩
abbrev cxO_init : ByteArray := object_method_1_code
def yxO_init : MethodName := ⟨RxO, "<init>", "()V"⟩
abbrev cxA_init : ByteArray := prog_12_method_2_code
def yxA_init : MethodName := ⟨RxA, "<init>", "(I)V"⟩
abbrev cxA_append : ByteArray := prog_12_method_31_code
def yxA_append : MethodName := ⟨RxA, "append", "(C)Ljava/lang/AbstractStringBuilder;"⟩
abbrev cxA_append2 : ByteArray := prog_12_method_32_code
def yxA_append2 : MethodName := ⟨RxA, "append", "(I)Ljava/lang/AbstractStringBuilder;"⟩
abbrev cxA_append3 : ByteArray := prog_12_method_22_code
def yxA_append3 : MethodName := ⟨RxA, "append", "(Ljava/lang/String;)Ljava/lang/AbstractStringBuilder;"⟩
abbrev cxA_appendNull : ByteArray := prog_12_method_26_code
def yxA_appendNull : MethodName := ⟨RxA, "appendNull", "()Ljava/lang/AbstractStringBuilder;"⟩
abbrev cxA_charAt : ByteArray := prog_12_method_14_code
def yxA_charAt : MethodName := ⟨RxA, "charAt", "(I)C"⟩
abbrev cxA_ensureCapacityInternal : ByteArray := prog_12_method_9_code
def yxA_ensureCapacityInternal : MethodName := ⟨RxA, "ensureCapacityInternal", "(I)V"⟩
abbrev cxA_inflate : ByteArray := prog_12_method_11_code
def yxA_inflate : MethodName := ⟨RxA, "inflate", "()V"⟩
abbrev cxA_isLatin1 : ByteArray := prog_12_method_68_code
def yxA_isLatin1 : MethodName := ⟨RxA, "isLatin1", "()Z"⟩
abbrev cxA_length : ByteArray := prog_12_method_6_code
def yxA_length : MethodName := ⟨RxA, "length", "()I"⟩
abbrev cxA_newCapacity : ByteArray := prog_12_method_10_code
def yxA_newCapacity : MethodName := ⟨RxA, "newCapacity", "(I)I"⟩
abbrev cxA_putStringAt : ByteArray := prog_12_method_73_code
def yxA_putStringAt : MethodName := ⟨RxA, "putStringAt", "(ILjava/lang/String;)V"⟩
abbrev cxA_setLength : ByteArray := prog_12_method_13_code
def yxA_setLength : MethodName := ⟨RxA, "setLength", "(I)V"⟩
abbrev cxI_getChars : ByteArray := prog_15_method_12_code
def yxI_getChars : MethodName := ⟨RxI, "getChars", "(II[B)I"⟩
abbrev cxI_stringSize : ByteArray := prog_15_method_13_code
def yxI_stringSize : MethodName := ⟨RxI, "stringSize", "(I)I"⟩
abbrev cxD_max : ByteArray := prog_16_method_65_code
def yxD_max : MethodName := ⟨RxD, "max", "(II)I"⟩
abbrev cxD_min : ByteArray := prog_16_method_69_code
def yxD_min : MethodName := ⟨RxD, "min", "(II)I"⟩
abbrev cxS_checkBoundsBeginEnd : ByteArray := prog_17_method_158_code
def yxS_checkBoundsBeginEnd : MethodName := ⟨RxS, "checkBoundsBeginEnd", "(III)V"⟩
abbrev cxS_checkIndex : ByteArray := prog_17_method_155_code
def yxS_checkIndex : MethodName := ⟨RxS, "checkIndex", "(II)V"⟩
abbrev cxS_coder : ByteArray := prog_17_method_152_code
def yxS_coder : MethodName := ⟨RxS, "coder", "()B"⟩
abbrev cxS_length : ByteArray := prog_17_method_54_code
def yxS_length : MethodName := ⟨RxS, "length", "()I"⟩
abbrev cxB_init : ByteArray := prog_18_method_1_code
def yxB_init : MethodName := ⟨RxB, "<init>", "()V"⟩
abbrev cxB_append : ByteArray := prog_18_method_14_code
def yxB_append : MethodName := ⟨RxB, "append", "(C)Ljava/lang/StringBuilder;"⟩
abbrev cxB_append2 : ByteArray := prog_18_method_15_code
def yxB_append2 : MethodName := ⟨RxB, "append", "(I)Ljava/lang/StringBuilder;"⟩
abbrev cxB_append3 : ByteArray := prog_18_method_7_code
def yxB_append3 : MethodName := ⟨RxB, "append", "(Ljava/lang/String;)Ljava/lang/StringBuilder;"⟩
abbrev cxB_charAt : ByteArray := prog_18_method_88_code
def yxB_charAt : MethodName := ⟨RxB, "charAt", "(I)C"⟩
abbrev cxB_length : ByteArray := prog_18_method_93_code
def yxB_length : MethodName := ⟨RxB, "length", "()I"⟩
abbrev cxB_setLength : ByteArray := prog_18_method_89_code
def yxB_setLength : MethodName := ⟨RxB, "setLength", "(I)V"⟩
abbrev cxU_fillNull : ByteArray := prog_19_method_48_code
def yxU_fillNull : MethodName := ⟨RxU, "fillNull", "([BII)V"⟩
abbrev cxU_inflate : ByteArray := prog_19_method_50_code
def yxU_inflate : MethodName := ⟨RxU, "inflate", "([BI[BII)V"⟩
abbrev cxV_checkBoundsBeginEnd : ByteArray := prog_20_method_93_code
def yxV_checkBoundsBeginEnd : MethodName := ⟨RxV, "checkBoundsBeginEnd", "(II[B)V"⟩
abbrev cxV_checkBoundsOffCount : ByteArray := prog_20_method_94_code
def yxV_checkBoundsOffCount : MethodName := ⟨RxV, "checkBoundsOffCount", "(II[B)V"⟩
abbrev cxV_checkIndex : ByteArray := prog_20_method_91_code
def yxV_checkIndex : MethodName := ⟨RxV, "checkIndex", "(I[B)V"⟩
abbrev cxV_fillNull : ByteArray := prog_20_method_70_code
def yxV_fillNull : MethodName := ⟨RxV, "fillNull", "([BII)V"⟩
abbrev cxV_getChar : ByteArray := prog_20_method_5_code
def yxV_getChar : MethodName := ⟨RxV, "getChar", "([BI)C"⟩
abbrev cxV_getChars : ByteArray := prog_20_method_77_code
def yxV_getChars : MethodName := ⟨RxV, "getChars", "(III[B)I"⟩
abbrev cxV_getChars2 : ByteArray := prog_20_method_89_code
def yxV_getChars2 : MethodName := ⟨RxV, "getChars", "(II[B)I"⟩
abbrev cxV_inflate : ByteArray := prog_20_method_86_code
def yxV_inflate : MethodName := ⟨RxV, "inflate", "([BI[BII)V"⟩
abbrev cxV_length : ByteArray := prog_20_method_6_code
def yxV_length : MethodName := ⟨RxV, "length", "([B)I"⟩
abbrev cxV_newBytesFor : ByteArray := prog_20_method_2_code
def yxV_newBytesFor : MethodName := ⟨RxV, "newBytesFor", "(I)[B"⟩
abbrev cxV_putChar : ByteArray := prog_20_method_4_code
def yxV_putChar : MethodName := ⟨RxV, "putChar", "([BII)V"⟩
abbrev cxV_putCharSB : ByteArray := prog_20_method_71_code
def yxV_putCharSB : MethodName := ⟨RxV, "putCharSB", "([BII)V"⟩
abbrev cxV_putCharsAt : ByteArray := prog_20_method_81_code
def yxV_putCharsAt : MethodName := ⟨RxV, "putCharsAt", "([BICCCC)I"⟩
abbrev cxY_copyOf : ByteArray := prog_22_method_121_code
def yxY_copyOf : MethodName := ⟨RxY, "copyOf", "([BI)[B"⟩
abbrev cxY_fill : ByteArray := prog_22_method_110_code
def yxY_fill : MethodName := ⟨RxY, "fill", "([BIIB)V"⟩
abbrev cxY_rangeCheck : ByteArray := prog_22_method_30_code
def yxY_rangeCheck : MethodName := ⟨RxY, "rangeCheck", "(III)V"⟩
abbrev cxZ_hugeLength : ByteArray := prog_23_method_28_code
def yxZ_hugeLength : MethodName := ⟨RxZ, "hugeLength", "(II)I"⟩
abbrev cxZ_newLength : ByteArray := prog_23_method_27_code
def yxZ_newLength : MethodName := ⟨RxZ, "newLength", "(III)I"⟩
abbrev vwCl : List vw_C := [(RxT, TxT, 8), (RxC, TxC, 2), (RxP, TxP, 4), (RxM, TxM, 15), (RxR, TxR, 1), (RxH, TxH, 4), (RxN, TxN, 5), (RxB, TxB, 4), (RxQ, TxQ, 45)]
end
section
/-! base rows: words -/
def big : List Cond := lw_tbl.filter goodWord
theorem big_ins (L : List Cond) (h : L.all (fun w => decide (w ∈ lw_tbl) && goodWord w) = true) : ∀ w ∈ L, w ∈ big := fun w hw => by
  have h1 := List.all_eq_true.mp h w hw
  simp only [Bool.and_eq_true, decide_eq_true_eq] at h1
  exact List.mem_filter.mpr h1
theorem big_at {w : Cond} (i : Nat) (h : lw_tbl[i]? = some w) (hg : goodWord w = true) : w ∈ big := List.mem_filter.mpr ⟨List.mem_of_getElem? h, hg⟩
theorem big_good : ∀ w ∈ big, (w.onTables && w.keeps) = true ∨ ∃ ty, w = .arrayClass ty := fun _ h => good_of_word (List.mem_filter.mp h).2
theorem big_GoodIn {L : List Cond} (h : ∀ w ∈ L, w ∈ big) : GoodIn big L := fun w hw => ⟨h w hw, big_good w (h w hw)⟩
abbrev wz (y : MethodName) (cc : ByteArray) (n : Nat) (ret : Option FieldType) : List Cond := Cond.code y cc n ret :: big
theorem wz_in {y : MethodName} {cc : ByteArray} {n : Nat} {ret : Option FieldType} (hc : Cond.code y cc n ret ∈ big) : ∀ w ∈ wz y cc n ret, w ∈ big := fun w hw => by
  rcases List.mem_cons.mp hw with h | h
  · rw [h]; exact hc
  · exact h
theorem big_ps (ps : List Nat) (L : List Cond) (h : L = ps.filterMap (fun i => lw_tbl[i]?)) (hg : L.all goodWord = true) : ∀ w ∈ L, w ∈ big := fun w hw => by
  have h1 := List.all_eq_true.mp hg w hw
  rw [h] at hw
  obtain ⟨i, -, hi⟩ := List.mem_filterMap.mp hw
  exact List.mem_filter.mpr ⟨List.mem_of_getElem? hi, h1⟩
theorem kF_xC_13 : Cond.fieldLink RxC 13 "ThrowScenario$Classes" "size" "I" ∈ big := big_at 92 (by decide +kernel) rfl
theorem kw_xC_26 : ∀ w ∈ ([.methodLink RxC 26 yxC_has, .instanceMethod yxC_has, .selects yxC_has.cls yxC_has yxC_has, .initialized yxC_has.cls] : List Cond), w ∈ big := big_ps [448, 281, 282, 52] _ (by decide +kernel) rfl
theorem kF_xC_9 : Cond.fieldLink RxC 9 "ThrowScenario$Classes" "parents" "[I" ∈ big := big_at 91 (by decide +kernel) rfl
theorem kF_xM_11 : Cond.fieldLink RxM 11 "ThrowScenario$Machine" "variables" "[I" ∈ big := big_at 208 (by decide +kernel) rfl
theorem kF_xM_17 : Cond.fieldLink RxM 17 "ThrowScenario$Machine" "held" "[I" ∈ big := big_at 209 (by decide +kernel) rfl
theorem kF_xM_29 : Cond.fieldLink RxM 29 "ThrowScenario$Machine" "logSize" "I" ∈ big := big_at 212 (by decide +kernel) rfl
theorem kF_xM_33 : Cond.fieldLink RxM 33 "ThrowScenario$Machine" "made" "I" ∈ big := big_at 213 (by decide +kernel) rfl
theorem kF_xM_36 : Cond.fieldLink RxM 36 "ThrowScenario$Machine" "begun" "I" ∈ big := big_at 214 (by decide +kernel) rfl
theorem kF_xM_39 : Cond.fieldLink RxM 39 "ThrowScenario$Machine" "handlers" "I" ∈ big := big_at 215 (by decide +kernel) rfl
theorem kF_xM_42 : Cond.fieldLink RxM 42 "ThrowScenario$Machine" "secondParts" "I" ∈ big := big_at 216 (by decide +kernel) rfl
theorem kF_xM_45 : Cond.fieldLink RxM 45 "ThrowScenario$Machine" "deepest" "I" ∈ big := big_at 217 (by decide +kernel) rfl
theorem kF_xM_20 : Cond.fieldLink RxM 20 "ThrowScenario$Machine" "log" "[I" ∈ big := big_at 210 (by decide +kernel) rfl
theorem kF_xM_48 : Cond.fieldLink RxM 48 "ThrowScenario$Machine" "carried" "I" ∈ big := big_at 218 (by decide +kernel) rfl
theorem kF_xM_63 : Cond.fieldLink RxM 63 "ThrowScenario$Machine" "thrown" "LThrowScenario$Thrown;" ∈ big := big_at 219 (by decide +kernel) rfl
theorem kw_xM_75 : ∀ w ∈ ([.methodLink RxM 75 yxM_mayBegin, .instanceMethod yxM_mayBegin, .selects yxM_mayBegin.cls yxM_mayBegin yxM_mayBegin, .initialized yxM_mayBegin.cls] : List Cond), w ∈ big := big_ps [396, 398, 2, 60] _ (by decide +kernel) rfl
theorem kF_xM_79 : Cond.fieldLink RxM 79 "ThrowScenario$Way" "TIRING" "LThrowScenario$Way;" ∈ big := big_at 400 (by decide +kernel) rfl
theorem kM_xM_85 : Cond.methodLink RxM 85 Lib.Math.max.name ∈ big ∧ Cond.static Lib.Math.max.name ∈ big ∧ Cond.initialized "java/lang/Math" ∈ big ∧ Cond.code Lib.Math.max.name Lib.Math.max.code 2 (some .int) ∈ big := ⟨big_at 402 (by decide +kernel) rfl, big_at 169 (by decide +kernel) rfl, big_at 61 (by decide +kernel) rfl, big_at 170 (by decide +kernel) rfl⟩
theorem kF_xM_51 : Cond.fieldLink RxM 51 "ThrowScenario$Machine" "program" "LThrowScenario$Program;" ∈ big := big_at 205 (by decide +kernel) rfl
theorem kw_xM_91 : ∀ w ∈ ([.methodLink RxM 91 yxP_at, .instanceMethod yxP_at, .selects yxP_at.cls yxP_at yxP_at, .initialized yxP_at.cls] : List Cond), w ∈ big := big_ps [403, 404, 405, 54] _ (by decide +kernel) rfl
theorem kF_xM_95 : Cond.fieldLink RxM 95 "ThrowScenario$Node" "kind" "I" ∈ big := big_at 338 (by decide +kernel) rfl
theorem kw_xM_100 : ∀ w ∈ ([.methodLink RxM 100 yxM_sequence, .instanceMethod yxM_sequence, .selects yxM_sequence.cls yxM_sequence yxM_sequence, .initialized yxM_sequence.cls] : List Cond), w ∈ big := big_ps [407, 409, 3, 60] _ (by decide +kernel) rfl
theorem kw_xM_104 : ∀ w ∈ ([.methodLink RxM 104 yxM_choose, .instanceMethod yxM_choose, .selects yxM_choose.cls yxM_choose yxM_choose, .initialized yxM_choose.cls] : List Cond), w ∈ big := big_ps [413, 415, 4, 60] _ (by decide +kernel) rfl
theorem kw_xM_107 : ∀ w ∈ ([.methodLink RxM 107 yxM_loop, .instanceMethod yxM_loop, .selects yxM_loop.cls yxM_loop yxM_loop, .initialized yxM_loop.cls] : List Cond), w ∈ big := big_ps [417, 419, 5, 60] _ (by decide +kernel) rfl
theorem kw_xM_110 : ∀ w ∈ ([.methodLink RxM 110 yxM_call, .instanceMethod yxM_call, .selects yxM_call.cls yxM_call yxM_call, .initialized yxM_call.cls] : List Cond), w ∈ big := big_ps [423, 425, 6, 60] _ (by decide +kernel) rfl
theorem kw_xM_114 : ∀ w ∈ ([.methodLink RxM 114 yxM_tryAndCatch, .instanceMethod yxM_tryAndCatch, .selects yxM_tryAndCatch.cls yxM_tryAndCatch yxM_tryAndCatch, .initialized yxM_tryAndCatch.cls] : List Cond), w ∈ big := big_ps [440, 442, 8, 60] _ (by decide +kernel) rfl
theorem kw_xM_117 : ∀ w ∈ ([.methodLink RxM 117 yxM_doBoth, .instanceMethod yxM_doBoth, .selects yxM_doBoth.cls yxM_doBoth yxM_doBoth, .initialized yxM_doBoth.cls] : List Cond), w ∈ big := big_ps [449, 451, 9, 60] _ (by decide +kernel) rfl
theorem kw_xM_120 : ∀ w ∈ ([.methodLink RxM 120 yxM_lock, .instanceMethod yxM_lock, .selects yxM_lock.cls yxM_lock yxM_lock, .initialized yxM_lock.cls] : List Cond), w ∈ big := big_ps [453, 455, 10, 60] _ (by decide +kernel) rfl
theorem kF_xM_123 : Cond.fieldLink RxM 123 "ThrowScenario$Way" "BREAK" "LThrowScenario$Way;" ∈ big := big_at 421 (by decide +kernel) rfl
theorem kF_xM_126 : Cond.fieldLink RxM 126 "ThrowScenario$Node" "a" "I" ∈ big := big_at 340 (by decide +kernel) rfl
theorem kF_xM_129 : Cond.fieldLink RxM 129 "ThrowScenario$Way" "RETURN" "LThrowScenario$Way;" ∈ big := big_at 438 (by decide +kernel) rfl
theorem kw_xM_132 : ∀ w ∈ ([.methodLink RxM 132 yxM_carry, .instanceMethod yxM_carry, .selects yxM_carry.cls yxM_carry yxM_carry, .initialized yxM_carry.cls] : List Cond), w ∈ big := big_ps [457, 459, 11, 60] _ (by decide +kernel) rfl
theorem kF_xM_136 : Cond.fieldLink RxM 136 "ThrowScenario$Way" "EXIT" "LThrowScenario$Way;" ∈ big := big_at 461 (by decide +kernel) rfl
theorem kF_xM_139 : Cond.fieldLink RxM 139 "ThrowScenario$Node" "b" "I" ∈ big := big_at 342 (by decide +kernel) rfl
theorem kw_xM_142 : ∀ w ∈ ([.methodLink RxM 142 yxM_raise, .instanceMethod yxM_raise, .selects yxM_raise.cls yxM_raise yxM_raise, .initialized yxM_raise.cls] : List Cond), w ∈ big := big_ps [428, 430, 7, 60] _ (by decide +kernel) rfl
theorem kw_xM_145 : ∀ w ∈ ([.methodLink RxM 145 yxM_rethrow, .instanceMethod yxM_rethrow, .selects yxM_rethrow.cls yxM_rethrow yxM_rethrow, .initialized yxM_rethrow.cls] : List Cond), w ∈ big := big_ps [463, 465, 12, 60] _ (by decide +kernel) rfl
theorem kw_xM_149 : ∀ w ∈ ([.methodLink RxM 149 yxM_divide, .instanceMethod yxM_divide, .selects yxM_divide.cls yxM_divide yxM_divide, .initialized yxM_divide.cls] : List Cond), w ∈ big := big_ps [467, 469, 13, 60] _ (by decide +kernel) rfl
theorem kw_xM_153 : ∀ w ∈ ([.methodLink RxM 153 yxM_index, .instanceMethod yxM_index, .selects yxM_index.cls yxM_index yxM_index, .initialized yxM_index.cls] : List Cond), w ∈ big := big_ps [471, 473, 14, 60] _ (by decide +kernel) rfl
theorem kw_xM_156 : ∀ w ∈ ([.methodLink RxM 156 yxM_cast, .instanceMethod yxM_cast, .selects yxM_cast.cls yxM_cast yxM_cast, .initialized yxM_cast.cls] : List Cond), w ∈ big := big_ps [475, 477, 15, 60] _ (by decide +kernel) rfl
theorem kw_xM_160 : ∀ w ∈ ([.methodLink RxM 160 yxM_wake, .instanceMethod yxM_wake, .selects yxM_wake.cls yxM_wake yxM_wake, .initialized yxM_wake.cls] : List Cond), w ∈ big := big_ps [479, 481, 16, 60] _ (by decide +kernel) rfl
theorem kw_xM_163 : ∀ w ∈ ([.methodLink RxM 163 yxM_note, .instanceMethod yxM_note, .selects yxM_note.cls yxM_note yxM_note, .initialized yxM_note.cls] : List Cond), w ∈ big := big_ps [487, 489, 18, 60] _ (by decide +kernel) rfl
theorem kw_xM_71 : ∀ w ∈ ([.methodLink RxM 71 yxM_perform, .instanceMethod yxM_perform, .selects yxM_perform.cls yxM_perform yxM_perform, .initialized yxM_perform.cls] : List Cond), w ∈ big := big_ps [392, 394, 1, 60] _ (by decide +kernel) rfl
theorem kF_xM_166 : Cond.fieldLink RxM 166 "ThrowScenario$Way" "NORMALLY" "LThrowScenario$Way;" ∈ big := big_at 411 (by decide +kernel) rfl
theorem kF_xM_169 : Cond.fieldLink RxM 169 "ThrowScenario$Node" "c" "I" ∈ big := big_at 344 (by decide +kernel) rfl
theorem kw_xM_172 : ∀ w ∈ ([.methodLink RxM 172 yxP_isDefined, .instanceMethod yxP_isDefined, .selects yxP_isDefined.cls yxP_isDefined yxP_isDefined, .initialized yxP_isDefined.cls] : List Cond), w ∈ big := big_ps [427, 377, 378, 54] _ (by decide +kernel) rfl
theorem kF_xM_59 : Cond.fieldLink RxM 59 "ThrowScenario$Machine" "limit" "I" ∈ big := big_at 207 (by decide +kernel) rfl
theorem kw_xM_67 : ∀ w ∈ ([.methodLink RxM 67 yxP_statementOf, .instanceMethod yxP_statementOf, .selects yxP_statementOf.cls yxP_statementOf yxP_statementOf, .initialized yxP_statementOf.cls] : List Cond), w ∈ big := big_ps [388, 389, 390, 54] _ (by decide +kernel) rfl
theorem kF_xM_178 : Cond.fieldLink RxM 178 "ThrowScenario$Way" "THROWING" "LThrowScenario$Way;" ∈ big := big_at 436 (by decide +kernel) rfl
theorem kF_xM_181 : Cond.fieldLink RxM 181 "ThrowScenario$Way" "endsRun" "Z" ∈ big := big_at 1165 (by decide +kernel) rfl
theorem kF_xM_55 : Cond.fieldLink RxM 55 "ThrowScenario$Machine" "classes" "LThrowScenario$Classes;" ∈ big := big_at 206 (by decide +kernel) rfl
theorem kF_xM_185 : Cond.fieldLink RxM 185 "ThrowScenario$Thrown" "type" "I" ∈ big := big_at 185 (by decide +kernel) rfl
theorem kw_xM_188 : ∀ w ∈ ([.methodLink RxM 188 yxC_is, .instanceMethod yxC_is, .selects yxC_is.cls yxC_is yxC_is, .initialized yxC_is.cls] : List Cond), w ∈ big := big_ps [444, 445, 446, 52] _ (by decide +kernel) rfl
theorem kF_xM_194 : Cond.fieldLink RxM 194 "ThrowScenario$Thrown" "suppressed" "I" ∈ big := big_at 195 (by decide +kernel) rfl
theorem kF_xM_25 : Cond.fieldLink RxM 25 "ThrowScenario$Machine" "throwables" "[LThrowScenario$Thrown;" ∈ big := big_at 211 (by decide +kernel) rfl
theorem kw_xM_197 : ∀ w ∈ ([.methodLink RxM 197 yxH_become, .instanceMethod yxH_become, .selects yxH_become.cls yxH_become yxH_become, .initialized yxH_become.cls] : List Cond), w ∈ big := big_ps [432, 433, 434, 62] _ (by decide +kernel) rfl
theorem kw_xM_201 : ∀ w ∈ ([.methodLink RxM 201 yxM_addToLog, .instanceMethod yxM_addToLog, .selects yxM_addToLog.cls yxM_addToLog yxM_addToLog, .initialized yxM_addToLog.cls] : List Cond), w ∈ big := big_ps [483, 485, 17, 60] _ (by decide +kernel) rfl
theorem kw_xM_205 : ∀ w ∈ ([.methodLink RxM 205 yxH_origin, .instanceMethod yxH_origin, .selects yxH_origin.cls yxH_origin yxH_origin, .initialized yxH_origin.cls] : List Cond), w ∈ big := big_ps [491, 492, 493, 62] _ (by decide +kernel) rfl
theorem kF_xP_19 : Cond.fieldLink RxP 19 "ThrowScenario$Program" "size" "I" ∈ big := big_at 110 (by decide +kernel) rfl
theorem kF_xP_11 : Cond.fieldLink RxP 11 "ThrowScenario$Program" "nodes" "[LThrowScenario$Node;" ∈ big := big_at 108 (by decide +kernel) rfl
theorem kF_xP_15 : Cond.fieldLink RxP 15 "ThrowScenario$Program" "statements" "[I" ∈ big := big_at 109 (by decide +kernel) rfl
theorem kw_xP_34 : ∀ w ∈ ([.methodLink RxP 34 yxP_isRoutine, .static yxP_isRoutine, .initialized yxP_isRoutine.cls] : List Cond), w ∈ big := big_ps [307, 308, 54] _ (by decide +kernel) rfl
theorem kw_xP_38 : ∀ w ∈ ([.methodLink RxP 38 yxP_isVariable, .static yxP_isVariable, .initialized yxP_isVariable.cls] : List Cond), w ∈ big := big_ps [300, 301, 54] _ (by decide +kernel) rfl
theorem kw_xP_41 : ∀ w ∈ ([.methodLink RxP 41 yxP_isNode, .instanceMethod yxP_isNode, .selects yxP_isNode.cls yxP_isNode yxP_isNode, .initialized yxP_isNode.cls] : List Cond), w ∈ big := big_ps [303, 304, 305, 54] _ (by decide +kernel) rfl
theorem kF_xP_23 : Cond.fieldLink RxP 23 "ThrowScenario$Program" "classes" "LThrowScenario$Classes;" ∈ big := big_at 107 (by decide +kernel) rfl
theorem kw_xP_44 : ∀ w ∈ ([.methodLink RxP 44 yxC_has, .instanceMethod yxC_has, .selects yxC_has.cls yxC_has yxC_has, .initialized yxC_has.cls] : List Cond), w ∈ big := big_ps [310, 281, 282, 52] _ (by decide +kernel) rfl
theorem kw_xP_49 : ∀ w ∈ ([.methodLink RxP 49 yxP_isMonitor, .static yxP_isMonitor, .initialized yxP_isMonitor.cls] : List Cond), w ∈ big := big_ps [311, 312, 54] _ (by decide +kernel) rfl
theorem kw_xP_52 : ∀ w ∈ ([.methodLink RxP 52 yxP_levelAt, .instanceMethod yxP_levelAt, .selects yxP_levelAt.cls yxP_levelAt yxP_levelAt, .initialized yxP_levelAt.cls] : List Cond), w ∈ big := big_ps [318, 320, 0, 54] _ (by decide +kernel) rfl
theorem kM_xP_56 : Cond.methodLink RxP 56 Lib.Math.max.name ∈ big ∧ Cond.static Lib.Math.max.name ∈ big ∧ Cond.initialized "java/lang/Math" ∈ big ∧ Cond.code Lib.Math.max.name Lib.Math.max.code 2 (some .int) ∈ big := ⟨big_at 322 (by decide +kernel) rfl, big_at 169 (by decide +kernel) rfl, big_at 61 (by decide +kernel) rfl, big_at 170 (by decide +kernel) rfl⟩
theorem kF_xP_62 : Cond.fieldLink RxP 62 "ThrowScenario$Node" "level" "I" ∈ big := big_at 346 (by decide +kernel) rfl
theorem kF_xH_7 : Cond.fieldLink RxH 7 "ThrowScenario$Thrown" "type" "I" ∈ big := big_at 182 (by decide +kernel) rfl
theorem kF_xH_13 : Cond.fieldLink RxH 13 "ThrowScenario$Thrown" "message" "I" ∈ big := big_at 186 (by decide +kernel) rfl
theorem kF_xH_16 : Cond.fieldLink RxH 16 "ThrowScenario$Thrown" "cause" "LThrowScenario$Thrown;" ∈ big := big_at 189 (by decide +kernel) rfl
theorem kF_xH_20 : Cond.fieldLink RxH 20 "ThrowScenario$Thrown" "suppressed" "I" ∈ big := big_at 192 (by decide +kernel) rfl
theorem kc_xC_has : Cond.code yxC_has cxC_has 2 (some .boolean) ∈ big := big_at 283 rfl rfl
theorem kc_xC_is : Cond.code yxC_is cxC_is 5 (some .boolean) ∈ big := big_at 447 rfl rfl
theorem kc_xM_addToLog : Cond.code yxM_addToLog cxM_addToLog 2 none ∈ big := big_at 486 rfl rfl
theorem kc_xM_call : Cond.code yxM_call cxM_call 4 (some (.object "ThrowScenario$Way")) ∈ big := big_at 426 rfl rfl
theorem kc_xM_carry : Cond.code yxM_carry cxM_carry 3 (some (.object "ThrowScenario$Way")) ∈ big := big_at 460 rfl rfl
theorem kc_xM_cast : Cond.code yxM_cast cxM_cast 3 (some (.object "ThrowScenario$Way")) ∈ big := big_at 478 rfl rfl
theorem kc_xM_choose : Cond.code yxM_choose cxM_choose 5 (some (.object "ThrowScenario$Way")) ∈ big := big_at 416 rfl rfl
theorem kc_xM_divide : Cond.code yxM_divide cxM_divide 3 (some (.object "ThrowScenario$Way")) ∈ big := big_at 470 rfl rfl
theorem kc_xM_doBoth : Cond.code yxM_doBoth cxM_doBoth 9 (some (.object "ThrowScenario$Way")) ∈ big := big_at 452 rfl rfl
theorem kc_xM_index : Cond.code yxM_index cxM_index 4 (some (.object "ThrowScenario$Way")) ∈ big := big_at 474 rfl rfl
theorem kc_xM_lock : Cond.code yxM_lock cxM_lock 5 (some (.object "ThrowScenario$Way")) ∈ big := big_at 456 rfl rfl
theorem kc_xM_loop : Cond.code yxM_loop cxM_loop 6 (some (.object "ThrowScenario$Way")) ∈ big := big_at 420 rfl rfl
theorem kc_xM_mayBegin : Cond.code yxM_mayBegin cxM_mayBegin 1 (some .boolean) ∈ big := big_at 399 rfl rfl
theorem kc_xM_note : Cond.code yxM_note cxM_note 3 (some (.object "ThrowScenario$Way")) ∈ big := big_at 490 rfl rfl
theorem kc_xM_perform : Cond.code yxM_perform cxM_perform 5 (some (.object "ThrowScenario$Way")) ∈ big := big_at 395 rfl rfl
theorem kc_xM_raise : Cond.code yxM_raise cxM_raise 4 (some (.object "ThrowScenario$Way")) ∈ big := big_at 431 rfl rfl
theorem kc_xM_rethrow : Cond.code yxM_rethrow cxM_rethrow 2 (some (.object "ThrowScenario$Way")) ∈ big := big_at 466 rfl rfl
theorem kc_xM_sequence : Cond.code yxM_sequence cxM_sequence 5 (some (.object "ThrowScenario$Way")) ∈ big := big_at 410 rfl rfl
theorem kc_xM_tryAndCatch : Cond.code yxM_tryAndCatch cxM_tryAndCatch 5 (some (.object "ThrowScenario$Way")) ∈ big := big_at 443 rfl rfl
theorem kc_xM_wake : Cond.code yxM_wake cxM_wake 2 (some (.object "ThrowScenario$Way")) ∈ big := big_at 482 rfl rfl
theorem kc_xP_at : Cond.code yxP_at cxP_at 2 (some (.object "ThrowScenario$Node")) ∈ big := big_at 406 rfl rfl
theorem kc_xP_isDefined : Cond.code yxP_isDefined cxP_isDefined 2 (some .boolean) ∈ big := big_at 379 rfl rfl
theorem kc_xP_isMonitor : Cond.code yxP_isMonitor cxP_isMonitor 1 (some .boolean) ∈ big := big_at 313 rfl rfl
theorem kc_xP_isNode : Cond.code yxP_isNode cxP_isNode 2 (some .boolean) ∈ big := big_at 306 rfl rfl
theorem kc_xP_isRoutine : Cond.code yxP_isRoutine cxP_isRoutine 1 (some .boolean) ∈ big := big_at 309 rfl rfl
theorem kc_xP_isVariable : Cond.code yxP_isVariable cxP_isVariable 1 (some .boolean) ∈ big := big_at 302 rfl rfl
theorem kc_xP_levelAt : Cond.code yxP_levelAt cxP_levelAt 2 (some .int) ∈ big := big_at 321 rfl rfl
theorem kc_xP_statementOf : Cond.code yxP_statementOf cxP_statementOf 2 (some .int) ∈ big := big_at 391 rfl rfl
theorem kc_xH_become : Cond.code yxH_become cxH_become 4 none ∈ big := big_at 435 rfl rfl
theorem kc_xH_origin : Cond.code yxH_origin cxH_origin 2 (some (.object "ThrowScenario$Thrown")) ∈ big := big_at 494 rfl rfl
theorem in_xC : ∀ w ∈ u_ws RxC TxC 2, w ∈ big := big_ps [93, 95] _ (by decide +kernel) (by decide +kernel)
theorem in_xM : ∀ w ∈ u_ws RxM TxM 15, w ∈ big := big_ps [220, 222, 224, 226, 228, 230, 232, 234, 236, 238, 240, 242, 244, 246, 248] _ (by decide +kernel) (by decide +kernel)
theorem in_xN : ∀ w ∈ u_ws RxN TxN 5, w ∈ big := big_ps [347, 349, 351, 353, 355] _ (by decide +kernel) (by decide +kernel)
theorem in_xP : ∀ w ∈ u_ws RxP TxP 4, w ∈ big := big_ps [111, 113, 115, 117] _ (by decide +kernel) (by decide +kernel)
theorem in_xH : ∀ w ∈ u_ws RxH TxH 4, w ∈ big := big_ps [196, 198, 200, 202] _ (by decide +kernel) (by decide +kernel)
end
section
/-- the globals: classes' numbers and slots; where the law's own cells begin; array classes; the enum's constants; texts and their bytes -/
abbrev Gm : Type := va_G × Nat × (Nat → ClassId) × (Nat → Nat) × (Nat → Nat) × (Nat → Nat)
def AA (Γ : Gm) : Nat → Prop := fun q => Γ.2.1 ≤ q
def tyG (Γ : Gm) : List (ClassId × FieldType) := [(Γ.2.2.1 0, .int), (Γ.2.2.1 1, .object "ThrowScenario$Node"), (Γ.2.2.1 2, .object "ThrowScenario$Thrown"), (Γ.2.2.1 3, .byte), (Γ.2.2.1 4, .long)]
abbrev wayN : List String := ["NORMALLY", "BREAK", "RETURN", "THROWING", "EXIT", "TIRING"]
abbrev wayF : List (String × String × String × List Int32) := [("ThrowScenario$Way", "endsRun", "Z", [0, 0, 0, 0, 1, 1])]
def GY (_ : Gm) (_ : State) (_ : Heap) : Prop := True
def GX (Γ : Gm) (U : State) (H : Heap) : Prop := Γ.2.1 ≤ H.size ∧ va_K Γ.1 vwCl (tyG Γ) U ∧ va_En "ThrowScenario$Way" "LThrowScenario$Way;" wayN wayF Γ.2.2.2.1 (AA Γ) U H ∧ GY Γ U H
theorem GX_K {Γ : Gm} {U : State} {H : Heap} (h : GX Γ U H) : va_K Γ.1 vwCl (tyG Γ) U := h.2.1
theorem GX_E {Γ : Gm} {U : State} {H : Heap} (h : GX Γ U H) : va_En "ThrowScenario$Way" "LThrowScenario$Way;" wayN wayF Γ.2.2.2.1 (AA Γ) U H := h.2.2.1
theorem GX_same {Γ : Gm} {u U : State} {H : Heap} (hv : U.vm = u.vm) (h : GX Γ u H) : GX Γ U H := by
  have ha : u.vm.Alike U.vm := by rw [hv]; exact Vm.Alike.refl _
  exact ⟨h.1, va_K.moved ha h.2.1, va_En.moved ha h.2.2.1, h.2.2.2⟩
theorem GX_warm {Γ : Gm} {s U : State} {H : Heap} (hW : s.WarmedH U.vm) (h : GX Γ s H) : GX Γ U H :=
  ⟨h.1, va_K.moved hW.alike h.2.1, va_En.moved hW.alike h.2.2.1, h.2.2.2⟩
theorem GX_kept {Γ : Gm} {s : State} {H : Heap} {locs : List Loc} (h : GX Γ s s.heap) (hS : va_S (AA Γ) s.heap H locs) : GX Γ s H :=
  ⟨Nat.le_trans h.1 hS.1, h.2.1, va_En.kept h.2.2.1 hS.2.1, h.2.2.2⟩
theorem GX_A {Γ : Gm} {s : State} (h : GX Γ s s.heap) : ∀ q, s.heap.size ≤ q → AA Γ q := fun q hq => Nat.le_trans h.1 hq
/-! pools: n cells in a row of the world, told by their place -/
def uu (R : Nat → Nat → Int32) (a i : Nat) (v : Int32) : Nat → Nat → Int32 := fun b => if b = a then upd (R a) i v else R b
def pz (n : Nat) (f : Nat → Nat × va_E) : va_W := (List.range n).map f
theorem pz_len {n : Nat} {f : Nat → Nat × va_E} : (pz n f).length = n := by simp [pz]
theorem pz_at {n i : Nat} {f : Nat → Nat × va_E} (h : i < n) : (pz n f)[i]? = some (f i) := by simp [pz, h]
theorem pz_congr {n : Nat} {f g : Nat → Nat × va_E} (h : ∀ i, i < n → f i = g i) : pz n f = pz n g := List.map_congr_left (fun i hi => h i (List.mem_range.mp hi))
theorem pz_get {X Y : va_W} {n i k : Nat} {f : Nat → Nat × va_E} (hk : X.length = k) (h : i < n) : (X ++ (pz n f ++ Y))[k + i]? = some (f i) := by
  subst hk
  rw [List.getElem?_append_right (Nat.le_add_right _ _), Nat.add_sub_cancel_left, List.getElem?_append_left (by rw [pz_len]; exact h)]
  exact pz_at h
theorem pz_setp {n i : Nat} {f : Nat → Nat × va_E} {v : Nat × va_E} : (pz n f).set i v = pz n (fun j => if j = i then v else f j) := by
  apply List.ext_getElem?
  intro j
  rw [List.getElem?_set]
  by_cases hj : j < n
  · rw [pz_at hj, pz_at hj]
    by_cases e : i = j
    · subst e
      simp [pz_len, hj]
    · rw [if_neg e, if_neg (fun z => e z.symm)]
  · have h1 : (pz n f)[j]? = none := List.getElem?_eq_none (by rw [pz_len]; omega)
    have h2 : (pz n (fun j => if j = i then v else f j))[j]? = none := List.getElem?_eq_none (by rw [pz_len]; omega)
    rw [h1, h2]
    by_cases e : i = j
    · subst e
      simp [pz_len, hj]
    · rw [if_neg e]
theorem pz_set {X Y : va_W} {n i k : Nat} {f g : Nat → Nat × va_E} {v : Nat × va_E} (hk : X.length = k) (h : i < n) (hg : ∀ j, j < n → g j = if j = i then v else f j) : (X ++ (pz n f ++ Y)).set (k + i) v = X ++ (pz n g ++ Y) := by
  subst hk
  rw [List.set_append_right _ _ (Nat.le_add_right _ _), Nat.add_sub_cancel_left, List.set_append_left _ _ (by rw [pz_len]; exact h), pz_setp]
  rw [pz_congr (fun j hj => (hg j hj).symm)]
theorem uu_same {R : Nat → Nat → Int32} {a i : Nat} {v : Int32} : uu R a i v a i = v := by simp [uu, upd]
theorem uu_row {R : Nat → Nat → Int32} {a b i : Nat} {v : Int32} (h : b ≠ a) : uu R a i v b = R b := by simp [uu, h]
theorem uu_other {R : Nat → Nat → Int32} {a i j : Nat} {v : Int32} (h : j ≠ i) : uu R a i v a j = R a j := by simp [uu, upd, h]
theorem va_rf_cat {r : Option Nat} : (va_rf r).category = 1 := by cases r <;> rfl
/-! base rows: globals, worlds with a frame, one form of contract for all methods -/
def HS (Γ : Gm) (s : State) (W0 : va_W) (H : Heap) (locs : List Loc) : Prop := va_P Γ.1 vwCl W0 H ∧ va_D (AA Γ) W0 ∧ va_S (AA Γ) s.heap H locs
def PM (Γ : Gm) (as : List Value) (W0 : va_W) : Array Value → State → Prop := fun a U => a = as.toArray ∧ GX Γ U U.heap ∧ va_P Γ.1 vwCl W0 U.heap ∧ va_D (AA Γ) W0
def QM (Γ : Gm) (K : Option Value → va_W → Prop) : Array Value → State → Outcome → State → Prop := fun _ st oc t => ∃ (v : Option Value) (W1 : va_W), K v W1 ∧ oc = .returned v ∧ va_P Γ.1 vwCl W1 t.heap ∧ va_D (AA Γ) W1 ∧ va_F (AA Γ) st t
/-- one answer, one world -/
abbrev KD (v : Option Value) (W1 : va_W) : Option Value → va_W → Prop := fun v' W' => v' = v ∧ W' = W1
abbrev MM (l : Launch) (y : MethodName) (cc : ByteArray) (n : Nat) (ret : Option FieldType) (fr lo : Nat) (Γ : Gm) (as : List Value) (W0 : va_W) (K : Option Value → va_W → Prop) (mc ms : Nat) : Prop :=
  Met l y (wz y cc n ret) { frames := fr, cells := mc, slots := ms, locals := lo } (PM Γ as W0) (QM Γ K) mc ms (AA Γ)
theorem PM_blind {Γ : Gm} {as : List Value} {W0 : va_W} : FrameBlind (PM Γ as W0) := fun a U g mk h =>
  ⟨h.1, GX_same (u := U) (U := U.calling g mk a) rfl h.2.1, h.2.2.1, h.2.2.2⟩
section ZB
variable {p : Program} {l : Launch} {e : Env} {R : Room} {s : State} {m : MethodId} {args : Array Value} {below : List Frame} {meth : Method} {c : Code} {H : Heap} {locs : List Loc} {cells slots : Nat} {Q : State → Prop}
variable {cc : ByteArray} {nL : Nat} {own : String} {pc : Nat} {ls : Array Slot} {rest : List Value} {Γ : Gm} {W0 : va_W} {a : Nat}
theorem HS_pre {U : State} {as : List Value} (hG : GX Γ s s.heap) (h : HS Γ s W0 H locs) (hU : U.heap = H) (hW : s.WarmedH U.vm) : PM Γ as W0 as.toArray U := by
  refine ⟨rfl, ?_, by rw [hU]; exact h.1, h.2.1⟩
  rw [hU]
  exact GX_warm hW (GX_kept hG h.2.2)
/-- a method's contract out of the walk of its body -/
theorem MM_of {y : MethodName} {n : Nat} {ret : Option FieldType} {fr lo mc ms : Nat} {as : List Value} {K : Option Value → va_W → Prop} (hy : plainName y.cls = true) (hsl : (lg_sl as).length ≤ n)
    (body : ∀ (p : Program) (e : Env) (s : State) (m : MethodId) (below : List Frame) (meth : Method) (c : Code), CallFix p m c cc n s as.toArray big y.cls → meth.sig.returnType = ret → meth.locks = false → meth.name = y.name → GX Γ s s.heap → HS Γ s W0 s.heap [] → ∀ ls : Array Slot, lv_has ls n (lv_args 0 as) →
      W p l e { frames := fr, cells := mc, slots := ms, locals := lo } s m as.toArray below meth c s.heap [] 0 0 (MQ below (QM Γ K) as.toArray s mc ms (AA Γ)) (F0 m 0 ls [])) :
    MM l y cc n ret fr lo Γ as W0 K mc ms := by
  refine Met.ofW (cc := cc) (maxL := n) (ret := ret) hy rfl ?_
  intro p e s m args below meth c s₁ B hml hv
  obtain ⟨rfl, hG, hP, hD⟩ := hv
  have hts := atoms_spec (ws := wz y cc n ret) B.pre
  have hown : s.vm.findClass y.cls = some m.cls := findClass_of_methodNamed B.named
  have hl := lv_entry as (n := n) hsl
  rw [lg_entry_eq]
  exact body p e s m below meth c ⟨B.exec, B.bytes, hml, hown, fun w hw => hts w (List.mem_cons_of_mem _ hw)⟩ B.returns B.notSynchronized (name_of_methodNamed B.named B.method).1 hG ⟨hP, hD, va_S.rf⟩ _ hl
theorem z_iret {K : Option Value → va_W → Prop} {v : Int32} (X : CallFix p m c cc nL s args big own) (hr : meth.sig.returnType = some .int) (hlk : meth.locks = false) (h : HS Γ s W0 H locs) (hK : K (some (.int v)) W0) (hdg : decode cc pc = .ok (.ireturn, 1)) :
    W p l e R s m args below meth c H locs cells slots (MQ below (QM Γ K) args s cells slots (AA Γ)) (F0 m pc ls [.int v]) :=
  W.iret X.1 X.2.1 hr (fun t ht _ => ⟨_, _, hK, rfl, by rw [ht]; exact h.1, h.2.1, h.2.2.F ht⟩) h.2.2.2.2 hdg hlk
theorem z_zret {K : Option Value → va_W → Prop} {v : Int32} (X : CallFix p m c cc nL s args big own) (hr : meth.sig.returnType = some .boolean) (hlk : meth.locks = false) (h : HS Γ s W0 H locs) (hn : narrow .boolean (.int v) = .int v) (hK : K (some (.int v)) W0) (hdg : decode cc pc = .ok (.ireturn, 1)) :
    W p l e R s m args below meth c H locs cells slots (MQ below (QM Γ K) args s cells slots (AA Γ)) (F0 m pc ls [.int v]) :=
  W.zret X.1 X.2.1 hr hn (fun t ht _ => ⟨_, _, hK, rfl, by rw [ht]; exact h.1, h.2.1, h.2.2.F ht⟩) h.2.2.2.2 hdg hlk
theorem z_lret {K : Option Value → va_W → Prop} {v : Int64} (X : CallFix p m c cc nL s args big own) (hr : meth.sig.returnType = some .long) (hlk : meth.locks = false) (h : HS Γ s W0 H locs) (hK : K (some (.long v)) W0) (hdg : decode cc pc = .ok (.lreturn, 1)) :
    W p l e R s m args below meth c H locs cells slots (MQ below (QM Γ K) args s cells slots (AA Γ)) (F0 m pc ls [.long v]) :=
  W.lret X.1 X.2.1 hr (fun t ht _ => ⟨_, _, hK, rfl, by rw [ht]; exact h.1, h.2.1, h.2.2.F ht⟩) h.2.2.2.2 hdg hlk
theorem z_vret {K : Option Value → va_W → Prop} (X : CallFix p m c cc nL s args big own) (hr : meth.sig.returnType = none) (hlk : meth.locks = false) (h : HS Γ s W0 H locs) (hK : K none W0) (hdg : decode cc pc = .ok (.return_, 1)) :
    W p l e R s m args below meth c H locs cells slots (MQ below (QM Γ K) args s cells slots (AA Γ)) (F0 m pc ls []) :=
  W.vret X.1 X.2.1 hr (fun t ht _ => ⟨_, _, hK, rfl, by rw [ht]; exact h.1, h.2.1, h.2.2.F ht⟩) h.2.2.2.2 hdg hlk
theorem z_aret {K : Option Value → va_W → Prop} {v : Value} {n : String} (X : CallFix p m c cc nL s args big own) (hr : meth.sig.returnType = some (.object n)) (hlk : meth.locks = false) (h : HS Γ s W0 H locs) (hv : v = .null ∨ ∃ a, v = .ref a) (hK : K (some v) W0) (hdg : decode cc pc = .ok (.areturn, 1)) :
    W p l e R s m args below meth c H locs cells slots (MQ below (QM Γ K) args s cells slots (AA Γ)) (F0 m pc ls [v]) :=
  W.aret X.1 X.2.1 hr (Or.inl ⟨_, rfl⟩) hv (fun t ht _ => ⟨_, _, hK, rfl, by rw [ht]; exact h.1, h.2.1, h.2.2.F ht⟩) h.2.2.2.2 hdg hlk
/-- what a call leaves -/
theorem z_back {K : Option Value → va_W → Prop} {mc ms : Nat} {st0 : List Value} {av : Array Value} (h : HS Γ s W0 H locs) (hr : va_Run p l e R s m args below meth c H locs cells slots mc ms (F0 m pc ls st0) rest (QM Γ K av) (AA Γ))
    (kk : ∀ (v : Option Value) (W1 : va_W), K v W1 → ∀ (H1 : Heap) (locs1 : List Loc), HS Γ s W1 H1 locs1 → W p l e R s m args below meth c H1 locs1 (cells + mc) (slots + ms) Q (F0 m (pc + 3) ls (v.toList ++ rest))) :
    W p l e R s m args below meth c H locs cells slots Q (F0 m pc ls st0) := by
  intro T hT X
  obtain ⟨v, st₀, t, T', L, h0, X', hL, e1, e2, ⟨v1, W1, hK, hv, hP, hD, hz, hk⟩, st⟩ := hr T hT X
  cases hv
  rw [h0] at hz hk
  have hS := h.2.2
  obtain ⟨t2, a1, b1⟩ := kk v W1 hK T'.heap (locs ++ L) ⟨by rw [e1]; exact hP, hD, Nat.le_trans hS.1 (by rw [e1]; exact hz), fun q h1 h2 => by rw [e1, hk q (Nat.lt_of_lt_of_le h1 hS.1) h2]; exact hS.2.1 q h1 h2, fun q hq => by
      rcases List.mem_append.mp hq with h | h
      · exact hS.2.2 q h
      · exact hL q h⟩ T' rfl X'
  exact ⟨t2, st t2 a1, b1⟩
/-- invokevirtual of a method with a contract; the receiver stands at place q0 of the world -/
theorem z_callV {y : MethodName} {bytes : ByteArray} {maxL n index fr lo mc ms ci q0 : Nat} {ret : Option FieldType} {q : vw_C} {fs As : List Value} {K : Option Value → va_W → Prop}
    (X : CallFix p m c cc nL s args big own) (hG : GX Γ s s.heap) (h : HS Γ s W0 H locs) (hls : ls.size = nL)
    (hM : MM l y bytes maxL ret fr lo Γ (.ref a :: As) W0 K mc ms)
    (hw : ∀ w ∈ ([.methodLink own index y, .instanceMethod y, .selects y.cls y y, .initialized y.cls] : List Cond), w ∈ big) (hcode : Cond.code y bytes maxL ret ∈ big)
    (hd : y.cls ≠ "java/lang/invoke/MethodHandle" ∧ y.cls ≠ "java/lang/invoke/VarHandle" ∧ (parseMethodDescriptor y.desc).map (fun d => d.parameters.length) = some n)
    (hR : fr + 1 ≤ R.frames ∧ 8 + (maxL + 11) + lo ≤ R.locals) (hc : vwCl[ci]? = some q) (hq : q.1 = y.cls) (he : W0[q0]? = some (a, .inr (ci, fs))) (hn : As.length = n)
    (hW : (rest.map fun v => v.category).sum ≤ 8) (hdg : decode cc pc = .ok (.invokevirtual index, 3)) (hf : cells + mc ≤ R.cells ∧ slots + ms ≤ R.slots)
    (kk : ∀ (v : Option Value) (W1 : va_W), K v W1 → ∀ (H1 : Heap) (locs1 : List Loc), HS Γ s W1 H1 locs1 → W p l e R s m args below meth c H1 locs1 (cells + mc) (slots + ms) Q (F0 m (pc + 3) ls (v.toList ++ rest))) :
    W p l e R s m args below meth c H locs cells slots Q (F0 m pc ls (As.reverse ++ .ref a :: rest)) := by
  have hrc : ∃ cell : Cell, H[a]? = some cell ∧ cell.vm.isStatics = false ∧ s.vm.findClass y.cls = some cell.cls := by
    rw [← hq]; exact va_recv (GX_K hG) h.1 hc he
  refine z_back h (va_runV (g := F0 m pc ls (As.reverse ++ .ref a :: rest)) (As := As) (b := a) (C := y.cls) X hM (cwV n X.2.2.2.2 (big_GoodIn ?_) rfl rfl rfl ⟨rfl, hd⟩ hR) ⟨PM_blind, hrc, fun U hU hWm => HS_pre hG h hU hWm⟩ rfl hn hls rfl (lv_room hW) hdg hf) kk
  intro w hw1
  rcases List.mem_append.mp hw1 with h1 | h1
  · exact hw w h1
  · exact wz_in hcode w h1
/-- invokevirtual of a nest mate's private method -/
theorem z_callVN {y : MethodName} {bytes : ByteArray} {maxL n index fr lo mc ms ci q0 : Nat} {ret : Option FieldType} {host : String} {q : vw_C} {fs As : List Value} {K : Option Value → va_W → Prop}
    (X : CallFix p m c cc nL s args big own) (hG : GX Γ s s.heap) (h : HS Γ s W0 H locs) (hls : ls.size = nL)
    (hM : MM l y bytes maxL ret fr lo Γ (.ref a :: As) W0 K mc ms)
    (hw : ∀ w ∈ ([.instanceMethod y, .selects y.cls y y, .initialized y.cls] : List Cond), w ∈ big) (hnw : va_Nw (.methodLinkNest own index y host) s) (hcode : Cond.code y bytes maxL ret ∈ big)
    (hd : y.cls ≠ "java/lang/invoke/MethodHandle" ∧ y.cls ≠ "java/lang/invoke/VarHandle" ∧ (parseMethodDescriptor y.desc).map (fun d => d.parameters.length) = some n)
    (hR : fr + 1 ≤ R.frames ∧ 8 + (maxL + 11) + lo ≤ R.locals) (hc : vwCl[ci]? = some q) (hq : q.1 = y.cls) (he : W0[q0]? = some (a, .inr (ci, fs))) (hn : As.length = n)
    (hW : (rest.map fun v => v.category).sum ≤ 8) (hdg : decode cc pc = .ok (.invokevirtual index, 3)) (hf : cells + mc ≤ R.cells ∧ slots + ms ≤ R.slots)
    (kk : ∀ (v : Option Value) (W1 : va_W), K v W1 → ∀ (H1 : Heap) (locs1 : List Loc), HS Γ s W1 H1 locs1 → W p l e R s m args below meth c H1 locs1 (cells + mc) (slots + ms) Q (F0 m (pc + 3) ls (v.toList ++ rest))) :
    W p l e R s m args below meth c H locs cells slots Q (F0 m pc ls (As.reverse ++ .ref a :: rest)) := by
  have hrc : ∃ cell : Cell, H[a]? = some cell ∧ cell.vm.isStatics = false ∧ s.vm.findClass y.cls = some cell.cls := by
    rw [← hq]; exact va_recv (GX_K hG) h.1 hc he
  have ok := fun w hw1 => X.2.2.2.2 w (hw w hw1)
  exact z_back h (va_runVN (g := F0 m pc ls (As.reverse ++ .ref a :: rest)) (As := As) (b := a) (C := y.cls) X hM ⟨va_cnB n X.2.2.2.2 (big_GoodIn (wz_in hcode)) rfl rfl rfl hnw (ok _ (by simp)) hd hR, ok _ (by simp), ok _ (by simp)⟩ ⟨PM_blind, hrc, fun U hU hWm => HS_pre hG h hU hWm⟩ rfl hn hls rfl (lv_room hW) hdg hf) kk
/-- invokestatic of a method of any class -/
theorem z_callS {y : MethodName} {bytes : ByteArray} {maxL n index fr lo mc ms : Nat} {ret : Option FieldType} {As : List Value} {K : Option Value → va_W → Prop}
    (X : CallFix p m c cc nL s args big own) (hG : GX Γ s s.heap) (h : HS Γ s W0 H locs) (hls : ls.size = nL)
    (hM : MM l y bytes maxL ret fr lo Γ As W0 K mc ms)
    (hw : ∀ w ∈ ([.methodLink own index y, .static y, .initialized y.cls] : List Cond), w ∈ big) (hcode : Cond.code y bytes maxL ret ∈ big)
    (hd : y.cls ≠ "java/lang/invoke/MethodHandle" ∧ y.cls ≠ "java/lang/invoke/VarHandle" ∧ (parseMethodDescriptor y.desc).map (fun d => d.parameters.length) = some n)
    (hR : fr + 1 ≤ R.frames ∧ 8 + (maxL + 11) + lo ≤ R.locals) (hn : As.length = n)
    (hW : (rest.map fun v => v.category).sum ≤ 8) (hdg : decode cc pc = .ok (.invokestatic index, 3)) (hf : cells + mc ≤ R.cells ∧ slots + ms ≤ R.slots)
    (kk : ∀ (v : Option Value) (W1 : va_W), K v W1 → ∀ (H1 : Heap) (locs1 : List Loc), HS Γ s W1 H1 locs1 → W p l e R s m args below meth c H1 locs1 (cells + mc) (slots + ms) Q (F0 m (pc + 3) ls (v.toList ++ rest))) :
    W p l e R s m args below meth c H locs cells slots Q (F0 m pc ls (As.reverse ++ rest)) := by
  have ok := fun w hw1 => X.2.2.2.2 w (hw w hw1)
  exact z_back h (va_runS (g := F0 m pc ls (As.reverse ++ rest)) (As := As) X hM ⟨callB_of n X.2.2.2.2 (big_GoodIn (wz_in hcode)) rfl rfl rfl (ok _ (by simp)) (ok _ (by simp)) hd hR, ok _ (by simp)⟩ ⟨PM_blind, fun U hU hWm => HS_pre hG h hU hWm⟩ rfl hn hls rfl (lv_room hW) hdg hf) kk
/-- invokespecial of a constructor -/
theorem z_callI {y : MethodName} {bytes : ByteArray} {maxL n index fr lo mc ms : Nat} {As : List Value} {K : Option Value → va_W → Prop}
    (X : CallFix p m c cc nL s args big own) (hG : GX Γ s s.heap) (h : HS Γ s W0 H locs) (hls : ls.size = nL)
    (hM : MM l y bytes maxL none fr lo Γ (.ref a :: As) W0 K mc ms)
    (hw : ∀ w ∈ ([.methodLink own index y, .instanceMethod y, .initialized y.cls] : List Cond), w ∈ big) (hcode : Cond.code y bytes maxL none ∈ big) (hy : y.name = "<init>")
    (hd : y.cls ≠ "java/lang/invoke/MethodHandle" ∧ y.cls ≠ "java/lang/invoke/VarHandle" ∧ (parseMethodDescriptor y.desc).map (fun d => d.parameters.length) = some n)
    (hR : fr + 1 ≤ R.frames ∧ 8 + (maxL + 11) + lo ≤ R.locals) (hn : As.length = n)
    (hW : (rest.map fun v => v.category).sum ≤ 8) (hdg : decode cc pc = .ok (.invokespecial index, 3)) (hf : cells + mc ≤ R.cells ∧ slots + ms ≤ R.slots)
    (kk : ∀ (v : Option Value) (W1 : va_W), K v W1 → ∀ (H1 : Heap) (locs1 : List Loc), HS Γ s W1 H1 locs1 → W p l e R s m args below meth c H1 locs1 (cells + mc) (slots + ms) Q (F0 m (pc + 3) ls (v.toList ++ rest))) :
    W p l e R s m args below meth c H locs cells slots Q (F0 m pc ls (As.reverse ++ .ref a :: rest)) := by
  have ok := fun w hw1 => X.2.2.2.2 w (hw w hw1)
  exact z_back h (va_runI (g := F0 m pc ls (As.reverse ++ .ref a :: rest)) (As := As) (b := a) X hM (cwI n X.2.2.2.2 (big_GoodIn (wz_in hcode)) rfl rfl rfl (ok _ (by simp)) (ok _ (by simp)) (ok _ (by simp)) hy hd hR) ⟨PM_blind, fun U hU hWm => HS_pre hG h hU hWm⟩ rfl hn hls rfl (lv_room hW) hdg hf) kk
/-- getfield -/
theorem z_get (X : CallFix p m c cc nL s args big own) (hG : GX Γ s s.heap) (h : HS Γ s W0 H locs) {ref C : String} {T : u_T} {N ci index : Nat} (hin : ∀ w ∈ u_ws C T N, w ∈ big) (q0 : Nat) {fs : List Value} (he : W0[q0]? = some (a, .inr (ci, fs))) (hc : vwCl[ci]? = some (C, T, N)) (k : Nat) (hk : k < N) (hT : (T k).1 = ref) (hlink : Cond.fieldLink own index ref (T k).2.1 (T k).2.2.1 ∈ big) {v : Value} (hv : fs[k]? = some v) (hdg : decode cc pc = .ok (.getfield index, 3))
    (kk : W p l e R s m args below meth c H locs cells slots Q (F0 m (pc + 3) ls (v :: rest))) : W p l e R s m args below meth c H locs cells slots Q (F0 m pc ls (.ref a :: rest)) :=
  va_get X.1 X.2.1 X.2.2.2.2 hin X.2.2.2.1 (GX_K hG) h.1 q0 he hc k hk (X.2.2.2.2 _ hlink) (fun x h9 => by rw [hT] at h9; exact h9) hv hdg kk
/-- putfield of a field that is not final -/
theorem z_put (X : CallFix p m c cc nL s args big own) (hG : GX Γ s s.heap) (h : HS Γ s W0 H locs) {ref C : String} {T : u_T} {N ci index : Nat} (hin : ∀ w ∈ u_ws C T N, w ∈ big) (ty0 : Nat → FieldType) (hty : ∀ k, k < N → parseFieldDescriptor (T k).2.2.1 = some (ty0 k)) (hnm : ∀ a, a < N → ∀ b, b < N → a ≠ b → (T a).2.1 ≠ (T b).2.1) (q0 : Nat) {fs : List Value} (he : W0[q0]? = some (a, .inr (ci, fs))) (hc : vwCl[ci]? = some (C, T, N)) (k : Nat) (hk : k < N) (hT : (T k).1 = ref) (hlink : Cond.fieldLink own index ref (T k).2.1 (T k).2.2.1 ∈ big) (hfin : (T k).2.2.2 = false) {v : Value} (hn : narrow (ty0 k) v = v) (hfit : fits (ty0 k) v = true) (hl : k < fs.length) (hdg : decode cc pc = .ok (.putfield index, 3))
    (kk : ∀ (H1 : Heap) (locs1 : List Loc), HS Γ s (W0.set q0 (a, .inr (ci, fs.set k v))) H1 locs1 → W p l e R s m args below meth c H1 locs1 cells slots Q (F0 m (pc + 3) ls rest)) : W p l e R s m args below meth c H locs cells slots Q (F0 m pc ls (v :: .ref a :: rest)) :=
  va_put X.1 X.2.1 X.2.2.2.2 hin ty0 hty hnm X.2.2.2.1 (GX_K hG) h.1 h.2.1 h.2.2 q0 he hc k hk (X.2.2.2.2 _ hlink) (fun x h9 => by rw [hT] at h9; exact h9) hfin (hty k hk) hn hfit hl hdg (fun H1 locs1 a1 a2 a3 => kk H1 locs1 ⟨a1, a2, a3⟩)
theorem z_putF (X : CallFix p m c cc nL s args big own) (hG : GX Γ s s.heap) (h : HS Γ s W0 H locs) {C : String} {T : u_T} {N ci index : Nat} (hin : ∀ w ∈ u_ws C T N, w ∈ big) (ty0 : Nat → FieldType) (hty : ∀ k, k < N → parseFieldDescriptor (T k).2.2.1 = some (ty0 k)) (hnm : ∀ a, a < N → ∀ b, b < N → a ≠ b → (T a).2.1 ≠ (T b).2.1) (q0 : Nat) {fs : List Value} (he : W0[q0]? = some (a, .inr (ci, fs))) (hc : vwCl[ci]? = some (C, T, N)) (k : Nat) (hk : k < N) (hT : (T k).1 = own) (hlink : Cond.fieldLink own index own (T k).2.1 (T k).2.2.1 ∈ big) (hfin : (T k).2.2.2 = true) (hin2 : meth.name = "<init>") {v : Value} (hn : narrow (ty0 k) v = v) (hfit : fits (ty0 k) v = true) (hl : k < fs.length) (hdg : decode cc pc = .ok (.putfield index, 3))
    (kk : ∀ (H1 : Heap) (locs1 : List Loc), HS Γ s (W0.set q0 (a, .inr (ci, fs.set k v))) H1 locs1 → W p l e R s m args below meth c H1 locs1 cells slots Q (F0 m (pc + 3) ls rest)) : W p l e R s m args below meth c H locs cells slots Q (F0 m pc ls (v :: .ref a :: rest)) :=
  va_putF X.1 X.2.1 X.2.2.2.2 hin ty0 hty hnm X.2.2.2.1 (GX_K hG) h.1 h.2.1 h.2.2 q0 he hc k hk (X.2.2.2.2 _ hlink) (fun x h9 => by rw [hT] at h9; exact h9) hfin hin2 hT (hty k hk) hn hfit hl hdg (fun H1 locs1 a1 a2 a3 => kk H1 locs1 ⟨a1, a2, a3⟩)
/-- int arrays of the world -/
theorem z_iald (X : CallFix p m c cc nL s args big own) (hG : GX Γ s s.heap) (h : HS Γ s W0 H locs) (q0 t0 : Nat) {cA : ClassId} {n : Nat} {f : Nat → Int32} (ha : W0[q0]? = some (a, .inl (cA, n, .inl f))) (ht : (tyG Γ)[t0]? = some (cA, .int)) {i : Int32} (hin : vp_in i n) (hdg : decode cc pc = .ok (.iaload, 1))
    (kk : W p l e R s m args below meth c H locs cells slots Q (F0 m (pc + 1) ls (.int (f i.toNatClampNeg) :: rest))) : W p l e R s m args below meth c H locs cells slots Q (F0 m pc ls (.int i :: .ref a :: rest)) :=
  va_iald X.1 X.2.1 (GX_K hG) h.1 q0 t0 ha ht hin hdg kk
theorem z_iast (X : CallFix p m c cc nL s args big own) (hG : GX Γ s s.heap) (h : HS Γ s W0 H locs) (q0 t0 : Nat) {cA : ClassId} {n : Nat} {f : Nat → Int32} (ha : W0[q0]? = some (a, .inl (cA, n, .inl f))) (ht : (tyG Γ)[t0]? = some (cA, .int)) {i x : Int32} (hin : vp_in i n) (hdg : decode cc pc = .ok (.iastore, 1))
    (kk : ∀ (H1 : Heap) (locs1 : List Loc), HS Γ s (W0.set q0 (a, .inl (cA, n, .inl (upd f i.toNatClampNeg x)))) H1 locs1 → W p l e R s m args below meth c H1 locs1 cells slots Q (F0 m (pc + 1) ls rest)) : W p l e R s m args below meth c H locs cells slots Q (F0 m pc ls (.int x :: .int i :: .ref a :: rest)) :=
  va_iast X.1 X.2.1 (GX_K hG) h.1 h.2.1 h.2.2 q0 t0 ha ht hin hdg (fun H1 locs1 a1 a2 a3 => kk H1 locs1 ⟨a1, a2, a3⟩)
theorem z_aald (X : CallFix p m c cc nL s args big own) (hG : GX Γ s s.heap) (h : HS Γ s W0 H locs) (q0 t0 : Nat) {cA : ClassId} {C : String} {n : Nat} {f : Nat → Option Nat} (ha : W0[q0]? = some (a, .inl (cA, n, .inr (.inr (.inr (.inr f)))))) (ht : (tyG Γ)[t0]? = some (cA, .object C)) {i : Int32} (hin : vp_in i n) (hdg : decode cc pc = .ok (.aaload, 1))
    (kk : W p l e R s m args below meth c H locs cells slots Q (F0 m (pc + 1) ls (va_rf (f i.toNatClampNeg) :: rest))) : W p l e R s m args below meth c H locs cells slots Q (F0 m pc ls (.int i :: .ref a :: rest)) :=
  va_aldq X.1 X.2.1 (GX_K hG) h.1 q0 t0 ha ht hin hdg kk
/-- locals that hold a reference or null -/
theorem z_aload_nQ {k : Fin 4} {i : Nat} {r : Option Nat} (X : CallFix p m c cc nL s args big own) (hdg : decode cc pc = .ok (.aload_n k, 1)) (hi : (k : Nat) = i) (hl : ls[i]? = some (.val (va_rf r))) (kk : W p l e R s m args below meth c H locs cells slots Q (F0 m (pc + 1) ls (va_rf r :: rest))) : W p l e R s m args below meth c H locs cells slots Q (F0 m pc ls rest) := by
  cases r with
  | none => exact lv_aload_nN X.1 X.2.1 hdg hi hl kk
  | some x => exact lv_aload_n X.1 X.2.1 hdg hi hl kk
theorem z_aloadQ {i : Nat} {r : Option Nat} (X : CallFix p m c cc nL s args big own) (hdg : decode cc pc = .ok (.aload i, 2)) (hl : ls[i]? = some (.val (va_rf r))) (kk : W p l e R s m args below meth c H locs cells slots Q (F0 m (pc + 2) ls (va_rf r :: rest))) : W p l e R s m args below meth c H locs cells slots Q (F0 m pc ls rest) := by
  cases r with
  | none => exact lv_aloadN X.1 X.2.1 hdg hl kk
  | some x => exact lv_aload X.1 X.2.1 hdg hl kk
theorem z_ifnullQ {r : Option Nat} {off : Int} {tgt : Nat} (X : CallFix p m c cc nL s args big own) (hdg : decode cc pc = .ok (.ifnull off, 3)) (ht : (pc : Int) + off = (tgt : Int)) (kt : r = none → W p l e R s m args below meth c H locs cells slots Q (F0 m tgt ls rest)) (kf : ∀ x, r = some x → W p l e R s m args below meth c H locs cells slots Q (F0 m (pc + 3) ls rest)) : W p l e R s m args below meth c H locs cells slots Q (F0 m pc ls (va_rf r :: rest)) := by
  cases r with
  | none => exact lv_ifnullN X.1 X.2.1 hdg ht (kt rfl)
  | some x => exact lv_ifnull X.1 X.2.1 hdg (kf x rfl)
theorem z_ifnonnullQ {r : Option Nat} {off : Int} {tgt : Nat} (X : CallFix p m c cc nL s args big own) (hdg : decode cc pc = .ok (.ifnonnull off, 3)) (ht : (pc : Int) + off = (tgt : Int)) (kt : ∀ x, r = some x → W p l e R s m args below meth c H locs cells slots Q (F0 m tgt ls rest)) (kf : r = none → W p l e R s m args below meth c H locs cells slots Q (F0 m (pc + 3) ls rest)) : W p l e R s m args below meth c H locs cells slots Q (F0 m pc ls (va_rf r :: rest)) := by
  cases r with
  | none => exact lv_ifnonnullN X.1 X.2.1 hdg (kf rfl)
  | some x => exact lv_ifnonnull X.1 X.2.1 hdg ht (kt x rfl)
end ZB
section ZQ
variable {p : Program} {l : Launch} {e : Env} {R : Room} {s : State} {m : MethodId} {args : Array Value} {below : List Frame} {meth : Method} {c : Code} {H : Heap} {locs : List Loc} {cells slots : Nat} {Q : State → Prop}
variable {cc : ByteArray} {nL : Nat} {own : String} {pc : Nat} {ls : Array Slot} {rest : List Value}
theorem z_astore_nQ {k : Fin 4} {i n : Nat} {r : Option Nat} {lv lv' : List (Nat × Value)} (X : CallFix p m c cc nL s args big own) (hdg : decode cc pc = .ok (.astore_n k, 1)) (hi : (k : Nat) = i) (h : lv_has ls n lv) (hn : i < n) (hl : (i, va_rf r) :: lv.filter (fun q => !(q.1 == i) && !(q.1 + 1 == i && q.2.category == 2)) = lv') (kk : ∀ ls' : Array Slot, lv_has ls' n lv' → W p l e R s m args below meth c H locs cells slots Q (F0 m (pc + 1) ls' rest)) : W p l e R s m args below meth c H locs cells slots Q (F0 m pc ls (va_rf r :: rest)) := by
  cases r with
  | none => exact lv_astore_nN X.1 X.2.1 hdg hi h hn hl kk
  | some x => exact lv_astore_n X.1 X.2.1 hdg hi h hn hl kk
theorem z_astoreQ {i n : Nat} {r : Option Nat} {lv lv' : List (Nat × Value)} (X : CallFix p m c cc nL s args big own) (hdg : decode cc pc = .ok (.astore i, 2)) (h : lv_has ls n lv) (hn : i < n) (hl : (i, va_rf r) :: lv.filter (fun q => !(q.1 == i) && !(q.1 + 1 == i && q.2.category == 2)) = lv') (kk : ∀ ls' : Array Slot, lv_has ls' n lv' → W p l e R s m args below meth c H locs cells slots Q (F0 m (pc + 2) ls' rest)) : W p l e R s m args below meth c H locs cells slots Q (F0 m pc ls (va_rf r :: rest)) := by
  cases r with
  | none => exact lv_astoreN X.1 X.2.1 hdg h hn hl kk
  | some x => exact lv_astore X.1 X.2.1 hdg h hn hl kk
end ZQ
end
