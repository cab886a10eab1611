section
-- ===== PART A: goes FIRST, ahead of the names: the tables' words, and 'selects' of the private methods out of them =====
/-- a private method of a class that the tables say can be made, by its rows of tables_1 -/
def lw_okq (q : MethodName × Nat) : Prop := (q.1.cls ≠ "java/lang/invoke/MethodHandle" ∧ q.1.cls ≠ "java/lang/invoke/VarHandle") ∧ Cond.instantiable q.1.cls q.2 ∈ tables_1 ∧ Cond.privateMethod q.1 ∈ tables_1 ∧ Cond.instanceMethod q.1 ∈ tables_1
theorem lw_p0 : lw_okq (⟨"ThrowScenario$Program", "levelAt", "(I)I"⟩, 4) := ⟨⟨by decide +kernel, by decide +kernel⟩, List.mem_of_getElem? (i := 50) (by decide +kernel), List.mem_of_getElem? (i := 269) (by decide +kernel), List.mem_of_getElem? (i := 270) (by decide +kernel)⟩
theorem lw_p1 : lw_okq (⟨"ThrowScenario$Machine", "perform", "(IILThrowScenario$Thrown;)LThrowScenario$Way;"⟩, 15) := ⟨⟨by decide +kernel, by decide +kernel⟩, List.mem_of_getElem? (i := 114) (by decide +kernel), List.mem_of_getElem? (i := 343) (by decide +kernel), List.mem_of_getElem? (i := 344) (by decide +kernel)⟩
theorem lw_p2 : lw_okq (⟨"ThrowScenario$Machine", "mayBegin", "()Z"⟩, 15) := ⟨⟨by decide +kernel, by decide +kernel⟩, List.mem_of_getElem? (i := 114) (by decide +kernel), List.mem_of_getElem? (i := 347) (by decide +kernel), List.mem_of_getElem? (i := 348) (by decide +kernel)⟩
theorem lw_p3 : lw_okq (⟨"ThrowScenario$Machine", "sequence", "(LThrowScenario$Node;ILThrowScenario$Thrown;)LThrowScenario$Way;"⟩, 15) := ⟨⟨by decide +kernel, by decide +kernel⟩, List.mem_of_getElem? (i := 114) (by decide +kernel), List.mem_of_getElem? (i := 358) (by decide +kernel), List.mem_of_getElem? (i := 359) (by decide +kernel)⟩
theorem lw_p4 : lw_okq (⟨"ThrowScenario$Machine", "choose", "(LThrowScenario$Node;ILThrowScenario$Thrown;)LThrowScenario$Way;"⟩, 15) := ⟨⟨by decide +kernel, by decide +kernel⟩, List.mem_of_getElem? (i := 114) (by decide +kernel), List.mem_of_getElem? (i := 364) (by decide +kernel), List.mem_of_getElem? (i := 365) (by decide +kernel)⟩
theorem lw_p5 : lw_okq (⟨"ThrowScenario$Machine", "loop", "(LThrowScenario$Node;ILThrowScenario$Thrown;)LThrowScenario$Way;"⟩, 15) := ⟨⟨by decide +kernel, by decide +kernel⟩, List.mem_of_getElem? (i := 114) (by decide +kernel), List.mem_of_getElem? (i := 368) (by decide +kernel), List.mem_of_getElem? (i := 369) (by decide +kernel)⟩
theorem lw_p6 : lw_okq (⟨"ThrowScenario$Machine", "call", "(LThrowScenario$Node;I)LThrowScenario$Way;"⟩, 15) := ⟨⟨by decide +kernel, by decide +kernel⟩, List.mem_of_getElem? (i := 114) (by decide +kernel), List.mem_of_getElem? (i := 374) (by decide +kernel), List.mem_of_getElem? (i := 375) (by decide +kernel)⟩
theorem lw_p7 : lw_okq (⟨"ThrowScenario$Machine", "raise", "(IILThrowScenario$Thrown;)LThrowScenario$Way;"⟩, 15) := ⟨⟨by decide +kernel, by decide +kernel⟩, List.mem_of_getElem? (i := 114) (by decide +kernel), List.mem_of_getElem? (i := 379) (by decide +kernel), List.mem_of_getElem? (i := 380) (by decide +kernel)⟩
theorem lw_p8 : lw_okq (⟨"ThrowScenario$Machine", "tryAndCatch", "(LThrowScenario$Node;ILThrowScenario$Thrown;)LThrowScenario$Way;"⟩, 15) := ⟨⟨by decide +kernel, by decide +kernel⟩, List.mem_of_getElem? (i := 114) (by decide +kernel), List.mem_of_getElem? (i := 391) (by decide +kernel), List.mem_of_getElem? (i := 392) (by decide +kernel)⟩
theorem lw_p9 : lw_okq (⟨"ThrowScenario$Machine", "doBoth", "(LThrowScenario$Node;ILThrowScenario$Thrown;)LThrowScenario$Way;"⟩, 15) := ⟨⟨by decide +kernel, by decide +kernel⟩, List.mem_of_getElem? (i := 114) (by decide +kernel), List.mem_of_getElem? (i := 400) (by decide +kernel), List.mem_of_getElem? (i := 401) (by decide +kernel)⟩
theorem lw_p10 : lw_okq (⟨"ThrowScenario$Machine", "lock", "(LThrowScenario$Node;ILThrowScenario$Thrown;)LThrowScenario$Way;"⟩, 15) := ⟨⟨by decide +kernel, by decide +kernel⟩, List.mem_of_getElem? (i := 114) (by decide +kernel), List.mem_of_getElem? (i := 404) (by decide +kernel), List.mem_of_getElem? (i := 405) (by decide +kernel)⟩
theorem lw_p11 : lw_okq (⟨"ThrowScenario$Machine", "carry", "(ILThrowScenario$Way;)LThrowScenario$Way;"⟩, 15) := ⟨⟨by decide +kernel, by decide +kernel⟩, List.mem_of_getElem? (i := 114) (by decide +kernel), List.mem_of_getElem? (i := 408) (by decide +kernel), List.mem_of_getElem? (i := 409) (by decide +kernel)⟩
theorem lw_p12 : lw_okq (⟨"ThrowScenario$Machine", "rethrow", "(LThrowScenario$Thrown;)LThrowScenario$Way;"⟩, 15) := ⟨⟨by decide +kernel, by decide +kernel⟩, List.mem_of_getElem? (i := 114) (by decide +kernel), List.mem_of_getElem? (i := 414) (by decide +kernel), List.mem_of_getElem? (i := 415) (by decide +kernel)⟩
theorem lw_p13 : lw_okq (⟨"ThrowScenario$Machine", "divide", "(LThrowScenario$Node;)LThrowScenario$Way;"⟩, 15) := ⟨⟨by decide +kernel, by decide +kernel⟩, List.mem_of_getElem? (i := 114) (by decide +kernel), List.mem_of_getElem? (i := 418) (by decide +kernel), List.mem_of_getElem? (i := 419) (by decide +kernel)⟩
theorem lw_p14 : lw_okq (⟨"ThrowScenario$Machine", "index", "(LThrowScenario$Node;)LThrowScenario$Way;"⟩, 15) := ⟨⟨by decide +kernel, by decide +kernel⟩, List.mem_of_getElem? (i := 114) (by decide +kernel), List.mem_of_getElem? (i := 422) (by decide +kernel), List.mem_of_getElem? (i := 423) (by decide +kernel)⟩
theorem lw_p15 : lw_okq (⟨"ThrowScenario$Machine", "cast", "(LThrowScenario$Node;LThrowScenario$Thrown;)LThrowScenario$Way;"⟩, 15) := ⟨⟨by decide +kernel, by decide +kernel⟩, List.mem_of_getElem? (i := 114) (by decide +kernel), List.mem_of_getElem? (i := 426) (by decide +kernel), List.mem_of_getElem? (i := 427) (by decide +kernel)⟩
def lw_privs_1 : List (MethodName × Nat) := [(⟨"ThrowScenario$Program", "levelAt", "(I)I"⟩, 4), (⟨"ThrowScenario$Machine", "perform", "(IILThrowScenario$Thrown;)LThrowScenario$Way;"⟩, 15), (⟨"ThrowScenario$Machine", "mayBegin", "()Z"⟩, 15), (⟨"ThrowScenario$Machine", "sequence", "(LThrowScenario$Node;ILThrowScenario$Thrown;)LThrowScenario$Way;"⟩, 15), (⟨"ThrowScenario$Machine", "choose", "(LThrowScenario$Node;ILThrowScenario$Thrown;)LThrowScenario$Way;"⟩, 15), (⟨"ThrowScenario$Machine", "loop", "(LThrowScenario$Node;ILThrowScenario$Thrown;)LThrowScenario$Way;"⟩, 15), (⟨"ThrowScenario$Machine", "call", "(LThrowScenario$Node;I)LThrowScenario$Way;"⟩, 15), (⟨"ThrowScenario$Machine", "raise", "(IILThrowScenario$Thrown;)LThrowScenario$Way;"⟩, 15), (⟨"ThrowScenario$Machine", "tryAndCatch", "(LThrowScenario$Node;ILThrowScenario$Thrown;)LThrowScenario$Way;"⟩, 15), (⟨"ThrowScenario$Machine", "doBoth", "(LThrowScenario$Node;ILThrowScenario$Thrown;)LThrowScenario$Way;"⟩, 15), (⟨"ThrowScenario$Machine", "lock", "(LThrowScenario$Node;ILThrowScenario$Thrown;)LThrowScenario$Way;"⟩, 15), (⟨"ThrowScenario$Machine", "carry", "(ILThrowScenario$Way;)LThrowScenario$Way;"⟩, 15), (⟨"ThrowScenario$Machine", "rethrow", "(LThrowScenario$Thrown;)LThrowScenario$Way;"⟩, 15), (⟨"ThrowScenario$Machine", "divide", "(LThrowScenario$Node;)LThrowScenario$Way;"⟩, 15), (⟨"ThrowScenario$Machine", "index", "(LThrowScenario$Node;)LThrowScenario$Way;"⟩, 15), (⟨"ThrowScenario$Machine", "cast", "(LThrowScenario$Node;LThrowScenario$Thrown;)LThrowScenario$Way;"⟩, 15)]
theorem lw_r1 : ∀ q ∈ lw_privs_1, lw_okq q := List.forall_mem_cons.mpr ⟨lw_p0, List.forall_mem_cons.mpr ⟨lw_p1, List.forall_mem_cons.mpr ⟨lw_p2, List.forall_mem_cons.mpr ⟨lw_p3, List.forall_mem_cons.mpr ⟨lw_p4, List.forall_mem_cons.mpr ⟨lw_p5, List.forall_mem_cons.mpr ⟨lw_p6, List.forall_mem_cons.mpr ⟨lw_p7, List.forall_mem_cons.mpr ⟨lw_p8, List.forall_mem_cons.mpr ⟨lw_p9, List.forall_mem_cons.mpr ⟨lw_p10, List.forall_mem_cons.mpr ⟨lw_p11, List.forall_mem_cons.mpr ⟨lw_p12, List.forall_mem_cons.mpr ⟨lw_p13, List.forall_mem_cons.mpr ⟨lw_p14, List.forall_mem_cons.mpr ⟨lw_p15, fun _ h => absurd h List.not_mem_nil⟩⟩⟩⟩⟩⟩⟩⟩⟩⟩⟩⟩⟩⟩⟩⟩
theorem lw_p16 : lw_okq (⟨"ThrowScenario$Machine", "wake", "(LThrowScenario$Node;)LThrowScenario$Way;"⟩, 15) := ⟨⟨by decide +kernel, by decide +kernel⟩, List.mem_of_getElem? (i := 114) (by decide +kernel), List.mem_of_getElem? (i := 430) (by decide +kernel), List.mem_of_getElem? (i := 431) (by decide +kernel)⟩
theorem lw_p17 : lw_okq (⟨"ThrowScenario$Machine", "addToLog", "(I)V"⟩, 15) := ⟨⟨by decide +kernel, by decide +kernel⟩, List.mem_of_getElem? (i := 114) (by decide +kernel), List.mem_of_getElem? (i := 434) (by decide +kernel), List.mem_of_getElem? (i := 435) (by decide +kernel)⟩
theorem lw_p18 : lw_okq (⟨"ThrowScenario$Machine", "note", "(LThrowScenario$Node;LThrowScenario$Thrown;)LThrowScenario$Way;"⟩, 15) := ⟨⟨by decide +kernel, by decide +kernel⟩, List.mem_of_getElem? (i := 114) (by decide +kernel), List.mem_of_getElem? (i := 438) (by decide +kernel), List.mem_of_getElem? (i := 439) (by decide +kernel)⟩
theorem lw_p19 : lw_okq (⟨"ThrowScenario", "afterFailure", "(LThrowScenario$Thrown;)I"⟩, 8) := ⟨⟨by decide +kernel, by decide +kernel⟩, List.mem_of_getElem? (i := 23) (by decide +kernel), List.mem_of_getElem? (i := 451) (by decide +kernel), List.mem_of_getElem? (i := 452) (by decide +kernel)⟩
theorem lw_p20 : lw_okq (⟨"ThrowScenario$Report", "addChain", "(LThrowScenario$Thrown;)V"⟩, 1) := ⟨⟨by decide +kernel, by decide +kernel⟩, List.mem_of_getElem? (i := 71) (by decide +kernel), List.mem_of_getElem? (i := 660) (by decide +kernel), List.mem_of_getElem? (i := 661) (by decide +kernel)⟩
theorem lw_p21 : lw_okq (⟨"ThrowScenario$Report", "addName", "(LThrowScenario$Thrown;)V"⟩, 1) := ⟨⟨by decide +kernel, by decide +kernel⟩, List.mem_of_getElem? (i := 71) (by decide +kernel), List.mem_of_getElem? (i := 664) (by decide +kernel), List.mem_of_getElem? (i := 665) (by decide +kernel)⟩
theorem lw_p22 : lw_okq (⟨"ThrowScenarioModel", "badA", "(II)Z"⟩, 45) := ⟨⟨by decide +kernel, by decide +kernel⟩, List.mem_of_getElem? (i := 773) (by decide +kernel), List.mem_of_getElem? (i := 937) (by decide +kernel), List.mem_of_getElem? (i := 938) (by decide +kernel)⟩
theorem lw_p23 : lw_okq (⟨"ThrowScenarioModel", "noNode", "(I)Z"⟩, 45) := ⟨⟨by decide +kernel, by decide +kernel⟩, List.mem_of_getElem? (i := 773) (by decide +kernel), List.mem_of_getElem? (i := 941) (by decide +kernel), List.mem_of_getElem? (i := 942) (by decide +kernel)⟩
theorem lw_p24 : lw_okq (⟨"ThrowScenarioModel", "badB", "(II)Z"⟩, 45) := ⟨⟨by decide +kernel, by decide +kernel⟩, List.mem_of_getElem? (i := 773) (by decide +kernel), List.mem_of_getElem? (i := 945) (by decide +kernel), List.mem_of_getElem? (i := 946) (by decide +kernel)⟩
theorem lw_p25 : lw_okq (⟨"ThrowScenarioModel", "levelOf", "(IIII)I"⟩, 45) := ⟨⟨by decide +kernel, by decide +kernel⟩, List.mem_of_getElem? (i := 773) (by decide +kernel), List.mem_of_getElem? (i := 949) (by decide +kernel), List.mem_of_getElem? (i := 950) (by decide +kernel)⟩
theorem lw_p26 : lw_okq (⟨"ThrowScenarioModel", "complete", "(II)Z"⟩, 45) := ⟨⟨by decide +kernel, by decide +kernel⟩, List.mem_of_getElem? (i := 773) (by decide +kernel), List.mem_of_getElem? (i := 965) (by decide +kernel), List.mem_of_getElem? (i := 966) (by decide +kernel)⟩
theorem lw_p27 : lw_okq (⟨"ThrowScenarioModel", "begin", "(I)Z"⟩, 45) := ⟨⟨by decide +kernel, by decide +kernel⟩, List.mem_of_getElem? (i := 773) (by decide +kernel), List.mem_of_getElem? (i := 969) (by decide +kernel), List.mem_of_getElem? (i := 970) (by decide +kernel)⟩
theorem lw_p28 : lw_okq (⟨"ThrowScenarioModel", "go", "()V"⟩, 45) := ⟨⟨by decide +kernel, by decide +kernel⟩, List.mem_of_getElem? (i := 773) (by decide +kernel), List.mem_of_getElem? (i := 973) (by decide +kernel), List.mem_of_getElem? (i := 974) (by decide +kernel)⟩
theorem lw_p29 : lw_okq (⟨"ThrowScenarioModel", "simple", "(I)V"⟩, 45) := ⟨⟨by decide +kernel, by decide +kernel⟩, List.mem_of_getElem? (i := 773) (by decide +kernel), List.mem_of_getElem? (i := 980) (by decide +kernel), List.mem_of_getElem? (i := 981) (by decide +kernel)⟩
theorem lw_p30 : lw_okq (⟨"ThrowScenarioModel", "note", "(I)V"⟩, 45) := ⟨⟨by decide +kernel, by decide +kernel⟩, List.mem_of_getElem? (i := 773) (by decide +kernel), List.mem_of_getElem? (i := 984) (by decide +kernel), List.mem_of_getElem? (i := 985) (by decide +kernel)⟩
theorem lw_p31 : lw_okq (⟨"ThrowScenarioModel", "end", "(II)V"⟩, 45) := ⟨⟨by decide +kernel, by decide +kernel⟩, List.mem_of_getElem? (i := 773) (by decide +kernel), List.mem_of_getElem? (i := 988) (by decide +kernel), List.mem_of_getElem? (i := 989) (by decide +kernel)⟩
def lw_privs_2 : List (MethodName × Nat) := [(⟨"ThrowScenario$Machine", "wake", "(LThrowScenario$Node;)LThrowScenario$Way;"⟩, 15), (⟨"ThrowScenario$Machine", "addToLog", "(I)V"⟩, 15), (⟨"ThrowScenario$Machine", "note", "(LThrowScenario$Node;LThrowScenario$Thrown;)LThrowScenario$Way;"⟩, 15), (⟨"ThrowScenario", "afterFailure", "(LThrowScenario$Thrown;)I"⟩, 8), (⟨"ThrowScenario$Report", "addChain", "(LThrowScenario$Thrown;)V"⟩, 1), (⟨"ThrowScenario$Report", "addName", "(LThrowScenario$Thrown;)V"⟩, 1), (⟨"ThrowScenarioModel", "badA", "(II)Z"⟩, 45), (⟨"ThrowScenarioModel", "noNode", "(I)Z"⟩, 45), (⟨"ThrowScenarioModel", "badB", "(II)Z"⟩, 45), (⟨"ThrowScenarioModel", "levelOf", "(IIII)I"⟩, 45), (⟨"ThrowScenarioModel", "complete", "(II)Z"⟩, 45), (⟨"ThrowScenarioModel", "begin", "(I)Z"⟩, 45), (⟨"ThrowScenarioModel", "go", "()V"⟩, 45), (⟨"ThrowScenarioModel", "simple", "(I)V"⟩, 45), (⟨"ThrowScenarioModel", "note", "(I)V"⟩, 45), (⟨"ThrowScenarioModel", "end", "(II)V"⟩, 45)]
theorem lw_r2 : ∀ q ∈ lw_privs_2, lw_okq q := List.forall_mem_cons.mpr ⟨lw_p16, List.forall_mem_cons.mpr ⟨lw_p17, List.forall_mem_cons.mpr ⟨lw_p18, List.forall_mem_cons.mpr ⟨lw_p19, List.forall_mem_cons.mpr ⟨lw_p20, List.forall_mem_cons.mpr ⟨lw_p21, List.forall_mem_cons.mpr ⟨lw_p22, List.forall_mem_cons.mpr ⟨lw_p23, List.forall_mem_cons.mpr ⟨lw_p24, List.forall_mem_cons.mpr ⟨lw_p25, List.forall_mem_cons.mpr ⟨lw_p26, List.forall_mem_cons.mpr ⟨lw_p27, List.forall_mem_cons.mpr ⟨lw_p28, List.forall_mem_cons.mpr ⟨lw_p29, List.forall_mem_cons.mpr ⟨lw_p30, List.forall_mem_cons.mpr ⟨lw_p31, fun _ h => absurd h List.not_mem_nil⟩⟩⟩⟩⟩⟩⟩⟩⟩⟩⟩⟩⟩⟩⟩⟩
theorem lw_p32 : lw_okq (⟨"ThrowScenarioModel", "endThrow", "(III)V"⟩, 45) := ⟨⟨by decide +kernel, by decide +kernel⟩, List.mem_of_getElem? (i := 773) (by decide +kernel), List.mem_of_getElem? (i := 992) (by decide +kernel), List.mem_of_getElem? (i := 993) (by decide +kernel)⟩
theorem lw_p33 : lw_okq (⟨"ThrowScenarioModel", "machine", "(II)V"⟩, 45) := ⟨⟨by decide +kernel, by decide +kernel⟩, List.mem_of_getElem? (i := 773) (by decide +kernel), List.mem_of_getElem? (i := 996) (by decide +kernel), List.mem_of_getElem? (i := 997) (by decide +kernel)⟩
theorem lw_p34 : lw_okq (⟨"ThrowScenarioModel", "is", "(II)Z"⟩, 45) := ⟨⟨by decide +kernel, by decide +kernel⟩, List.mem_of_getElem? (i := 773) (by decide +kernel), List.mem_of_getElem? (i := 1000) (by decide +kernel), List.mem_of_getElem? (i := 1001) (by decide +kernel)⟩
theorem lw_p35 : lw_okq (⟨"ThrowScenarioModel", "lastOf", "(I)I"⟩, 45) := ⟨⟨by decide +kernel, by decide +kernel⟩, List.mem_of_getElem? (i := 773) (by decide +kernel), List.mem_of_getElem? (i := 1004) (by decide +kernel), List.mem_of_getElem? (i := 1005) (by decide +kernel)⟩
theorem lw_p36 : lw_okq (⟨"ThrowScenarioModel", "branch", "(II)V"⟩, 45) := ⟨⟨by decide +kernel, by decide +kernel⟩, List.mem_of_getElem? (i := 773) (by decide +kernel), List.mem_of_getElem? (i := 1008) (by decide +kernel), List.mem_of_getElem? (i := 1009) (by decide +kernel)⟩
theorem lw_p37 : lw_okq (⟨"ThrowScenarioModel", "loop", "(III)V"⟩, 45) := ⟨⟨by decide +kernel, by decide +kernel⟩, List.mem_of_getElem? (i := 773) (by decide +kernel), List.mem_of_getElem? (i := 1012) (by decide +kernel), List.mem_of_getElem? (i := 1013) (by decide +kernel)⟩
theorem lw_p38 : lw_okq (⟨"ThrowScenarioModel", "call", "(III)V"⟩, 45) := ⟨⟨by decide +kernel, by decide +kernel⟩, List.mem_of_getElem? (i := 773) (by decide +kernel), List.mem_of_getElem? (i := 1016) (by decide +kernel), List.mem_of_getElem? (i := 1017) (by decide +kernel)⟩
theorem lw_p39 : lw_okq (⟨"ThrowScenarioModel", "attempt", "(III)V"⟩, 45) := ⟨⟨by decide +kernel, by decide +kernel⟩, List.mem_of_getElem? (i := 773) (by decide +kernel), List.mem_of_getElem? (i := 1020) (by decide +kernel), List.mem_of_getElem? (i := 1021) (by decide +kernel)⟩
theorem lw_p40 : lw_okq (⟨"ThrowScenarioModel", "lock", "(II)V"⟩, 45) := ⟨⟨by decide +kernel, by decide +kernel⟩, List.mem_of_getElem? (i := 773) (by decide +kernel), List.mem_of_getElem? (i := 1024) (by decide +kernel), List.mem_of_getElem? (i := 1025) (by decide +kernel)⟩
theorem lw_p41 : lw_okq (⟨"ThrowScenarioModel", "atLast", "(III)V"⟩, 45) := ⟨⟨by decide +kernel, by decide +kernel⟩, List.mem_of_getElem? (i := 773) (by decide +kernel), List.mem_of_getElem? (i := 1028) (by decide +kernel), List.mem_of_getElem? (i := 1029) (by decide +kernel)⟩
theorem lw_p42 : lw_okq (⟨"ThrowScenarioModel", "settle", "()V"⟩, 45) := ⟨⟨by decide +kernel, by decide +kernel⟩, List.mem_of_getElem? (i := 773) (by decide +kernel), List.mem_of_getElem? (i := 1032) (by decide +kernel), List.mem_of_getElem? (i := 1033) (by decide +kernel)⟩
theorem lw_p43 : lw_okq (⟨"ThrowScenarioModel", "write", "()V"⟩, 45) := ⟨⟨by decide +kernel, by decide +kernel⟩, List.mem_of_getElem? (i := 773) (by decide +kernel), List.mem_of_getElem? (i := 1036) (by decide +kernel), List.mem_of_getElem? (i := 1037) (by decide +kernel)⟩
theorem lw_p44 : lw_okq (⟨"ThrowScenarioModel", "outcomeWord", "()V"⟩, 45) := ⟨⟨by decide +kernel, by decide +kernel⟩, List.mem_of_getElem? (i := 773) (by decide +kernel), List.mem_of_getElem? (i := 1040) (by decide +kernel), List.mem_of_getElem? (i := 1041) (by decide +kernel)⟩
theorem lw_p45 : lw_okq (⟨"ThrowScenarioModel", "word", "(JZ)V"⟩, 45) := ⟨⟨by decide +kernel, by decide +kernel⟩, List.mem_of_getElem? (i := 773) (by decide +kernel), List.mem_of_getElem? (i := 1045) (by decide +kernel), List.mem_of_getElem? (i := 1046) (by decide +kernel)⟩
theorem lw_p46 : lw_okq (⟨"ThrowScenarioModel", "letter", "(I)V"⟩, 45) := ⟨⟨by decide +kernel, by decide +kernel⟩, List.mem_of_getElem? (i := 773) (by decide +kernel), List.mem_of_getElem? (i := 1049) (by decide +kernel), List.mem_of_getElem? (i := 1050) (by decide +kernel)⟩
theorem lw_p47 : lw_okq (⟨"ThrowScenarioModel", "number", "(I)V"⟩, 45) := ⟨⟨by decide +kernel, by decide +kernel⟩, List.mem_of_getElem? (i := 773) (by decide +kernel), List.mem_of_getElem? (i := 1059) (by decide +kernel), List.mem_of_getElem? (i := 1060) (by decide +kernel)⟩
def lw_privs_3 : List (MethodName × Nat) := [(⟨"ThrowScenarioModel", "endThrow", "(III)V"⟩, 45), (⟨"ThrowScenarioModel", "machine", "(II)V"⟩, 45), (⟨"ThrowScenarioModel", "is", "(II)Z"⟩, 45), (⟨"ThrowScenarioModel", "lastOf", "(I)I"⟩, 45), (⟨"ThrowScenarioModel", "branch", "(II)V"⟩, 45), (⟨"ThrowScenarioModel", "loop", "(III)V"⟩, 45), (⟨"ThrowScenarioModel", "call", "(III)V"⟩, 45), (⟨"ThrowScenarioModel", "attempt", "(III)V"⟩, 45), (⟨"ThrowScenarioModel", "lock", "(II)V"⟩, 45), (⟨"ThrowScenarioModel", "atLast", "(III)V"⟩, 45), (⟨"ThrowScenarioModel", "settle", "()V"⟩, 45), (⟨"ThrowScenarioModel", "write", "()V"⟩, 45), (⟨"ThrowScenarioModel", "outcomeWord", "()V"⟩, 45), (⟨"ThrowScenarioModel", "word", "(JZ)V"⟩, 45), (⟨"ThrowScenarioModel", "letter", "(I)V"⟩, 45), (⟨"ThrowScenarioModel", "number", "(I)V"⟩, 45)]
theorem lw_r3 : ∀ q ∈ lw_privs_3, lw_okq q := List.forall_mem_cons.mpr ⟨lw_p32, List.forall_mem_cons.mpr ⟨lw_p33, List.forall_mem_cons.mpr ⟨lw_p34, List.forall_mem_cons.mpr ⟨lw_p35, List.forall_mem_cons.mpr ⟨lw_p36, List.forall_mem_cons.mpr ⟨lw_p37, List.forall_mem_cons.mpr ⟨lw_p38, List.forall_mem_cons.mpr ⟨lw_p39, List.forall_mem_cons.mpr ⟨lw_p40, List.forall_mem_cons.mpr ⟨lw_p41, List.forall_mem_cons.mpr ⟨lw_p42, List.forall_mem_cons.mpr ⟨lw_p43, List.forall_mem_cons.mpr ⟨lw_p44, List.forall_mem_cons.mpr ⟨lw_p45, List.forall_mem_cons.mpr ⟨lw_p46, List.forall_mem_cons.mpr ⟨lw_p47, fun _ h => absurd h List.not_mem_nil⟩⟩⟩⟩⟩⟩⟩⟩⟩⟩⟩⟩⟩⟩⟩⟩
theorem lw_p48 : lw_okq (⟨"ThrowScenarioModel", "name", "(I)V"⟩, 45) := ⟨⟨by decide +kernel, by decide +kernel⟩, List.mem_of_getElem? (i := 773) (by decide +kernel), List.mem_of_getElem? (i := 1064) (by decide +kernel), List.mem_of_getElem? (i := 1065) (by decide +kernel)⟩
theorem lw_p49 : lw_okq (⟨"ThrowScenarioModel", "chained", "(III)J"⟩, 45) := ⟨⟨by decide +kernel, by decide +kernel⟩, List.mem_of_getElem? (i := 773) (by decide +kernel), List.mem_of_getElem? (i := 1088) (by decide +kernel), List.mem_of_getElem? (i := 1089) (by decide +kernel)⟩
def lw_privs_4 : List (MethodName × Nat) := [(⟨"ThrowScenarioModel", "name", "(I)V"⟩, 45), (⟨"ThrowScenarioModel", "chained", "(III)J"⟩, 45)]
theorem lw_r4 : ∀ q ∈ lw_privs_4, lw_okq q := List.forall_mem_cons.mpr ⟨lw_p48, List.forall_mem_cons.mpr ⟨lw_p49, fun _ h => absurd h List.not_mem_nil⟩⟩
def lw_privs : List (MethodName × Nat) := lw_privs_1 ++ (lw_privs_2 ++ (lw_privs_3 ++ (lw_privs_4)))
def lw_tbl : List Cond := k2_sels lw_privs ++ tables_1
theorem lw_privs_ok : ∀ q ∈ lw_privs, lw_okq q := by
  show ∀ q ∈ lw_privs_1 ++ (lw_privs_2 ++ (lw_privs_3 ++ (lw_privs_4))), lw_okq q
  exact List.forall_mem_append.mpr ⟨lw_r1, List.forall_mem_append.mpr ⟨lw_r2, List.forall_mem_append.mpr ⟨lw_r3, lw_r4⟩⟩⟩
-- ===== end of PART A; then your names; then what follows =====
end
section
def RxT : String := "ThrowScenario"
def TxT : u_T := fun k => match k with
  | 0 => ("ThrowScenario", "classes", "LThrowScenario$Classes;", true)
  | 1 => ("ThrowScenario", "program", "LThrowScenario$Program;", true)
  | 2 => ("ThrowScenario", "text", "LThrowScenario$Report;", true)
  | 3 => ("ThrowScenario", "machine", "LThrowScenario$Machine;", true)
  | 4 => ("ThrowScenario", "dispatchedTo", "I", false)
  | 5 => ("ThrowScenario", "told", "J", false)
  | 6 => ("ThrowScenario", "firstThrown", "LThrowScenario$Thrown;", false)
  | _ => ("ThrowScenario", "secondThrown", "LThrowScenario$Thrown;", false)
def txT : Nat → FieldType := fun k => match k with
  | 0 => .object "ThrowScenario$Classes"
  | 1 => .object "ThrowScenario$Program"
  | 2 => .object "ThrowScenario$Report"
  | 3 => .object "ThrowScenario$Machine"
  | 4 => .int
  | 5 => .long
  | 6 => .object "ThrowScenario$Thrown"
  | _ => .object "ThrowScenario$Thrown"
theorem nxT : ∀ a, a < 8 → ∀ b, b < 8 → a ≠ b → (TxT a).2.1 ≠ (TxT b).2.1 := by decide +kernel
theorem oxT : ∀ k, k < 8 → parseFieldDescriptor (TxT k).2.2.1 = some (txT k) := by decide +kernel
def RxC : String := "ThrowScenario$Classes"
def TxC : u_T := fun k => match k with
  | 0 => ("ThrowScenario$Classes", "parents", "[I", true)
  | _ => ("ThrowScenario$Classes", "size", "I", false)
def txC : Nat → FieldType := fun k => match k with
  | 0 => .array .int
  | _ => .int
theorem nxC : ∀ a, a < 2 → ∀ b, b < 2 → a ≠ b → (TxC a).2.1 ≠ (TxC b).2.1 := by decide +kernel
theorem oxC : ∀ k, k < 2 → parseFieldDescriptor (TxC k).2.2.1 = some (txC k) := by decide +kernel
def RxM : String := "ThrowScenario$Machine"
def TxM : u_T := fun k => match k with
  | 0 => ("ThrowScenario$Machine", "program", "LThrowScenario$Program;", true)
  | 1 => ("ThrowScenario$Machine", "classes", "LThrowScenario$Classes;", true)
  | 2 => ("ThrowScenario$Machine", "limit", "I", true)
  | 3 => ("ThrowScenario$Machine", "variables", "[I", true)
  | 4 => ("ThrowScenario$Machine", "held", "[I", true)
  | 5 => ("ThrowScenario$Machine", "log", "[I", true)
  | 6 => ("ThrowScenario$Machine", "throwables", "[LThrowScenario$Thrown;", true)
  | 7 => ("ThrowScenario$Machine", "logSize", "I", false)
  | 8 => ("ThrowScenario$Machine", "made", "I", false)
  | 9 => ("ThrowScenario$Machine", "begun", "I", false)
  | 10 => ("ThrowScenario$Machine", "handlers", "I", false)
  | 11 => ("ThrowScenario$Machine", "secondParts", "I", false)
  | 12 => ("ThrowScenario$Machine", "deepest", "I", false)
  | 13 => ("ThrowScenario$Machine", "carried", "I", false)
  | _ => ("ThrowScenario$Machine", "thrown", "LThrowScenario$Thrown;", false)
def txM : Nat → FieldType := fun k => match k with
  | 0 => .object "ThrowScenario$Program"
  | 1 => .object "ThrowScenario$Classes"
  | 2 => .int
  | 3 => .array .int
  | 4 => .array .int
  | 5 => .array .int
  | 6 => .array (.object "ThrowScenario$Thrown")
  | 7 => .int
  | 8 => .int
  | 9 => .int
  | 10 => .int
  | 11 => .int
  | 12 => .int
  | 13 => .int
  | _ => .object "ThrowScenario$Thrown"
theorem nxM : ∀ a, a < 15 → ∀ b, b < 15 → a ≠ b → (TxM a).2.1 ≠ (TxM b).2.1 := by decide +kernel
theorem oxM : ∀ k, k < 15 → parseFieldDescriptor (TxM k).2.2.1 = some (txM k) := by decide +kernel
def RxN : String := "ThrowScenario$Node"
def TxN : u_T := fun k => match k with
  | 0 => ("ThrowScenario$Node", "kind", "I", true)
  | 1 => ("ThrowScenario$Node", "a", "I", true)
  | 2 => ("ThrowScenario$Node", "b", "I", true)
  | 3 => ("ThrowScenario$Node", "c", "I", true)
  | _ => ("ThrowScenario$Node", "level", "I", true)
def txN : Nat → FieldType := fun k => match k with
  | 0 => .int
  | 1 => .int
  | 2 => .int
  | 3 => .int
  | _ => .int
theorem nxN : ∀ a, a < 5 → ∀ b, b < 5 → a ≠ b → (TxN a).2.1 ≠ (TxN b).2.1 := by decide +kernel
theorem oxN : ∀ k, k < 5 → parseFieldDescriptor (TxN k).2.2.1 = some (txN k) := by decide +kernel
def RxP : String := "ThrowScenario$Program"
def TxP : u_T := fun k => match k with
  | 0 => ("ThrowScenario$Program", "classes", "LThrowScenario$Classes;", true)
  | 1 => ("ThrowScenario$Program", "nodes", "[LThrowScenario$Node;", true)
  | 2 => ("ThrowScenario$Program", "statements", "[I", true)
  | _ => ("ThrowScenario$Program", "size", "I", false)
def txP : Nat → FieldType := fun k => match k with
  | 0 => .object "ThrowScenario$Classes"
  | 1 => .array (.object "ThrowScenario$Node")
  | 2 => .array .int
  | _ => .int
theorem nxP : ∀ a, a < 4 → ∀ b, b < 4 → a ≠ b → (TxP a).2.1 ≠ (TxP b).2.1 := by decide +kernel
theorem oxP : ∀ k, k < 4 → parseFieldDescriptor (TxP k).2.2.1 = some (txP k) := by decide +kernel
def RxR : String := "ThrowScenario$Report"
def TxR : u_T := fun k => match k with
  | _ => ("ThrowScenario$Report", "text", "Ljava/lang/StringBuilder;", true)
def txR : Nat → FieldType := fun k => match k with
  | _ => .object "java/lang/StringBuilder"
theorem nxR : ∀ a, a < 1 → ∀ b, b < 1 → a ≠ b → (TxR a).2.1 ≠ (TxR b).2.1 := by decide +kernel
theorem oxR : ∀ k, k < 1 → parseFieldDescriptor (TxR k).2.2.1 = some (txR k) := by decide +kernel
def RxH : String := "ThrowScenario$Thrown"
def TxH : u_T := fun k => match k with
  | 0 => ("ThrowScenario$Thrown", "type", "I", false)
  | 1 => ("ThrowScenario$Thrown", "message", "I", false)
  | 2 => ("ThrowScenario$Thrown", "cause", "LThrowScenario$Thrown;", false)
  | _ => ("ThrowScenario$Thrown", "suppressed", "I", false)
def txH : Nat → FieldType := fun k => match k with
  | 0 => .int
  | 1 => .int
  | 2 => .object "ThrowScenario$Thrown"
  | _ => .int
theorem nxH : ∀ a, a < 4 → ∀ b, b < 4 → a ≠ b → (TxH a).2.1 ≠ (TxH b).2.1 := by decide +kernel
theorem oxH : ∀ k, k < 4 → parseFieldDescriptor (TxH k).2.2.1 = some (txH k) := by decide +kernel
def RxW : String := "ThrowScenario$Way"
def RxK : String := "ThrowScenario$Kind"
def RxQ : String := "ThrowScenarioModel"
def TxQ : u_T := fun k => match k with
  | 0 => ("ThrowScenarioModel", "words", "[J", true)
  | 1 => ("ThrowScenarioModel", "limit", "I", true)
  | 2 => ("ThrowScenarioModel", "parent", "[I", true)
  | 3 => ("ThrowScenarioModel", "classes", "I", false)
  | 4 => ("ThrowScenarioModel", "kind", "[I", true)
  | 5 => ("ThrowScenarioModel", "a", "[I", true)
  | 6 => ("ThrowScenarioModel", "b", "[I", true)
  | 7 => ("ThrowScenarioModel", "c", "[I", true)
  | 8 => ("ThrowScenarioModel", "level", "[I", true)
  | 9 => ("ThrowScenarioModel", "nodes", "I", false)
  | 10 => ("ThrowScenarioModel", "routine", "[I", true)
  | 11 => ("ThrowScenarioModel", "dispatched", "I", false)
  | 12 => ("ThrowScenarioModel", "tClass", "[I", true)
  | 13 => ("ThrowScenarioModel", "tMessage", "[I", true)
  | 14 => ("ThrowScenarioModel", "tCause", "[I", true)
  | 15 => ("ThrowScenarioModel", "tSuppressed", "[I", true)
  | 16 => ("ThrowScenarioModel", "throwables", "I", false)
  | 17 => ("ThrowScenarioModel", "variables", "[I", true)
  | 18 => ("ThrowScenarioModel", "monitors", "[I", true)
  | 19 => ("ThrowScenarioModel", "log", "[I", true)
  | 20 => ("ThrowScenarioModel", "logs", "I", false)
  | 21 => ("ThrowScenarioModel", "begun", "I", false)
  | 22 => ("ThrowScenarioModel", "handlers", "I", false)
  | 23 => ("ThrowScenarioModel", "lasts", "I", false)
  | 24 => ("ThrowScenarioModel", "deepest", "I", false)
  | 25 => ("ThrowScenarioModel", "ran", "Z", false)
  | 26 => ("ThrowScenarioModel", "failure", "I", false)
  | 27 => ("ThrowScenarioModel", "second", "I", false)
  | 28 => ("ThrowScenarioModel", "outcome", "I", false)
  | 29 => ("ThrowScenarioModel", "returned", "Z", false)
  | 30 => ("ThrowScenarioModel", "value", "I", false)
  | 31 => ("ThrowScenarioModel", "fNode", "[I", true)
  | 32 => ("ThrowScenarioModel", "fPhase", "[I", true)
  | 33 => ("ThrowScenarioModel", "fCount", "[I", true)
  | 34 => ("ThrowScenarioModel", "fKind", "[I", true)
  | 35 => ("ThrowScenarioModel", "fValue", "[I", true)
  | 36 => ("ThrowScenarioModel", "fHand", "[I", true)
  | 37 => ("ThrowScenarioModel", "top", "I", false)
  | 38 => ("ThrowScenarioModel", "depth", "I", false)
  | 39 => ("ThrowScenarioModel", "hand", "I", false)
  | 40 => ("ThrowScenarioModel", "doneKind", "I", false)
  | 41 => ("ThrowScenarioModel", "doneValue", "I", false)
  | 42 => ("ThrowScenarioModel", "over", "Z", false)
  | 43 => ("ThrowScenarioModel", "text", "[I", true)
  | _ => ("ThrowScenarioModel", "textLength", "I", false)
def txQ : Nat → FieldType := fun k => match k with
  | 0 => .array .long
  | 1 => .int
  | 2 => .array .int
  | 3 => .int
  | 4 => .array .int
  | 5 => .array .int
  | 6 => .array .int
  | 7 => .array .int
  | 8 => .array .int
  | 9 => .int
  | 10 => .array .int
  | 11 => .int
  | 12 => .array .int
  | 13 => .array .int
  | 14 => .array .int
  | 15 => .array .int
  | 16 => .int
  | 17 => .array .int
  | 18 => .array .int
  | 19 => .array .int
  | 20 => .int
  | 21 => .int
  | 22 => .int
  | 23 => .int
  | 24 => .int
  | 25 => .boolean
  | 26 => .int
  | 27 => .int
  | 28 => .int
  | 29 => .boolean
  | 30 => .int
  | 31 => .array .int
  | 32 => .array .int
  | 33 => .array .int
  | 34 => .array .int
  | 35 => .array .int
  | 36 => .array .int
  | 37 => .int
  | 38 => .int
  | 39 => .int
  | 40 => .int
  | 41 => .int
  | 42 => .boolean
  | 43 => .array .int
  | _ => .int
theorem nxQ : ∀ a, a < 45 → ∀ b, b < 45 → a ≠ b → (TxQ a).2.1 ≠ (TxQ b).2.1 := by decide +kernel
theorem oxQ : ∀ k, k < 45 → parseFieldDescriptor (TxQ k).2.2.1 = some (txQ k) := by decide +kernel
def RxL : String := "ThrowScenarioLaw"
def RxB : String := "java/lang/StringBuilder"
def TxB : u_T := fun k => match k with
  | 0 => ("java/lang/AbstractStringBuilder", "value", "[B", false)
  | 1 => ("java/lang/AbstractStringBuilder", "coder", "B", false)
  | 2 => ("java/lang/AbstractStringBuilder", "maybeLatin1", "Z", false)
  | _ => ("java/lang/AbstractStringBuilder", "count", "I", false)
def txB : Nat → FieldType := fun k => match k with
  | 0 => .array .byte
  | 1 => .byte
  | 2 => .boolean
  | _ => .int
theorem nxB : ∀ a, a < 4 → ∀ b, b < 4 → a ≠ b → (TxB a).2.1 ≠ (TxB b).2.1 := by decide +kernel
theorem oxB : ∀ k, k < 4 → parseFieldDescriptor (TxB k).2.2.1 = some (txB k) := by decide +kernel
def RxA : String := "java/lang/AbstractStringBuilder"
def RxS : String := "java/lang/String"
def RxU : String := "java/lang/StringLatin1"
def RxI : String := "java/lang/Integer"
def RxY : String := "java/util/Arrays"
def RxZ : String := "jdk/internal/util/ArraysSupport"
def RxV : String := "java/lang/StringUTF16"
def RxX : String := "jdk/internal/util/Preconditions"
def RxD : String := "java/lang/Math"
def RxO : String := "java/lang/Object"
def RxG : String := "java/lang/System"
def RxE : String := "java/lang/Enum"
abbrev cxT_init : ByteArray := prog_1_method_1_code
def yxT_init : MethodName := ⟨RxT, "<init>", "(I)V"⟩
abbrev cxT_declare : ByteArray := prog_1_method_2_code
def yxT_declare : MethodName := ⟨RxT, "declare", "(I)I"⟩
abbrev cxT_node : ByteArray := prog_1_method_3_code
def yxT_node : MethodName := ⟨RxT, "node", "(IIII)I"⟩
abbrev cxT_define : ByteArray := prog_1_method_4_code
def yxT_define : MethodName := ⟨RxT, "define", "(II)I"⟩
abbrev cxT_dispatch : ByteArray := prog_1_method_5_code
def yxT_dispatch : MethodName := ⟨RxT, "dispatch", "(I)I"⟩
abbrev cxT_run : ByteArray := prog_1_method_6_code
def yxT_run : MethodName := ⟨RxT, "run", "(III)I"⟩
abbrev cxT_afterFailure : ByteArray := prog_1_method_7_code
def yxT_afterFailure : MethodName := ⟨RxT, "afterFailure", "(LThrowScenario$Thrown;)I"⟩
abbrev cxT_outcomeOf : ByteArray := prog_1_method_8_code
def yxT_outcomeOf : MethodName := ⟨RxT, "outcomeOf", "(LThrowScenario$Way;I)I"⟩
abbrev cxT_variable : ByteArray := prog_1_method_9_code
def yxT_variable : MethodName := ⟨RxT, "variable", "(I)J"⟩
abbrev cxT_value : ByteArray := prog_1_method_10_code
def yxT_value : MethodName := ⟨RxT, "value", "()J"⟩
abbrev cxT_logged : ByteArray := prog_1_method_11_code
def yxT_logged : MethodName := ⟨RxT, "logged", "(I)J"⟩
abbrev cxT_failure : ByteArray := prog_1_method_12_code
def yxT_failure : MethodName := ⟨RxT, "failure", "(II)J"⟩
abbrev cxT_second : ByteArray := prog_1_method_13_code
def yxT_second : MethodName := ⟨RxT, "second", "(II)J"⟩
abbrev cxT_partOf : ByteArray := prog_1_method_14_code
def yxT_partOf : MethodName := ⟨RxT, "partOf", "(LThrowScenario$Thrown;II)J"⟩
abbrev cxT_report : ByteArray := prog_1_method_15_code
def yxT_report : MethodName := ⟨RxT, "report", "(I)I"⟩
abbrev cxT_count : ByteArray := prog_1_method_16_code
def yxT_count : MethodName := ⟨RxT, "count", "(I)I"⟩
abbrev cxQ_init : ByteArray := prog_11_method_1_code
def yxQ_init : MethodName := ⟨RxQ, "<init>", "(I)V"⟩
abbrev cxQ_out : ByteArray := prog_11_method_2_code
def yxQ_out : MethodName := ⟨RxQ, "out", "(III)Z"⟩
abbrev cxQ_is : ByteArray := prog_11_method_3_code
def yxQ_is : MethodName := ⟨RxQ, "is", "(II)Z"⟩
abbrev cxQ_declare : ByteArray := prog_11_method_4_code
def yxQ_declare : MethodName := ⟨RxQ, "declare", "(I)I"⟩
abbrev cxQ_noNode : ByteArray := prog_11_method_5_code
def yxQ_noNode : MethodName := ⟨RxQ, "noNode", "(I)Z"⟩
abbrev cxQ_badA : ByteArray := prog_11_method_6_code
def yxQ_badA : MethodName := ⟨RxQ, "badA", "(II)Z"⟩
abbrev cxQ_badB : ByteArray := prog_11_method_7_code
def yxQ_badB : MethodName := ⟨RxQ, "badB", "(II)Z"⟩
abbrev cxQ_levelOf : ByteArray := prog_11_method_8_code
def yxQ_levelOf : MethodName := ⟨RxQ, "levelOf", "(IIII)I"⟩
abbrev cxQ_node : ByteArray := prog_11_method_9_code
def yxQ_node : MethodName := ⟨RxQ, "node", "(IIII)I"⟩
abbrev cxQ_define : ByteArray := prog_11_method_10_code
def yxQ_define : MethodName := ⟨RxQ, "define", "(II)I"⟩
abbrev cxQ_dispatch : ByteArray := prog_11_method_11_code
def yxQ_dispatch : MethodName := ⟨RxQ, "dispatch", "(I)I"⟩
abbrev cxQ_begin : ByteArray := prog_11_method_12_code
def yxQ_begin : MethodName := ⟨RxQ, "begin", "(I)Z"⟩
abbrev cxQ_end : ByteArray := prog_11_method_13_code
def yxQ_end : MethodName := ⟨RxQ, "end", "(II)V"⟩
abbrev cxQ_endThrow : ByteArray := prog_11_method_14_code
def yxQ_endThrow : MethodName := ⟨RxQ, "endThrow", "(III)V"⟩
abbrev cxQ_note : ByteArray := prog_11_method_15_code
def yxQ_note : MethodName := ⟨RxQ, "note", "(I)V"⟩
abbrev cxQ_simple : ByteArray := prog_11_method_16_code
def yxQ_simple : MethodName := ⟨RxQ, "simple", "(I)V"⟩
abbrev cxQ_machine : ByteArray := prog_11_method_17_code
def yxQ_machine : MethodName := ⟨RxQ, "machine", "(II)V"⟩
abbrev cxQ_lastOf : ByteArray := prog_11_method_18_code
def yxQ_lastOf : MethodName := ⟨RxQ, "lastOf", "(I)I"⟩
abbrev cxQ_hasParts : ByteArray := prog_11_method_19_code
def yxQ_hasParts : MethodName := ⟨RxQ, "hasParts", "(I)Z"⟩
abbrev cxQ_go : ByteArray := prog_11_method_20_code
def yxQ_go : MethodName := ⟨RxQ, "go", "()V"⟩
abbrev cxQ_branch : ByteArray := prog_11_method_21_code
def yxQ_branch : MethodName := ⟨RxQ, "branch", "(II)V"⟩
abbrev cxQ_loop : ByteArray := prog_11_method_22_code
def yxQ_loop : MethodName := ⟨RxQ, "loop", "(III)V"⟩
abbrev cxQ_call : ByteArray := prog_11_method_23_code
def yxQ_call : MethodName := ⟨RxQ, "call", "(III)V"⟩
abbrev cxQ_attempt : ByteArray := prog_11_method_24_code
def yxQ_attempt : MethodName := ⟨RxQ, "attempt", "(III)V"⟩
abbrev cxQ_lock : ByteArray := prog_11_method_25_code
def yxQ_lock : MethodName := ⟨RxQ, "lock", "(II)V"⟩
abbrev cxQ_atLast : ByteArray := prog_11_method_26_code
def yxQ_atLast : MethodName := ⟨RxQ, "atLast", "(III)V"⟩
abbrev cxQ_complete : ByteArray := prog_11_method_27_code
def yxQ_complete : MethodName := ⟨RxQ, "complete", "(II)Z"⟩
abbrev cxQ_run : ByteArray := prog_11_method_28_code
def yxQ_run : MethodName := ⟨RxQ, "run", "(III)I"⟩
abbrev cxQ_settle : ByteArray := prog_11_method_29_code
def yxQ_settle : MethodName := ⟨RxQ, "settle", "()V"⟩
abbrev cxQ_letter : ByteArray := prog_11_method_30_code
def yxQ_letter : MethodName := ⟨RxQ, "letter", "(I)V"⟩
abbrev cxQ_word : ByteArray := prog_11_method_31_code
def yxQ_word : MethodName := ⟨RxQ, "word", "(JZ)V"⟩
abbrev cxQ_number : ByteArray := prog_11_method_32_code
def yxQ_number : MethodName := ⟨RxQ, "number", "(I)V"⟩
abbrev cxQ_name : ByteArray := prog_11_method_33_code
def yxQ_name : MethodName := ⟨RxQ, "name", "(I)V"⟩
abbrev cxQ_outcomeWord : ByteArray := prog_11_method_34_code
def yxQ_outcomeWord : MethodName := ⟨RxQ, "outcomeWord", "()V"⟩
abbrev cxQ_write : ByteArray := prog_11_method_35_code
def yxQ_write : MethodName := ⟨RxQ, "write", "()V"⟩
abbrev cxQ_variable : ByteArray := prog_11_method_36_code
def yxQ_variable : MethodName := ⟨RxQ, "variable", "(I)J"⟩
abbrev cxQ_value : ByteArray := prog_11_method_37_code
def yxQ_value : MethodName := ⟨RxQ, "value", "()J"⟩
abbrev cxQ_logged : ByteArray := prog_11_method_38_code
def yxQ_logged : MethodName := ⟨RxQ, "logged", "(I)J"⟩
abbrev cxQ_chained : ByteArray := prog_11_method_39_code
def yxQ_chained : MethodName := ⟨RxQ, "chained", "(III)J"⟩
abbrev cxQ_failure : ByteArray := prog_11_method_40_code
def yxQ_failure : MethodName := ⟨RxQ, "failure", "(II)J"⟩
abbrev cxQ_second : ByteArray := prog_11_method_41_code
def yxQ_second : MethodName := ⟨RxQ, "second", "(II)J"⟩
abbrev cxQ_report : ByteArray := prog_11_method_42_code
def yxQ_report : MethodName := ⟨RxQ, "report", "(I)I"⟩
abbrev cxQ_count : ByteArray := prog_11_method_43_code
def yxQ_count : MethodName := ⟨RxQ, "count", "(I)I"⟩
abbrev cxC_init : ByteArray := prog_2_method_1_code
def yxC_init : MethodName := ⟨RxC, "<init>", "()V"⟩
abbrev cxC_size : ByteArray := prog_2_method_2_code
def yxC_size : MethodName := ⟨RxC, "size", "()I"⟩
abbrev cxC_has : ByteArray := prog_2_method_3_code
def yxC_has : MethodName := ⟨RxC, "has", "(I)Z"⟩
abbrev cxC_isFull : ByteArray := prog_2_method_4_code
def yxC_isFull : MethodName := ⟨RxC, "isFull", "()Z"⟩
abbrev cxC_add : ByteArray := prog_2_method_5_code
def yxC_add : MethodName := ⟨RxC, "add", "(I)I"⟩
abbrev cxC_is : ByteArray := prog_2_method_6_code
def yxC_is : MethodName := ⟨RxC, "is", "(II)Z"⟩
abbrev cxC_isOwn : ByteArray := prog_2_method_7_code
def yxC_isOwn : MethodName := ⟨RxC, "isOwn", "(I)Z"⟩
abbrev cxC_wordOf : ByteArray := prog_2_method_8_code
def yxC_wordOf : MethodName := ⟨RxC, "wordOf", "(I)Ljava/lang/String;"⟩
abbrev cxM_init : ByteArray := prog_4_method_1_code
def yxM_init : MethodName := ⟨RxM, "<init>", "(LThrowScenario$Program;LThrowScenario$Classes;I)V"⟩
abbrev cxM_prepare : ByteArray := prog_4_method_2_code
def yxM_prepare : MethodName := ⟨RxM, "prepare", "(II)V"⟩
abbrev cxM_variableAt : ByteArray := prog_4_method_3_code
def yxM_variableAt : MethodName := ⟨RxM, "variableAt", "(I)I"⟩
abbrev cxM_tally : ByteArray := prog_4_method_4_code
def yxM_tally : MethodName := ⟨RxM, "tally", "(I)I"⟩
abbrev cxM_logSize : ByteArray := prog_4_method_5_code
def yxM_logSize : MethodName := ⟨RxM, "logSize", "()I"⟩
abbrev cxM_logAt : ByteArray := prog_4_method_6_code
def yxM_logAt : MethodName := ⟨RxM, "logAt", "(I)I"⟩
abbrev cxM_carried : ByteArray := prog_4_method_7_code
def yxM_carried : MethodName := ⟨RxM, "carried", "()I"⟩
abbrev cxM_thrown : ByteArray := prog_4_method_8_code
def yxM_thrown : MethodName := ⟨RxM, "thrown", "()LThrowScenario$Thrown;"⟩
abbrev cxM_performRoutine : ByteArray := prog_4_method_9_code
def yxM_performRoutine : MethodName := ⟨RxM, "performRoutine", "(ILThrowScenario$Thrown;)LThrowScenario$Way;"⟩
abbrev cxM_perform : ByteArray := prog_4_method_10_code
def yxM_perform : MethodName := ⟨RxM, "perform", "(IILThrowScenario$Thrown;)LThrowScenario$Way;"⟩
abbrev cxM_mayBegin : ByteArray := prog_4_method_11_code
def yxM_mayBegin : MethodName := ⟨RxM, "mayBegin", "()Z"⟩
abbrev cxM_sequence : ByteArray := prog_4_method_12_code
def yxM_sequence : MethodName := ⟨RxM, "sequence", "(LThrowScenario$Node;ILThrowScenario$Thrown;)LThrowScenario$Way;"⟩
abbrev cxM_choose : ByteArray := prog_4_method_13_code
def yxM_choose : MethodName := ⟨RxM, "choose", "(LThrowScenario$Node;ILThrowScenario$Thrown;)LThrowScenario$Way;"⟩
abbrev cxM_loop : ByteArray := prog_4_method_14_code
def yxM_loop : MethodName := ⟨RxM, "loop", "(LThrowScenario$Node;ILThrowScenario$Thrown;)LThrowScenario$Way;"⟩
abbrev cxM_call : ByteArray := prog_4_method_15_code
def yxM_call : MethodName := ⟨RxM, "call", "(LThrowScenario$Node;I)LThrowScenario$Way;"⟩
abbrev cxM_tryAndCatch : ByteArray := prog_4_method_16_code
def yxM_tryAndCatch : MethodName := ⟨RxM, "tryAndCatch", "(LThrowScenario$Node;ILThrowScenario$Thrown;)LThrowScenario$Way;"⟩
abbrev cxM_doBoth : ByteArray := prog_4_method_17_code
def yxM_doBoth : MethodName := ⟨RxM, "doBoth", "(LThrowScenario$Node;ILThrowScenario$Thrown;)LThrowScenario$Way;"⟩
abbrev cxM_lock : ByteArray := prog_4_method_18_code
def yxM_lock : MethodName := ⟨RxM, "lock", "(LThrowScenario$Node;ILThrowScenario$Thrown;)LThrowScenario$Way;"⟩
abbrev cxM_carry : ByteArray := prog_4_method_19_code
def yxM_carry : MethodName := ⟨RxM, "carry", "(ILThrowScenario$Way;)LThrowScenario$Way;"⟩
abbrev cxM_raise : ByteArray := prog_4_method_20_code
def yxM_raise : MethodName := ⟨RxM, "raise", "(IILThrowScenario$Thrown;)LThrowScenario$Way;"⟩
abbrev cxM_rethrow : ByteArray := prog_4_method_21_code
def yxM_rethrow : MethodName := ⟨RxM, "rethrow", "(LThrowScenario$Thrown;)LThrowScenario$Way;"⟩
abbrev cxM_divide : ByteArray := prog_4_method_22_code
def yxM_divide : MethodName := ⟨RxM, "divide", "(LThrowScenario$Node;)LThrowScenario$Way;"⟩
abbrev cxM_index : ByteArray := prog_4_method_23_code
def yxM_index : MethodName := ⟨RxM, "index", "(LThrowScenario$Node;)LThrowScenario$Way;"⟩
abbrev cxM_cast : ByteArray := prog_4_method_24_code
def yxM_cast : MethodName := ⟨RxM, "cast", "(LThrowScenario$Node;LThrowScenario$Thrown;)LThrowScenario$Way;"⟩
abbrev cxM_wake : ByteArray := prog_4_method_25_code
def yxM_wake : MethodName := ⟨RxM, "wake", "(LThrowScenario$Node;)LThrowScenario$Way;"⟩
abbrev cxM_note : ByteArray := prog_4_method_26_code
def yxM_note : MethodName := ⟨RxM, "note", "(LThrowScenario$Node;LThrowScenario$Thrown;)LThrowScenario$Way;"⟩
abbrev cxM_addToLog : ByteArray := prog_4_method_27_code
def yxM_addToLog : MethodName := ⟨RxM, "addToLog", "(I)V"⟩
abbrev cxN_init : ByteArray := prog_5_method_1_code
def yxN_init : MethodName := ⟨RxN, "<init>", "(IIIII)V"⟩
abbrev cxP_init : ByteArray := prog_6_method_1_code
def yxP_init : MethodName := ⟨RxP, "<init>", "(LThrowScenario$Classes;)V"⟩
abbrev cxP_size : ByteArray := prog_6_method_2_code
def yxP_size : MethodName := ⟨RxP, "size", "()I"⟩
abbrev cxP_isFull : ByteArray := prog_6_method_3_code
def yxP_isFull : MethodName := ⟨RxP, "isFull", "()Z"⟩
abbrev cxP_add : ByteArray := prog_6_method_4_code
def yxP_add : MethodName := ⟨RxP, "add", "(IIII)I"⟩
abbrev cxP_at : ByteArray := prog_6_method_5_code
def yxP_at : MethodName := ⟨RxP, "at", "(I)LThrowScenario$Node;"⟩
abbrev cxP_setStatement : ByteArray := prog_6_method_6_code
def yxP_setStatement : MethodName := ⟨RxP, "setStatement", "(II)V"⟩
abbrev cxP_statementOf : ByteArray := prog_6_method_7_code
def yxP_statementOf : MethodName := ⟨RxP, "statementOf", "(I)I"⟩
abbrev cxP_isDefined : ByteArray := prog_6_method_8_code
def yxP_isDefined : MethodName := ⟨RxP, "isDefined", "(I)Z"⟩
abbrev cxP_isNode : ByteArray := prog_6_method_9_code
def yxP_isNode : MethodName := ⟨RxP, "isNode", "(I)Z"⟩
abbrev cxP_isRoutine : ByteArray := prog_6_method_10_code
def yxP_isRoutine : MethodName := ⟨RxP, "isRoutine", "(I)Z"⟩
abbrev cxP_isVariable : ByteArray := prog_6_method_11_code
def yxP_isVariable : MethodName := ⟨RxP, "isVariable", "(I)Z"⟩
abbrev cxP_isMonitor : ByteArray := prog_6_method_12_code
def yxP_isMonitor : MethodName := ⟨RxP, "isMonitor", "(I)Z"⟩
abbrev cxP_fits : ByteArray := prog_6_method_13_code
def yxP_fits : MethodName := ⟨RxP, "fits", "(IIII)Z"⟩
abbrev cxP_levelOf : ByteArray := prog_6_method_14_code
def yxP_levelOf : MethodName := ⟨RxP, "levelOf", "(IIII)I"⟩
abbrev cxP_levelAt : ByteArray := prog_6_method_15_code
def yxP_levelAt : MethodName := ⟨RxP, "levelAt", "(I)I"⟩
abbrev cxR_init : ByteArray := prog_7_method_1_code
def yxR_init : MethodName := ⟨RxR, "<init>", "()V"⟩
abbrev cxR_length : ByteArray := prog_7_method_2_code
def yxR_length : MethodName := ⟨RxR, "length", "()I"⟩
abbrev cxR_characterAt : ByteArray := prog_7_method_3_code
def yxR_characterAt : MethodName := ⟨RxR, "characterAt", "(I)I"⟩
abbrev cxR_write : ByteArray := prog_7_method_4_code
def yxR_write : MethodName := ⟨RxR, "write", "(IJLThrowScenario$Thrown;LThrowScenario$Thrown;)V"⟩
abbrev cxR_wordsOf : ByteArray := prog_7_method_5_code
def yxR_wordsOf : MethodName := ⟨RxR, "wordsOf", "(I)Ljava/lang/String;"⟩
abbrev cxR_addChain : ByteArray := prog_7_method_6_code
def yxR_addChain : MethodName := ⟨RxR, "addChain", "(LThrowScenario$Thrown;)V"⟩
abbrev cxR_addName : ByteArray := prog_7_method_7_code
def yxR_addName : MethodName := ⟨RxR, "addName", "(LThrowScenario$Thrown;)V"⟩
abbrev cxH_init : ByteArray := prog_8_method_1_code
def yxH_init : MethodName := ⟨RxH, "<init>", "()V"⟩
abbrev cxH_become : ByteArray := prog_8_method_2_code
def yxH_become : MethodName := ⟨RxH, "become", "(IILThrowScenario$Thrown;)V"⟩
abbrev cxH_origin : ByteArray := prog_8_method_3_code
def yxH_origin : MethodName := ⟨RxH, "origin", "()LThrowScenario$Thrown;"⟩
abbrev cxL_cell : ByteArray := method_2_code
def yxL_cell : MethodName := ⟨RxL, "cell", "([II)I"⟩
abbrev cxL_law : ByteArray := code
def yxL_law : MethodName := ⟨RxL, "law", "([I)Z"⟩
abbrev cxO_init : ByteArray := object_method_1_code
def yxO_init : MethodName := ⟨RxO, "<init>", "()V"⟩
abbrev cxA_init : ByteArray := prog_12_method_2_code
def yxA_init : MethodName := ⟨RxA, "<init>", "(I)V"⟩
abbrev cxA_append : ByteArray := prog_12_method_31_code
def yxA_append : MethodName := ⟨RxA, "append", "(C)Ljava/lang/AbstractStringBuilder;"⟩
abbrev cxA_append2 : ByteArray := prog_12_method_32_code
def yxA_append2 : MethodName := ⟨RxA, "append", "(I)Ljava/lang/AbstractStringBuilder;"⟩
abbrev cxA_append3 : ByteArray := prog_12_method_22_code
def yxA_append3 : MethodName := ⟨RxA, "append", "(Ljava/lang/String;)Ljava/lang/AbstractStringBuilder;"⟩
abbrev cxA_appendNull : ByteArray := prog_12_method_26_code
def yxA_appendNull : MethodName := ⟨RxA, "appendNull", "()Ljava/lang/AbstractStringBuilder;"⟩
abbrev cxA_charAt : ByteArray := prog_12_method_14_code
def yxA_charAt : MethodName := ⟨RxA, "charAt", "(I)C"⟩
abbrev cxA_ensureCapacityInternal : ByteArray := prog_12_method_9_code
def yxA_ensureCapacityInternal : MethodName := ⟨RxA, "ensureCapacityInternal", "(I)V"⟩
abbrev cxA_inflate : ByteArray := prog_12_method_11_code
def yxA_inflate : MethodName := ⟨RxA, "inflate", "()V"⟩
abbrev cxA_isLatin1 : ByteArray := prog_12_method_68_code
def yxA_isLatin1 : MethodName := ⟨RxA, "isLatin1", "()Z"⟩
abbrev cxA_length : ByteArray := prog_12_method_6_code
def yxA_length : MethodName := ⟨RxA, "length", "()I"⟩
abbrev cxA_newCapacity : ByteArray := prog_12_method_10_code
def yxA_newCapacity : MethodName := ⟨RxA, "newCapacity", "(I)I"⟩
abbrev cxA_putStringAt : ByteArray := prog_12_method_73_code
def yxA_putStringAt : MethodName := ⟨RxA, "putStringAt", "(ILjava/lang/String;)V"⟩
abbrev cxA_setLength : ByteArray := prog_12_method_13_code
def yxA_setLength : MethodName := ⟨RxA, "setLength", "(I)V"⟩
abbrev cxI_getChars : ByteArray := prog_15_method_12_code
def yxI_getChars : MethodName := ⟨RxI, "getChars", "(II[B)I"⟩
abbrev cxI_stringSize : ByteArray := prog_15_method_13_code
def yxI_stringSize : MethodName := ⟨RxI, "stringSize", "(I)I"⟩
abbrev cxD_max : ByteArray := prog_16_method_65_code
def yxD_max : MethodName := ⟨RxD, "max", "(II)I"⟩
abbrev cxD_min : ByteArray := prog_16_method_69_code
def yxD_min : MethodName := ⟨RxD, "min", "(II)I"⟩
abbrev cxS_checkBoundsBeginEnd : ByteArray := prog_17_method_158_code
def yxS_checkBoundsBeginEnd : MethodName := ⟨RxS, "checkBoundsBeginEnd", "(III)V"⟩
abbrev cxS_checkIndex : ByteArray := prog_17_method_155_code
def yxS_checkIndex : MethodName := ⟨RxS, "checkIndex", "(II)V"⟩
abbrev cxS_coder : ByteArray := prog_17_method_152_code
def yxS_coder : MethodName := ⟨RxS, "coder", "()B"⟩
abbrev cxS_length : ByteArray := prog_17_method_54_code
def yxS_length : MethodName := ⟨RxS, "length", "()I"⟩
abbrev cxB_init : ByteArray := prog_18_method_1_code
def yxB_init : MethodName := ⟨RxB, "<init>", "()V"⟩
abbrev cxB_append : ByteArray := prog_18_method_14_code
def yxB_append : MethodName := ⟨RxB, "append", "(C)Ljava/lang/StringBuilder;"⟩
abbrev cxB_append2 : ByteArray := prog_18_method_15_code
def yxB_append2 : MethodName := ⟨RxB, "append", "(I)Ljava/lang/StringBuilder;"⟩
abbrev cxB_append3 : ByteArray := prog_18_method_7_code
def yxB_append3 : MethodName := ⟨RxB, "append", "(Ljava/lang/String;)Ljava/lang/StringBuilder;"⟩
abbrev cxB_charAt : ByteArray := prog_18_method_88_code
def yxB_charAt : MethodName := ⟨RxB, "charAt", "(I)C"⟩
abbrev cxB_length : ByteArray := prog_18_method_93_code
def yxB_length : MethodName := ⟨RxB, "length", "()I"⟩
abbrev cxB_setLength : ByteArray := prog_18_method_89_code
def yxB_setLength : MethodName := ⟨RxB, "setLength", "(I)V"⟩
abbrev cxU_fillNull : ByteArray := prog_19_method_48_code
def yxU_fillNull : MethodName := ⟨RxU, "fillNull", "([BII)V"⟩
abbrev cxU_inflate : ByteArray := prog_19_method_50_code
def yxU_inflate : MethodName := ⟨RxU, "inflate", "([BI[BII)V"⟩
abbrev cxV_checkBoundsBeginEnd : ByteArray := prog_20_method_93_code
def yxV_checkBoundsBeginEnd : MethodName := ⟨RxV, "checkBoundsBeginEnd", "(II[B)V"⟩
abbrev cxV_checkBoundsOffCount : ByteArray := prog_20_method_94_code
def yxV_checkBoundsOffCount : MethodName := ⟨RxV, "checkBoundsOffCount", "(II[B)V"⟩
abbrev cxV_checkIndex : ByteArray := prog_20_method_91_code
def yxV_checkIndex : MethodName := ⟨RxV, "checkIndex", "(I[B)V"⟩
abbrev cxV_fillNull : ByteArray := prog_20_method_70_code
def yxV_fillNull : MethodName := ⟨RxV, "fillNull", "([BII)V"⟩
abbrev cxV_getChar : ByteArray := prog_20_method_5_code
def yxV_getChar : MethodName := ⟨RxV, "getChar", "([BI)C"⟩
abbrev cxV_getChars : ByteArray := prog_20_method_77_code
def yxV_getChars : MethodName := ⟨RxV, "getChars", "(III[B)I"⟩
abbrev cxV_getChars2 : ByteArray := prog_20_method_89_code
def yxV_getChars2 : MethodName := ⟨RxV, "getChars", "(II[B)I"⟩
abbrev cxV_inflate : ByteArray := prog_20_method_86_code
def yxV_inflate : MethodName := ⟨RxV, "inflate", "([BI[BII)V"⟩
abbrev cxV_length : ByteArray := prog_20_method_6_code
def yxV_length : MethodName := ⟨RxV, "length", "([B)I"⟩
abbrev cxV_newBytesFor : ByteArray := prog_20_method_2_code
def yxV_newBytesFor : MethodName := ⟨RxV, "newBytesFor", "(I)[B"⟩
abbrev cxV_putChar : ByteArray := prog_20_method_4_code
def yxV_putChar : MethodName := ⟨RxV, "putChar", "([BII)V"⟩
abbrev cxV_putCharSB : ByteArray := prog_20_method_71_code
def yxV_putCharSB : MethodName := ⟨RxV, "putCharSB", "([BII)V"⟩
abbrev cxV_putCharsAt : ByteArray := prog_20_method_81_code
def yxV_putCharsAt : MethodName := ⟨RxV, "putCharsAt", "([BICCCC)I"⟩
abbrev cxY_copyOf : ByteArray := prog_22_method_121_code
def yxY_copyOf : MethodName := ⟨RxY, "copyOf", "([BI)[B"⟩
abbrev cxY_fill : ByteArray := prog_22_method_110_code
def yxY_fill : MethodName := ⟨RxY, "fill", "([BIIB)V"⟩
abbrev cxY_rangeCheck : ByteArray := prog_22_method_30_code
def yxY_rangeCheck : MethodName := ⟨RxY, "rangeCheck", "(III)V"⟩
abbrev cxZ_hugeLength : ByteArray := prog_23_method_28_code
def yxZ_hugeLength : MethodName := ⟨RxZ, "hugeLength", "(II)I"⟩
abbrev cxZ_newLength : ByteArray := prog_23_method_27_code
def yxZ_newLength : MethodName := ⟨RxZ, "newLength", "(III)I"⟩
abbrev vwCl : List vw_C := [(RxT, TxT, 8), (RxC, TxC, 2), (RxP, TxP, 4), (RxM, TxM, 15), (RxR, TxR, 1), (RxH, TxH, 4), (RxN, TxN, 5), (RxB, TxB, 4), (RxQ, TxQ, 45)]
end
section
theorem dxC_size_0 : decode cxC_size 0 = .ok (.aload_n 0, 1) := by decide +kernel
theorem dxC_size_1 : decode cxC_size 1 = .ok (.getfield 13, 3) := by decide +kernel
theorem dxC_size_4 : decode cxC_size 4 = .ok (.ireturn, 1) := by decide +kernel
theorem dxC_has_0 : decode cxC_has 0 = .ok (.iload_n 1, 1) := by decide +kernel
theorem dxC_has_1 : decode cxC_has 1 = .ok (.ifCond .lt 15, 3) := by decide +kernel
theorem dxC_has_4 : decode cxC_has 4 = .ok (.iload_n 1, 1) := by decide +kernel
theorem dxC_has_5 : decode cxC_has 5 = .ok (.aload_n 0, 1) := by decide +kernel
theorem dxC_has_6 : decode cxC_has 6 = .ok (.getfield 13, 3) := by decide +kernel
theorem dxC_has_9 : decode cxC_has 9 = .ok (.if_icmp .ge 7, 3) := by decide +kernel
theorem dxC_has_12 : decode cxC_has 12 = .ok (.iconst 1, 1) := by decide +kernel
theorem dxC_has_13 : decode cxC_has 13 = .ok (.goto 4, 3) := by decide +kernel
theorem dxC_has_16 : decode cxC_has 16 = .ok (.iconst 0, 1) := by decide +kernel
theorem dxC_has_17 : decode cxC_has 17 = .ok (.ireturn, 1) := by decide +kernel
theorem dxC_isFull_0 : decode cxC_isFull 0 = .ok (.aload_n 0, 1) := by decide +kernel
theorem dxC_isFull_1 : decode cxC_isFull 1 = .ok (.getfield 13, 3) := by decide +kernel
theorem dxC_isFull_4 : decode cxC_isFull 4 = .ok (.bipush 16, 2) := by decide +kernel
theorem dxC_isFull_6 : decode cxC_isFull 6 = .ok (.if_icmp .ne 7, 3) := by decide +kernel
theorem dxC_isFull_9 : decode cxC_isFull 9 = .ok (.iconst 1, 1) := by decide +kernel
theorem dxC_isFull_10 : decode cxC_isFull 10 = .ok (.goto 4, 3) := by decide +kernel
theorem dxC_isFull_13 : decode cxC_isFull 13 = .ok (.iconst 0, 1) := by decide +kernel
theorem dxC_isFull_14 : decode cxC_isFull 14 = .ok (.ireturn, 1) := by decide +kernel
theorem dxC_is_0 : decode cxC_is 0 = .ok (.iload_n 1, 1) := by decide +kernel
theorem dxC_is_1 : decode cxC_is 1 = .ok (.istore_n 3, 1) := by decide +kernel
theorem dxC_is_2 : decode cxC_is 2 = .ok (.iconst 0, 1) := by decide +kernel
theorem dxC_is_3 : decode cxC_is 3 = .ok (.istore 4, 2) := by decide +kernel
theorem dxC_is_5 : decode cxC_is 5 = .ok (.iload 4, 2) := by decide +kernel
theorem dxC_is_7 : decode cxC_is 7 = .ok (.bipush 16, 2) := by decide +kernel
theorem dxC_is_9 : decode cxC_is 9 = .ok (.if_icmp .ge 29, 3) := by decide +kernel
theorem dxC_is_12 : decode cxC_is 12 = .ok (.aload_n 0, 1) := by decide +kernel
theorem dxC_is_13 : decode cxC_is 13 = .ok (.iload_n 3, 1) := by decide +kernel
theorem dxC_is_14 : decode cxC_is 14 = .ok (.invokevirtual 26, 3) := by decide +kernel
theorem dxC_is_17 : decode cxC_is 17 = .ok (.ifCond .eq 21, 3) := by decide +kernel
theorem dxC_is_20 : decode cxC_is 20 = .ok (.iload_n 3, 1) := by decide +kernel
theorem dxC_is_21 : decode cxC_is 21 = .ok (.iload_n 2, 1) := by decide +kernel
theorem dxC_is_22 : decode cxC_is 22 = .ok (.if_icmp .eq 16, 3) := by decide +kernel
theorem dxC_is_25 : decode cxC_is 25 = .ok (.aload_n 0, 1) := by decide +kernel
theorem dxC_is_26 : decode cxC_is 26 = .ok (.getfield 9, 3) := by decide +kernel
theorem dxC_is_29 : decode cxC_is 29 = .ok (.iload_n 3, 1) := by decide +kernel
theorem dxC_is_30 : decode cxC_is 30 = .ok (.iaload, 1) := by decide +kernel
theorem dxC_is_31 : decode cxC_is 31 = .ok (.istore_n 3, 1) := by decide +kernel
theorem dxC_is_32 : decode cxC_is 32 = .ok (.iinc 4 1, 3) := by decide +kernel
theorem dxC_is_35 : decode cxC_is 35 = .ok (.goto (-30), 3) := by decide +kernel
theorem dxC_is_38 : decode cxC_is 38 = .ok (.iload_n 3, 1) := by decide +kernel
theorem dxC_is_39 : decode cxC_is 39 = .ok (.iload_n 2, 1) := by decide +kernel
theorem dxC_is_40 : decode cxC_is 40 = .ok (.if_icmp .ne 7, 3) := by decide +kernel
theorem dxC_is_43 : decode cxC_is 43 = .ok (.iconst 1, 1) := by decide +kernel
theorem dxC_is_44 : decode cxC_is 44 = .ok (.goto 4, 3) := by decide +kernel
theorem dxC_is_47 : decode cxC_is 47 = .ok (.iconst 0, 1) := by decide +kernel
theorem dxC_is_48 : decode cxC_is 48 = .ok (.ireturn, 1) := by decide +kernel
theorem dxM_prepare_0 : decode cxM_prepare 0 = .ok (.aload_n 0, 1) := by decide +kernel
theorem dxM_prepare_1 : decode cxM_prepare 1 = .ok (.getfield 11, 3) := by decide +kernel
theorem dxM_prepare_4 : decode cxM_prepare 4 = .ok (.iconst 0, 1) := by decide +kernel
theorem dxM_prepare_5 : decode cxM_prepare 5 = .ok (.iload_n 1, 1) := by decide +kernel
theorem dxM_prepare_6 : decode cxM_prepare 6 = .ok (.iastore, 1) := by decide +kernel
theorem dxM_prepare_7 : decode cxM_prepare 7 = .ok (.aload_n 0, 1) := by decide +kernel
theorem dxM_prepare_8 : decode cxM_prepare 8 = .ok (.getfield 11, 3) := by decide +kernel
theorem dxM_prepare_11 : decode cxM_prepare 11 = .ok (.iconst 1, 1) := by decide +kernel
theorem dxM_prepare_12 : decode cxM_prepare 12 = .ok (.iload_n 2, 1) := by decide +kernel
theorem dxM_prepare_13 : decode cxM_prepare 13 = .ok (.iastore, 1) := by decide +kernel
theorem dxM_prepare_14 : decode cxM_prepare 14 = .ok (.aload_n 0, 1) := by decide +kernel
theorem dxM_prepare_15 : decode cxM_prepare 15 = .ok (.getfield 11, 3) := by decide +kernel
theorem dxM_prepare_18 : decode cxM_prepare 18 = .ok (.iconst 2, 1) := by decide +kernel
theorem dxM_prepare_19 : decode cxM_prepare 19 = .ok (.iconst 0, 1) := by decide +kernel
theorem dxM_prepare_20 : decode cxM_prepare 20 = .ok (.iastore, 1) := by decide +kernel
theorem dxM_prepare_21 : decode cxM_prepare 21 = .ok (.aload_n 0, 1) := by decide +kernel
theorem dxM_prepare_22 : decode cxM_prepare 22 = .ok (.getfield 11, 3) := by decide +kernel
theorem dxM_prepare_25 : decode cxM_prepare 25 = .ok (.iconst 3, 1) := by decide +kernel
theorem dxM_prepare_26 : decode cxM_prepare 26 = .ok (.iconst 0, 1) := by decide +kernel
theorem dxM_prepare_27 : decode cxM_prepare 27 = .ok (.iastore, 1) := by decide +kernel
theorem dxM_prepare_28 : decode cxM_prepare 28 = .ok (.aload_n 0, 1) := by decide +kernel
theorem dxM_prepare_29 : decode cxM_prepare 29 = .ok (.getfield 17, 3) := by decide +kernel
theorem dxM_prepare_32 : decode cxM_prepare 32 = .ok (.iconst 0, 1) := by decide +kernel
theorem dxM_prepare_33 : decode cxM_prepare 33 = .ok (.iconst 0, 1) := by decide +kernel
theorem dxM_prepare_34 : decode cxM_prepare 34 = .ok (.iastore, 1) := by decide +kernel
theorem dxM_prepare_35 : decode cxM_prepare 35 = .ok (.aload_n 0, 1) := by decide +kernel
theorem dxM_prepare_36 : decode cxM_prepare 36 = .ok (.getfield 17, 3) := by decide +kernel
theorem dxM_prepare_39 : decode cxM_prepare 39 = .ok (.iconst 1, 1) := by decide +kernel
theorem dxM_prepare_40 : decode cxM_prepare 40 = .ok (.iconst 0, 1) := by decide +kernel
theorem dxM_prepare_41 : decode cxM_prepare 41 = .ok (.iastore, 1) := by decide +kernel
theorem dxM_prepare_42 : decode cxM_prepare 42 = .ok (.aload_n 0, 1) := by decide +kernel
theorem dxM_prepare_43 : decode cxM_prepare 43 = .ok (.iconst 0, 1) := by decide +kernel
theorem dxM_prepare_44 : decode cxM_prepare 44 = .ok (.putfield 29, 3) := by decide +kernel
theorem dxM_prepare_47 : decode cxM_prepare 47 = .ok (.aload_n 0, 1) := by decide +kernel
theorem dxM_prepare_48 : decode cxM_prepare 48 = .ok (.iconst 0, 1) := by decide +kernel
theorem dxM_prepare_49 : decode cxM_prepare 49 = .ok (.putfield 33, 3) := by decide +kernel
theorem dxM_prepare_52 : decode cxM_prepare 52 = .ok (.aload_n 0, 1) := by decide +kernel
theorem dxM_prepare_53 : decode cxM_prepare 53 = .ok (.iconst 0, 1) := by decide +kernel
theorem dxM_prepare_54 : decode cxM_prepare 54 = .ok (.putfield 36, 3) := by decide +kernel
theorem dxM_prepare_57 : decode cxM_prepare 57 = .ok (.aload_n 0, 1) := by decide +kernel
theorem dxM_prepare_58 : decode cxM_prepare 58 = .ok (.iconst 0, 1) := by decide +kernel
theorem dxM_prepare_59 : decode cxM_prepare 59 = .ok (.putfield 39, 3) := by decide +kernel
theorem dxM_prepare_62 : decode cxM_prepare 62 = .ok (.aload_n 0, 1) := by decide +kernel
theorem dxM_prepare_63 : decode cxM_prepare 63 = .ok (.iconst 0, 1) := by decide +kernel
theorem dxM_prepare_64 : decode cxM_prepare 64 = .ok (.putfield 42, 3) := by decide +kernel
theorem dxM_prepare_67 : decode cxM_prepare 67 = .ok (.aload_n 0, 1) := by decide +kernel
theorem dxM_prepare_68 : decode cxM_prepare 68 = .ok (.iconst 0, 1) := by decide +kernel
theorem dxM_prepare_69 : decode cxM_prepare 69 = .ok (.putfield 45, 3) := by decide +kernel
theorem dxM_prepare_72 : decode cxM_prepare 72 = .ok (.return_, 1) := by decide +kernel
theorem dxM_variableAt_0 : decode cxM_variableAt 0 = .ok (.aload_n 0, 1) := by decide +kernel
theorem dxM_variableAt_1 : decode cxM_variableAt 1 = .ok (.getfield 11, 3) := by decide +kernel
theorem dxM_variableAt_4 : decode cxM_variableAt 4 = .ok (.iload_n 1, 1) := by decide +kernel
theorem dxM_variableAt_5 : decode cxM_variableAt 5 = .ok (.iaload, 1) := by decide +kernel
theorem dxM_variableAt_6 : decode cxM_variableAt 6 = .ok (.ireturn, 1) := by decide +kernel
theorem dxM_tally_0 : decode cxM_tally 0 = .ok (.iload_n 1, 1) := by decide +kernel
theorem dxM_tally_1 : decode cxM_tally 1 = .ok (.tableswitch 91 2 9 #[47, 52, 57, 62, 67, 72, 77, 84], 47) := by decide +kernel
theorem dxM_tally_48 : decode cxM_tally 48 = .ok (.aload_n 0, 1) := by decide +kernel
theorem dxM_tally_49 : decode cxM_tally 49 = .ok (.getfield 36, 3) := by decide +kernel
theorem dxM_tally_52 : decode cxM_tally 52 = .ok (.ireturn, 1) := by decide +kernel
theorem dxM_tally_53 : decode cxM_tally 53 = .ok (.aload_n 0, 1) := by decide +kernel
theorem dxM_tally_54 : decode cxM_tally 54 = .ok (.getfield 33, 3) := by decide +kernel
theorem dxM_tally_57 : decode cxM_tally 57 = .ok (.ireturn, 1) := by decide +kernel
theorem dxM_tally_58 : decode cxM_tally 58 = .ok (.aload_n 0, 1) := by decide +kernel
theorem dxM_tally_59 : decode cxM_tally 59 = .ok (.getfield 39, 3) := by decide +kernel
theorem dxM_tally_62 : decode cxM_tally 62 = .ok (.ireturn, 1) := by decide +kernel
theorem dxM_tally_63 : decode cxM_tally 63 = .ok (.aload_n 0, 1) := by decide +kernel
theorem dxM_tally_64 : decode cxM_tally 64 = .ok (.getfield 42, 3) := by decide +kernel
theorem dxM_tally_67 : decode cxM_tally 67 = .ok (.ireturn, 1) := by decide +kernel
theorem dxM_tally_68 : decode cxM_tally 68 = .ok (.aload_n 0, 1) := by decide +kernel
theorem dxM_tally_69 : decode cxM_tally 69 = .ok (.getfield 45, 3) := by decide +kernel
theorem dxM_tally_72 : decode cxM_tally 72 = .ok (.ireturn, 1) := by decide +kernel
theorem dxM_tally_73 : decode cxM_tally 73 = .ok (.aload_n 0, 1) := by decide +kernel
theorem dxM_tally_74 : decode cxM_tally 74 = .ok (.getfield 29, 3) := by decide +kernel
theorem dxM_tally_77 : decode cxM_tally 77 = .ok (.ireturn, 1) := by decide +kernel
theorem dxM_tally_78 : decode cxM_tally 78 = .ok (.aload_n 0, 1) := by decide +kernel
theorem dxM_tally_79 : decode cxM_tally 79 = .ok (.getfield 17, 3) := by decide +kernel
theorem dxM_tally_82 : decode cxM_tally 82 = .ok (.iconst 0, 1) := by decide +kernel
theorem dxM_tally_83 : decode cxM_tally 83 = .ok (.iaload, 1) := by decide +kernel
theorem dxM_tally_84 : decode cxM_tally 84 = .ok (.ireturn, 1) := by decide +kernel
theorem dxM_tally_85 : decode cxM_tally 85 = .ok (.aload_n 0, 1) := by decide +kernel
theorem dxM_tally_86 : decode cxM_tally 86 = .ok (.getfield 17, 3) := by decide +kernel
theorem dxM_tally_89 : decode cxM_tally 89 = .ok (.iconst 1, 1) := by decide +kernel
theorem dxM_tally_90 : decode cxM_tally 90 = .ok (.iaload, 1) := by decide +kernel
theorem dxM_tally_91 : decode cxM_tally 91 = .ok (.ireturn, 1) := by decide +kernel
theorem dxM_tally_92 : decode cxM_tally 92 = .ok (.iconst (-1), 1) := by decide +kernel
theorem dxM_tally_93 : decode cxM_tally 93 = .ok (.ireturn, 1) := by decide +kernel
theorem dxM_logSize_0 : decode cxM_logSize 0 = .ok (.aload_n 0, 1) := by decide +kernel
theorem dxM_logSize_1 : decode cxM_logSize 1 = .ok (.getfield 29, 3) := by decide +kernel
theorem dxM_logSize_4 : decode cxM_logSize 4 = .ok (.ireturn, 1) := by decide +kernel
theorem dxM_logAt_0 : decode cxM_logAt 0 = .ok (.aload_n 0, 1) := by decide +kernel
theorem dxM_logAt_1 : decode cxM_logAt 1 = .ok (.getfield 20, 3) := by decide +kernel
theorem dxM_logAt_4 : decode cxM_logAt 4 = .ok (.iload_n 1, 1) := by decide +kernel
theorem dxM_logAt_5 : decode cxM_logAt 5 = .ok (.iaload, 1) := by decide +kernel
theorem dxM_logAt_6 : decode cxM_logAt 6 = .ok (.ireturn, 1) := by decide +kernel
theorem dxM_carried_0 : decode cxM_carried 0 = .ok (.aload_n 0, 1) := by decide +kernel
theorem dxM_carried_1 : decode cxM_carried 1 = .ok (.getfield 48, 3) := by decide +kernel
theorem dxM_carried_4 : decode cxM_carried 4 = .ok (.ireturn, 1) := by decide +kernel
theorem dxM_thrown_0 : decode cxM_thrown 0 = .ok (.aload_n 0, 1) := by decide +kernel
theorem dxM_thrown_1 : decode cxM_thrown 1 = .ok (.getfield 63, 3) := by decide +kernel
theorem dxM_thrown_4 : decode cxM_thrown 4 = .ok (.areturn, 1) := by decide +kernel
theorem dxM_perform_0 : decode cxM_perform 0 = .ok (.aload_n 0, 1) := by decide +kernel
theorem dxM_perform_1 : decode cxM_perform 1 = .ok (.invokevirtual 75, 3) := by decide +kernel
theorem dxM_perform_4 : decode cxM_perform 4 = .ok (.ifCond .ne 7, 3) := by decide +kernel
theorem dxM_perform_7 : decode cxM_perform 7 = .ok (.getstatic 79, 3) := by decide +kernel
theorem dxM_perform_10 : decode cxM_perform 10 = .ok (.areturn, 1) := by decide +kernel
theorem dxM_perform_11 : decode cxM_perform 11 = .ok (.aload_n 0, 1) := by decide +kernel
theorem dxM_perform_12 : decode cxM_perform 12 = .ok (.dup, 1) := by decide +kernel
theorem dxM_perform_13 : decode cxM_perform 13 = .ok (.getfield 36, 3) := by decide +kernel
theorem dxM_perform_16 : decode cxM_perform 16 = .ok (.iconst 1, 1) := by decide +kernel
theorem dxM_perform_17 : decode cxM_perform 17 = .ok (.iadd, 1) := by decide +kernel
theorem dxM_perform_18 : decode cxM_perform 18 = .ok (.putfield 36, 3) := by decide +kernel
theorem dxM_perform_21 : decode cxM_perform 21 = .ok (.aload_n 0, 1) := by decide +kernel
theorem dxM_perform_22 : decode cxM_perform 22 = .ok (.aload_n 0, 1) := by decide +kernel
theorem dxM_perform_23 : decode cxM_perform 23 = .ok (.getfield 45, 3) := by decide +kernel
theorem dxM_perform_26 : decode cxM_perform 26 = .ok (.iload_n 2, 1) := by decide +kernel
theorem dxM_perform_27 : decode cxM_perform 27 = .ok (.invokestatic 85, 3) := by decide +kernel
theorem dxM_perform_30 : decode cxM_perform 30 = .ok (.putfield 45, 3) := by decide +kernel
theorem dxM_perform_33 : decode cxM_perform 33 = .ok (.aload_n 0, 1) := by decide +kernel
theorem dxM_perform_34 : decode cxM_perform 34 = .ok (.getfield 51, 3) := by decide +kernel
theorem dxM_perform_37 : decode cxM_perform 37 = .ok (.iload_n 1, 1) := by decide +kernel
theorem dxM_perform_38 : decode cxM_perform 38 = .ok (.invokevirtual 91, 3) := by decide +kernel
theorem dxM_perform_41 : decode cxM_perform 41 = .ok (.astore 4, 2) := by decide +kernel
theorem dxM_perform_43 : decode cxM_perform 43 = .ok (.aload 4, 2) := by decide +kernel
theorem dxM_perform_45 : decode cxM_perform 45 = .ok (.getfield 95, 3) := by decide +kernel
theorem dxM_perform_48 : decode cxM_perform 48 = .ok (.tableswitch 261 4 21 #[88, 97, 106, 150, 154, 115, 194, 226, 210, 123, 132, 132, 232, 239, 246, 172, 141, 254], 88) := by decide +kernel
theorem dxM_perform_136 : decode cxM_perform 136 = .ok (.aload_n 0, 1) := by decide +kernel
theorem dxM_perform_137 : decode cxM_perform 137 = .ok (.aload 4, 2) := by decide +kernel
theorem dxM_perform_139 : decode cxM_perform 139 = .ok (.iload_n 2, 1) := by decide +kernel
theorem dxM_perform_140 : decode cxM_perform 140 = .ok (.aload_n 3, 1) := by decide +kernel
theorem dxM_perform_141 : decode cxM_perform 141 = .ok (.invokevirtual 100, 3) := by decide +kernel
theorem dxM_perform_144 : decode cxM_perform 144 = .ok (.areturn, 1) := by decide +kernel
theorem dxM_perform_145 : decode cxM_perform 145 = .ok (.aload_n 0, 1) := by decide +kernel
theorem dxM_perform_146 : decode cxM_perform 146 = .ok (.aload 4, 2) := by decide +kernel
theorem dxM_perform_148 : decode cxM_perform 148 = .ok (.iload_n 2, 1) := by decide +kernel
theorem dxM_perform_149 : decode cxM_perform 149 = .ok (.aload_n 3, 1) := by decide +kernel
theorem dxM_perform_150 : decode cxM_perform 150 = .ok (.invokevirtual 104, 3) := by decide +kernel
theorem dxM_perform_153 : decode cxM_perform 153 = .ok (.areturn, 1) := by decide +kernel
theorem dxM_perform_154 : decode cxM_perform 154 = .ok (.aload_n 0, 1) := by decide +kernel
theorem dxM_perform_155 : decode cxM_perform 155 = .ok (.aload 4, 2) := by decide +kernel
theorem dxM_perform_157 : decode cxM_perform 157 = .ok (.iload_n 2, 1) := by decide +kernel
theorem dxM_perform_158 : decode cxM_perform 158 = .ok (.aload_n 3, 1) := by decide +kernel
theorem dxM_perform_159 : decode cxM_perform 159 = .ok (.invokevirtual 107, 3) := by decide +kernel
theorem dxM_perform_162 : decode cxM_perform 162 = .ok (.areturn, 1) := by decide +kernel
theorem dxM_perform_163 : decode cxM_perform 163 = .ok (.aload_n 0, 1) := by decide +kernel
theorem dxM_perform_164 : decode cxM_perform 164 = .ok (.aload 4, 2) := by decide +kernel
theorem dxM_perform_166 : decode cxM_perform 166 = .ok (.iload_n 2, 1) := by decide +kernel
theorem dxM_perform_167 : decode cxM_perform 167 = .ok (.invokevirtual 110, 3) := by decide +kernel
theorem dxM_perform_170 : decode cxM_perform 170 = .ok (.areturn, 1) := by decide +kernel
theorem dxM_perform_171 : decode cxM_perform 171 = .ok (.aload_n 0, 1) := by decide +kernel
theorem dxM_perform_172 : decode cxM_perform 172 = .ok (.aload 4, 2) := by decide +kernel
theorem dxM_perform_174 : decode cxM_perform 174 = .ok (.iload_n 2, 1) := by decide +kernel
theorem dxM_perform_175 : decode cxM_perform 175 = .ok (.aload_n 3, 1) := by decide +kernel
theorem dxM_perform_176 : decode cxM_perform 176 = .ok (.invokevirtual 114, 3) := by decide +kernel
theorem dxM_perform_179 : decode cxM_perform 179 = .ok (.areturn, 1) := by decide +kernel
theorem dxM_perform_180 : decode cxM_perform 180 = .ok (.aload_n 0, 1) := by decide +kernel
theorem dxM_perform_181 : decode cxM_perform 181 = .ok (.aload 4, 2) := by decide +kernel
theorem dxM_perform_183 : decode cxM_perform 183 = .ok (.iload_n 2, 1) := by decide +kernel
theorem dxM_perform_184 : decode cxM_perform 184 = .ok (.aload_n 3, 1) := by decide +kernel
theorem dxM_perform_185 : decode cxM_perform 185 = .ok (.invokevirtual 117, 3) := by decide +kernel
theorem dxM_perform_188 : decode cxM_perform 188 = .ok (.areturn, 1) := by decide +kernel
theorem dxM_perform_189 : decode cxM_perform 189 = .ok (.aload_n 0, 1) := by decide +kernel
theorem dxM_perform_190 : decode cxM_perform 190 = .ok (.aload 4, 2) := by decide +kernel
theorem dxM_perform_192 : decode cxM_perform 192 = .ok (.iload_n 2, 1) := by decide +kernel
theorem dxM_perform_193 : decode cxM_perform 193 = .ok (.aload_n 3, 1) := by decide +kernel
theorem dxM_perform_194 : decode cxM_perform 194 = .ok (.invokevirtual 120, 3) := by decide +kernel
theorem dxM_perform_197 : decode cxM_perform 197 = .ok (.areturn, 1) := by decide +kernel
theorem dxM_perform_198 : decode cxM_perform 198 = .ok (.getstatic 123, 3) := by decide +kernel
theorem dxM_perform_201 : decode cxM_perform 201 = .ok (.areturn, 1) := by decide +kernel
theorem dxM_perform_202 : decode cxM_perform 202 = .ok (.aload_n 0, 1) := by decide +kernel
theorem dxM_perform_203 : decode cxM_perform 203 = .ok (.aload_n 0, 1) := by decide +kernel
theorem dxM_perform_204 : decode cxM_perform 204 = .ok (.getfield 11, 3) := by decide +kernel
theorem dxM_perform_207 : decode cxM_perform 207 = .ok (.aload 4, 2) := by decide +kernel
theorem dxM_perform_209 : decode cxM_perform 209 = .ok (.getfield 126, 3) := by decide +kernel
theorem dxM_perform_212 : decode cxM_perform 212 = .ok (.iaload, 1) := by decide +kernel
theorem dxM_perform_213 : decode cxM_perform 213 = .ok (.getstatic 129, 3) := by decide +kernel
theorem dxM_perform_216 : decode cxM_perform 216 = .ok (.invokevirtual 132, 3) := by decide +kernel
theorem dxM_perform_219 : decode cxM_perform 219 = .ok (.areturn, 1) := by decide +kernel
theorem dxM_perform_220 : decode cxM_perform 220 = .ok (.aload_n 0, 1) := by decide +kernel
theorem dxM_perform_221 : decode cxM_perform 221 = .ok (.aload_n 0, 1) := by decide +kernel
theorem dxM_perform_222 : decode cxM_perform 222 = .ok (.getfield 11, 3) := by decide +kernel
theorem dxM_perform_225 : decode cxM_perform 225 = .ok (.aload 4, 2) := by decide +kernel
theorem dxM_perform_227 : decode cxM_perform 227 = .ok (.getfield 126, 3) := by decide +kernel
theorem dxM_perform_230 : decode cxM_perform 230 = .ok (.iaload, 1) := by decide +kernel
theorem dxM_perform_231 : decode cxM_perform 231 = .ok (.sipush 255, 3) := by decide +kernel
theorem dxM_perform_234 : decode cxM_perform 234 = .ok (.iand, 1) := by decide +kernel
theorem dxM_perform_235 : decode cxM_perform 235 = .ok (.getstatic 136, 3) := by decide +kernel
theorem dxM_perform_238 : decode cxM_perform 238 = .ok (.invokevirtual 132, 3) := by decide +kernel
theorem dxM_perform_241 : decode cxM_perform 241 = .ok (.areturn, 1) := by decide +kernel
theorem dxM_perform_242 : decode cxM_perform 242 = .ok (.aload_n 0, 1) := by decide +kernel
theorem dxM_perform_243 : decode cxM_perform 243 = .ok (.aload 4, 2) := by decide +kernel
theorem dxM_perform_245 : decode cxM_perform 245 = .ok (.getfield 126, 3) := by decide +kernel
theorem dxM_perform_248 : decode cxM_perform 248 = .ok (.aload 4, 2) := by decide +kernel
theorem dxM_perform_250 : decode cxM_perform 250 = .ok (.getfield 139, 3) := by decide +kernel
theorem dxM_perform_253 : decode cxM_perform 253 = .ok (.aconst_null, 1) := by decide +kernel
theorem dxM_perform_254 : decode cxM_perform 254 = .ok (.invokevirtual 142, 3) := by decide +kernel
theorem dxM_perform_257 : decode cxM_perform 257 = .ok (.areturn, 1) := by decide +kernel
theorem dxM_perform_258 : decode cxM_perform 258 = .ok (.aload_n 0, 1) := by decide +kernel
theorem dxM_perform_259 : decode cxM_perform 259 = .ok (.aload 4, 2) := by decide +kernel
theorem dxM_perform_261 : decode cxM_perform 261 = .ok (.getfield 126, 3) := by decide +kernel
theorem dxM_perform_264 : decode cxM_perform 264 = .ok (.aload 4, 2) := by decide +kernel
theorem dxM_perform_266 : decode cxM_perform 266 = .ok (.getfield 139, 3) := by decide +kernel
theorem dxM_perform_269 : decode cxM_perform 269 = .ok (.aload_n 3, 1) := by decide +kernel
theorem dxM_perform_270 : decode cxM_perform 270 = .ok (.invokevirtual 142, 3) := by decide +kernel
theorem dxM_perform_273 : decode cxM_perform 273 = .ok (.areturn, 1) := by decide +kernel
theorem dxM_perform_274 : decode cxM_perform 274 = .ok (.aload_n 0, 1) := by decide +kernel
theorem dxM_perform_275 : decode cxM_perform 275 = .ok (.aload_n 3, 1) := by decide +kernel
theorem dxM_perform_276 : decode cxM_perform 276 = .ok (.invokevirtual 145, 3) := by decide +kernel
theorem dxM_perform_279 : decode cxM_perform 279 = .ok (.areturn, 1) := by decide +kernel
theorem dxM_perform_280 : decode cxM_perform 280 = .ok (.aload_n 0, 1) := by decide +kernel
theorem dxM_perform_281 : decode cxM_perform 281 = .ok (.aload 4, 2) := by decide +kernel
theorem dxM_perform_283 : decode cxM_perform 283 = .ok (.invokevirtual 149, 3) := by decide +kernel
theorem dxM_perform_286 : decode cxM_perform 286 = .ok (.areturn, 1) := by decide +kernel
theorem dxM_perform_287 : decode cxM_perform 287 = .ok (.aload_n 0, 1) := by decide +kernel
theorem dxM_perform_288 : decode cxM_perform 288 = .ok (.aload 4, 2) := by decide +kernel
theorem dxM_perform_290 : decode cxM_perform 290 = .ok (.invokevirtual 153, 3) := by decide +kernel
theorem dxM_perform_293 : decode cxM_perform 293 = .ok (.areturn, 1) := by decide +kernel
theorem dxM_perform_294 : decode cxM_perform 294 = .ok (.aload_n 0, 1) := by decide +kernel
theorem dxM_perform_295 : decode cxM_perform 295 = .ok (.aload 4, 2) := by decide +kernel
theorem dxM_perform_297 : decode cxM_perform 297 = .ok (.aload_n 3, 1) := by decide +kernel
theorem dxM_perform_298 : decode cxM_perform 298 = .ok (.invokevirtual 156, 3) := by decide +kernel
theorem dxM_perform_301 : decode cxM_perform 301 = .ok (.areturn, 1) := by decide +kernel
theorem dxM_perform_302 : decode cxM_perform 302 = .ok (.aload_n 0, 1) := by decide +kernel
theorem dxM_perform_303 : decode cxM_perform 303 = .ok (.aload 4, 2) := by decide +kernel
theorem dxM_perform_305 : decode cxM_perform 305 = .ok (.invokevirtual 160, 3) := by decide +kernel
theorem dxM_perform_308 : decode cxM_perform 308 = .ok (.areturn, 1) := by decide +kernel
theorem dxM_perform_309 : decode cxM_perform 309 = .ok (.aload_n 0, 1) := by decide +kernel
theorem dxM_perform_310 : decode cxM_perform 310 = .ok (.aload 4, 2) := by decide +kernel
theorem dxM_perform_312 : decode cxM_perform 312 = .ok (.aload_n 3, 1) := by decide +kernel
theorem dxM_perform_313 : decode cxM_perform 313 = .ok (.invokevirtual 163, 3) := by decide +kernel
theorem dxM_perform_316 : decode cxM_perform 316 = .ok (.areturn, 1) := by decide +kernel
theorem dxM_mayBegin_0 : decode cxM_mayBegin 0 = .ok (.aload_n 0, 1) := by decide +kernel
theorem dxM_mayBegin_1 : decode cxM_mayBegin 1 = .ok (.getfield 36, 3) := by decide +kernel
theorem dxM_mayBegin_4 : decode cxM_mayBegin 4 = .ok (.sipush 300, 3) := by decide +kernel
theorem dxM_mayBegin_7 : decode cxM_mayBegin 7 = .ok (.if_icmp .ge 7, 3) := by decide +kernel
theorem dxM_mayBegin_10 : decode cxM_mayBegin 10 = .ok (.iconst 1, 1) := by decide +kernel
theorem dxM_mayBegin_11 : decode cxM_mayBegin 11 = .ok (.goto 4, 3) := by decide +kernel
theorem dxM_mayBegin_14 : decode cxM_mayBegin 14 = .ok (.iconst 0, 1) := by decide +kernel
theorem dxM_mayBegin_15 : decode cxM_mayBegin 15 = .ok (.ireturn, 1) := by decide +kernel
theorem dxM_sequence_0 : decode cxM_sequence 0 = .ok (.aload_n 0, 1) := by decide +kernel
theorem dxM_sequence_1 : decode cxM_sequence 1 = .ok (.aload_n 1, 1) := by decide +kernel
theorem dxM_sequence_2 : decode cxM_sequence 2 = .ok (.getfield 126, 3) := by decide +kernel
theorem dxM_sequence_5 : decode cxM_sequence 5 = .ok (.iload_n 2, 1) := by decide +kernel
theorem dxM_sequence_6 : decode cxM_sequence 6 = .ok (.aload_n 3, 1) := by decide +kernel
theorem dxM_sequence_7 : decode cxM_sequence 7 = .ok (.invokevirtual 71, 3) := by decide +kernel
theorem dxM_sequence_10 : decode cxM_sequence 10 = .ok (.astore 4, 2) := by decide +kernel
theorem dxM_sequence_12 : decode cxM_sequence 12 = .ok (.aload 4, 2) := by decide +kernel
theorem dxM_sequence_14 : decode cxM_sequence 14 = .ok (.getstatic 166, 3) := by decide +kernel
theorem dxM_sequence_17 : decode cxM_sequence 17 = .ok (.if_acmp .ne 16, 3) := by decide +kernel
theorem dxM_sequence_20 : decode cxM_sequence 20 = .ok (.aload_n 0, 1) := by decide +kernel
theorem dxM_sequence_21 : decode cxM_sequence 21 = .ok (.aload_n 1, 1) := by decide +kernel
theorem dxM_sequence_22 : decode cxM_sequence 22 = .ok (.getfield 139, 3) := by decide +kernel
theorem dxM_sequence_25 : decode cxM_sequence 25 = .ok (.iload_n 2, 1) := by decide +kernel
theorem dxM_sequence_26 : decode cxM_sequence 26 = .ok (.aload_n 3, 1) := by decide +kernel
theorem dxM_sequence_27 : decode cxM_sequence 27 = .ok (.invokevirtual 71, 3) := by decide +kernel
theorem dxM_sequence_30 : decode cxM_sequence 30 = .ok (.goto 5, 3) := by decide +kernel
theorem dxM_sequence_33 : decode cxM_sequence 33 = .ok (.aload 4, 2) := by decide +kernel
theorem dxM_sequence_35 : decode cxM_sequence 35 = .ok (.areturn, 1) := by decide +kernel
theorem dxM_choose_0 : decode cxM_choose 0 = .ok (.aload_n 0, 1) := by decide +kernel
theorem dxM_choose_1 : decode cxM_choose 1 = .ok (.getfield 11, 3) := by decide +kernel
theorem dxM_choose_4 : decode cxM_choose 4 = .ok (.aload_n 1, 1) := by decide +kernel
theorem dxM_choose_5 : decode cxM_choose 5 = .ok (.getfield 126, 3) := by decide +kernel
theorem dxM_choose_8 : decode cxM_choose 8 = .ok (.iaload, 1) := by decide +kernel
theorem dxM_choose_9 : decode cxM_choose 9 = .ok (.ifCond .eq 10, 3) := by decide +kernel
theorem dxM_choose_12 : decode cxM_choose 12 = .ok (.aload_n 1, 1) := by decide +kernel
theorem dxM_choose_13 : decode cxM_choose 13 = .ok (.getfield 139, 3) := by decide +kernel
theorem dxM_choose_16 : decode cxM_choose 16 = .ok (.goto 7, 3) := by decide +kernel
theorem dxM_choose_19 : decode cxM_choose 19 = .ok (.aload_n 1, 1) := by decide +kernel
theorem dxM_choose_20 : decode cxM_choose 20 = .ok (.getfield 169, 3) := by decide +kernel
theorem dxM_choose_23 : decode cxM_choose 23 = .ok (.istore 4, 2) := by decide +kernel
theorem dxM_choose_25 : decode cxM_choose 25 = .ok (.iload 4, 2) := by decide +kernel
theorem dxM_choose_27 : decode cxM_choose 27 = .ok (.iconst (-1), 1) := by decide +kernel
theorem dxM_choose_28 : decode cxM_choose 28 = .ok (.if_icmp .ne 9, 3) := by decide +kernel
theorem dxM_choose_31 : decode cxM_choose 31 = .ok (.getstatic 166, 3) := by decide +kernel
theorem dxM_choose_34 : decode cxM_choose 34 = .ok (.goto 11, 3) := by decide +kernel
theorem dxM_choose_37 : decode cxM_choose 37 = .ok (.aload_n 0, 1) := by decide +kernel
theorem dxM_choose_38 : decode cxM_choose 38 = .ok (.iload 4, 2) := by decide +kernel
theorem dxM_choose_40 : decode cxM_choose 40 = .ok (.iload_n 2, 1) := by decide +kernel
theorem dxM_choose_41 : decode cxM_choose 41 = .ok (.aload_n 3, 1) := by decide +kernel
theorem dxM_choose_42 : decode cxM_choose 42 = .ok (.invokevirtual 71, 3) := by decide +kernel
theorem dxM_choose_45 : decode cxM_choose 45 = .ok (.areturn, 1) := by decide +kernel
theorem dxM_loop_0 : decode cxM_loop 0 = .ok (.getstatic 166, 3) := by decide +kernel
theorem dxM_loop_3 : decode cxM_loop 3 = .ok (.astore 4, 2) := by decide +kernel
theorem dxM_loop_5 : decode cxM_loop 5 = .ok (.iconst 0, 1) := by decide +kernel
theorem dxM_loop_6 : decode cxM_loop 6 = .ok (.istore 5, 2) := by decide +kernel
theorem dxM_loop_8 : decode cxM_loop 8 = .ok (.iload 5, 2) := by decide +kernel
theorem dxM_loop_10 : decode cxM_loop 10 = .ok (.aload_n 1, 1) := by decide +kernel
theorem dxM_loop_11 : decode cxM_loop 11 = .ok (.getfield 126, 3) := by decide +kernel
theorem dxM_loop_14 : decode cxM_loop 14 = .ok (.if_icmp .ge 29, 3) := by decide +kernel
theorem dxM_loop_17 : decode cxM_loop 17 = .ok (.aload 4, 2) := by decide +kernel
theorem dxM_loop_19 : decode cxM_loop 19 = .ok (.getstatic 166, 3) := by decide +kernel
theorem dxM_loop_22 : decode cxM_loop 22 = .ok (.if_acmp .ne 21, 3) := by decide +kernel
theorem dxM_loop_25 : decode cxM_loop 25 = .ok (.aload_n 0, 1) := by decide +kernel
theorem dxM_loop_26 : decode cxM_loop 26 = .ok (.aload_n 1, 1) := by decide +kernel
theorem dxM_loop_27 : decode cxM_loop 27 = .ok (.getfield 139, 3) := by decide +kernel
theorem dxM_loop_30 : decode cxM_loop 30 = .ok (.iload_n 2, 1) := by decide +kernel
theorem dxM_loop_31 : decode cxM_loop 31 = .ok (.aload_n 3, 1) := by decide +kernel
theorem dxM_loop_32 : decode cxM_loop 32 = .ok (.invokevirtual 71, 3) := by decide +kernel
theorem dxM_loop_35 : decode cxM_loop 35 = .ok (.astore 4, 2) := by decide +kernel
theorem dxM_loop_37 : decode cxM_loop 37 = .ok (.iinc 5 1, 3) := by decide +kernel
theorem dxM_loop_40 : decode cxM_loop 40 = .ok (.goto (-32), 3) := by decide +kernel
theorem dxM_loop_43 : decode cxM_loop 43 = .ok (.aload 4, 2) := by decide +kernel
theorem dxM_loop_45 : decode cxM_loop 45 = .ok (.getstatic 123, 3) := by decide +kernel
theorem dxM_loop_48 : decode cxM_loop 48 = .ok (.if_acmp .ne 9, 3) := by decide +kernel
theorem dxM_loop_51 : decode cxM_loop 51 = .ok (.getstatic 166, 3) := by decide +kernel
theorem dxM_loop_54 : decode cxM_loop 54 = .ok (.goto 5, 3) := by decide +kernel
theorem dxM_loop_57 : decode cxM_loop 57 = .ok (.aload 4, 2) := by decide +kernel
theorem dxM_loop_59 : decode cxM_loop 59 = .ok (.areturn, 1) := by decide +kernel
theorem dxM_call_0 : decode cxM_call 0 = .ok (.aload_n 0, 1) := by decide +kernel
theorem dxM_call_1 : decode cxM_call 1 = .ok (.getfield 51, 3) := by decide +kernel
theorem dxM_call_4 : decode cxM_call 4 = .ok (.aload_n 1, 1) := by decide +kernel
theorem dxM_call_5 : decode cxM_call 5 = .ok (.getfield 126, 3) := by decide +kernel
theorem dxM_call_8 : decode cxM_call 8 = .ok (.invokevirtual 172, 3) := by decide +kernel
theorem dxM_call_11 : decode cxM_call 11 = .ok (.ifCond .ne 7, 3) := by decide +kernel
theorem dxM_call_14 : decode cxM_call 14 = .ok (.getstatic 166, 3) := by decide +kernel
theorem dxM_call_17 : decode cxM_call 17 = .ok (.areturn, 1) := by decide +kernel
theorem dxM_call_18 : decode cxM_call 18 = .ok (.iload_n 2, 1) := by decide +kernel
theorem dxM_call_19 : decode cxM_call 19 = .ok (.aload_n 0, 1) := by decide +kernel
theorem dxM_call_20 : decode cxM_call 20 = .ok (.getfield 59, 3) := by decide +kernel
theorem dxM_call_23 : decode cxM_call 23 = .ok (.if_icmp .lt 14, 3) := by decide +kernel
theorem dxM_call_26 : decode cxM_call 26 = .ok (.aload_n 0, 1) := by decide +kernel
theorem dxM_call_27 : decode cxM_call 27 = .ok (.iconst 5, 1) := by decide +kernel
theorem dxM_call_28 : decode cxM_call 28 = .ok (.aload_n 0, 1) := by decide +kernel
theorem dxM_call_29 : decode cxM_call 29 = .ok (.getfield 59, 3) := by decide +kernel
theorem dxM_call_32 : decode cxM_call 32 = .ok (.aconst_null, 1) := by decide +kernel
theorem dxM_call_33 : decode cxM_call 33 = .ok (.invokevirtual 142, 3) := by decide +kernel
theorem dxM_call_36 : decode cxM_call 36 = .ok (.areturn, 1) := by decide +kernel
theorem dxM_call_37 : decode cxM_call 37 = .ok (.aload_n 0, 1) := by decide +kernel
theorem dxM_call_38 : decode cxM_call 38 = .ok (.aload_n 0, 1) := by decide +kernel
theorem dxM_call_39 : decode cxM_call 39 = .ok (.getfield 51, 3) := by decide +kernel
theorem dxM_call_42 : decode cxM_call 42 = .ok (.aload_n 1, 1) := by decide +kernel
theorem dxM_call_43 : decode cxM_call 43 = .ok (.getfield 126, 3) := by decide +kernel
theorem dxM_call_46 : decode cxM_call 46 = .ok (.invokevirtual 67, 3) := by decide +kernel
theorem dxM_call_49 : decode cxM_call 49 = .ok (.iload_n 2, 1) := by decide +kernel
theorem dxM_call_50 : decode cxM_call 50 = .ok (.iconst 1, 1) := by decide +kernel
theorem dxM_call_51 : decode cxM_call 51 = .ok (.iadd, 1) := by decide +kernel
theorem dxM_call_52 : decode cxM_call 52 = .ok (.aconst_null, 1) := by decide +kernel
theorem dxM_call_53 : decode cxM_call 53 = .ok (.invokevirtual 71, 3) := by decide +kernel
theorem dxM_call_56 : decode cxM_call 56 = .ok (.astore_n 3, 1) := by decide +kernel
theorem dxM_call_57 : decode cxM_call 57 = .ok (.aload_n 3, 1) := by decide +kernel
theorem dxM_call_58 : decode cxM_call 58 = .ok (.getstatic 129, 3) := by decide +kernel
theorem dxM_call_61 : decode cxM_call 61 = .ok (.if_acmp .ne 13, 3) := by decide +kernel
theorem dxM_call_64 : decode cxM_call 64 = .ok (.aload_n 0, 1) := by decide +kernel
theorem dxM_call_65 : decode cxM_call 65 = .ok (.getfield 11, 3) := by decide +kernel
theorem dxM_call_68 : decode cxM_call 68 = .ok (.iconst 0, 1) := by decide +kernel
theorem dxM_call_69 : decode cxM_call 69 = .ok (.aload_n 0, 1) := by decide +kernel
theorem dxM_call_70 : decode cxM_call 70 = .ok (.getfield 48, 3) := by decide +kernel
theorem dxM_call_73 : decode cxM_call 73 = .ok (.iastore, 1) := by decide +kernel
theorem dxM_call_74 : decode cxM_call 74 = .ok (.aload_n 3, 1) := by decide +kernel
theorem dxM_call_75 : decode cxM_call 75 = .ok (.getstatic 178, 3) := by decide +kernel
theorem dxM_call_78 : decode cxM_call 78 = .ok (.if_acmp .eq 10, 3) := by decide +kernel
theorem dxM_call_81 : decode cxM_call 81 = .ok (.aload_n 3, 1) := by decide +kernel
theorem dxM_call_82 : decode cxM_call 82 = .ok (.getfield 181, 3) := by decide +kernel
theorem dxM_call_85 : decode cxM_call 85 = .ok (.ifCond .eq 7, 3) := by decide +kernel
theorem dxM_call_88 : decode cxM_call 88 = .ok (.aload_n 3, 1) := by decide +kernel
theorem dxM_call_89 : decode cxM_call 89 = .ok (.goto 6, 3) := by decide +kernel
theorem dxM_call_92 : decode cxM_call 92 = .ok (.getstatic 166, 3) := by decide +kernel
theorem dxM_call_95 : decode cxM_call 95 = .ok (.areturn, 1) := by decide +kernel
theorem dxM_tryAndCatch_0 : decode cxM_tryAndCatch 0 = .ok (.aload_n 0, 1) := by decide +kernel
theorem dxM_tryAndCatch_1 : decode cxM_tryAndCatch 1 = .ok (.aload_n 1, 1) := by decide +kernel
theorem dxM_tryAndCatch_2 : decode cxM_tryAndCatch 2 = .ok (.getfield 126, 3) := by decide +kernel
theorem dxM_tryAndCatch_5 : decode cxM_tryAndCatch 5 = .ok (.iload_n 2, 1) := by decide +kernel
theorem dxM_tryAndCatch_6 : decode cxM_tryAndCatch 6 = .ok (.aload_n 3, 1) := by decide +kernel
theorem dxM_tryAndCatch_7 : decode cxM_tryAndCatch 7 = .ok (.invokevirtual 71, 3) := by decide +kernel
theorem dxM_tryAndCatch_10 : decode cxM_tryAndCatch 10 = .ok (.astore 4, 2) := by decide +kernel
theorem dxM_tryAndCatch_12 : decode cxM_tryAndCatch 12 = .ok (.aload 4, 2) := by decide +kernel
theorem dxM_tryAndCatch_14 : decode cxM_tryAndCatch 14 = .ok (.getstatic 178, 3) := by decide +kernel
theorem dxM_tryAndCatch_17 : decode cxM_tryAndCatch 17 = .ok (.if_acmp .ne 24, 3) := by decide +kernel
theorem dxM_tryAndCatch_20 : decode cxM_tryAndCatch 20 = .ok (.aload_n 0, 1) := by decide +kernel
theorem dxM_tryAndCatch_21 : decode cxM_tryAndCatch 21 = .ok (.getfield 55, 3) := by decide +kernel
theorem dxM_tryAndCatch_24 : decode cxM_tryAndCatch 24 = .ok (.aload_n 0, 1) := by decide +kernel
theorem dxM_tryAndCatch_25 : decode cxM_tryAndCatch 25 = .ok (.getfield 63, 3) := by decide +kernel
theorem dxM_tryAndCatch_28 : decode cxM_tryAndCatch 28 = .ok (.getfield 185, 3) := by decide +kernel
theorem dxM_tryAndCatch_31 : decode cxM_tryAndCatch 31 = .ok (.aload_n 1, 1) := by decide +kernel
theorem dxM_tryAndCatch_32 : decode cxM_tryAndCatch 32 = .ok (.getfield 139, 3) := by decide +kernel
theorem dxM_tryAndCatch_35 : decode cxM_tryAndCatch 35 = .ok (.invokevirtual 188, 3) := by decide +kernel
theorem dxM_tryAndCatch_38 : decode cxM_tryAndCatch 38 = .ok (.ifCond .ne 6, 3) := by decide +kernel
theorem dxM_tryAndCatch_41 : decode cxM_tryAndCatch 41 = .ok (.aload 4, 2) := by decide +kernel
theorem dxM_tryAndCatch_43 : decode cxM_tryAndCatch 43 = .ok (.areturn, 1) := by decide +kernel
theorem dxM_tryAndCatch_44 : decode cxM_tryAndCatch 44 = .ok (.aload_n 0, 1) := by decide +kernel
theorem dxM_tryAndCatch_45 : decode cxM_tryAndCatch 45 = .ok (.invokevirtual 75, 3) := by decide +kernel
theorem dxM_tryAndCatch_48 : decode cxM_tryAndCatch 48 = .ok (.ifCond .eq 13, 3) := by decide +kernel
theorem dxM_tryAndCatch_51 : decode cxM_tryAndCatch 51 = .ok (.aload_n 0, 1) := by decide +kernel
theorem dxM_tryAndCatch_52 : decode cxM_tryAndCatch 52 = .ok (.dup, 1) := by decide +kernel
theorem dxM_tryAndCatch_53 : decode cxM_tryAndCatch 53 = .ok (.getfield 39, 3) := by decide +kernel
theorem dxM_tryAndCatch_56 : decode cxM_tryAndCatch 56 = .ok (.iconst 1, 1) := by decide +kernel
theorem dxM_tryAndCatch_57 : decode cxM_tryAndCatch 57 = .ok (.iadd, 1) := by decide +kernel
theorem dxM_tryAndCatch_58 : decode cxM_tryAndCatch 58 = .ok (.putfield 39, 3) := by decide +kernel
theorem dxM_tryAndCatch_61 : decode cxM_tryAndCatch 61 = .ok (.aload_n 0, 1) := by decide +kernel
theorem dxM_tryAndCatch_62 : decode cxM_tryAndCatch 62 = .ok (.aload_n 1, 1) := by decide +kernel
theorem dxM_tryAndCatch_63 : decode cxM_tryAndCatch 63 = .ok (.getfield 169, 3) := by decide +kernel
theorem dxM_tryAndCatch_66 : decode cxM_tryAndCatch 66 = .ok (.iload_n 2, 1) := by decide +kernel
theorem dxM_tryAndCatch_67 : decode cxM_tryAndCatch 67 = .ok (.aload_n 0, 1) := by decide +kernel
theorem dxM_tryAndCatch_68 : decode cxM_tryAndCatch 68 = .ok (.getfield 63, 3) := by decide +kernel
theorem dxM_tryAndCatch_71 : decode cxM_tryAndCatch 71 = .ok (.invokevirtual 71, 3) := by decide +kernel
theorem dxM_tryAndCatch_74 : decode cxM_tryAndCatch 74 = .ok (.areturn, 1) := by decide +kernel
theorem dxM_doBoth_0 : decode cxM_doBoth 0 = .ok (.aload_n 0, 1) := by decide +kernel
theorem dxM_doBoth_1 : decode cxM_doBoth 1 = .ok (.aload_n 1, 1) := by decide +kernel
theorem dxM_doBoth_2 : decode cxM_doBoth 2 = .ok (.getfield 126, 3) := by decide +kernel
theorem dxM_doBoth_5 : decode cxM_doBoth 5 = .ok (.iload_n 2, 1) := by decide +kernel
theorem dxM_doBoth_6 : decode cxM_doBoth 6 = .ok (.aload_n 3, 1) := by decide +kernel
theorem dxM_doBoth_7 : decode cxM_doBoth 7 = .ok (.invokevirtual 71, 3) := by decide +kernel
theorem dxM_doBoth_10 : decode cxM_doBoth 10 = .ok (.astore 4, 2) := by decide +kernel
theorem dxM_doBoth_12 : decode cxM_doBoth 12 = .ok (.aload 4, 2) := by decide +kernel
theorem dxM_doBoth_14 : decode cxM_doBoth 14 = .ok (.getfield 181, 3) := by decide +kernel
theorem dxM_doBoth_17 : decode cxM_doBoth 17 = .ok (.ifCond .eq 6, 3) := by decide +kernel
theorem dxM_doBoth_20 : decode cxM_doBoth 20 = .ok (.aload 4, 2) := by decide +kernel
theorem dxM_doBoth_22 : decode cxM_doBoth 22 = .ok (.areturn, 1) := by decide +kernel
theorem dxM_doBoth_23 : decode cxM_doBoth 23 = .ok (.aload_n 0, 1) := by decide +kernel
theorem dxM_doBoth_24 : decode cxM_doBoth 24 = .ok (.getfield 48, 3) := by decide +kernel
theorem dxM_doBoth_27 : decode cxM_doBoth 27 = .ok (.istore 5, 2) := by decide +kernel
theorem dxM_doBoth_29 : decode cxM_doBoth 29 = .ok (.aload_n 0, 1) := by decide +kernel
theorem dxM_doBoth_30 : decode cxM_doBoth 30 = .ok (.getfield 63, 3) := by decide +kernel
theorem dxM_doBoth_33 : decode cxM_doBoth 33 = .ok (.astore 6, 2) := by decide +kernel
theorem dxM_doBoth_35 : decode cxM_doBoth 35 = .ok (.aload_n 0, 1) := by decide +kernel
theorem dxM_doBoth_36 : decode cxM_doBoth 36 = .ok (.invokevirtual 75, 3) := by decide +kernel
theorem dxM_doBoth_39 : decode cxM_doBoth 39 = .ok (.ifCond .eq 13, 3) := by decide +kernel
theorem dxM_doBoth_42 : decode cxM_doBoth 42 = .ok (.aload_n 0, 1) := by decide +kernel
theorem dxM_doBoth_43 : decode cxM_doBoth 43 = .ok (.dup, 1) := by decide +kernel
theorem dxM_doBoth_44 : decode cxM_doBoth 44 = .ok (.getfield 42, 3) := by decide +kernel
theorem dxM_doBoth_47 : decode cxM_doBoth 47 = .ok (.iconst 1, 1) := by decide +kernel
theorem dxM_doBoth_48 : decode cxM_doBoth 48 = .ok (.iadd, 1) := by decide +kernel
theorem dxM_doBoth_49 : decode cxM_doBoth 49 = .ok (.putfield 42, 3) := by decide +kernel
theorem dxM_doBoth_52 : decode cxM_doBoth 52 = .ok (.aload_n 0, 1) := by decide +kernel
theorem dxM_doBoth_53 : decode cxM_doBoth 53 = .ok (.aload_n 1, 1) := by decide +kernel
theorem dxM_doBoth_54 : decode cxM_doBoth 54 = .ok (.getfield 139, 3) := by decide +kernel
theorem dxM_doBoth_57 : decode cxM_doBoth 57 = .ok (.iload_n 2, 1) := by decide +kernel
theorem dxM_doBoth_58 : decode cxM_doBoth 58 = .ok (.aload_n 3, 1) := by decide +kernel
theorem dxM_doBoth_59 : decode cxM_doBoth 59 = .ok (.invokevirtual 71, 3) := by decide +kernel
theorem dxM_doBoth_62 : decode cxM_doBoth 62 = .ok (.astore 7, 2) := by decide +kernel
theorem dxM_doBoth_64 : decode cxM_doBoth 64 = .ok (.aload_n 1, 1) := by decide +kernel
theorem dxM_doBoth_65 : decode cxM_doBoth 65 = .ok (.getfield 95, 3) := by decide +kernel
theorem dxM_doBoth_68 : decode cxM_doBoth 68 = .ok (.bipush 15, 2) := by decide +kernel
theorem dxM_doBoth_70 : decode cxM_doBoth 70 = .ok (.if_icmp .ne 23, 3) := by decide +kernel
theorem dxM_doBoth_73 : decode cxM_doBoth 73 = .ok (.aload 4, 2) := by decide +kernel
theorem dxM_doBoth_75 : decode cxM_doBoth 75 = .ok (.getstatic 178, 3) := by decide +kernel
theorem dxM_doBoth_78 : decode cxM_doBoth 78 = .ok (.if_acmp .ne 15, 3) := by decide +kernel
theorem dxM_doBoth_81 : decode cxM_doBoth 81 = .ok (.aload 7, 2) := by decide +kernel
theorem dxM_doBoth_83 : decode cxM_doBoth 83 = .ok (.getfield 181, 3) := by decide +kernel
theorem dxM_doBoth_86 : decode cxM_doBoth 86 = .ok (.ifCond .ne 7, 3) := by decide +kernel
theorem dxM_doBoth_89 : decode cxM_doBoth 89 = .ok (.iconst 1, 1) := by decide +kernel
theorem dxM_doBoth_90 : decode cxM_doBoth 90 = .ok (.goto 4, 3) := by decide +kernel
theorem dxM_doBoth_93 : decode cxM_doBoth 93 = .ok (.iconst 0, 1) := by decide +kernel
theorem dxM_doBoth_94 : decode cxM_doBoth 94 = .ok (.istore 8, 2) := by decide +kernel
theorem dxM_doBoth_96 : decode cxM_doBoth 96 = .ok (.aload 7, 2) := by decide +kernel
theorem dxM_doBoth_98 : decode cxM_doBoth 98 = .ok (.getstatic 166, 3) := by decide +kernel
theorem dxM_doBoth_101 : decode cxM_doBoth 101 = .ok (.if_acmp .eq 11, 3) := by decide +kernel
theorem dxM_doBoth_104 : decode cxM_doBoth 104 = .ok (.iload 8, 2) := by decide +kernel
theorem dxM_doBoth_106 : decode cxM_doBoth 106 = .ok (.ifCond .ne 6, 3) := by decide +kernel
theorem dxM_doBoth_109 : decode cxM_doBoth 109 = .ok (.aload 7, 2) := by decide +kernel
theorem dxM_doBoth_111 : decode cxM_doBoth 111 = .ok (.areturn, 1) := by decide +kernel
theorem dxM_doBoth_112 : decode cxM_doBoth 112 = .ok (.iload 8, 2) := by decide +kernel
theorem dxM_doBoth_114 : decode cxM_doBoth 114 = .ok (.ifCond .eq 22, 3) := by decide +kernel
theorem dxM_doBoth_117 : decode cxM_doBoth 117 = .ok (.aload 7, 2) := by decide +kernel
theorem dxM_doBoth_119 : decode cxM_doBoth 119 = .ok (.getstatic 178, 3) := by decide +kernel
theorem dxM_doBoth_122 : decode cxM_doBoth 122 = .ok (.if_acmp .ne 14, 3) := by decide +kernel
theorem dxM_doBoth_125 : decode cxM_doBoth 125 = .ok (.aload 6, 2) := by decide +kernel
theorem dxM_doBoth_127 : decode cxM_doBoth 127 = .ok (.dup, 1) := by decide +kernel
theorem dxM_doBoth_128 : decode cxM_doBoth 128 = .ok (.getfield 194, 3) := by decide +kernel
theorem dxM_doBoth_131 : decode cxM_doBoth 131 = .ok (.iconst 1, 1) := by decide +kernel
theorem dxM_doBoth_132 : decode cxM_doBoth 132 = .ok (.iadd, 1) := by decide +kernel
theorem dxM_doBoth_133 : decode cxM_doBoth 133 = .ok (.putfield 194, 3) := by decide +kernel
theorem dxM_doBoth_136 : decode cxM_doBoth 136 = .ok (.aload_n 0, 1) := by decide +kernel
theorem dxM_doBoth_137 : decode cxM_doBoth 137 = .ok (.iload 5, 2) := by decide +kernel
theorem dxM_doBoth_139 : decode cxM_doBoth 139 = .ok (.putfield 48, 3) := by decide +kernel
theorem dxM_doBoth_142 : decode cxM_doBoth 142 = .ok (.aload_n 0, 1) := by decide +kernel
theorem dxM_doBoth_143 : decode cxM_doBoth 143 = .ok (.aload 6, 2) := by decide +kernel
theorem dxM_doBoth_145 : decode cxM_doBoth 145 = .ok (.putfield 63, 3) := by decide +kernel
theorem dxM_doBoth_148 : decode cxM_doBoth 148 = .ok (.aload 4, 2) := by decide +kernel
theorem dxM_doBoth_150 : decode cxM_doBoth 150 = .ok (.areturn, 1) := by decide +kernel
theorem dxM_lock_0 : decode cxM_lock 0 = .ok (.aload_n 0, 1) := by decide +kernel
theorem dxM_lock_1 : decode cxM_lock 1 = .ok (.getfield 17, 3) := by decide +kernel
theorem dxM_lock_4 : decode cxM_lock 4 = .ok (.aload_n 1, 1) := by decide +kernel
theorem dxM_lock_5 : decode cxM_lock 5 = .ok (.getfield 126, 3) := by decide +kernel
theorem dxM_lock_8 : decode cxM_lock 8 = .ok (.dup2, 1) := by decide +kernel
theorem dxM_lock_9 : decode cxM_lock 9 = .ok (.iaload, 1) := by decide +kernel
theorem dxM_lock_10 : decode cxM_lock 10 = .ok (.iconst 1, 1) := by decide +kernel
theorem dxM_lock_11 : decode cxM_lock 11 = .ok (.iadd, 1) := by decide +kernel
theorem dxM_lock_12 : decode cxM_lock 12 = .ok (.iastore, 1) := by decide +kernel
theorem dxM_lock_13 : decode cxM_lock 13 = .ok (.aload_n 0, 1) := by decide +kernel
theorem dxM_lock_14 : decode cxM_lock 14 = .ok (.aload_n 1, 1) := by decide +kernel
theorem dxM_lock_15 : decode cxM_lock 15 = .ok (.getfield 139, 3) := by decide +kernel
theorem dxM_lock_18 : decode cxM_lock 18 = .ok (.iload_n 2, 1) := by decide +kernel
theorem dxM_lock_19 : decode cxM_lock 19 = .ok (.aload_n 3, 1) := by decide +kernel
theorem dxM_lock_20 : decode cxM_lock 20 = .ok (.invokevirtual 71, 3) := by decide +kernel
theorem dxM_lock_23 : decode cxM_lock 23 = .ok (.astore 4, 2) := by decide +kernel
theorem dxM_lock_25 : decode cxM_lock 25 = .ok (.aload 4, 2) := by decide +kernel
theorem dxM_lock_27 : decode cxM_lock 27 = .ok (.getfield 181, 3) := by decide +kernel
theorem dxM_lock_30 : decode cxM_lock 30 = .ok (.ifCond .ne 16, 3) := by decide +kernel
theorem dxM_lock_33 : decode cxM_lock 33 = .ok (.aload_n 0, 1) := by decide +kernel
theorem dxM_lock_34 : decode cxM_lock 34 = .ok (.getfield 17, 3) := by decide +kernel
theorem dxM_lock_37 : decode cxM_lock 37 = .ok (.aload_n 1, 1) := by decide +kernel
theorem dxM_lock_38 : decode cxM_lock 38 = .ok (.getfield 126, 3) := by decide +kernel
theorem dxM_lock_41 : decode cxM_lock 41 = .ok (.dup2, 1) := by decide +kernel
theorem dxM_lock_42 : decode cxM_lock 42 = .ok (.iaload, 1) := by decide +kernel
theorem dxM_lock_43 : decode cxM_lock 43 = .ok (.iconst 1, 1) := by decide +kernel
theorem dxM_lock_44 : decode cxM_lock 44 = .ok (.isub, 1) := by decide +kernel
theorem dxM_lock_45 : decode cxM_lock 45 = .ok (.iastore, 1) := by decide +kernel
theorem dxM_lock_46 : decode cxM_lock 46 = .ok (.aload 4, 2) := by decide +kernel
theorem dxM_lock_48 : decode cxM_lock 48 = .ok (.areturn, 1) := by decide +kernel
theorem dxM_carry_0 : decode cxM_carry 0 = .ok (.aload_n 0, 1) := by decide +kernel
theorem dxM_carry_1 : decode cxM_carry 1 = .ok (.iload_n 1, 1) := by decide +kernel
theorem dxM_carry_2 : decode cxM_carry 2 = .ok (.putfield 48, 3) := by decide +kernel
theorem dxM_carry_5 : decode cxM_carry 5 = .ok (.aload_n 2, 1) := by decide +kernel
theorem dxM_carry_6 : decode cxM_carry 6 = .ok (.areturn, 1) := by decide +kernel
theorem dxM_raise_0 : decode cxM_raise 0 = .ok (.aload_n 0, 1) := by decide +kernel
theorem dxM_raise_1 : decode cxM_raise 1 = .ok (.aload_n 0, 1) := by decide +kernel
theorem dxM_raise_2 : decode cxM_raise 2 = .ok (.getfield 25, 3) := by decide +kernel
theorem dxM_raise_5 : decode cxM_raise 5 = .ok (.aload_n 0, 1) := by decide +kernel
theorem dxM_raise_6 : decode cxM_raise 6 = .ok (.getfield 33, 3) := by decide +kernel
theorem dxM_raise_9 : decode cxM_raise 9 = .ok (.aaload, 1) := by decide +kernel
theorem dxM_raise_10 : decode cxM_raise 10 = .ok (.putfield 63, 3) := by decide +kernel
theorem dxM_raise_13 : decode cxM_raise 13 = .ok (.aload_n 0, 1) := by decide +kernel
theorem dxM_raise_14 : decode cxM_raise 14 = .ok (.getfield 63, 3) := by decide +kernel
theorem dxM_raise_17 : decode cxM_raise 17 = .ok (.iload_n 1, 1) := by decide +kernel
theorem dxM_raise_18 : decode cxM_raise 18 = .ok (.iload_n 2, 1) := by decide +kernel
theorem dxM_raise_19 : decode cxM_raise 19 = .ok (.aload_n 3, 1) := by decide +kernel
theorem dxM_raise_20 : decode cxM_raise 20 = .ok (.invokevirtual 197, 3) := by decide +kernel
theorem dxM_raise_23 : decode cxM_raise 23 = .ok (.aload_n 0, 1) := by decide +kernel
theorem dxM_raise_24 : decode cxM_raise 24 = .ok (.dup, 1) := by decide +kernel
theorem dxM_raise_25 : decode cxM_raise 25 = .ok (.getfield 33, 3) := by decide +kernel
theorem dxM_raise_28 : decode cxM_raise 28 = .ok (.iconst 1, 1) := by decide +kernel
theorem dxM_raise_29 : decode cxM_raise 29 = .ok (.iadd, 1) := by decide +kernel
theorem dxM_raise_30 : decode cxM_raise 30 = .ok (.putfield 33, 3) := by decide +kernel
theorem dxM_raise_33 : decode cxM_raise 33 = .ok (.getstatic 178, 3) := by decide +kernel
theorem dxM_raise_36 : decode cxM_raise 36 = .ok (.areturn, 1) := by decide +kernel
theorem dxM_rethrow_0 : decode cxM_rethrow 0 = .ok (.aload_n 1, 1) := by decide +kernel
theorem dxM_rethrow_1 : decode cxM_rethrow 1 = .ok (.ifnonnull 11, 3) := by decide +kernel
theorem dxM_rethrow_4 : decode cxM_rethrow 4 = .ok (.aload_n 0, 1) := by decide +kernel
theorem dxM_rethrow_5 : decode cxM_rethrow 5 = .ok (.iconst 1, 1) := by decide +kernel
theorem dxM_rethrow_6 : decode cxM_rethrow 6 = .ok (.iconst 0, 1) := by decide +kernel
theorem dxM_rethrow_7 : decode cxM_rethrow 7 = .ok (.aconst_null, 1) := by decide +kernel
theorem dxM_rethrow_8 : decode cxM_rethrow 8 = .ok (.invokevirtual 142, 3) := by decide +kernel
theorem dxM_rethrow_11 : decode cxM_rethrow 11 = .ok (.areturn, 1) := by decide +kernel
theorem dxM_rethrow_12 : decode cxM_rethrow 12 = .ok (.aload_n 0, 1) := by decide +kernel
theorem dxM_rethrow_13 : decode cxM_rethrow 13 = .ok (.aload_n 1, 1) := by decide +kernel
theorem dxM_rethrow_14 : decode cxM_rethrow 14 = .ok (.putfield 63, 3) := by decide +kernel
theorem dxM_rethrow_17 : decode cxM_rethrow 17 = .ok (.getstatic 178, 3) := by decide +kernel
theorem dxM_rethrow_20 : decode cxM_rethrow 20 = .ok (.areturn, 1) := by decide +kernel
theorem dxM_divide_0 : decode cxM_divide 0 = .ok (.aload_n 0, 1) := by decide +kernel
theorem dxM_divide_1 : decode cxM_divide 1 = .ok (.getfield 11, 3) := by decide +kernel
theorem dxM_divide_4 : decode cxM_divide 4 = .ok (.aload_n 1, 1) := by decide +kernel
theorem dxM_divide_5 : decode cxM_divide 5 = .ok (.getfield 139, 3) := by decide +kernel
theorem dxM_divide_8 : decode cxM_divide 8 = .ok (.iaload, 1) := by decide +kernel
theorem dxM_divide_9 : decode cxM_divide 9 = .ok (.istore_n 2, 1) := by decide +kernel
theorem dxM_divide_10 : decode cxM_divide 10 = .ok (.iload_n 2, 1) := by decide +kernel
theorem dxM_divide_11 : decode cxM_divide 11 = .ok (.ifCond .ne 11, 3) := by decide +kernel
theorem dxM_divide_14 : decode cxM_divide 14 = .ok (.aload_n 0, 1) := by decide +kernel
theorem dxM_divide_15 : decode cxM_divide 15 = .ok (.iconst 2, 1) := by decide +kernel
theorem dxM_divide_16 : decode cxM_divide 16 = .ok (.iconst 0, 1) := by decide +kernel
theorem dxM_divide_17 : decode cxM_divide 17 = .ok (.aconst_null, 1) := by decide +kernel
theorem dxM_divide_18 : decode cxM_divide 18 = .ok (.invokevirtual 142, 3) := by decide +kernel
theorem dxM_divide_21 : decode cxM_divide 21 = .ok (.areturn, 1) := by decide +kernel
theorem dxM_divide_22 : decode cxM_divide 22 = .ok (.aload_n 0, 1) := by decide +kernel
theorem dxM_divide_23 : decode cxM_divide 23 = .ok (.getfield 11, 3) := by decide +kernel
theorem dxM_divide_26 : decode cxM_divide 26 = .ok (.aload_n 1, 1) := by decide +kernel
theorem dxM_divide_27 : decode cxM_divide 27 = .ok (.getfield 126, 3) := by decide +kernel
theorem dxM_divide_30 : decode cxM_divide 30 = .ok (.dup2, 1) := by decide +kernel
theorem dxM_divide_31 : decode cxM_divide 31 = .ok (.iaload, 1) := by decide +kernel
theorem dxM_divide_32 : decode cxM_divide 32 = .ok (.iload_n 2, 1) := by decide +kernel
theorem dxM_divide_33 : decode cxM_divide 33 = .ok (.idiv, 1) := by decide +kernel
theorem dxM_divide_34 : decode cxM_divide 34 = .ok (.iastore, 1) := by decide +kernel
theorem dxM_divide_35 : decode cxM_divide 35 = .ok (.getstatic 166, 3) := by decide +kernel
theorem dxM_divide_38 : decode cxM_divide 38 = .ok (.areturn, 1) := by decide +kernel
theorem dxM_index_0 : decode cxM_index 0 = .ok (.aload_n 0, 1) := by decide +kernel
theorem dxM_index_1 : decode cxM_index 1 = .ok (.getfield 11, 3) := by decide +kernel
theorem dxM_index_4 : decode cxM_index 4 = .ok (.aload_n 1, 1) := by decide +kernel
theorem dxM_index_5 : decode cxM_index 5 = .ok (.getfield 126, 3) := by decide +kernel
theorem dxM_index_8 : decode cxM_index 8 = .ok (.iaload, 1) := by decide +kernel
theorem dxM_index_9 : decode cxM_index 9 = .ok (.istore_n 2, 1) := by decide +kernel
theorem dxM_index_10 : decode cxM_index 10 = .ok (.iload_n 2, 1) := by decide +kernel
theorem dxM_index_11 : decode cxM_index 11 = .ok (.ifCond .lt 15, 3) := by decide +kernel
theorem dxM_index_14 : decode cxM_index 14 = .ok (.iload_n 2, 1) := by decide +kernel
theorem dxM_index_15 : decode cxM_index 15 = .ok (.aload_n 1, 1) := by decide +kernel
theorem dxM_index_16 : decode cxM_index 16 = .ok (.getfield 139, 3) := by decide +kernel
theorem dxM_index_19 : decode cxM_index 19 = .ok (.if_icmp .ge 7, 3) := by decide +kernel
theorem dxM_index_22 : decode cxM_index 22 = .ok (.iconst 1, 1) := by decide +kernel
theorem dxM_index_23 : decode cxM_index 23 = .ok (.goto 4, 3) := by decide +kernel
theorem dxM_index_26 : decode cxM_index 26 = .ok (.iconst 0, 1) := by decide +kernel
theorem dxM_index_27 : decode cxM_index 27 = .ok (.istore_n 3, 1) := by decide +kernel
theorem dxM_index_28 : decode cxM_index 28 = .ok (.iload_n 3, 1) := by decide +kernel
theorem dxM_index_29 : decode cxM_index 29 = .ok (.ifCond .eq 9, 3) := by decide +kernel
theorem dxM_index_32 : decode cxM_index 32 = .ok (.getstatic 166, 3) := by decide +kernel
theorem dxM_index_35 : decode cxM_index 35 = .ok (.goto 10, 3) := by decide +kernel
theorem dxM_index_38 : decode cxM_index 38 = .ok (.aload_n 0, 1) := by decide +kernel
theorem dxM_index_39 : decode cxM_index 39 = .ok (.iconst 3, 1) := by decide +kernel
theorem dxM_index_40 : decode cxM_index 40 = .ok (.iload_n 2, 1) := by decide +kernel
theorem dxM_index_41 : decode cxM_index 41 = .ok (.aconst_null, 1) := by decide +kernel
theorem dxM_index_42 : decode cxM_index 42 = .ok (.invokevirtual 142, 3) := by decide +kernel
theorem dxM_index_45 : decode cxM_index 45 = .ok (.areturn, 1) := by decide +kernel
theorem dxM_cast_0 : decode cxM_cast 0 = .ok (.aload_n 2, 1) := by decide +kernel
theorem dxM_cast_1 : decode cxM_cast 1 = .ok (.ifnull 21, 3) := by decide +kernel
theorem dxM_cast_4 : decode cxM_cast 4 = .ok (.aload_n 0, 1) := by decide +kernel
theorem dxM_cast_5 : decode cxM_cast 5 = .ok (.getfield 55, 3) := by decide +kernel
theorem dxM_cast_8 : decode cxM_cast 8 = .ok (.aload_n 2, 1) := by decide +kernel
theorem dxM_cast_9 : decode cxM_cast 9 = .ok (.getfield 185, 3) := by decide +kernel
theorem dxM_cast_12 : decode cxM_cast 12 = .ok (.aload_n 1, 1) := by decide +kernel
theorem dxM_cast_13 : decode cxM_cast 13 = .ok (.getfield 126, 3) := by decide +kernel
theorem dxM_cast_16 : decode cxM_cast 16 = .ok (.invokevirtual 188, 3) := by decide +kernel
theorem dxM_cast_19 : decode cxM_cast 19 = .ok (.ifCond .eq 7, 3) := by decide +kernel
theorem dxM_cast_22 : decode cxM_cast 22 = .ok (.getstatic 166, 3) := by decide +kernel
theorem dxM_cast_25 : decode cxM_cast 25 = .ok (.areturn, 1) := by decide +kernel
theorem dxM_cast_26 : decode cxM_cast 26 = .ok (.aload_n 0, 1) := by decide +kernel
theorem dxM_cast_27 : decode cxM_cast 27 = .ok (.iconst 4, 1) := by decide +kernel
theorem dxM_cast_28 : decode cxM_cast 28 = .ok (.aload_n 2, 1) := by decide +kernel
theorem dxM_cast_29 : decode cxM_cast 29 = .ok (.getfield 185, 3) := by decide +kernel
theorem dxM_cast_32 : decode cxM_cast 32 = .ok (.aconst_null, 1) := by decide +kernel
theorem dxM_cast_33 : decode cxM_cast 33 = .ok (.invokevirtual 142, 3) := by decide +kernel
theorem dxM_cast_36 : decode cxM_cast 36 = .ok (.areturn, 1) := by decide +kernel
theorem dxM_wake_0 : decode cxM_wake 0 = .ok (.aload_n 0, 1) := by decide +kernel
theorem dxM_wake_1 : decode cxM_wake 1 = .ok (.getfield 17, 3) := by decide +kernel
theorem dxM_wake_4 : decode cxM_wake 4 = .ok (.aload_n 1, 1) := by decide +kernel
theorem dxM_wake_5 : decode cxM_wake 5 = .ok (.getfield 126, 3) := by decide +kernel
theorem dxM_wake_8 : decode cxM_wake 8 = .ok (.iaload, 1) := by decide +kernel
theorem dxM_wake_9 : decode cxM_wake 9 = .ok (.ifCond .ne 15, 3) := by decide +kernel
theorem dxM_wake_12 : decode cxM_wake 12 = .ok (.aload_n 0, 1) := by decide +kernel
theorem dxM_wake_13 : decode cxM_wake 13 = .ok (.bipush 6, 2) := by decide +kernel
theorem dxM_wake_15 : decode cxM_wake 15 = .ok (.aload_n 1, 1) := by decide +kernel
theorem dxM_wake_16 : decode cxM_wake 16 = .ok (.getfield 126, 3) := by decide +kernel
theorem dxM_wake_19 : decode cxM_wake 19 = .ok (.aconst_null, 1) := by decide +kernel
theorem dxM_wake_20 : decode cxM_wake 20 = .ok (.invokevirtual 142, 3) := by decide +kernel
theorem dxM_wake_23 : decode cxM_wake 23 = .ok (.areturn, 1) := by decide +kernel
theorem dxM_wake_24 : decode cxM_wake 24 = .ok (.aload_n 0, 1) := by decide +kernel
theorem dxM_wake_25 : decode cxM_wake 25 = .ok (.bipush 100, 2) := by decide +kernel
theorem dxM_wake_27 : decode cxM_wake 27 = .ok (.aload_n 1, 1) := by decide +kernel
theorem dxM_wake_28 : decode cxM_wake 28 = .ok (.getfield 126, 3) := by decide +kernel
theorem dxM_wake_31 : decode cxM_wake 31 = .ok (.iadd, 1) := by decide +kernel
theorem dxM_wake_32 : decode cxM_wake 32 = .ok (.invokevirtual 201, 3) := by decide +kernel
theorem dxM_wake_35 : decode cxM_wake 35 = .ok (.getstatic 166, 3) := by decide +kernel
theorem dxM_wake_38 : decode cxM_wake 38 = .ok (.areturn, 1) := by decide +kernel
theorem dxM_note_0 : decode cxM_note 0 = .ok (.aload_n 1, 1) := by decide +kernel
theorem dxM_note_1 : decode cxM_note 1 = .ok (.getfield 95, 3) := by decide +kernel
theorem dxM_note_4 : decode cxM_note 4 = .ok (.lookupswitch 132 #[(0, 52), (1, 63), (2, 79), (3, 95), (22, 114)], 52) := by decide +kernel
theorem dxM_note_56 : decode cxM_note 56 = .ok (.aload_n 0, 1) := by decide +kernel
theorem dxM_note_57 : decode cxM_note 57 = .ok (.aload_n 1, 1) := by decide +kernel
theorem dxM_note_58 : decode cxM_note 58 = .ok (.getfield 126, 3) := by decide +kernel
theorem dxM_note_61 : decode cxM_note 61 = .ok (.invokevirtual 201, 3) := by decide +kernel
theorem dxM_note_64 : decode cxM_note 64 = .ok (.goto 72, 3) := by decide +kernel
theorem dxM_note_67 : decode cxM_note 67 = .ok (.aload_n 0, 1) := by decide +kernel
theorem dxM_note_68 : decode cxM_note 68 = .ok (.aload_n 0, 1) := by decide +kernel
theorem dxM_note_69 : decode cxM_note 69 = .ok (.getfield 11, 3) := by decide +kernel
theorem dxM_note_72 : decode cxM_note 72 = .ok (.aload_n 1, 1) := by decide +kernel
theorem dxM_note_73 : decode cxM_note 73 = .ok (.getfield 126, 3) := by decide +kernel
theorem dxM_note_76 : decode cxM_note 76 = .ok (.iaload, 1) := by decide +kernel
theorem dxM_note_77 : decode cxM_note 77 = .ok (.invokevirtual 201, 3) := by decide +kernel
theorem dxM_note_80 : decode cxM_note 80 = .ok (.goto 56, 3) := by decide +kernel
theorem dxM_note_83 : decode cxM_note 83 = .ok (.aload_n 0, 1) := by decide +kernel
theorem dxM_note_84 : decode cxM_note 84 = .ok (.getfield 11, 3) := by decide +kernel
theorem dxM_note_87 : decode cxM_note 87 = .ok (.aload_n 1, 1) := by decide +kernel
theorem dxM_note_88 : decode cxM_note 88 = .ok (.getfield 126, 3) := by decide +kernel
theorem dxM_note_91 : decode cxM_note 91 = .ok (.aload_n 1, 1) := by decide +kernel
theorem dxM_note_92 : decode cxM_note 92 = .ok (.getfield 139, 3) := by decide +kernel
theorem dxM_note_95 : decode cxM_note 95 = .ok (.iastore, 1) := by decide +kernel
theorem dxM_note_96 : decode cxM_note 96 = .ok (.goto 40, 3) := by decide +kernel
theorem dxM_note_99 : decode cxM_note 99 = .ok (.aload_n 0, 1) := by decide +kernel
theorem dxM_note_100 : decode cxM_note 100 = .ok (.getfield 11, 3) := by decide +kernel
theorem dxM_note_103 : decode cxM_note 103 = .ok (.aload_n 1, 1) := by decide +kernel
theorem dxM_note_104 : decode cxM_note 104 = .ok (.getfield 126, 3) := by decide +kernel
theorem dxM_note_107 : decode cxM_note 107 = .ok (.dup2, 1) := by decide +kernel
theorem dxM_note_108 : decode cxM_note 108 = .ok (.iaload, 1) := by decide +kernel
theorem dxM_note_109 : decode cxM_note 109 = .ok (.aload_n 1, 1) := by decide +kernel
theorem dxM_note_110 : decode cxM_note 110 = .ok (.getfield 139, 3) := by decide +kernel
theorem dxM_note_113 : decode cxM_note 113 = .ok (.iadd, 1) := by decide +kernel
theorem dxM_note_114 : decode cxM_note 114 = .ok (.iastore, 1) := by decide +kernel
theorem dxM_note_115 : decode cxM_note 115 = .ok (.goto 21, 3) := by decide +kernel
theorem dxM_note_118 : decode cxM_note 118 = .ok (.aload_n 2, 1) := by decide +kernel
theorem dxM_note_119 : decode cxM_note 119 = .ok (.ifnull 17, 3) := by decide +kernel
theorem dxM_note_122 : decode cxM_note 122 = .ok (.aload_n 0, 1) := by decide +kernel
theorem dxM_note_123 : decode cxM_note 123 = .ok (.aload_n 2, 1) := by decide +kernel
theorem dxM_note_124 : decode cxM_note 124 = .ok (.invokevirtual 205, 3) := by decide +kernel
theorem dxM_note_127 : decode cxM_note 127 = .ok (.getfield 185, 3) := by decide +kernel
theorem dxM_note_130 : decode cxM_note 130 = .ok (.invokevirtual 201, 3) := by decide +kernel
theorem dxM_note_133 : decode cxM_note 133 = .ok (.goto 3, 3) := by decide +kernel
theorem dxM_note_136 : decode cxM_note 136 = .ok (.getstatic 166, 3) := by decide +kernel
theorem dxM_note_139 : decode cxM_note 139 = .ok (.areturn, 1) := by decide +kernel
theorem dxM_addToLog_0 : decode cxM_addToLog 0 = .ok (.aload_n 0, 1) := by decide +kernel
theorem dxM_addToLog_1 : decode cxM_addToLog 1 = .ok (.getfield 20, 3) := by decide +kernel
theorem dxM_addToLog_4 : decode cxM_addToLog 4 = .ok (.aload_n 0, 1) := by decide +kernel
theorem dxM_addToLog_5 : decode cxM_addToLog 5 = .ok (.getfield 29, 3) := by decide +kernel
theorem dxM_addToLog_8 : decode cxM_addToLog 8 = .ok (.iload_n 1, 1) := by decide +kernel
theorem dxM_addToLog_9 : decode cxM_addToLog 9 = .ok (.iastore, 1) := by decide +kernel
theorem dxM_addToLog_10 : decode cxM_addToLog 10 = .ok (.aload_n 0, 1) := by decide +kernel
theorem dxM_addToLog_11 : decode cxM_addToLog 11 = .ok (.dup, 1) := by decide +kernel
theorem dxM_addToLog_12 : decode cxM_addToLog 12 = .ok (.getfield 29, 3) := by decide +kernel
theorem dxM_addToLog_15 : decode cxM_addToLog 15 = .ok (.iconst 1, 1) := by decide +kernel
theorem dxM_addToLog_16 : decode cxM_addToLog 16 = .ok (.iadd, 1) := by decide +kernel
theorem dxM_addToLog_17 : decode cxM_addToLog 17 = .ok (.putfield 29, 3) := by decide +kernel
theorem dxM_addToLog_20 : decode cxM_addToLog 20 = .ok (.return_, 1) := by decide +kernel
theorem dxP_size_0 : decode cxP_size 0 = .ok (.aload_n 0, 1) := by decide +kernel
theorem dxP_size_1 : decode cxP_size 1 = .ok (.getfield 19, 3) := by decide +kernel
theorem dxP_size_4 : decode cxP_size 4 = .ok (.ireturn, 1) := by decide +kernel
theorem dxP_isFull_0 : decode cxP_isFull 0 = .ok (.aload_n 0, 1) := by decide +kernel
theorem dxP_isFull_1 : decode cxP_isFull 1 = .ok (.getfield 19, 3) := by decide +kernel
theorem dxP_isFull_4 : decode cxP_isFull 4 = .ok (.bipush 64, 2) := by decide +kernel
theorem dxP_isFull_6 : decode cxP_isFull 6 = .ok (.if_icmp .ne 7, 3) := by decide +kernel
theorem dxP_isFull_9 : decode cxP_isFull 9 = .ok (.iconst 1, 1) := by decide +kernel
theorem dxP_isFull_10 : decode cxP_isFull 10 = .ok (.goto 4, 3) := by decide +kernel
theorem dxP_isFull_13 : decode cxP_isFull 13 = .ok (.iconst 0, 1) := by decide +kernel
theorem dxP_isFull_14 : decode cxP_isFull 14 = .ok (.ireturn, 1) := by decide +kernel
theorem dxP_at_0 : decode cxP_at 0 = .ok (.aload_n 0, 1) := by decide +kernel
theorem dxP_at_1 : decode cxP_at 1 = .ok (.getfield 11, 3) := by decide +kernel
theorem dxP_at_4 : decode cxP_at 4 = .ok (.iload_n 1, 1) := by decide +kernel
theorem dxP_at_5 : decode cxP_at 5 = .ok (.aaload, 1) := by decide +kernel
theorem dxP_at_6 : decode cxP_at 6 = .ok (.areturn, 1) := by decide +kernel
theorem dxP_statementOf_0 : decode cxP_statementOf 0 = .ok (.aload_n 0, 1) := by decide +kernel
theorem dxP_statementOf_1 : decode cxP_statementOf 1 = .ok (.getfield 15, 3) := by decide +kernel
theorem dxP_statementOf_4 : decode cxP_statementOf 4 = .ok (.iload_n 1, 1) := by decide +kernel
theorem dxP_statementOf_5 : decode cxP_statementOf 5 = .ok (.iaload, 1) := by decide +kernel
theorem dxP_statementOf_6 : decode cxP_statementOf 6 = .ok (.ireturn, 1) := by decide +kernel
theorem dxP_isDefined_0 : decode cxP_isDefined 0 = .ok (.iload_n 1, 1) := by decide +kernel
theorem dxP_isDefined_1 : decode cxP_isDefined 1 = .ok (.invokestatic 34, 3) := by decide +kernel
theorem dxP_isDefined_4 : decode cxP_isDefined 4 = .ok (.ifCond .eq 17, 3) := by decide +kernel
theorem dxP_isDefined_7 : decode cxP_isDefined 7 = .ok (.aload_n 0, 1) := by decide +kernel
theorem dxP_isDefined_8 : decode cxP_isDefined 8 = .ok (.getfield 15, 3) := by decide +kernel
theorem dxP_isDefined_11 : decode cxP_isDefined 11 = .ok (.iload_n 1, 1) := by decide +kernel
theorem dxP_isDefined_12 : decode cxP_isDefined 12 = .ok (.iaload, 1) := by decide +kernel
theorem dxP_isDefined_13 : decode cxP_isDefined 13 = .ok (.iconst (-1), 1) := by decide +kernel
theorem dxP_isDefined_14 : decode cxP_isDefined 14 = .ok (.if_icmp .eq 7, 3) := by decide +kernel
theorem dxP_isDefined_17 : decode cxP_isDefined 17 = .ok (.iconst 1, 1) := by decide +kernel
theorem dxP_isDefined_18 : decode cxP_isDefined 18 = .ok (.goto 4, 3) := by decide +kernel
theorem dxP_isDefined_21 : decode cxP_isDefined 21 = .ok (.iconst 0, 1) := by decide +kernel
theorem dxP_isDefined_22 : decode cxP_isDefined 22 = .ok (.ireturn, 1) := by decide +kernel
theorem dxP_isNode_0 : decode cxP_isNode 0 = .ok (.iload_n 1, 1) := by decide +kernel
theorem dxP_isNode_1 : decode cxP_isNode 1 = .ok (.ifCond .lt 15, 3) := by decide +kernel
theorem dxP_isNode_4 : decode cxP_isNode 4 = .ok (.iload_n 1, 1) := by decide +kernel
theorem dxP_isNode_5 : decode cxP_isNode 5 = .ok (.aload_n 0, 1) := by decide +kernel
theorem dxP_isNode_6 : decode cxP_isNode 6 = .ok (.getfield 19, 3) := by decide +kernel
theorem dxP_isNode_9 : decode cxP_isNode 9 = .ok (.if_icmp .ge 7, 3) := by decide +kernel
theorem dxP_isNode_12 : decode cxP_isNode 12 = .ok (.iconst 1, 1) := by decide +kernel
theorem dxP_isNode_13 : decode cxP_isNode 13 = .ok (.goto 4, 3) := by decide +kernel
theorem dxP_isNode_16 : decode cxP_isNode 16 = .ok (.iconst 0, 1) := by decide +kernel
theorem dxP_isNode_17 : decode cxP_isNode 17 = .ok (.ireturn, 1) := by decide +kernel
theorem dxP_isRoutine_0 : decode cxP_isRoutine 0 = .ok (.iload_n 0, 1) := by decide +kernel
theorem dxP_isRoutine_1 : decode cxP_isRoutine 1 = .ok (.ifCond .lt 13, 3) := by decide +kernel
theorem dxP_isRoutine_4 : decode cxP_isRoutine 4 = .ok (.iload_n 0, 1) := by decide +kernel
theorem dxP_isRoutine_5 : decode cxP_isRoutine 5 = .ok (.bipush 6, 2) := by decide +kernel
theorem dxP_isRoutine_7 : decode cxP_isRoutine 7 = .ok (.if_icmp .ge 7, 3) := by decide +kernel
theorem dxP_isRoutine_10 : decode cxP_isRoutine 10 = .ok (.iconst 1, 1) := by decide +kernel
theorem dxP_isRoutine_11 : decode cxP_isRoutine 11 = .ok (.goto 4, 3) := by decide +kernel
theorem dxP_isRoutine_14 : decode cxP_isRoutine 14 = .ok (.iconst 0, 1) := by decide +kernel
theorem dxP_isRoutine_15 : decode cxP_isRoutine 15 = .ok (.ireturn, 1) := by decide +kernel
theorem dxP_isVariable_0 : decode cxP_isVariable 0 = .ok (.iload_n 0, 1) := by decide +kernel
theorem dxP_isVariable_1 : decode cxP_isVariable 1 = .ok (.ifCond .lt 12, 3) := by decide +kernel
theorem dxP_isVariable_4 : decode cxP_isVariable 4 = .ok (.iload_n 0, 1) := by decide +kernel
theorem dxP_isVariable_5 : decode cxP_isVariable 5 = .ok (.iconst 4, 1) := by decide +kernel
theorem dxP_isVariable_6 : decode cxP_isVariable 6 = .ok (.if_icmp .ge 7, 3) := by decide +kernel
theorem dxP_isVariable_9 : decode cxP_isVariable 9 = .ok (.iconst 1, 1) := by decide +kernel
theorem dxP_isVariable_10 : decode cxP_isVariable 10 = .ok (.goto 4, 3) := by decide +kernel
theorem dxP_isVariable_13 : decode cxP_isVariable 13 = .ok (.iconst 0, 1) := by decide +kernel
theorem dxP_isVariable_14 : decode cxP_isVariable 14 = .ok (.ireturn, 1) := by decide +kernel
theorem dxP_isMonitor_0 : decode cxP_isMonitor 0 = .ok (.iload_n 0, 1) := by decide +kernel
theorem dxP_isMonitor_1 : decode cxP_isMonitor 1 = .ok (.ifCond .lt 12, 3) := by decide +kernel
theorem dxP_isMonitor_4 : decode cxP_isMonitor 4 = .ok (.iload_n 0, 1) := by decide +kernel
theorem dxP_isMonitor_5 : decode cxP_isMonitor 5 = .ok (.iconst 2, 1) := by decide +kernel
theorem dxP_isMonitor_6 : decode cxP_isMonitor 6 = .ok (.if_icmp .ge 7, 3) := by decide +kernel
theorem dxP_isMonitor_9 : decode cxP_isMonitor 9 = .ok (.iconst 1, 1) := by decide +kernel
theorem dxP_isMonitor_10 : decode cxP_isMonitor 10 = .ok (.goto 4, 3) := by decide +kernel
theorem dxP_isMonitor_13 : decode cxP_isMonitor 13 = .ok (.iconst 0, 1) := by decide +kernel
theorem dxP_isMonitor_14 : decode cxP_isMonitor 14 = .ok (.ireturn, 1) := by decide +kernel
theorem dxP_fits_0 : decode cxP_fits 0 = .ok (.iload_n 1, 1) := by decide +kernel
theorem dxP_fits_1 : decode cxP_fits 1 = .ok (.tableswitch 313 0 22 #[107, 109, 109, 109, 114, 136, 172, 107, 109, 197, 202, 107, 202, 211, 114, 114, 245, 265, 202, 109, 287, 308, 107], 107) := by decide +kernel
theorem dxP_fits_108 : decode cxP_fits 108 = .ok (.iconst 1, 1) := by decide +kernel
theorem dxP_fits_109 : decode cxP_fits 109 = .ok (.ireturn, 1) := by decide +kernel
theorem dxP_fits_110 : decode cxP_fits 110 = .ok (.iload_n 2, 1) := by decide +kernel
theorem dxP_fits_111 : decode cxP_fits 111 = .ok (.invokestatic 38, 3) := by decide +kernel
theorem dxP_fits_114 : decode cxP_fits 114 = .ok (.ireturn, 1) := by decide +kernel
theorem dxP_fits_115 : decode cxP_fits 115 = .ok (.aload_n 0, 1) := by decide +kernel
theorem dxP_fits_116 : decode cxP_fits 116 = .ok (.iload_n 2, 1) := by decide +kernel
theorem dxP_fits_117 : decode cxP_fits 117 = .ok (.invokevirtual 41, 3) := by decide +kernel
theorem dxP_fits_120 : decode cxP_fits 120 = .ok (.ifCond .eq 15, 3) := by decide +kernel
theorem dxP_fits_123 : decode cxP_fits 123 = .ok (.aload_n 0, 1) := by decide +kernel
theorem dxP_fits_124 : decode cxP_fits 124 = .ok (.iload_n 3, 1) := by decide +kernel
theorem dxP_fits_125 : decode cxP_fits 125 = .ok (.invokevirtual 41, 3) := by decide +kernel
theorem dxP_fits_128 : decode cxP_fits 128 = .ok (.ifCond .eq 7, 3) := by decide +kernel
theorem dxP_fits_131 : decode cxP_fits 131 = .ok (.iconst 1, 1) := by decide +kernel
theorem dxP_fits_132 : decode cxP_fits 132 = .ok (.goto 4, 3) := by decide +kernel
theorem dxP_fits_135 : decode cxP_fits 135 = .ok (.iconst 0, 1) := by decide +kernel
theorem dxP_fits_136 : decode cxP_fits 136 = .ok (.ireturn, 1) := by decide +kernel
theorem dxP_fits_137 : decode cxP_fits 137 = .ok (.iload_n 2, 1) := by decide +kernel
theorem dxP_fits_138 : decode cxP_fits 138 = .ok (.invokestatic 38, 3) := by decide +kernel
theorem dxP_fits_141 : decode cxP_fits 141 = .ok (.ifCond .eq 30, 3) := by decide +kernel
theorem dxP_fits_144 : decode cxP_fits 144 = .ok (.aload_n 0, 1) := by decide +kernel
theorem dxP_fits_145 : decode cxP_fits 145 = .ok (.iload_n 3, 1) := by decide +kernel
theorem dxP_fits_146 : decode cxP_fits 146 = .ok (.invokevirtual 41, 3) := by decide +kernel
theorem dxP_fits_149 : decode cxP_fits 149 = .ok (.ifCond .eq 22, 3) := by decide +kernel
theorem dxP_fits_152 : decode cxP_fits 152 = .ok (.iload 4, 2) := by decide +kernel
theorem dxP_fits_154 : decode cxP_fits 154 = .ok (.iconst (-1), 1) := by decide +kernel
theorem dxP_fits_155 : decode cxP_fits 155 = .ok (.if_icmp .eq 12, 3) := by decide +kernel
theorem dxP_fits_158 : decode cxP_fits 158 = .ok (.aload_n 0, 1) := by decide +kernel
theorem dxP_fits_159 : decode cxP_fits 159 = .ok (.iload 4, 2) := by decide +kernel
theorem dxP_fits_161 : decode cxP_fits 161 = .ok (.invokevirtual 41, 3) := by decide +kernel
theorem dxP_fits_164 : decode cxP_fits 164 = .ok (.ifCond .eq 7, 3) := by decide +kernel
theorem dxP_fits_167 : decode cxP_fits 167 = .ok (.iconst 1, 1) := by decide +kernel
theorem dxP_fits_168 : decode cxP_fits 168 = .ok (.goto 4, 3) := by decide +kernel
theorem dxP_fits_171 : decode cxP_fits 171 = .ok (.iconst 0, 1) := by decide +kernel
theorem dxP_fits_172 : decode cxP_fits 172 = .ok (.ireturn, 1) := by decide +kernel
theorem dxP_fits_173 : decode cxP_fits 173 = .ok (.iload_n 2, 1) := by decide +kernel
theorem dxP_fits_174 : decode cxP_fits 174 = .ok (.iconst 1, 1) := by decide +kernel
theorem dxP_fits_175 : decode cxP_fits 175 = .ok (.if_icmp .lt 21, 3) := by decide +kernel
theorem dxP_fits_178 : decode cxP_fits 178 = .ok (.iload_n 2, 1) := by decide +kernel
theorem dxP_fits_179 : decode cxP_fits 179 = .ok (.bipush 8, 2) := by decide +kernel
theorem dxP_fits_181 : decode cxP_fits 181 = .ok (.if_icmp .gt 15, 3) := by decide +kernel
theorem dxP_fits_184 : decode cxP_fits 184 = .ok (.aload_n 0, 1) := by decide +kernel
theorem dxP_fits_185 : decode cxP_fits 185 = .ok (.iload_n 3, 1) := by decide +kernel
theorem dxP_fits_186 : decode cxP_fits 186 = .ok (.invokevirtual 41, 3) := by decide +kernel
theorem dxP_fits_189 : decode cxP_fits 189 = .ok (.ifCond .eq 7, 3) := by decide +kernel
theorem dxP_fits_192 : decode cxP_fits 192 = .ok (.iconst 1, 1) := by decide +kernel
theorem dxP_fits_193 : decode cxP_fits 193 = .ok (.goto 4, 3) := by decide +kernel
theorem dxP_fits_196 : decode cxP_fits 196 = .ok (.iconst 0, 1) := by decide +kernel
theorem dxP_fits_197 : decode cxP_fits 197 = .ok (.ireturn, 1) := by decide +kernel
theorem dxP_fits_198 : decode cxP_fits 198 = .ok (.iload_n 2, 1) := by decide +kernel
theorem dxP_fits_199 : decode cxP_fits 199 = .ok (.invokestatic 34, 3) := by decide +kernel
theorem dxP_fits_202 : decode cxP_fits 202 = .ok (.ireturn, 1) := by decide +kernel
theorem dxP_fits_203 : decode cxP_fits 203 = .ok (.aload_n 0, 1) := by decide +kernel
theorem dxP_fits_204 : decode cxP_fits 204 = .ok (.getfield 23, 3) := by decide +kernel
theorem dxP_fits_207 : decode cxP_fits 207 = .ok (.iload_n 2, 1) := by decide +kernel
theorem dxP_fits_208 : decode cxP_fits 208 = .ok (.invokevirtual 44, 3) := by decide +kernel
theorem dxP_fits_211 : decode cxP_fits 211 = .ok (.ireturn, 1) := by decide +kernel
theorem dxP_fits_212 : decode cxP_fits 212 = .ok (.aload_n 0, 1) := by decide +kernel
theorem dxP_fits_213 : decode cxP_fits 213 = .ok (.iload_n 2, 1) := by decide +kernel
theorem dxP_fits_214 : decode cxP_fits 214 = .ok (.invokevirtual 41, 3) := by decide +kernel
theorem dxP_fits_217 : decode cxP_fits 217 = .ok (.ifCond .eq 27, 3) := by decide +kernel
theorem dxP_fits_220 : decode cxP_fits 220 = .ok (.aload_n 0, 1) := by decide +kernel
theorem dxP_fits_221 : decode cxP_fits 221 = .ok (.getfield 23, 3) := by decide +kernel
theorem dxP_fits_224 : decode cxP_fits 224 = .ok (.iload_n 3, 1) := by decide +kernel
theorem dxP_fits_225 : decode cxP_fits 225 = .ok (.invokevirtual 44, 3) := by decide +kernel
theorem dxP_fits_228 : decode cxP_fits 228 = .ok (.ifCond .eq 16, 3) := by decide +kernel
theorem dxP_fits_231 : decode cxP_fits 231 = .ok (.aload_n 0, 1) := by decide +kernel
theorem dxP_fits_232 : decode cxP_fits 232 = .ok (.iload 4, 2) := by decide +kernel
theorem dxP_fits_234 : decode cxP_fits 234 = .ok (.invokevirtual 41, 3) := by decide +kernel
theorem dxP_fits_237 : decode cxP_fits 237 = .ok (.ifCond .eq 7, 3) := by decide +kernel
theorem dxP_fits_240 : decode cxP_fits 240 = .ok (.iconst 1, 1) := by decide +kernel
theorem dxP_fits_241 : decode cxP_fits 241 = .ok (.goto 4, 3) := by decide +kernel
theorem dxP_fits_244 : decode cxP_fits 244 = .ok (.iconst 0, 1) := by decide +kernel
theorem dxP_fits_245 : decode cxP_fits 245 = .ok (.ireturn, 1) := by decide +kernel
theorem dxP_fits_246 : decode cxP_fits 246 = .ok (.iload_n 2, 1) := by decide +kernel
theorem dxP_fits_247 : decode cxP_fits 247 = .ok (.invokestatic 38, 3) := by decide +kernel
theorem dxP_fits_250 : decode cxP_fits 250 = .ok (.ifCond .eq 14, 3) := by decide +kernel
theorem dxP_fits_253 : decode cxP_fits 253 = .ok (.iload_n 3, 1) := by decide +kernel
theorem dxP_fits_254 : decode cxP_fits 254 = .ok (.invokestatic 38, 3) := by decide +kernel
theorem dxP_fits_257 : decode cxP_fits 257 = .ok (.ifCond .eq 7, 3) := by decide +kernel
theorem dxP_fits_260 : decode cxP_fits 260 = .ok (.iconst 1, 1) := by decide +kernel
theorem dxP_fits_261 : decode cxP_fits 261 = .ok (.goto 4, 3) := by decide +kernel
theorem dxP_fits_264 : decode cxP_fits 264 = .ok (.iconst 0, 1) := by decide +kernel
theorem dxP_fits_265 : decode cxP_fits 265 = .ok (.ireturn, 1) := by decide +kernel
theorem dxP_fits_266 : decode cxP_fits 266 = .ok (.iload_n 2, 1) := by decide +kernel
theorem dxP_fits_267 : decode cxP_fits 267 = .ok (.invokestatic 38, 3) := by decide +kernel
theorem dxP_fits_270 : decode cxP_fits 270 = .ok (.ifCond .eq 16, 3) := by decide +kernel
theorem dxP_fits_273 : decode cxP_fits 273 = .ok (.iload_n 3, 1) := by decide +kernel
theorem dxP_fits_274 : decode cxP_fits 274 = .ok (.ifCond .lt 12, 3) := by decide +kernel
theorem dxP_fits_277 : decode cxP_fits 277 = .ok (.iload_n 3, 1) := by decide +kernel
theorem dxP_fits_278 : decode cxP_fits 278 = .ok (.iconst 4, 1) := by decide +kernel
theorem dxP_fits_279 : decode cxP_fits 279 = .ok (.if_icmp .gt 7, 3) := by decide +kernel
theorem dxP_fits_282 : decode cxP_fits 282 = .ok (.iconst 1, 1) := by decide +kernel
theorem dxP_fits_283 : decode cxP_fits 283 = .ok (.goto 4, 3) := by decide +kernel
theorem dxP_fits_286 : decode cxP_fits 286 = .ok (.iconst 0, 1) := by decide +kernel
theorem dxP_fits_287 : decode cxP_fits 287 = .ok (.ireturn, 1) := by decide +kernel
theorem dxP_fits_288 : decode cxP_fits 288 = .ok (.iload_n 2, 1) := by decide +kernel
theorem dxP_fits_289 : decode cxP_fits 289 = .ok (.invokestatic 49, 3) := by decide +kernel
theorem dxP_fits_292 : decode cxP_fits 292 = .ok (.ifCond .eq 15, 3) := by decide +kernel
theorem dxP_fits_295 : decode cxP_fits 295 = .ok (.aload_n 0, 1) := by decide +kernel
theorem dxP_fits_296 : decode cxP_fits 296 = .ok (.iload_n 3, 1) := by decide +kernel
theorem dxP_fits_297 : decode cxP_fits 297 = .ok (.invokevirtual 41, 3) := by decide +kernel
theorem dxP_fits_300 : decode cxP_fits 300 = .ok (.ifCond .eq 7, 3) := by decide +kernel
theorem dxP_fits_303 : decode cxP_fits 303 = .ok (.iconst 1, 1) := by decide +kernel
theorem dxP_fits_304 : decode cxP_fits 304 = .ok (.goto 4, 3) := by decide +kernel
theorem dxP_fits_307 : decode cxP_fits 307 = .ok (.iconst 0, 1) := by decide +kernel
theorem dxP_fits_308 : decode cxP_fits 308 = .ok (.ireturn, 1) := by decide +kernel
theorem dxP_fits_309 : decode cxP_fits 309 = .ok (.iload_n 2, 1) := by decide +kernel
theorem dxP_fits_310 : decode cxP_fits 310 = .ok (.invokestatic 49, 3) := by decide +kernel
theorem dxP_fits_313 : decode cxP_fits 313 = .ok (.ireturn, 1) := by decide +kernel
theorem dxP_fits_314 : decode cxP_fits 314 = .ok (.iconst 0, 1) := by decide +kernel
theorem dxP_fits_315 : decode cxP_fits 315 = .ok (.ireturn, 1) := by decide +kernel
theorem dxP_levelOf_0 : decode cxP_levelOf 0 = .ok (.iload_n 1, 1) := by decide +kernel
theorem dxP_levelOf_1 : decode cxP_levelOf 1 = .ok (.tableswitch 141 4 20 #[83, 99, 116, 141, 141, 141, 141, 141, 141, 124, 83, 83, 141, 141, 141, 141, 116], 83) := by decide +kernel
theorem dxP_levelOf_84 : decode cxP_levelOf 84 = .ok (.iconst 1, 1) := by decide +kernel
theorem dxP_levelOf_85 : decode cxP_levelOf 85 = .ok (.aload_n 0, 1) := by decide +kernel
theorem dxP_levelOf_86 : decode cxP_levelOf 86 = .ok (.iload_n 2, 1) := by decide +kernel
theorem dxP_levelOf_87 : decode cxP_levelOf 87 = .ok (.invokevirtual 52, 3) := by decide +kernel
theorem dxP_levelOf_90 : decode cxP_levelOf 90 = .ok (.aload_n 0, 1) := by decide +kernel
theorem dxP_levelOf_91 : decode cxP_levelOf 91 = .ok (.iload_n 3, 1) := by decide +kernel
theorem dxP_levelOf_92 : decode cxP_levelOf 92 = .ok (.invokevirtual 52, 3) := by decide +kernel
theorem dxP_levelOf_95 : decode cxP_levelOf 95 = .ok (.invokestatic 56, 3) := by decide +kernel
theorem dxP_levelOf_98 : decode cxP_levelOf 98 = .ok (.iadd, 1) := by decide +kernel
theorem dxP_levelOf_99 : decode cxP_levelOf 99 = .ok (.ireturn, 1) := by decide +kernel
theorem dxP_levelOf_100 : decode cxP_levelOf 100 = .ok (.iconst 1, 1) := by decide +kernel
theorem dxP_levelOf_101 : decode cxP_levelOf 101 = .ok (.aload_n 0, 1) := by decide +kernel
theorem dxP_levelOf_102 : decode cxP_levelOf 102 = .ok (.iload_n 3, 1) := by decide +kernel
theorem dxP_levelOf_103 : decode cxP_levelOf 103 = .ok (.invokevirtual 52, 3) := by decide +kernel
theorem dxP_levelOf_106 : decode cxP_levelOf 106 = .ok (.aload_n 0, 1) := by decide +kernel
theorem dxP_levelOf_107 : decode cxP_levelOf 107 = .ok (.iload 4, 2) := by decide +kernel
theorem dxP_levelOf_109 : decode cxP_levelOf 109 = .ok (.invokevirtual 52, 3) := by decide +kernel
theorem dxP_levelOf_112 : decode cxP_levelOf 112 = .ok (.invokestatic 56, 3) := by decide +kernel
theorem dxP_levelOf_115 : decode cxP_levelOf 115 = .ok (.iadd, 1) := by decide +kernel
theorem dxP_levelOf_116 : decode cxP_levelOf 116 = .ok (.ireturn, 1) := by decide +kernel
theorem dxP_levelOf_117 : decode cxP_levelOf 117 = .ok (.iconst 1, 1) := by decide +kernel
theorem dxP_levelOf_118 : decode cxP_levelOf 118 = .ok (.aload_n 0, 1) := by decide +kernel
theorem dxP_levelOf_119 : decode cxP_levelOf 119 = .ok (.iload_n 3, 1) := by decide +kernel
theorem dxP_levelOf_120 : decode cxP_levelOf 120 = .ok (.invokevirtual 52, 3) := by decide +kernel
theorem dxP_levelOf_123 : decode cxP_levelOf 123 = .ok (.iadd, 1) := by decide +kernel
theorem dxP_levelOf_124 : decode cxP_levelOf 124 = .ok (.ireturn, 1) := by decide +kernel
theorem dxP_levelOf_125 : decode cxP_levelOf 125 = .ok (.iconst 1, 1) := by decide +kernel
theorem dxP_levelOf_126 : decode cxP_levelOf 126 = .ok (.aload_n 0, 1) := by decide +kernel
theorem dxP_levelOf_127 : decode cxP_levelOf 127 = .ok (.iload_n 2, 1) := by decide +kernel
theorem dxP_levelOf_128 : decode cxP_levelOf 128 = .ok (.invokevirtual 52, 3) := by decide +kernel
theorem dxP_levelOf_131 : decode cxP_levelOf 131 = .ok (.aload_n 0, 1) := by decide +kernel
theorem dxP_levelOf_132 : decode cxP_levelOf 132 = .ok (.iload 4, 2) := by decide +kernel
theorem dxP_levelOf_134 : decode cxP_levelOf 134 = .ok (.invokevirtual 52, 3) := by decide +kernel
theorem dxP_levelOf_137 : decode cxP_levelOf 137 = .ok (.invokestatic 56, 3) := by decide +kernel
theorem dxP_levelOf_140 : decode cxP_levelOf 140 = .ok (.iadd, 1) := by decide +kernel
theorem dxP_levelOf_141 : decode cxP_levelOf 141 = .ok (.ireturn, 1) := by decide +kernel
theorem dxP_levelOf_142 : decode cxP_levelOf 142 = .ok (.iconst 1, 1) := by decide +kernel
theorem dxP_levelOf_143 : decode cxP_levelOf 143 = .ok (.ireturn, 1) := by decide +kernel
theorem dxP_levelAt_0 : decode cxP_levelAt 0 = .ok (.aload_n 0, 1) := by decide +kernel
theorem dxP_levelAt_1 : decode cxP_levelAt 1 = .ok (.iload_n 1, 1) := by decide +kernel
theorem dxP_levelAt_2 : decode cxP_levelAt 2 = .ok (.invokevirtual 41, 3) := by decide +kernel
theorem dxP_levelAt_5 : decode cxP_levelAt 5 = .ok (.ifCond .eq 15, 3) := by decide +kernel
theorem dxP_levelAt_8 : decode cxP_levelAt 8 = .ok (.aload_n 0, 1) := by decide +kernel
theorem dxP_levelAt_9 : decode cxP_levelAt 9 = .ok (.getfield 11, 3) := by decide +kernel
theorem dxP_levelAt_12 : decode cxP_levelAt 12 = .ok (.iload_n 1, 1) := by decide +kernel
theorem dxP_levelAt_13 : decode cxP_levelAt 13 = .ok (.aaload, 1) := by decide +kernel
theorem dxP_levelAt_14 : decode cxP_levelAt 14 = .ok (.getfield 62, 3) := by decide +kernel
theorem dxP_levelAt_17 : decode cxP_levelAt 17 = .ok (.goto 4, 3) := by decide +kernel
theorem dxP_levelAt_20 : decode cxP_levelAt 20 = .ok (.iconst 0, 1) := by decide +kernel
theorem dxP_levelAt_21 : decode cxP_levelAt 21 = .ok (.ireturn, 1) := by decide +kernel
theorem dxH_become_0 : decode cxH_become 0 = .ok (.aload_n 0, 1) := by decide +kernel
theorem dxH_become_1 : decode cxH_become 1 = .ok (.iload_n 1, 1) := by decide +kernel
theorem dxH_become_2 : decode cxH_become 2 = .ok (.putfield 7, 3) := by decide +kernel
theorem dxH_become_5 : decode cxH_become 5 = .ok (.aload_n 0, 1) := by decide +kernel
theorem dxH_become_6 : decode cxH_become 6 = .ok (.iload_n 2, 1) := by decide +kernel
theorem dxH_become_7 : decode cxH_become 7 = .ok (.putfield 13, 3) := by decide +kernel
theorem dxH_become_10 : decode cxH_become 10 = .ok (.aload_n 0, 1) := by decide +kernel
theorem dxH_become_11 : decode cxH_become 11 = .ok (.aload_n 3, 1) := by decide +kernel
theorem dxH_become_12 : decode cxH_become 12 = .ok (.putfield 16, 3) := by decide +kernel
theorem dxH_become_15 : decode cxH_become 15 = .ok (.aload_n 0, 1) := by decide +kernel
theorem dxH_become_16 : decode cxH_become 16 = .ok (.iconst 0, 1) := by decide +kernel
theorem dxH_become_17 : decode cxH_become 17 = .ok (.putfield 20, 3) := by decide +kernel
theorem dxH_become_20 : decode cxH_become 20 = .ok (.return_, 1) := by decide +kernel
theorem dxH_origin_0 : decode cxH_origin 0 = .ok (.aload_n 0, 1) := by decide +kernel
theorem dxH_origin_1 : decode cxH_origin 1 = .ok (.astore_n 1, 1) := by decide +kernel
theorem dxH_origin_2 : decode cxH_origin 2 = .ok (.aload_n 1, 1) := by decide +kernel
theorem dxH_origin_3 : decode cxH_origin 3 = .ok (.getfield 16, 3) := by decide +kernel
theorem dxH_origin_6 : decode cxH_origin 6 = .ok (.ifnull 11, 3) := by decide +kernel
theorem dxH_origin_9 : decode cxH_origin 9 = .ok (.aload_n 1, 1) := by decide +kernel
theorem dxH_origin_10 : decode cxH_origin 10 = .ok (.getfield 16, 3) := by decide +kernel
theorem dxH_origin_13 : decode cxH_origin 13 = .ok (.astore_n 1, 1) := by decide +kernel
theorem dxH_origin_14 : decode cxH_origin 14 = .ok (.goto (-12), 3) := by decide +kernel
theorem dxH_origin_17 : decode cxH_origin 17 = .ok (.aload_n 1, 1) := by decide +kernel
theorem dxH_origin_18 : decode cxH_origin 18 = .ok (.areturn, 1) := by decide +kernel
end
section
/-! base rows: words -/
def big : List Cond := lw_tbl.filter goodWord
theorem big_ins (L : List Cond) (h : L.all (fun w => decide (w ∈ lw_tbl) && goodWord w) = true) : ∀ w ∈ L, w ∈ big := fun w hw => by
  have h1 := List.all_eq_true.mp h w hw
  simp only [Bool.and_eq_true, decide_eq_true_eq] at h1
  exact List.mem_filter.mpr h1
theorem big_at {w : Cond} (i : Nat) (h : lw_tbl[i]? = some w) (hg : goodWord w = true) : w ∈ big := List.mem_filter.mpr ⟨List.mem_of_getElem? h, hg⟩
theorem big_good : ∀ w ∈ big, (w.onTables && w.keeps) = true ∨ ∃ ty, w = .arrayClass ty := fun _ h => good_of_word (List.mem_filter.mp h).2
theorem big_GoodIn {L : List Cond} (h : ∀ w ∈ L, w ∈ big) : GoodIn big L := fun w hw => ⟨h w hw, big_good w (h w hw)⟩
abbrev wz (y : MethodName) (cc : ByteArray) (n : Nat) (ret : Option FieldType) : List Cond := Cond.code y cc n ret :: big
theorem wz_in {y : MethodName} {cc : ByteArray} {n : Nat} {ret : Option FieldType} (hc : Cond.code y cc n ret ∈ big) : ∀ w ∈ wz y cc n ret, w ∈ big := fun w hw => by
  rcases List.mem_cons.mp hw with h | h
  · rw [h]; exact hc
  · exact h
theorem big_ps (ps : List Nat) (L : List Cond) (h : L = ps.filterMap (fun i => lw_tbl[i]?)) (hg : L.all goodWord = true) : ∀ w ∈ L, w ∈ big := fun w hw => by
  have h1 := List.all_eq_true.mp hg w hw
  rw [h] at hw
  obtain ⟨i, -, hi⟩ := List.mem_filterMap.mp hw
  exact List.mem_filter.mpr ⟨List.mem_of_getElem? hi, h1⟩
theorem kF_xC_13 : Cond.fieldLink RxC 13 "ThrowScenario$Classes" "size" "I" ∈ big := big_at 92 (by decide +kernel) rfl
theorem kw_xC_26 : ∀ w ∈ ([.methodLink RxC 26 yxC_has, .instanceMethod yxC_has, .selects yxC_has.cls yxC_has yxC_has, .initialized yxC_has.cls] : List Cond), w ∈ big := big_ps [448, 281, 282, 52] _ (by decide +kernel) rfl
theorem kF_xC_9 : Cond.fieldLink RxC 9 "ThrowScenario$Classes" "parents" "[I" ∈ big := big_at 91 (by decide +kernel) rfl
theorem kF_xM_11 : Cond.fieldLink RxM 11 "ThrowScenario$Machine" "variables" "[I" ∈ big := big_at 208 (by decide +kernel) rfl
theorem kF_xM_17 : Cond.fieldLink RxM 17 "ThrowScenario$Machine" "held" "[I" ∈ big := big_at 209 (by decide +kernel) rfl
theorem kF_xM_29 : Cond.fieldLink RxM 29 "ThrowScenario$Machine" "logSize" "I" ∈ big := big_at 212 (by decide +kernel) rfl
theorem kF_xM_33 : Cond.fieldLink RxM 33 "ThrowScenario$Machine" "made" "I" ∈ big := big_at 213 (by decide +kernel) rfl
theorem kF_xM_36 : Cond.fieldLink RxM 36 "ThrowScenario$Machine" "begun" "I" ∈ big := big_at 214 (by decide +kernel) rfl
theorem kF_xM_39 : Cond.fieldLink RxM 39 "ThrowScenario$Machine" "handlers" "I" ∈ big := big_at 215 (by decide +kernel) rfl
theorem kF_xM_42 : Cond.fieldLink RxM 42 "ThrowScenario$Machine" "secondParts" "I" ∈ big := big_at 216 (by decide +kernel) rfl
theorem kF_xM_45 : Cond.fieldLink RxM 45 "ThrowScenario$Machine" "deepest" "I" ∈ big := big_at 217 (by decide +kernel) rfl
theorem kF_xM_20 : Cond.fieldLink RxM 20 "ThrowScenario$Machine" "log" "[I" ∈ big := big_at 210 (by decide +kernel) rfl
theorem kF_xM_48 : Cond.fieldLink RxM 48 "ThrowScenario$Machine" "carried" "I" ∈ big := big_at 218 (by decide +kernel) rfl
theorem kF_xM_63 : Cond.fieldLink RxM 63 "ThrowScenario$Machine" "thrown" "LThrowScenario$Thrown;" ∈ big := big_at 219 (by decide +kernel) rfl
theorem kw_xM_75 : ∀ w ∈ ([.methodLink RxM 75 yxM_mayBegin, .instanceMethod yxM_mayBegin, .selects yxM_mayBegin.cls yxM_mayBegin yxM_mayBegin, .initialized yxM_mayBegin.cls] : List Cond), w ∈ big := big_ps [396, 398, 2, 60] _ (by decide +kernel) rfl
theorem kF_xM_79 : Cond.fieldLink RxM 79 "ThrowScenario$Way" "TIRING" "LThrowScenario$Way;" ∈ big := big_at 400 (by decide +kernel) rfl
theorem kM_xM_85 : Cond.methodLink RxM 85 Lib.Math.max.name ∈ big ∧ Cond.static Lib.Math.max.name ∈ big ∧ Cond.initialized "java/lang/Math" ∈ big ∧ Cond.code Lib.Math.max.name Lib.Math.max.code 2 (some .int) ∈ big := ⟨big_at 402 (by decide +kernel) rfl, big_at 169 (by decide +kernel) rfl, big_at 61 (by decide +kernel) rfl, big_at 170 (by decide +kernel) rfl⟩
theorem kF_xM_51 : Cond.fieldLink RxM 51 "ThrowScenario$Machine" "program" "LThrowScenario$Program;" ∈ big := big_at 205 (by decide +kernel) rfl
theorem kw_xM_91 : ∀ w ∈ ([.methodLink RxM 91 yxP_at, .instanceMethod yxP_at, .selects yxP_at.cls yxP_at yxP_at, .initialized yxP_at.cls] : List Cond), w ∈ big := big_ps [403, 404, 405, 54] _ (by decide +kernel) rfl
theorem kF_xM_95 : Cond.fieldLink RxM 95 "ThrowScenario$Node" "kind" "I" ∈ big := big_at 338 (by decide +kernel) rfl
theorem kw_xM_100 : ∀ w ∈ ([.methodLink RxM 100 yxM_sequence, .instanceMethod yxM_sequence, .selects yxM_sequence.cls yxM_sequence yxM_sequence, .initialized yxM_sequence.cls] : List Cond), w ∈ big := big_ps [407, 409, 3, 60] _ (by decide +kernel) rfl
theorem kw_xM_104 : ∀ w ∈ ([.methodLink RxM 104 yxM_choose, .instanceMethod yxM_choose, .selects yxM_choose.cls yxM_choose yxM_choose, .initialized yxM_choose.cls] : List Cond), w ∈ big := big_ps [413, 415, 4, 60] _ (by decide +kernel) rfl
theorem kw_xM_107 : ∀ w ∈ ([.methodLink RxM 107 yxM_loop, .instanceMethod yxM_loop, .selects yxM_loop.cls yxM_loop yxM_loop, .initialized yxM_loop.cls] : List Cond), w ∈ big := big_ps [417, 419, 5, 60] _ (by decide +kernel) rfl
theorem kw_xM_110 : ∀ w ∈ ([.methodLink RxM 110 yxM_call, .instanceMethod yxM_call, .selects yxM_call.cls yxM_call yxM_call, .initialized yxM_call.cls] : List Cond), w ∈ big := big_ps [423, 425, 6, 60] _ (by decide +kernel) rfl
theorem kw_xM_114 : ∀ w ∈ ([.methodLink RxM 114 yxM_tryAndCatch, .instanceMethod yxM_tryAndCatch, .selects yxM_tryAndCatch.cls yxM_tryAndCatch yxM_tryAndCatch, .initialized yxM_tryAndCatch.cls] : List Cond), w ∈ big := big_ps [440, 442, 8, 60] _ (by decide +kernel) rfl
theorem kw_xM_117 : ∀ w ∈ ([.methodLink RxM 117 yxM_doBoth, .instanceMethod yxM_doBoth, .selects yxM_doBoth.cls yxM_doBoth yxM_doBoth, .initialized yxM_doBoth.cls] : List Cond), w ∈ big := big_ps [449, 451, 9, 60] _ (by decide +kernel) rfl
theorem kw_xM_120 : ∀ w ∈ ([.methodLink RxM 120 yxM_lock, .instanceMethod yxM_lock, .selects yxM_lock.cls yxM_lock yxM_lock, .initialized yxM_lock.cls] : List Cond), w ∈ big := big_ps [453, 455, 10, 60] _ (by decide +kernel) rfl
theorem kF_xM_123 : Cond.fieldLink RxM 123 "ThrowScenario$Way" "BREAK" "LThrowScenario$Way;" ∈ big := big_at 421 (by decide +kernel) rfl
theorem kF_xM_126 : Cond.fieldLink RxM 126 "ThrowScenario$Node" "a" "I" ∈ big := big_at 340 (by decide +kernel) rfl
theorem kF_xM_129 : Cond.fieldLink RxM 129 "ThrowScenario$Way" "RETURN" "LThrowScenario$Way;" ∈ big := big_at 438 (by decide +kernel) rfl
theorem kw_xM_132 : ∀ w ∈ ([.methodLink RxM 132 yxM_carry, .instanceMethod yxM_carry, .selects yxM_carry.cls yxM_carry yxM_carry, .initialized yxM_carry.cls] : List Cond), w ∈ big := big_ps [457, 459, 11, 60] _ (by decide +kernel) rfl
theorem kF_xM_136 : Cond.fieldLink RxM 136 "ThrowScenario$Way" "EXIT" "LThrowScenario$Way;" ∈ big := big_at 461 (by decide +kernel) rfl
theorem kF_xM_139 : Cond.fieldLink RxM 139 "ThrowScenario$Node" "b" "I" ∈ big := big_at 342 (by decide +kernel) rfl
theorem kw_xM_142 : ∀ w ∈ ([.methodLink RxM 142 yxM_raise, .instanceMethod yxM_raise, .selects yxM_raise.cls yxM_raise yxM_raise, .initialized yxM_raise.cls] : List Cond), w ∈ big := big_ps [428, 430, 7, 60] _ (by decide +kernel) rfl
theorem kw_xM_145 : ∀ w ∈ ([.methodLink RxM 145 yxM_rethrow, .instanceMethod yxM_rethrow, .selects yxM_rethrow.cls yxM_rethrow yxM_rethrow, .initialized yxM_rethrow.cls] : List Cond), w ∈ big := big_ps [463, 465, 12, 60] _ (by decide +kernel) rfl
theorem kw_xM_149 : ∀ w ∈ ([.methodLink RxM 149 yxM_divide, .instanceMethod yxM_divide, .selects yxM_divide.cls yxM_divide yxM_divide, .initialized yxM_divide.cls] : List Cond), w ∈ big := big_ps [467, 469, 13, 60] _ (by decide +kernel) rfl
theorem kw_xM_153 : ∀ w ∈ ([.methodLink RxM 153 yxM_index, .instanceMethod yxM_index, .selects yxM_index.cls yxM_index yxM_index, .initialized yxM_index.cls] : List Cond), w ∈ big := big_ps [471, 473, 14, 60] _ (by decide +kernel) rfl
theorem kw_xM_156 : ∀ w ∈ ([.methodLink RxM 156 yxM_cast, .instanceMethod yxM_cast, .selects yxM_cast.cls yxM_cast yxM_cast, .initialized yxM_cast.cls] : List Cond), w ∈ big := big_ps [475, 477, 15, 60] _ (by decide +kernel) rfl
theorem kw_xM_160 : ∀ w ∈ ([.methodLink RxM 160 yxM_wake, .instanceMethod yxM_wake, .selects yxM_wake.cls yxM_wake yxM_wake, .initialized yxM_wake.cls] : List Cond), w ∈ big := big_ps [479, 481, 16, 60] _ (by decide +kernel) rfl
theorem kw_xM_163 : ∀ w ∈ ([.methodLink RxM 163 yxM_note, .instanceMethod yxM_note, .selects yxM_note.cls yxM_note yxM_note, .initialized yxM_note.cls] : List Cond), w ∈ big := big_ps [487, 489, 18, 60] _ (by decide +kernel) rfl
theorem kw_xM_71 : ∀ w ∈ ([.methodLink RxM 71 yxM_perform, .instanceMethod yxM_perform, .selects yxM_perform.cls yxM_perform yxM_perform, .initialized yxM_perform.cls] : List Cond), w ∈ big := big_ps [392, 394, 1, 60] _ (by decide +kernel) rfl
theorem kF_xM_166 : Cond.fieldLink RxM 166 "ThrowScenario$Way" "NORMALLY" "LThrowScenario$Way;" ∈ big := big_at 411 (by decide +kernel) rfl
theorem kF_xM_169 : Cond.fieldLink RxM 169 "ThrowScenario$Node" "c" "I" ∈ big := big_at 344 (by decide +kernel) rfl
theorem kw_xM_172 : ∀ w ∈ ([.methodLink RxM 172 yxP_isDefined, .instanceMethod yxP_isDefined, .selects yxP_isDefined.cls yxP_isDefined yxP_isDefined, .initialized yxP_isDefined.cls] : List Cond), w ∈ big := big_ps [427, 377, 378, 54] _ (by decide +kernel) rfl
theorem kF_xM_59 : Cond.fieldLink RxM 59 "ThrowScenario$Machine" "limit" "I" ∈ big := big_at 207 (by decide +kernel) rfl
theorem kw_xM_67 : ∀ w ∈ ([.methodLink RxM 67 yxP_statementOf, .instanceMethod yxP_statementOf, .selects yxP_statementOf.cls yxP_statementOf yxP_statementOf, .initialized yxP_statementOf.cls] : List Cond), w ∈ big := big_ps [388, 389, 390, 54] _ (by decide +kernel) rfl
theorem kF_xM_178 : Cond.fieldLink RxM 178 "ThrowScenario$Way" "THROWING" "LThrowScenario$Way;" ∈ big := big_at 436 (by decide +kernel) rfl
theorem kF_xM_181 : Cond.fieldLink RxM 181 "ThrowScenario$Way" "endsRun" "Z" ∈ big := big_at 1165 (by decide +kernel) rfl
theorem kF_xM_55 : Cond.fieldLink RxM 55 "ThrowScenario$Machine" "classes" "LThrowScenario$Classes;" ∈ big := big_at 206 (by decide +kernel) rfl
theorem kF_xM_185 : Cond.fieldLink RxM 185 "ThrowScenario$Thrown" "type" "I" ∈ big := big_at 185 (by decide +kernel) rfl
theorem kw_xM_188 : ∀ w ∈ ([.methodLink RxM 188 yxC_is, .instanceMethod yxC_is, .selects yxC_is.cls yxC_is yxC_is, .initialized yxC_is.cls] : List Cond), w ∈ big := big_ps [444, 445, 446, 52] _ (by decide +kernel) rfl
theorem kF_xM_194 : Cond.fieldLink RxM 194 "ThrowScenario$Thrown" "suppressed" "I" ∈ big := big_at 195 (by decide +kernel) rfl
theorem kF_xM_25 : Cond.fieldLink RxM 25 "ThrowScenario$Machine" "throwables" "[LThrowScenario$Thrown;" ∈ big := big_at 211 (by decide +kernel) rfl
theorem kw_xM_197 : ∀ w ∈ ([.methodLink RxM 197 yxH_become, .instanceMethod yxH_become, .selects yxH_become.cls yxH_become yxH_become, .initialized yxH_become.cls] : List Cond), w ∈ big := big_ps [432, 433, 434, 62] _ (by decide +kernel) rfl
theorem kw_xM_201 : ∀ w ∈ ([.methodLink RxM 201 yxM_addToLog, .instanceMethod yxM_addToLog, .selects yxM_addToLog.cls yxM_addToLog yxM_addToLog, .initialized yxM_addToLog.cls] : List Cond), w ∈ big := big_ps [483, 485, 17, 60] _ (by decide +kernel) rfl
theorem kw_xM_205 : ∀ w ∈ ([.methodLink RxM 205 yxH_origin, .instanceMethod yxH_origin, .selects yxH_origin.cls yxH_origin yxH_origin, .initialized yxH_origin.cls] : List Cond), w ∈ big := big_ps [491, 492, 493, 62] _ (by decide +kernel) rfl
theorem kF_xP_19 : Cond.fieldLink RxP 19 "ThrowScenario$Program" "size" "I" ∈ big := big_at 110 (by decide +kernel) rfl
theorem kF_xP_11 : Cond.fieldLink RxP 11 "ThrowScenario$Program" "nodes" "[LThrowScenario$Node;" ∈ big := big_at 108 (by decide +kernel) rfl
theorem kF_xP_15 : Cond.fieldLink RxP 15 "ThrowScenario$Program" "statements" "[I" ∈ big := big_at 109 (by decide +kernel) rfl
theorem kw_xP_34 : ∀ w ∈ ([.methodLink RxP 34 yxP_isRoutine, .static yxP_isRoutine, .initialized yxP_isRoutine.cls] : List Cond), w ∈ big := big_ps [307, 308, 54] _ (by decide +kernel) rfl
theorem kw_xP_38 : ∀ w ∈ ([.methodLink RxP 38 yxP_isVariable, .static yxP_isVariable, .initialized yxP_isVariable.cls] : List Cond), w ∈ big := big_ps [300, 301, 54] _ (by decide +kernel) rfl
theorem kw_xP_41 : ∀ w ∈ ([.methodLink RxP 41 yxP_isNode, .instanceMethod yxP_isNode, .selects yxP_isNode.cls yxP_isNode yxP_isNode, .initialized yxP_isNode.cls] : List Cond), w ∈ big := big_ps [303, 304, 305, 54] _ (by decide +kernel) rfl
theorem kF_xP_23 : Cond.fieldLink RxP 23 "ThrowScenario$Program" "classes" "LThrowScenario$Classes;" ∈ big := big_at 107 (by decide +kernel) rfl
theorem kw_xP_44 : ∀ w ∈ ([.methodLink RxP 44 yxC_has, .instanceMethod yxC_has, .selects yxC_has.cls yxC_has yxC_has, .initialized yxC_has.cls] : List Cond), w ∈ big := big_ps [310, 281, 282, 52] _ (by decide +kernel) rfl
theorem kw_xP_49 : ∀ w ∈ ([.methodLink RxP 49 yxP_isMonitor, .static yxP_isMonitor, .initialized yxP_isMonitor.cls] : List Cond), w ∈ big := big_ps [311, 312, 54] _ (by decide +kernel) rfl
theorem kw_xP_52 : ∀ w ∈ ([.methodLink RxP 52 yxP_levelAt, .instanceMethod yxP_levelAt, .selects yxP_levelAt.cls yxP_levelAt yxP_levelAt, .initialized yxP_levelAt.cls] : List Cond), w ∈ big := big_ps [318, 320, 0, 54] _ (by decide +kernel) rfl
theorem kM_xP_56 : Cond.methodLink RxP 56 Lib.Math.max.name ∈ big ∧ Cond.static Lib.Math.max.name ∈ big ∧ Cond.initialized "java/lang/Math" ∈ big ∧ Cond.code Lib.Math.max.name Lib.Math.max.code 2 (some .int) ∈ big := ⟨big_at 322 (by decide +kernel) rfl, big_at 169 (by decide +kernel) rfl, big_at 61 (by decide +kernel) rfl, big_at 170 (by decide +kernel) rfl⟩
theorem kF_xP_62 : Cond.fieldLink RxP 62 "ThrowScenario$Node" "level" "I" ∈ big := big_at 346 (by decide +kernel) rfl
theorem kF_xH_7 : Cond.fieldLink RxH 7 "ThrowScenario$Thrown" "type" "I" ∈ big := big_at 182 (by decide +kernel) rfl
theorem kF_xH_13 : Cond.fieldLink RxH 13 "ThrowScenario$Thrown" "message" "I" ∈ big := big_at 186 (by decide +kernel) rfl
theorem kF_xH_16 : Cond.fieldLink RxH 16 "ThrowScenario$Thrown" "cause" "LThrowScenario$Thrown;" ∈ big := big_at 189 (by decide +kernel) rfl
theorem kF_xH_20 : Cond.fieldLink RxH 20 "ThrowScenario$Thrown" "suppressed" "I" ∈ big := big_at 192 (by decide +kernel) rfl
theorem kc_xC_has : Cond.code yxC_has cxC_has 2 (some .boolean) ∈ big := big_at 283 rfl rfl
theorem kc_xC_is : Cond.code yxC_is cxC_is 5 (some .boolean) ∈ big := big_at 447 rfl rfl
theorem kc_xM_addToLog : Cond.code yxM_addToLog cxM_addToLog 2 none ∈ big := big_at 486 rfl rfl
theorem kc_xM_call : Cond.code yxM_call cxM_call 4 (some (.object "ThrowScenario$Way")) ∈ big := big_at 426 rfl rfl
theorem kc_xM_carry : Cond.code yxM_carry cxM_carry 3 (some (.object "ThrowScenario$Way")) ∈ big := big_at 460 rfl rfl
theorem kc_xM_cast : Cond.code yxM_cast cxM_cast 3 (some (.object "ThrowScenario$Way")) ∈ big := big_at 478 rfl rfl
theorem kc_xM_choose : Cond.code yxM_choose cxM_choose 5 (some (.object "ThrowScenario$Way")) ∈ big := big_at 416 rfl rfl
theorem kc_xM_divide : Cond.code yxM_divide cxM_divide 3 (some (.object "ThrowScenario$Way")) ∈ big := big_at 470 rfl rfl
theorem kc_xM_doBoth : Cond.code yxM_doBoth cxM_doBoth 9 (some (.object "ThrowScenario$Way")) ∈ big := big_at 452 rfl rfl
theorem kc_xM_index : Cond.code yxM_index cxM_index 4 (some (.object "ThrowScenario$Way")) ∈ big := big_at 474 rfl rfl
theorem kc_xM_lock : Cond.code yxM_lock cxM_lock 5 (some (.object "ThrowScenario$Way")) ∈ big := big_at 456 rfl rfl
theorem kc_xM_loop : Cond.code yxM_loop cxM_loop 6 (some (.object "ThrowScenario$Way")) ∈ big := big_at 420 rfl rfl
theorem kc_xM_mayBegin : Cond.code yxM_mayBegin cxM_mayBegin 1 (some .boolean) ∈ big := big_at 399 rfl rfl
theorem kc_xM_note : Cond.code yxM_note cxM_note 3 (some (.object "ThrowScenario$Way")) ∈ big := big_at 490 rfl rfl
theorem kc_xM_perform : Cond.code yxM_perform cxM_perform 5 (some (.object "ThrowScenario$Way")) ∈ big := big_at 395 rfl rfl
theorem kc_xM_raise : Cond.code yxM_raise cxM_raise 4 (some (.object "ThrowScenario$Way")) ∈ big := big_at 431 rfl rfl
theorem kc_xM_rethrow : Cond.code yxM_rethrow cxM_rethrow 2 (some (.object "ThrowScenario$Way")) ∈ big := big_at 466 rfl rfl
theorem kc_xM_sequence : Cond.code yxM_sequence cxM_sequence 5 (some (.object "ThrowScenario$Way")) ∈ big := big_at 410 rfl rfl
theorem kc_xM_tryAndCatch : Cond.code yxM_tryAndCatch cxM_tryAndCatch 5 (some (.object "ThrowScenario$Way")) ∈ big := big_at 443 rfl rfl
theorem kc_xM_wake : Cond.code yxM_wake cxM_wake 2 (some (.object "ThrowScenario$Way")) ∈ big := big_at 482 rfl rfl
theorem kc_xP_at : Cond.code yxP_at cxP_at 2 (some (.object "ThrowScenario$Node")) ∈ big := big_at 406 rfl rfl
theorem kc_xP_isDefined : Cond.code yxP_isDefined cxP_isDefined 2 (some .boolean) ∈ big := big_at 379 rfl rfl
theorem kc_xP_isMonitor : Cond.code yxP_isMonitor cxP_isMonitor 1 (some .boolean) ∈ big := big_at 313 rfl rfl
theorem kc_xP_isNode : Cond.code yxP_isNode cxP_isNode 2 (some .boolean) ∈ big := big_at 306 rfl rfl
theorem kc_xP_isRoutine : Cond.code yxP_isRoutine cxP_isRoutine 1 (some .boolean) ∈ big := big_at 309 rfl rfl
theorem kc_xP_isVariable : Cond.code yxP_isVariable cxP_isVariable 1 (some .boolean) ∈ big := big_at 302 rfl rfl
theorem kc_xP_levelAt : Cond.code yxP_levelAt cxP_levelAt 2 (some .int) ∈ big := big_at 321 rfl rfl
theorem kc_xP_statementOf : Cond.code yxP_statementOf cxP_statementOf 2 (some .int) ∈ big := big_at 391 rfl rfl
theorem kc_xH_become : Cond.code yxH_become cxH_become 4 none ∈ big := big_at 435 rfl rfl
theorem kc_xH_origin : Cond.code yxH_origin cxH_origin 2 (some (.object "ThrowScenario$Thrown")) ∈ big := big_at 494 rfl rfl
theorem in_xC : ∀ w ∈ u_ws RxC TxC 2, w ∈ big := big_ps [93, 95] _ (by decide +kernel) (by decide +kernel)
theorem in_xM : ∀ w ∈ u_ws RxM TxM 15, w ∈ big := big_ps [220, 222, 224, 226, 228, 230, 232, 234, 236, 238, 240, 242, 244, 246, 248] _ (by decide +kernel) (by decide +kernel)
theorem in_xN : ∀ w ∈ u_ws RxN TxN 5, w ∈ big := big_ps [347, 349, 351, 353, 355] _ (by decide +kernel) (by decide +kernel)
theorem in_xP : ∀ w ∈ u_ws RxP TxP 4, w ∈ big := big_ps [111, 113, 115, 117] _ (by decide +kernel) (by decide +kernel)
theorem in_xH : ∀ w ∈ u_ws RxH TxH 4, w ∈ big := big_ps [196, 198, 200, 202] _ (by decide +kernel) (by decide +kernel)
end
section
/-- the globals: classes' numbers and slots; where the law's own cells begin; array classes; the enum's constants; texts and their bytes -/
abbrev Gm : Type := va_G × Nat × (Nat → ClassId) × (Nat → Nat) × (Nat → Nat) × (Nat → Nat)
def AA (Γ : Gm) : Nat → Prop := fun q => Γ.2.1 ≤ q
def tyG (Γ : Gm) : List (ClassId × FieldType) := [(Γ.2.2.1 0, .int), (Γ.2.2.1 1, .object "ThrowScenario$Node"), (Γ.2.2.1 2, .object "ThrowScenario$Thrown"), (Γ.2.2.1 3, .byte), (Γ.2.2.1 4, .long)]
abbrev wayN : List String := ["NORMALLY", "BREAK", "RETURN", "THROWING", "EXIT", "TIRING"]
abbrev wayF : List (String × String × String × List Int32) := [("ThrowScenario$Way", "endsRun", "Z", [0, 0, 0, 0, 1, 1])]
def GY (_ : Gm) (_ : State) (_ : Heap) : Prop := True
def GX (Γ : Gm) (U : State) (H : Heap) : Prop := Γ.2.1 ≤ H.size ∧ va_K Γ.1 vwCl (tyG Γ) U ∧ va_En "ThrowScenario$Way" "LThrowScenario$Way;" wayN wayF Γ.2.2.2.1 (AA Γ) U H ∧ GY Γ U H
theorem GX_K {Γ : Gm} {U : State} {H : Heap} (h : GX Γ U H) : va_K Γ.1 vwCl (tyG Γ) U := h.2.1
theorem GX_E {Γ : Gm} {U : State} {H : Heap} (h : GX Γ U H) : va_En "ThrowScenario$Way" "LThrowScenario$Way;" wayN wayF Γ.2.2.2.1 (AA Γ) U H := h.2.2.1
theorem GX_same {Γ : Gm} {u U : State} {H : Heap} (hv : U.vm = u.vm) (h : GX Γ u H) : GX Γ U H := by
  have ha : u.vm.Alike U.vm := by rw [hv]; exact Vm.Alike.refl _
  exact ⟨h.1, va_K.moved ha h.2.1, va_En.moved ha h.2.2.1, h.2.2.2⟩
theorem GX_warm {Γ : Gm} {s U : State} {H : Heap} (hW : s.WarmedH U.vm) (h : GX Γ s H) : GX Γ U H :=
  ⟨h.1, va_K.moved hW.alike h.2.1, va_En.moved hW.alike h.2.2.1, h.2.2.2⟩
theorem GX_kept {Γ : Gm} {s : State} {H : Heap} {locs : List Loc} (h : GX Γ s s.heap) (hS : va_S (AA Γ) s.heap H locs) : GX Γ s H :=
  ⟨Nat.le_trans h.1 hS.1, h.2.1, va_En.kept h.2.2.1 hS.2.1, h.2.2.2⟩
theorem GX_A {Γ : Gm} {s : State} (h : GX Γ s s.heap) : ∀ q, s.heap.size ≤ q → AA Γ q := fun q hq => Nat.le_trans h.1 hq
/-! pools: n cells in a row of the world, told by their place -/
def uu (R : Nat → Nat → Int32) (a i : Nat) (v : Int32) : Nat → Nat → Int32 := fun b => if b = a then upd (R a) i v else R b
def pz (n : Nat) (f : Nat → Nat × va_E) : va_W := (List.range n).map f
theorem pz_len {n : Nat} {f : Nat → Nat × va_E} : (pz n f).length = n := by simp [pz]
theorem pz_at {n i : Nat} {f : Nat → Nat × va_E} (h : i < n) : (pz n f)[i]? = some (f i) := by simp [pz, h]
theorem pz_congr {n : Nat} {f g : Nat → Nat × va_E} (h : ∀ i, i < n → f i = g i) : pz n f = pz n g := List.map_congr_left (fun i hi => h i (List.mem_range.mp hi))
theorem pz_get {X Y : va_W} {n i k : Nat} {f : Nat → Nat × va_E} (hk : X.length = k) (h : i < n) : (X ++ (pz n f ++ Y))[k + i]? = some (f i) := by
  subst hk
  rw [List.getElem?_append_right (Nat.le_add_right _ _), Nat.add_sub_cancel_left, List.getElem?_append_left (by rw [pz_len]; exact h)]
  exact pz_at h
theorem pz_setp {n i : Nat} {f : Nat → Nat × va_E} {v : Nat × va_E} : (pz n f).set i v = pz n (fun j => if j = i then v else f j) := by
  apply List.ext_getElem?
  intro j
  rw [List.getElem?_set]
  by_cases hj : j < n
  · rw [pz_at hj, pz_at hj]
    by_cases e : i = j
    · subst e
      simp [pz_len, hj]
    · rw [if_neg e, if_neg (fun z => e z.symm)]
  · have h1 : (pz n f)[j]? = none := List.getElem?_eq_none (by rw [pz_len]; omega)
    have h2 : (pz n (fun j => if j = i then v else f j))[j]? = none := List.getElem?_eq_none (by rw [pz_len]; omega)
    rw [h1, h2]
    by_cases e : i = j
    · subst e
      simp [pz_len, hj]
    · rw [if_neg e]
theorem pz_set {X Y : va_W} {n i k : Nat} {f g : Nat → Nat × va_E} {v : Nat × va_E} (hk : X.length = k) (h : i < n) (hg : ∀ j, j < n → g j = if j = i then v else f j) : (X ++ (pz n f ++ Y)).set (k + i) v = X ++ (pz n g ++ Y) := by
  subst hk
  rw [List.set_append_right _ _ (Nat.le_add_right _ _), Nat.add_sub_cancel_left, List.set_append_left _ _ (by rw [pz_len]; exact h), pz_setp]
  rw [pz_congr (fun j hj => (hg j hj).symm)]
theorem uu_same {R : Nat → Nat → Int32} {a i : Nat} {v : Int32} : uu R a i v a i = v := by simp [uu, upd]
theorem uu_row {R : Nat → Nat → Int32} {a b i : Nat} {v : Int32} (h : b ≠ a) : uu R a i v b = R b := by simp [uu, h]
theorem uu_other {R : Nat → Nat → Int32} {a i j : Nat} {v : Int32} (h : j ≠ i) : uu R a i v a j = R a j := by simp [uu, upd, h]
theorem va_rf_cat {r : Option Nat} : (va_rf r).category = 1 := by cases r <;> rfl
/-! base rows: globals, worlds with a frame, one form of contract for all methods -/
def HS (Γ : Gm) (s : State) (W0 : va_W) (H : Heap) (locs : List Loc) : Prop := va_P Γ.1 vwCl W0 H ∧ va_D (AA Γ) W0 ∧ va_S (AA Γ) s.heap H locs
def PM (Γ : Gm) (as : List Value) (W0 : va_W) : Array Value → State → Prop := fun a U => a = as.toArray ∧ GX Γ U U.heap ∧ va_P Γ.1 vwCl W0 U.heap ∧ va_D (AA Γ) W0
def QM (Γ : Gm) (K : Option Value → va_W → Prop) : Array Value → State → Outcome → State → Prop := fun _ st oc t => ∃ (v : Option Value) (W1 : va_W), K v W1 ∧ oc = .returned v ∧ va_P Γ.1 vwCl W1 t.heap ∧ va_D (AA Γ) W1 ∧ va_F (AA Γ) st t
/-- one answer, one world -/
abbrev KD (v : Option Value) (W1 : va_W) : Option Value → va_W → Prop := fun v' W' => v' = v ∧ W' = W1
abbrev MM (l : Launch) (y : MethodName) (cc : ByteArray) (n : Nat) (ret : Option FieldType) (fr lo : Nat) (Γ : Gm) (as : List Value) (W0 : va_W) (K : Option Value → va_W → Prop) (mc ms : Nat) : Prop :=
  Met l y (wz y cc n ret) { frames := fr, cells := mc, slots := ms, locals := lo } (PM Γ as W0) (QM Γ K) mc ms (AA Γ)
theorem PM_blind {Γ : Gm} {as : List Value} {W0 : va_W} : FrameBlind (PM Γ as W0) := fun a U g mk h =>
  ⟨h.1, GX_same (u := U) (U := U.calling g mk a) rfl h.2.1, h.2.2.1, h.2.2.2⟩
section ZB
variable {p : Program} {l : Launch} {e : Env} {R : Room} {s : State} {m : MethodId} {args : Array Value} {below : List Frame} {meth : Method} {c : Code} {H : Heap} {locs : List Loc} {cells slots : Nat} {Q : State → Prop}
variable {cc : ByteArray} {nL : Nat} {own : String} {pc : Nat} {ls : Array Slot} {rest : List Value} {Γ : Gm} {W0 : va_W} {a : Nat}
theorem HS_pre {U : State} {as : List Value} (hG : GX Γ s s.heap) (h : HS Γ s W0 H locs) (hU : U.heap = H) (hW : s.WarmedH U.vm) : PM Γ as W0 as.toArray U := by
  refine ⟨rfl, ?_, by rw [hU]; exact h.1, h.2.1⟩
  rw [hU]
  exact GX_warm hW (GX_kept hG h.2.2)
/-- a method's contract out of the walk of its body -/
theorem MM_of {y : MethodName} {n : Nat} {ret : Option FieldType} {fr lo mc ms : Nat} {as : List Value} {K : Option Value → va_W → Prop} (hy : plainName y.cls = true) (hsl : (lg_sl as).length ≤ n)
    (body : ∀ (p : Program) (e : Env) (s : State) (m : MethodId) (below : List Frame) (meth : Method) (c : Code), CallFix p m c cc n s as.toArray big y.cls → meth.sig.returnType = ret → meth.locks = false → meth.name = y.name → GX Γ s s.heap → HS Γ s W0 s.heap [] → ∀ ls : Array Slot, lv_has ls n (lv_args 0 as) →
      W p l e { frames := fr, cells := mc, slots := ms, locals := lo } s m as.toArray below meth c s.heap [] 0 0 (MQ below (QM Γ K) as.toArray s mc ms (AA Γ)) (F0 m 0 ls [])) :
    MM l y cc n ret fr lo Γ as W0 K mc ms := by
  refine Met.ofW (cc := cc) (maxL := n) (ret := ret) hy rfl ?_
  intro p e s m args below meth c s₁ B hml hv
  obtain ⟨rfl, hG, hP, hD⟩ := hv
  have hts := atoms_spec (ws := wz y cc n ret) B.pre
  have hown : s.vm.findClass y.cls = some m.cls := findClass_of_methodNamed B.named
  have hl := lv_entry as (n := n) hsl
  rw [lg_entry_eq]
  exact body p e s m below meth c ⟨B.exec, B.bytes, hml, hown, fun w hw => hts w (List.mem_cons_of_mem _ hw)⟩ B.returns B.notSynchronized (name_of_methodNamed B.named B.method).1 hG ⟨hP, hD, va_S.rf⟩ _ hl
theorem z_iret {K : Option Value → va_W → Prop} {v : Int32} (X : CallFix p m c cc nL s args big own) (hr : meth.sig.returnType = some .int) (hlk : meth.locks = false) (h : HS Γ s W0 H locs) (hK : K (some (.int v)) W0) (hdg : decode cc pc = .ok (.ireturn, 1)) :
    W p l e R s m args below meth c H locs cells slots (MQ below (QM Γ K) args s cells slots (AA Γ)) (F0 m pc ls [.int v]) :=
  W.iret X.1 X.2.1 hr (fun t ht _ => ⟨_, _, hK, rfl, by rw [ht]; exact h.1, h.2.1, h.2.2.F ht⟩) h.2.2.2.2 hdg hlk
theorem z_zret {K : Option Value → va_W → Prop} {v : Int32} (X : CallFix p m c cc nL s args big own) (hr : meth.sig.returnType = some .boolean) (hlk : meth.locks = false) (h : HS Γ s W0 H locs) (hn : narrow .boolean (.int v) = .int v) (hK : K (some (.int v)) W0) (hdg : decode cc pc = .ok (.ireturn, 1)) :
    W p l e R s m args below meth c H locs cells slots (MQ below (QM Γ K) args s cells slots (AA Γ)) (F0 m pc ls [.int v]) :=
  W.zret X.1 X.2.1 hr hn (fun t ht _ => ⟨_, _, hK, rfl, by rw [ht]; exact h.1, h.2.1, h.2.2.F ht⟩) h.2.2.2.2 hdg hlk
theorem z_lret {K : Option Value → va_W → Prop} {v : Int64} (X : CallFix p m c cc nL s args big own) (hr : meth.sig.returnType = some .long) (hlk : meth.locks = false) (h : HS Γ s W0 H locs) (hK : K (some (.long v)) W0) (hdg : decode cc pc = .ok (.lreturn, 1)) :
    W p l e R s m args below meth c H locs cells slots (MQ below (QM Γ K) args s cells slots (AA Γ)) (F0 m pc ls [.long v]) :=
  W.lret X.1 X.2.1 hr (fun t ht _ => ⟨_, _, hK, rfl, by rw [ht]; exact h.1, h.2.1, h.2.2.F ht⟩) h.2.2.2.2 hdg hlk
theorem z_vret {K : Option Value → va_W → Prop} (X : CallFix p m c cc nL s args big own) (hr : meth.sig.returnType = none) (hlk : meth.locks = false) (h : HS Γ s W0 H locs) (hK : K none W0) (hdg : decode cc pc = .ok (.return_, 1)) :
    W p l e R s m args below meth c H locs cells slots (MQ below (QM Γ K) args s cells slots (AA Γ)) (F0 m pc ls []) :=
  W.vret X.1 X.2.1 hr (fun t ht _ => ⟨_, _, hK, rfl, by rw [ht]; exact h.1, h.2.1, h.2.2.F ht⟩) h.2.2.2.2 hdg hlk
theorem z_aret {K : Option Value → va_W → Prop} {v : Value} {n : String} (X : CallFix p m c cc nL s args big own) (hr : meth.sig.returnType = some (.object n)) (hlk : meth.locks = false) (h : HS Γ s W0 H locs) (hv : v = .null ∨ ∃ a, v = .ref a) (hK : K (some v) W0) (hdg : decode cc pc = .ok (.areturn, 1)) :
    W p l e R s m args below meth c H locs cells slots (MQ below (QM Γ K) args s cells slots (AA Γ)) (F0 m pc ls [v]) :=
  W.aret X.1 X.2.1 hr (Or.inl ⟨_, rfl⟩) hv (fun t ht _ => ⟨_, _, hK, rfl, by rw [ht]; exact h.1, h.2.1, h.2.2.F ht⟩) h.2.2.2.2 hdg hlk
/-- what a call leaves -/
theorem z_back {K : Option Value → va_W → Prop} {mc ms : Nat} {st0 : List Value} {av : Array Value} (h : HS Γ s W0 H locs) (hr : va_Run p l e R s m args below meth c H locs cells slots mc ms (F0 m pc ls st0) rest (QM Γ K av) (AA Γ))
    (kk : ∀ (v : Option Value) (W1 : va_W), K v W1 → ∀ (H1 : Heap) (locs1 : List Loc), HS Γ s W1 H1 locs1 → W p l e R s m args below meth c H1 locs1 (cells + mc) (slots + ms) Q (F0 m (pc + 3) ls (v.toList ++ rest))) :
    W p l e R s m args below meth c H locs cells slots Q (F0 m pc ls st0) := by
  intro T hT X
  obtain ⟨v, st₀, t, T', L, h0, X', hL, e1, e2, ⟨v1, W1, hK, hv, hP, hD, hz, hk⟩, st⟩ := hr T hT X
  cases hv
  rw [h0] at hz hk
  have hS := h.2.2
  obtain ⟨t2, a1, b1⟩ := kk v W1 hK T'.heap (locs ++ L) ⟨by rw [e1]; exact hP, hD, Nat.le_trans hS.1 (by rw [e1]; exact hz), fun q h1 h2 => by rw [e1, hk q (Nat.lt_of_lt_of_le h1 hS.1) h2]; exact hS.2.1 q h1 h2, fun q hq => by
      rcases List.mem_append.mp hq with h | h
      · exact hS.2.2 q h
      · exact hL q h⟩ T' rfl X'
  exact ⟨t2, st t2 a1, b1⟩
/-- invokevirtual of a method with a contract; the receiver stands at place q0 of the world -/
theorem z_callV {y : MethodName} {bytes : ByteArray} {maxL n index fr lo mc ms ci q0 : Nat} {ret : Option FieldType} {q : vw_C} {fs As : List Value} {K : Option Value → va_W → Prop}
    (X : CallFix p m c cc nL s args big own) (hG : GX Γ s s.heap) (h : HS Γ s W0 H locs) (hls : ls.size = nL)
    (hM : MM l y bytes maxL ret fr lo Γ (.ref a :: As) W0 K mc ms)
    (hw : ∀ w ∈ ([.methodLink own index y, .instanceMethod y, .selects y.cls y y, .initialized y.cls] : List Cond), w ∈ big) (hcode : Cond.code y bytes maxL ret ∈ big)
    (hd : y.cls ≠ "java/lang/invoke/MethodHandle" ∧ y.cls ≠ "java/lang/invoke/VarHandle" ∧ (parseMethodDescriptor y.desc).map (fun d => d.parameters.length) = some n)
    (hR : fr + 1 ≤ R.frames ∧ 8 + (maxL + 11) + lo ≤ R.locals) (hc : vwCl[ci]? = some q) (hq : q.1 = y.cls) (he : W0[q0]? = some (a, .inr (ci, fs))) (hn : As.length = n)
    (hW : (rest.map fun v => v.category).sum ≤ 8) (hdg : decode cc pc = .ok (.invokevirtual index, 3)) (hf : cells + mc ≤ R.cells ∧ slots + ms ≤ R.slots)
    (kk : ∀ (v : Option Value) (W1 : va_W), K v W1 → ∀ (H1 : Heap) (locs1 : List Loc), HS Γ s W1 H1 locs1 → W p l e R s m args below meth c H1 locs1 (cells + mc) (slots + ms) Q (F0 m (pc + 3) ls (v.toList ++ rest))) :
    W p l e R s m args below meth c H locs cells slots Q (F0 m pc ls (As.reverse ++ .ref a :: rest)) := by
  have hrc : ∃ cell : Cell, H[a]? = some cell ∧ cell.vm.isStatics = false ∧ s.vm.findClass y.cls = some cell.cls := by
    rw [← hq]; exact va_recv (GX_K hG) h.1 hc he
  refine z_back h (va_runV (g := F0 m pc ls (As.reverse ++ .ref a :: rest)) (As := As) (b := a) (C := y.cls) X hM (cwV n X.2.2.2.2 (big_GoodIn ?_) rfl rfl rfl ⟨rfl, hd⟩ hR) ⟨PM_blind, hrc, fun U hU hWm => HS_pre hG h hU hWm⟩ rfl hn hls rfl (lv_room hW) hdg hf) kk
  intro w hw1
  rcases List.mem_append.mp hw1 with h1 | h1
  · exact hw w h1
  · exact wz_in hcode w h1
/-- invokevirtual of a nest mate's private method -/
theorem z_callVN {y : MethodName} {bytes : ByteArray} {maxL n index fr lo mc ms ci q0 : Nat} {ret : Option FieldType} {host : String} {q : vw_C} {fs As : List Value} {K : Option Value → va_W → Prop}
    (X : CallFix p m c cc nL s args big own) (hG : GX Γ s s.heap) (h : HS Γ s W0 H locs) (hls : ls.size = nL)
    (hM : MM l y bytes maxL ret fr lo Γ (.ref a :: As) W0 K mc ms)
    (hw : ∀ w ∈ ([.instanceMethod y, .selects y.cls y y, .initialized y.cls] : List Cond), w ∈ big) (hnw : va_Nw (.methodLinkNest own index y host) s) (hcode : Cond.code y bytes maxL ret ∈ big)
    (hd : y.cls ≠ "java/lang/invoke/MethodHandle" ∧ y.cls ≠ "java/lang/invoke/VarHandle" ∧ (parseMethodDescriptor y.desc).map (fun d => d.parameters.length) = some n)
    (hR : fr + 1 ≤ R.frames ∧ 8 + (maxL + 11) + lo ≤ R.locals) (hc : vwCl[ci]? = some q) (hq : q.1 = y.cls) (he : W0[q0]? = some (a, .inr (ci, fs))) (hn : As.length = n)
    (hW : (rest.map fun v => v.category).sum ≤ 8) (hdg : decode cc pc = .ok (.invokevirtual index, 3)) (hf : cells + mc ≤ R.cells ∧ slots + ms ≤ R.slots)
    (kk : ∀ (v : Option Value) (W1 : va_W), K v W1 → ∀ (H1 : Heap) (locs1 : List Loc), HS Γ s W1 H1 locs1 → W p l e R s m args below meth c H1 locs1 (cells + mc) (slots + ms) Q (F0 m (pc + 3) ls (v.toList ++ rest))) :
    W p l e R s m args below meth c H locs cells slots Q (F0 m pc ls (As.reverse ++ .ref a :: rest)) := by
  have hrc : ∃ cell : Cell, H[a]? = some cell ∧ cell.vm.isStatics = false ∧ s.vm.findClass y.cls = some cell.cls := by
    rw [← hq]; exact va_recv (GX_K hG) h.1 hc he
  have ok := fun w hw1 => X.2.2.2.2 w (hw w hw1)
  exact z_back h (va_runVN (g := F0 m pc ls (As.reverse ++ .ref a :: rest)) (As := As) (b := a) (C := y.cls) X hM ⟨va_cnB n X.2.2.2.2 (big_GoodIn (wz_in hcode)) rfl rfl rfl hnw (ok _ (by simp)) hd hR, ok _ (by simp), ok _ (by simp)⟩ ⟨PM_blind, hrc, fun U hU hWm => HS_pre hG h hU hWm⟩ rfl hn hls rfl (lv_room hW) hdg hf) kk
/-- invokestatic of a method of any class -/
theorem z_callS {y : MethodName} {bytes : ByteArray} {maxL n index fr lo mc ms : Nat} {ret : Option FieldType} {As : List Value} {K : Option Value → va_W → Prop}
    (X : CallFix p m c cc nL s args big own) (hG : GX Γ s s.heap) (h : HS Γ s W0 H locs) (hls : ls.size = nL)
    (hM : MM l y bytes maxL ret fr lo Γ As W0 K mc ms)
    (hw : ∀ w ∈ ([.methodLink own index y, .static y, .initialized y.cls] : List Cond), w ∈ big) (hcode : Cond.code y bytes maxL ret ∈ big)
    (hd : y.cls ≠ "java/lang/invoke/MethodHandle" ∧ y.cls ≠ "java/lang/invoke/VarHandle" ∧ (parseMethodDescriptor y.desc).map (fun d => d.parameters.length) = some n)
    (hR : fr + 1 ≤ R.frames ∧ 8 + (maxL + 11) + lo ≤ R.locals) (hn : As.length = n)
    (hW : (rest.map fun v => v.category).sum ≤ 8) (hdg : decode cc pc = .ok (.invokestatic index, 3)) (hf : cells + mc ≤ R.cells ∧ slots + ms ≤ R.slots)
    (kk : ∀ (v : Option Value) (W1 : va_W), K v W1 → ∀ (H1 : Heap) (locs1 : List Loc), HS Γ s W1 H1 locs1 → W p l e R s m args below meth c H1 locs1 (cells + mc) (slots + ms) Q (F0 m (pc + 3) ls (v.toList ++ rest))) :
    W p l e R s m args below meth c H locs cells slots Q (F0 m pc ls (As.reverse ++ rest)) := by
  have ok := fun w hw1 => X.2.2.2.2 w (hw w hw1)
  exact z_back h (va_runS (g := F0 m pc ls (As.reverse ++ rest)) (As := As) X hM ⟨callB_of n X.2.2.2.2 (big_GoodIn (wz_in hcode)) rfl rfl rfl (ok _ (by simp)) (ok _ (by simp)) hd hR, ok _ (by simp)⟩ ⟨PM_blind, fun U hU hWm => HS_pre hG h hU hWm⟩ rfl hn hls rfl (lv_room hW) hdg hf) kk
/-- invokespecial of a constructor -/
theorem z_callI {y : MethodName} {bytes : ByteArray} {maxL n index fr lo mc ms : Nat} {As : List Value} {K : Option Value → va_W → Prop}
    (X : CallFix p m c cc nL s args big own) (hG : GX Γ s s.heap) (h : HS Γ s W0 H locs) (hls : ls.size = nL)
    (hM : MM l y bytes maxL none fr lo Γ (.ref a :: As) W0 K mc ms)
    (hw : ∀ w ∈ ([.methodLink own index y, .instanceMethod y, .initialized y.cls] : List Cond), w ∈ big) (hcode : Cond.code y bytes maxL none ∈ big) (hy : y.name = "<init>")
    (hd : y.cls ≠ "java/lang/invoke/MethodHandle" ∧ y.cls ≠ "java/lang/invoke/VarHandle" ∧ (parseMethodDescriptor y.desc).map (fun d => d.parameters.length) = some n)
    (hR : fr + 1 ≤ R.frames ∧ 8 + (maxL + 11) + lo ≤ R.locals) (hn : As.length = n)
    (hW : (rest.map fun v => v.category).sum ≤ 8) (hdg : decode cc pc = .ok (.invokespecial index, 3)) (hf : cells + mc ≤ R.cells ∧ slots + ms ≤ R.slots)
    (kk : ∀ (v : Option Value) (W1 : va_W), K v W1 → ∀ (H1 : Heap) (locs1 : List Loc), HS Γ s W1 H1 locs1 → W p l e R s m args below meth c H1 locs1 (cells + mc) (slots + ms) Q (F0 m (pc + 3) ls (v.toList ++ rest))) :
    W p l e R s m args below meth c H locs cells slots Q (F0 m pc ls (As.reverse ++ .ref a :: rest)) := by
  have ok := fun w hw1 => X.2.2.2.2 w (hw w hw1)
  exact z_back h (va_runI (g := F0 m pc ls (As.reverse ++ .ref a :: rest)) (As := As) (b := a) X hM (cwI n X.2.2.2.2 (big_GoodIn (wz_in hcode)) rfl rfl rfl (ok _ (by simp)) (ok _ (by simp)) (ok _ (by simp)) hy hd hR) ⟨PM_blind, fun U hU hWm => HS_pre hG h hU hWm⟩ rfl hn hls rfl (lv_room hW) hdg hf) kk
/-- getfield -/
theorem z_get (X : CallFix p m c cc nL s args big own) (hG : GX Γ s s.heap) (h : HS Γ s W0 H locs) {ref C : String} {T : u_T} {N ci index : Nat} (hin : ∀ w ∈ u_ws C T N, w ∈ big) (q0 : Nat) {fs : List Value} (he : W0[q0]? = some (a, .inr (ci, fs))) (hc : vwCl[ci]? = some (C, T, N)) (k : Nat) (hk : k < N) (hT : (T k).1 = ref) (hlink : Cond.fieldLink own index ref (T k).2.1 (T k).2.2.1 ∈ big) {v : Value} (hv : fs[k]? = some v) (hdg : decode cc pc = .ok (.getfield index, 3))
    (kk : W p l e R s m args below meth c H locs cells slots Q (F0 m (pc + 3) ls (v :: rest))) : W p l e R s m args below meth c H locs cells slots Q (F0 m pc ls (.ref a :: rest)) :=
  va_get X.1 X.2.1 X.2.2.2.2 hin X.2.2.2.1 (GX_K hG) h.1 q0 he hc k hk (X.2.2.2.2 _ hlink) (fun x h9 => by rw [hT] at h9; exact h9) hv hdg kk
/-- putfield of a field that is not final -/
theorem z_put (X : CallFix p m c cc nL s args big own) (hG : GX Γ s s.heap) (h : HS Γ s W0 H locs) {ref C : String} {T : u_T} {N ci index : Nat} (hin : ∀ w ∈ u_ws C T N, w ∈ big) (ty0 : Nat → FieldType) (hty : ∀ k, k < N → parseFieldDescriptor (T k).2.2.1 = some (ty0 k)) (hnm : ∀ a, a < N → ∀ b, b < N → a ≠ b → (T a).2.1 ≠ (T b).2.1) (q0 : Nat) {fs : List Value} (he : W0[q0]? = some (a, .inr (ci, fs))) (hc : vwCl[ci]? = some (C, T, N)) (k : Nat) (hk : k < N) (hT : (T k).1 = ref) (hlink : Cond.fieldLink own index ref (T k).2.1 (T k).2.2.1 ∈ big) (hfin : (T k).2.2.2 = false) {v : Value} (hn : narrow (ty0 k) v = v) (hfit : fits (ty0 k) v = true) (hl : k < fs.length) (hdg : decode cc pc = .ok (.putfield index, 3))
    (kk : ∀ (H1 : Heap) (locs1 : List Loc), HS Γ s (W0.set q0 (a, .inr (ci, fs.set k v))) H1 locs1 → W p l e R s m args below meth c H1 locs1 cells slots Q (F0 m (pc + 3) ls rest)) : W p l e R s m args below meth c H locs cells slots Q (F0 m pc ls (v :: .ref a :: rest)) :=
  va_put X.1 X.2.1 X.2.2.2.2 hin ty0 hty hnm X.2.2.2.1 (GX_K hG) h.1 h.2.1 h.2.2 q0 he hc k hk (X.2.2.2.2 _ hlink) (fun x h9 => by rw [hT] at h9; exact h9) hfin (hty k hk) hn hfit hl hdg (fun H1 locs1 a1 a2 a3 => kk H1 locs1 ⟨a1, a2, a3⟩)
theorem z_putF (X : CallFix p m c cc nL s args big own) (hG : GX Γ s s.heap) (h : HS Γ s W0 H locs) {C : String} {T : u_T} {N ci index : Nat} (hin : ∀ w ∈ u_ws C T N, w ∈ big) (ty0 : Nat → FieldType) (hty : ∀ k, k < N → parseFieldDescriptor (T k).2.2.1 = some (ty0 k)) (hnm : ∀ a, a < N → ∀ b, b < N → a ≠ b → (T a).2.1 ≠ (T b).2.1) (q0 : Nat) {fs : List Value} (he : W0[q0]? = some (a, .inr (ci, fs))) (hc : vwCl[ci]? = some (C, T, N)) (k : Nat) (hk : k < N) (hT : (T k).1 = own) (hlink : Cond.fieldLink own index own (T k).2.1 (T k).2.2.1 ∈ big) (hfin : (T k).2.2.2 = true) (hin2 : meth.name = "<init>") {v : Value} (hn : narrow (ty0 k) v = v) (hfit : fits (ty0 k) v = true) (hl : k < fs.length) (hdg : decode cc pc = .ok (.putfield index, 3))
    (kk : ∀ (H1 : Heap) (locs1 : List Loc), HS Γ s (W0.set q0 (a, .inr (ci, fs.set k v))) H1 locs1 → W p l e R s m args below meth c H1 locs1 cells slots Q (F0 m (pc + 3) ls rest)) : W p l e R s m args below meth c H locs cells slots Q (F0 m pc ls (v :: .ref a :: rest)) :=
  va_putF X.1 X.2.1 X.2.2.2.2 hin ty0 hty hnm X.2.2.2.1 (GX_K hG) h.1 h.2.1 h.2.2 q0 he hc k hk (X.2.2.2.2 _ hlink) (fun x h9 => by rw [hT] at h9; exact h9) hfin hin2 hT (hty k hk) hn hfit hl hdg (fun H1 locs1 a1 a2 a3 => kk H1 locs1 ⟨a1, a2, a3⟩)
/-- int arrays of the world -/
theorem z_iald (X : CallFix p m c cc nL s args big own) (hG : GX Γ s s.heap) (h : HS Γ s W0 H locs) (q0 t0 : Nat) {cA : ClassId} {n : Nat} {f : Nat → Int32} (ha : W0[q0]? = some (a, .inl (cA, n, .inl f))) (ht : (tyG Γ)[t0]? = some (cA, .int)) {i : Int32} (hin : vp_in i n) (hdg : decode cc pc = .ok (.iaload, 1))
    (kk : W p l e R s m args below meth c H locs cells slots Q (F0 m (pc + 1) ls (.int (f i.toNatClampNeg) :: rest))) : W p l e R s m args below meth c H locs cells slots Q (F0 m pc ls (.int i :: .ref a :: rest)) :=
  va_iald X.1 X.2.1 (GX_K hG) h.1 q0 t0 ha ht hin hdg kk
theorem z_iast (X : CallFix p m c cc nL s args big own) (hG : GX Γ s s.heap) (h : HS Γ s W0 H locs) (q0 t0 : Nat) {cA : ClassId} {n : Nat} {f : Nat → Int32} (ha : W0[q0]? = some (a, .inl (cA, n, .inl f))) (ht : (tyG Γ)[t0]? = some (cA, .int)) {i x : Int32} (hin : vp_in i n) (hdg : decode cc pc = .ok (.iastore, 1))
    (kk : ∀ (H1 : Heap) (locs1 : List Loc), HS Γ s (W0.set q0 (a, .inl (cA, n, .inl (upd f i.toNatClampNeg x)))) H1 locs1 → W p l e R s m args below meth c H1 locs1 cells slots Q (F0 m (pc + 1) ls rest)) : W p l e R s m args below meth c H locs cells slots Q (F0 m pc ls (.int x :: .int i :: .ref a :: rest)) :=
  va_iast X.1 X.2.1 (GX_K hG) h.1 h.2.1 h.2.2 q0 t0 ha ht hin hdg (fun H1 locs1 a1 a2 a3 => kk H1 locs1 ⟨a1, a2, a3⟩)
theorem z_aald (X : CallFix p m c cc nL s args big own) (hG : GX Γ s s.heap) (h : HS Γ s W0 H locs) (q0 t0 : Nat) {cA : ClassId} {C : String} {n : Nat} {f : Nat → Option Nat} (ha : W0[q0]? = some (a, .inl (cA, n, .inr (.inr (.inr (.inr f)))))) (ht : (tyG Γ)[t0]? = some (cA, .object C)) {i : Int32} (hin : vp_in i n) (hdg : decode cc pc = .ok (.aaload, 1))
    (kk : W p l e R s m args below meth c H locs cells slots Q (F0 m (pc + 1) ls (va_rf (f i.toNatClampNeg) :: rest))) : W p l e R s m args below meth c H locs cells slots Q (F0 m pc ls (.int i :: .ref a :: rest)) :=
  va_aldq X.1 X.2.1 (GX_K hG) h.1 q0 t0 ha ht hin hdg kk
/-- locals that hold a reference or null -/
theorem z_aload_nQ {k : Fin 4} {i : Nat} {r : Option Nat} (X : CallFix p m c cc nL s args big own) (hdg : decode cc pc = .ok (.aload_n k, 1)) (hi : (k : Nat) = i) (hl : ls[i]? = some (.val (va_rf r))) (kk : W p l e R s m args below meth c H locs cells slots Q (F0 m (pc + 1) ls (va_rf r :: rest))) : W p l e R s m args below meth c H locs cells slots Q (F0 m pc ls rest) := by
  cases r with
  | none => exact lv_aload_nN X.1 X.2.1 hdg hi hl kk
  | some x => exact lv_aload_n X.1 X.2.1 hdg hi hl kk
theorem z_aloadQ {i : Nat} {r : Option Nat} (X : CallFix p m c cc nL s args big own) (hdg : decode cc pc = .ok (.aload i, 2)) (hl : ls[i]? = some (.val (va_rf r))) (kk : W p l e R s m args below meth c H locs cells slots Q (F0 m (pc + 2) ls (va_rf r :: rest))) : W p l e R s m args below meth c H locs cells slots Q (F0 m pc ls rest) := by
  cases r with
  | none => exact lv_aloadN X.1 X.2.1 hdg hl kk
  | some x => exact lv_aload X.1 X.2.1 hdg hl kk
theorem z_ifnullQ {r : Option Nat} {off : Int} {tgt : Nat} (X : CallFix p m c cc nL s args big own) (hdg : decode cc pc = .ok (.ifnull off, 3)) (ht : (pc : Int) + off = (tgt : Int)) (kt : r = none → W p l e R s m args below meth c H locs cells slots Q (F0 m tgt ls rest)) (kf : ∀ x, r = some x → W p l e R s m args below meth c H locs cells slots Q (F0 m (pc + 3) ls rest)) : W p l e R s m args below meth c H locs cells slots Q (F0 m pc ls (va_rf r :: rest)) := by
  cases r with
  | none => exact lv_ifnullN X.1 X.2.1 hdg ht (kt rfl)
  | some x => exact lv_ifnull X.1 X.2.1 hdg (kf x rfl)
theorem z_ifnonnullQ {r : Option Nat} {off : Int} {tgt : Nat} (X : CallFix p m c cc nL s args big own) (hdg : decode cc pc = .ok (.ifnonnull off, 3)) (ht : (pc : Int) + off = (tgt : Int)) (kt : ∀ x, r = some x → W p l e R s m args below meth c H locs cells slots Q (F0 m tgt ls rest)) (kf : r = none → W p l e R s m args below meth c H locs cells slots Q (F0 m (pc + 3) ls rest)) : W p l e R s m args below meth c H locs cells slots Q (F0 m pc ls (va_rf r :: rest)) := by
  cases r with
  | none => exact lv_ifnonnullN X.1 X.2.1 hdg (kf rfl)
  | some x => exact lv_ifnonnull X.1 X.2.1 hdg ht (kt x rfl)
end ZB
section ZQ
variable {p : Program} {l : Launch} {e : Env} {R : Room} {s : State} {m : MethodId} {args : Array Value} {below : List Frame} {meth : Method} {c : Code} {H : Heap} {locs : List Loc} {cells slots : Nat} {Q : State → Prop}
variable {cc : ByteArray} {nL : Nat} {own : String} {pc : Nat} {ls : Array Slot} {rest : List Value}
theorem z_astore_nQ {k : Fin 4} {i n : Nat} {r : Option Nat} {lv lv' : List (Nat × Value)} (X : CallFix p m c cc nL s args big own) (hdg : decode cc pc = .ok (.astore_n k, 1)) (hi : (k : Nat) = i) (h : lv_has ls n lv) (hn : i < n) (hl : (i, va_rf r) :: lv.filter (fun q => !(q.1 == i) && !(q.1 + 1 == i && q.2.category == 2)) = lv') (kk : ∀ ls' : Array Slot, lv_has ls' n lv' → W p l e R s m args below meth c H locs cells slots Q (F0 m (pc + 1) ls' rest)) : W p l e R s m args below meth c H locs cells slots Q (F0 m pc ls (va_rf r :: rest)) := by
  cases r with
  | none => exact lv_astore_nN X.1 X.2.1 hdg hi h hn hl kk
  | some x => exact lv_astore_n X.1 X.2.1 hdg hi h hn hl kk
theorem z_astoreQ {i n : Nat} {r : Option Nat} {lv lv' : List (Nat × Value)} (X : CallFix p m c cc nL s args big own) (hdg : decode cc pc = .ok (.astore i, 2)) (h : lv_has ls n lv) (hn : i < n) (hl : (i, va_rf r) :: lv.filter (fun q => !(q.1 == i) && !(q.1 + 1 == i && q.2.category == 2)) = lv') (kk : ∀ ls' : Array Slot, lv_has ls' n lv' → W p l e R s m args below meth c H locs cells slots Q (F0 m (pc + 2) ls' rest)) : W p l e R s m args below meth c H locs cells slots Q (F0 m pc ls (va_rf r :: rest)) := by
  cases r with
  | none => exact lv_astoreN X.1 X.2.1 hdg h hn hl kk
  | some x => exact lv_astore X.1 X.2.1 hdg h hn hl kk
end ZQ
end
section
/-- the run: registers and references -/
abbrev Sg : Type := (Nat → Nat → Int32) × (Nat → Option Nat)
abbrev Th : Type := (Nat → Nat) × (Nat → Nat)
/-- the program: node addresses, how many, registers; told; the bytes' address, the bytes, how many there is room for, how many are used -/
abbrev Rh : Type := (Nat → Nat) × Nat × (Nat → Nat → Int32) × Int64 × Nat × (Nat → Int32) × Nat × Nat
def sR (S : Sg) (a i : Nat) (v : Int32) : Sg := (uu S.1 a i v, S.2)
def sC (S : Sg) (i : Nat) (o : Option Nat) : Sg := (S.1, va_up S.2 i o)
def rP (ρ : Rh) (a i : Nat) (v : Int32) : Rh := (ρ.1, ρ.2.1, uu ρ.2.2.1 a i v, ρ.2.2.2)
def rL (ρ : Rh) (v : Int64) : Rh := (ρ.1, ρ.2.1, ρ.2.2.1, v, ρ.2.2.2.2)
def er (w : Nat) : Int32 := ([0, 0, 0, 0, 1, 1] : List Int32).getD w 0
def fxX (Γ : Gm) (θ : Th) (ρ : Rh) (S : Sg) : va_W := [(θ.1 0, .inr (0, [.ref (θ.1 1), .ref (θ.1 3), .ref (θ.1 11), .ref (θ.1 6), .int (ρ.2.2.1 7 2), .long ρ.2.2.2.1, va_rf (Option.map θ.2 (S.2 301)), va_rf (Option.map θ.2 (S.2 302))])),
  (θ.1 1, .inr (1, [.ref (θ.1 2), .int (ρ.2.2.1 7 0)])),
  (θ.1 2, .inl (Γ.2.2.1 0, 16, .inl (ρ.2.2.1 6))),
  (θ.1 3, .inr (2, [.ref (θ.1 1), .ref (θ.1 4), .ref (θ.1 5), .int (ρ.2.2.1 7 1)])),
  (θ.1 4, .inl (Γ.2.2.1 1, 64, .inr (.inr (.inr (.inr (fun j => if j < ρ.2.1 then some (ρ.1 j) else none)))))),
  (θ.1 5, .inl (Γ.2.2.1 0, 6, .inl (ρ.2.2.1 5))),
  (θ.1 6, .inr (3, [.ref (θ.1 3), .ref (θ.1 1), .int (ρ.2.2.1 7 3), .ref (θ.1 7), .ref (θ.1 8), .ref (θ.1 9), .ref (θ.1 10), .int (S.1 7 0), .int (S.1 7 1), .int (S.1 7 2), .int (S.1 7 3), .int (S.1 7 4), .int (S.1 7 5), .int (S.1 7 6), va_rf (Option.map θ.2 (S.2 300))])),
  (θ.1 7, .inl (Γ.2.2.1 0, 4, .inl (S.1 0))),
  (θ.1 8, .inl (Γ.2.2.1 0, 2, .inl (S.1 1))),
  (θ.1 9, .inl (Γ.2.2.1 0, 300, .inl (S.1 2))),
  (θ.1 10, .inl (Γ.2.2.1 2, 300, .inr (.inr (.inr (.inr (fun j => some (θ.2 j))))))),
  (θ.1 11, .inr (4, [.ref (θ.1 12)])),
  (θ.1 12, .inr (7, [.ref ρ.2.2.2.2.1, .int 0, .int 0, .int (nI ρ.2.2.2.2.2.2.2)])),
  (ρ.2.2.2.2.1, .inl (Γ.2.2.1 3, ρ.2.2.2.2.2.2.1, .inl ρ.2.2.2.2.2.1))]
def thX (θ : Th) (S : Sg) (j : Nat) : Nat × va_E := (θ.2 j, .inr (5, [.int (S.1 3 j), .int (S.1 4 j), va_rf (Option.map θ.2 (S.2 j)), .int (S.1 6 j)]))
def noX (ρ : Rh) (k : Nat) : Nat × va_E := (ρ.1 k, .inr (6, [.int (ρ.2.2.1 0 k), .int (ρ.2.2.1 1 k), .int (ρ.2.2.1 2 k), .int (ρ.2.2.1 3 k), .int (ρ.2.2.1 4 k)]))
def WX (Γ : Gm) (θ : Th) (ρ : Rh) (S : Sg) (Z : va_W) : va_W := fxX Γ θ ρ S ++ (pz 300 (thX θ S) ++ (pz ρ.2.1 (noX ρ) ++ Z))
theorem WX_thr {Γ : Gm} {θ : Th} {ρ : Rh} {S : Sg} {Z : va_W} {j : Nat} (h : j < 300) : (WX Γ θ ρ S Z)[14 + j]? = some (thX θ S j) := pz_get rfl h
theorem WX_node {Γ : Gm} {θ : Th} {ρ : Rh} {S : Sg} {Z : va_W} {k : Nat} (h : k < ρ.2.1) : (WX Γ θ ρ S Z)[314 + k]? = some (noX ρ k) := by
  unfold WX
  rw [← List.append_assoc]
  exact pz_get (by rw [List.length_append, pz_len]; rfl) h
theorem WX_set {Γ : Gm} {θ : Th} {ρ : Rh} {S S1 : Sg} {Z : va_W} {j : Nat} {v : Nat × va_E} (h : j < 300) (hf : fxX Γ θ ρ S1 = fxX Γ θ ρ S) (hg : ∀ i, thX θ S1 i = if i = j then v else thX θ S i) : (WX Γ θ ρ S Z).set (14 + j) v = WX Γ θ ρ S1 Z := by
  unfold WX
  rw [hf]
  exact pz_set rfl h (fun i _ => hg i)
def KK {ρ : Type} {σ : Type} (val : ρ → Option Value) (Wf : σ → va_W) (post : ρ → σ → Prop) : Option Value → va_W → Prop := fun v W1 => ∃ (r : ρ) (S : σ), v = val r ∧ W1 = Wf S ∧ post r S
theorem nz {v : Int32} (h : v = 0 ∨ v = 1) : narrow .boolean (.int v) = .int v := by rcases h with rfl | rfl <;> rfl
theorem sw_in {x : Int32} {lo : Int} {n : Nat} (h : ¬ (x.toInt < lo ∨ lo + n < x.toInt)) : ∃ j : Nat, j ≤ n ∧ x = Int32.ofInt (lo + j) := by
  refine ⟨(x.toInt - lo).toNat, by omega, ?_⟩
  rw [show lo + ((x.toInt - lo).toNat : Int) = x.toInt by omega]
  exact (Int32.ofInt_toInt x).symm
section XA
variable {p : Program} {l : Launch} {e : Env} {R : Room} {s : State} {m : MethodId} {args : Array Value} {below : List Frame} {meth : Method} {c : Code} {H : Heap} {locs : List Loc} {cells slots : Nat} {Q : State → Prop}
variable {cc : ByteArray} {nL : Nat} {pc : Nat} {ls : Array Slot} {rest : List Value} {Γ : Gm} {θ : Th} {ρ : Rh} {S : Sg} {Z : va_W}
variable {own : String}
theorem lx_2 (X : CallFix p m c cc nL s args big own) (hG : GX Γ s s.heap) (h : HS Γ s (WX Γ θ ρ S Z) H locs) {i : Int32} (hi : vp_in i 16) {x : Int32} (hx : ρ.2.2.1 6 i.toNatClampNeg = x) (hdg : decode cc pc = .ok (.iaload, 1)) (kk : W p l e R s m args below meth c H locs cells slots Q (F0 m (pc + 1) ls (.int x :: rest))) : W p l e R s m args below meth c H locs cells slots Q (F0 m pc ls (.int i :: .ref (θ.1 2) :: rest)) := by
  subst hx; exact z_iald X hG h 2 0 rfl rfl hi hdg kk
theorem sx_2 (X : CallFix p m c cc nL s args big own) (hG : GX Γ s s.heap) (h : HS Γ s (WX Γ θ ρ S Z) H locs) {i v : Int32} (hi : vp_in i 16) (hdg : decode cc pc = .ok (.iastore, 1)) (kk : ∀ (H1 : Heap) (locs1 : List Loc), HS Γ s (WX Γ θ (rP ρ 6 i.toNatClampNeg v) S Z) H1 locs1 → W p l e R s m args below meth c H1 locs1 cells slots Q (F0 m (pc + 1) ls rest)) : W p l e R s m args below meth c H locs cells slots Q (F0 m pc ls (.int v :: .int i :: .ref (θ.1 2) :: rest)) :=
  z_iast X hG h 2 0 rfl rfl hi hdg (fun H1 locs1 h1 => kk H1 locs1 h1)
theorem lx_5 (X : CallFix p m c cc nL s args big own) (hG : GX Γ s s.heap) (h : HS Γ s (WX Γ θ ρ S Z) H locs) {i : Int32} (hi : vp_in i 6) {x : Int32} (hx : ρ.2.2.1 5 i.toNatClampNeg = x) (hdg : decode cc pc = .ok (.iaload, 1)) (kk : W p l e R s m args below meth c H locs cells slots Q (F0 m (pc + 1) ls (.int x :: rest))) : W p l e R s m args below meth c H locs cells slots Q (F0 m pc ls (.int i :: .ref (θ.1 5) :: rest)) := by
  subst hx; exact z_iald X hG h 5 0 rfl rfl hi hdg kk
theorem sx_5 (X : CallFix p m c cc nL s args big own) (hG : GX Γ s s.heap) (h : HS Γ s (WX Γ θ ρ S Z) H locs) {i v : Int32} (hi : vp_in i 6) (hdg : decode cc pc = .ok (.iastore, 1)) (kk : ∀ (H1 : Heap) (locs1 : List Loc), HS Γ s (WX Γ θ (rP ρ 5 i.toNatClampNeg v) S Z) H1 locs1 → W p l e R s m args below meth c H1 locs1 cells slots Q (F0 m (pc + 1) ls rest)) : W p l e R s m args below meth c H locs cells slots Q (F0 m pc ls (.int v :: .int i :: .ref (θ.1 5) :: rest)) :=
  z_iast X hG h 5 0 rfl rfl hi hdg (fun H1 locs1 h1 => kk H1 locs1 h1)
theorem lx_7 (X : CallFix p m c cc nL s args big own) (hG : GX Γ s s.heap) (h : HS Γ s (WX Γ θ ρ S Z) H locs) {i : Int32} (hi : vp_in i 4) {x : Int32} (hx : S.1 0 i.toNatClampNeg = x) (hdg : decode cc pc = .ok (.iaload, 1)) (kk : W p l e R s m args below meth c H locs cells slots Q (F0 m (pc + 1) ls (.int x :: rest))) : W p l e R s m args below meth c H locs cells slots Q (F0 m pc ls (.int i :: .ref (θ.1 7) :: rest)) := by
  subst hx; exact z_iald X hG h 7 0 rfl rfl hi hdg kk
theorem sx_7 (X : CallFix p m c cc nL s args big own) (hG : GX Γ s s.heap) (h : HS Γ s (WX Γ θ ρ S Z) H locs) {i v : Int32} (hi : vp_in i 4) (hdg : decode cc pc = .ok (.iastore, 1)) (kk : ∀ (H1 : Heap) (locs1 : List Loc), HS Γ s (WX Γ θ ρ (sR S 0 i.toNatClampNeg v) Z) H1 locs1 → W p l e R s m args below meth c H1 locs1 cells slots Q (F0 m (pc + 1) ls rest)) : W p l e R s m args below meth c H locs cells slots Q (F0 m pc ls (.int v :: .int i :: .ref (θ.1 7) :: rest)) :=
  z_iast X hG h 7 0 rfl rfl hi hdg (fun H1 locs1 h1 => kk H1 locs1 h1)
theorem lx_8 (X : CallFix p m c cc nL s args big own) (hG : GX Γ s s.heap) (h : HS Γ s (WX Γ θ ρ S Z) H locs) {i : Int32} (hi : vp_in i 2) {x : Int32} (hx : S.1 1 i.toNatClampNeg = x) (hdg : decode cc pc = .ok (.iaload, 1)) (kk : W p l e R s m args below meth c H locs cells slots Q (F0 m (pc + 1) ls (.int x :: rest))) : W p l e R s m args below meth c H locs cells slots Q (F0 m pc ls (.int i :: .ref (θ.1 8) :: rest)) := by
  subst hx; exact z_iald X hG h 8 0 rfl rfl hi hdg kk
theorem sx_8 (X : CallFix p m c cc nL s args big own) (hG : GX Γ s s.heap) (h : HS Γ s (WX Γ θ ρ S Z) H locs) {i v : Int32} (hi : vp_in i 2) (hdg : decode cc pc = .ok (.iastore, 1)) (kk : ∀ (H1 : Heap) (locs1 : List Loc), HS Γ s (WX Γ θ ρ (sR S 1 i.toNatClampNeg v) Z) H1 locs1 → W p l e R s m args below meth c H1 locs1 cells slots Q (F0 m (pc + 1) ls rest)) : W p l e R s m args below meth c H locs cells slots Q (F0 m pc ls (.int v :: .int i :: .ref (θ.1 8) :: rest)) :=
  z_iast X hG h 8 0 rfl rfl hi hdg (fun H1 locs1 h1 => kk H1 locs1 h1)
theorem lx_9 (X : CallFix p m c cc nL s args big own) (hG : GX Γ s s.heap) (h : HS Γ s (WX Γ θ ρ S Z) H locs) {i : Int32} (hi : vp_in i 300) {x : Int32} (hx : S.1 2 i.toNatClampNeg = x) (hdg : decode cc pc = .ok (.iaload, 1)) (kk : W p l e R s m args below meth c H locs cells slots Q (F0 m (pc + 1) ls (.int x :: rest))) : W p l e R s m args below meth c H locs cells slots Q (F0 m pc ls (.int i :: .ref (θ.1 9) :: rest)) := by
  subst hx; exact z_iald X hG h 9 0 rfl rfl hi hdg kk
theorem sx_9 (X : CallFix p m c cc nL s args big own) (hG : GX Γ s s.heap) (h : HS Γ s (WX Γ θ ρ S Z) H locs) {i v : Int32} (hi : vp_in i 300) (hdg : decode cc pc = .ok (.iastore, 1)) (kk : ∀ (H1 : Heap) (locs1 : List Loc), HS Γ s (WX Γ θ ρ (sR S 2 i.toNatClampNeg v) Z) H1 locs1 → W p l e R s m args below meth c H1 locs1 cells slots Q (F0 m (pc + 1) ls rest)) : W p l e R s m args below meth c H locs cells slots Q (F0 m pc ls (.int v :: .int i :: .ref (θ.1 9) :: rest)) :=
  z_iast X hG h 9 0 rfl rfl hi hdg (fun H1 locs1 h1 => kk H1 locs1 h1)
theorem lx_10 (X : CallFix p m c cc nL s args big own) (hG : GX Γ s s.heap) (h : HS Γ s (WX Γ θ ρ S Z) H locs) {i : Int32} (hi : vp_in i 300) (hdg : decode cc pc = .ok (.aaload, 1)) (kk : W p l e R s m args below meth c H locs cells slots Q (F0 m (pc + 1) ls (.ref (θ.2 i.toNatClampNeg) :: rest))) : W p l e R s m args below meth c H locs cells slots Q (F0 m pc ls (.int i :: .ref (θ.1 10) :: rest)) :=
  z_aald X hG h 10 2 rfl rfl hi hdg kk
theorem lx_4 (X : CallFix p m c cc nL s args big own) (hG : GX Γ s s.heap) (h : HS Γ s (WX Γ θ ρ S Z) H locs) {i : Int32} (hi : vp_in i 64) (hn : i.toNatClampNeg < ρ.2.1) (hdg : decode cc pc = .ok (.aaload, 1)) (kk : W p l e R s m args below meth c H locs cells slots Q (F0 m (pc + 1) ls (.ref (ρ.1 i.toNatClampNeg) :: rest))) : W p l e R s m args below meth c H locs cells slots Q (F0 m pc ls (.int i :: .ref (θ.1 4) :: rest)) := by
  refine z_aald X hG h 4 1 rfl rfl hi hdg ?_
  rw [if_pos hn]
  exact kk
theorem x_acmp_eq {i j : Nat} {off : Int} {tgt : Nat} (X : CallFix p m c cc nL s args big own) (hG : GX Γ s s.heap) (hi : i < 6) (hj : j < 6) (hdg : decode cc pc = .ok (.if_acmp .eq off, 3)) (ht : (pc : Int) + off = (tgt : Int)) (kt : i = j → W p l e R s m args below meth c H locs cells slots Q (F0 m tgt ls rest)) (kf : ¬ i = j → W p l e R s m args below meth c H locs cells slots Q (F0 m (pc + 3) ls rest)) : W p l e R s m args below meth c H locs cells slots Q (F0 m pc ls (.ref (Γ.2.2.2.1 j) :: .ref (Γ.2.2.2.1 i) :: rest)) :=
  lv_acmp_eq (rx := some (Γ.2.2.2.1 i)) (ry := some (Γ.2.2.2.1 j)) X.1 X.2.1 hdg ht (fun z => kt ((GX_E hG).2 i j hi hj (Option.some.inj z))) (fun z => kf (fun q => z (by rw [q])))
theorem x_acmp_ne {i j : Nat} {off : Int} {tgt : Nat} (X : CallFix p m c cc nL s args big own) (hG : GX Γ s s.heap) (hi : i < 6) (hj : j < 6) (hdg : decode cc pc = .ok (.if_acmp .ne off, 3)) (ht : (pc : Int) + off = (tgt : Int)) (kt : ¬ i = j → W p l e R s m args below meth c H locs cells slots Q (F0 m tgt ls rest)) (kf : i = j → W p l e R s m args below meth c H locs cells slots Q (F0 m (pc + 3) ls rest)) : W p l e R s m args below meth c H locs cells slots Q (F0 m pc ls (.ref (Γ.2.2.2.1 j) :: .ref (Γ.2.2.2.1 i) :: rest)) :=
  lv_acmp_ne (rx := some (Γ.2.2.2.1 i)) (ry := some (Γ.2.2.2.1 j)) X.1 X.2.1 hdg ht (fun z => kt (fun q => z (by rw [q]))) (fun z => kf ((GX_E hG).2 i j hi hj (Option.some.inj z)))
theorem x_ifnull {o : Option Nat} {off : Int} {tgt : Nat} (X : CallFix p m c cc nL s args big own) (hdg : decode cc pc = .ok (.ifnull off, 3)) (ht : (pc : Int) + off = (tgt : Int)) (kt : o = none → W p l e R s m args below meth c H locs cells slots Q (F0 m tgt ls rest)) (kf : ∀ x, o = some x → W p l e R s m args below meth c H locs cells slots Q (F0 m (pc + 3) ls rest)) : W p l e R s m args below meth c H locs cells slots Q (F0 m pc ls (va_rf (Option.map θ.2 o) :: rest)) := by
  cases o with
  | none => exact lv_ifnullN X.1 X.2.1 hdg ht (kt rfl)
  | some x => exact lv_ifnull X.1 X.2.1 hdg (kf x rfl)
theorem x_ifnonnull {o : Option Nat} {off : Int} {tgt : Nat} (X : CallFix p m c cc nL s args big own) (hdg : decode cc pc = .ok (.ifnonnull off, 3)) (ht : (pc : Int) + off = (tgt : Int)) (kt : ∀ x, o = some x → W p l e R s m args below meth c H locs cells slots Q (F0 m tgt ls rest)) (kf : o = none → W p l e R s m args below meth c H locs cells slots Q (F0 m (pc + 3) ls rest)) : W p l e R s m args below meth c H locs cells slots Q (F0 m pc ls (va_rf (Option.map θ.2 o) :: rest)) := by
  cases o with
  | none => exact lv_ifnonnullN X.1 X.2.1 hdg (kf rfl)
  | some x => exact lv_ifnonnull X.1 X.2.1 hdg ht (kt x rfl)
end XA
theorem rf_nar {C : String} (r : Option Nat) : narrow (.object C) (va_rf r) = va_rf r := by cases r <;> rfl
theorem rf_fit {C : String} (r : Option Nat) : fits (.object C) (va_rf r) = true := by cases r <;> rfl
theorem thX_TR3 {θ : Th} {S : Sg} {j : Nat} {v : Int32} (i : Nat) : thX θ (sR S 3 j v) i = if i = j then (θ.2 j, .inr (5, ([.int (S.1 3 j), .int (S.1 4 j), va_rf (Option.map θ.2 (S.2 j)), .int (S.1 6 j)] : List Value).set 0 (.int v))) else thX θ S i := by
  by_cases h : i = j
  · subst h; simp [thX, sR, uu, upd]
  · simp [thX, sR, uu, upd, h]
theorem thX_TR4 {θ : Th} {S : Sg} {j : Nat} {v : Int32} (i : Nat) : thX θ (sR S 4 j v) i = if i = j then (θ.2 j, .inr (5, ([.int (S.1 3 j), .int (S.1 4 j), va_rf (Option.map θ.2 (S.2 j)), .int (S.1 6 j)] : List Value).set 1 (.int v))) else thX θ S i := by
  by_cases h : i = j
  · subst h; simp [thX, sR, uu, upd]
  · simp [thX, sR, uu, upd, h]
theorem fx_sC {Γ : Gm} {θ : Th} {ρ : Rh} {S : Sg} {j : Nat} {o : Option Nat} (h : j < 300) : fxX Γ θ ρ (sC S j o) = fxX Γ θ ρ S := by
  have h0 : (sC S j o).2 300 = S.2 300 := if_neg (by omega)
  have h1 : (sC S j o).2 301 = S.2 301 := if_neg (by omega)
  have h2 : (sC S j o).2 302 = S.2 302 := if_neg (by omega)
  unfold fxX
  rw [h0, h1, h2]
  rfl
theorem WX_c {Γ : Gm} {θ : Th} {ρ : Rh} {S : Sg} {Z : va_W} {k : Nat} {o : Option Nat} (h : 300 ≤ k) : WX Γ θ ρ (sC S k o) Z = fxX Γ θ ρ (sC S k o) ++ (pz 300 (thX θ S) ++ (pz ρ.2.1 (noX ρ) ++ Z)) := by
  unfold WX
  rw [pz_congr (f := thX θ (sC S k o)) (g := thX θ S) (fun i hi => ?_)]
  have h0 : (sC S k o).2 i = S.2 i := if_neg (by omega)
  unfold thX
  rw [h0]
  rfl
theorem thX_TC {θ : Th} {S : Sg} {j : Nat} {o : Option Nat} (i : Nat) : thX θ (sC S j o) i = if i = j then (θ.2 j, .inr (5, ([.int (S.1 3 j), .int (S.1 4 j), va_rf (Option.map θ.2 (S.2 j)), .int (S.1 6 j)] : List Value).set 2 (va_rf (Option.map θ.2 o)))) else thX θ S i := by
  by_cases h : i = j
  · subst h; simp [thX, sC, va_up]
  · simp [thX, sC, va_up, h]
theorem thX_TR6 {θ : Th} {S : Sg} {j : Nat} {v : Int32} (i : Nat) : thX θ (sR S 6 j v) i = if i = j then (θ.2 j, .inr (5, ([.int (S.1 3 j), .int (S.1 4 j), va_rf (Option.map θ.2 (S.2 j)), .int (S.1 6 j)] : List Value).set 3 (.int v))) else thX θ S i := by
  by_cases h : i = j
  · subst h; simp [thX, sR, uu, upd]
  · simp [thX, sR, uu, upd, h]
end
section
section XR
variable {p : Program} {l : Launch} {e : Env} {R : Room} {s : State} {m : MethodId} {args : Array Value} {below : List Frame} {meth : Method} {c : Code} {H : Heap} {locs : List Loc} {cells slots : Nat} {Q : State → Prop}
variable {cc : ByteArray} {nL : Nat} {pc : Nat} {ls : Array Slot} {rest : List Value} {Γ : Gm} {θ : Th} {ρ : Rh} {S : Sg} {Z : va_W}
theorem gx_xC_13 (X : CallFix p m c cc nL s args big RxC) (hG : GX Γ s s.heap) (h : HS Γ s (WX Γ θ ρ S Z) H locs) {x : Int32} (hx : ρ.2.2.1 7 0 = x) (hdg : decode cc pc = .ok (.getfield 13, 3)) (kk : W p l e R s m args below meth c H locs cells slots Q (F0 m (pc + 3) ls (.int x :: rest))) : W p l e R s m args below meth c H locs cells slots Q (F0 m pc ls (.ref (θ.1 1) :: rest)) := by
  subst hx; exact z_get X hG h in_xC 1 rfl rfl 1 (by decide) rfl kF_xC_13 rfl hdg kk
theorem cx_xC_26 {K : Option Value → va_W → Prop} {As : List Value} {fr lo mc ms : Nat} {W0 : va_W} {a q0 : Nat} {fs : List Value} (X : CallFix p m c cc nL s args big RxC) (hG : GX Γ s s.heap) (h : HS Γ s W0 H locs) (hls : ls.size = nL) (hM : MM l yxC_has cxC_has 2 (some .boolean) fr lo Γ (.ref a :: As) W0 K mc ms) (hR : fr + 1 ≤ R.frames ∧ 8 + (2 + 11) + lo ≤ R.locals) (he : W0[q0]? = some (a, .inr (1, fs))) (hn : As.length = 1) (hW : (rest.map fun v => v.category).sum ≤ 8) (hdg : decode cc pc = .ok (.invokevirtual 26, 3)) (hf : cells + mc ≤ R.cells ∧ slots + ms ≤ R.slots) (kk : ∀ (v : Option Value) (W1 : va_W), K v W1 → ∀ (H1 : Heap) (locs1 : List Loc), HS Γ s W1 H1 locs1 → W p l e R s m args below meth c H1 locs1 (cells + mc) (slots + ms) Q (F0 m (pc + 3) ls (v.toList ++ rest))) : W p l e R s m args below meth c H locs cells slots Q (F0 m pc ls (As.reverse ++ .ref a :: rest)) :=
  z_callV X hG h hls hM kw_xC_26 kc_xC_has (by decide +kernel) hR (ci := 1) rfl rfl he hn hW hdg hf kk
theorem gx_xC_9 (X : CallFix p m c cc nL s args big RxC) (hG : GX Γ s s.heap) (h : HS Γ s (WX Γ θ ρ S Z) H locs) (hdg : decode cc pc = .ok (.getfield 9, 3)) (kk : W p l e R s m args below meth c H locs cells slots Q (F0 m (pc + 3) ls (.ref (θ.1 2) :: rest))) : W p l e R s m args below meth c H locs cells slots Q (F0 m pc ls (.ref (θ.1 1) :: rest)) := by
  exact z_get X hG h in_xC 1 rfl rfl 0 (by decide) rfl kF_xC_9 rfl hdg kk
theorem gx_xM_11 (X : CallFix p m c cc nL s args big RxM) (hG : GX Γ s s.heap) (h : HS Γ s (WX Γ θ ρ S Z) H locs) (hdg : decode cc pc = .ok (.getfield 11, 3)) (kk : W p l e R s m args below meth c H locs cells slots Q (F0 m (pc + 3) ls (.ref (θ.1 7) :: rest))) : W p l e R s m args below meth c H locs cells slots Q (F0 m pc ls (.ref (θ.1 6) :: rest)) := by
  exact z_get X hG h in_xM 6 rfl rfl 3 (by decide) rfl kF_xM_11 rfl hdg kk
theorem gx_xM_17 (X : CallFix p m c cc nL s args big RxM) (hG : GX Γ s s.heap) (h : HS Γ s (WX Γ θ ρ S Z) H locs) (hdg : decode cc pc = .ok (.getfield 17, 3)) (kk : W p l e R s m args below meth c H locs cells slots Q (F0 m (pc + 3) ls (.ref (θ.1 8) :: rest))) : W p l e R s m args below meth c H locs cells slots Q (F0 m pc ls (.ref (θ.1 6) :: rest)) := by
  exact z_get X hG h in_xM 6 rfl rfl 4 (by decide) rfl kF_xM_17 rfl hdg kk
theorem px_xM_29 (X : CallFix p m c cc nL s args big RxM) (hG : GX Γ s s.heap) (h : HS Γ s (WX Γ θ ρ S Z) H locs) {v : Int32} (hdg : decode cc pc = .ok (.putfield 29, 3)) (kk : ∀ (H1 : Heap) (locs1 : List Loc), HS Γ s (WX Γ θ ρ (sR S 7 0 v) Z) H1 locs1 → W p l e R s m args below meth c H1 locs1 cells slots Q (F0 m (pc + 3) ls (rest))) : W p l e R s m args below meth c H locs cells slots Q (F0 m pc ls (.int v :: .ref (θ.1 6) :: rest)) :=
  z_put X hG h in_xM txM oxM nxM 6 rfl rfl 7 (by decide) rfl kF_xM_29 rfl rfl rfl (Nat.le_of_ble_eq_true rfl) hdg (fun H1 locs1 h1 => kk H1 locs1 h1)
theorem px_xM_33 (X : CallFix p m c cc nL s args big RxM) (hG : GX Γ s s.heap) (h : HS Γ s (WX Γ θ ρ S Z) H locs) {v : Int32} (hdg : decode cc pc = .ok (.putfield 33, 3)) (kk : ∀ (H1 : Heap) (locs1 : List Loc), HS Γ s (WX Γ θ ρ (sR S 7 1 v) Z) H1 locs1 → W p l e R s m args below meth c H1 locs1 cells slots Q (F0 m (pc + 3) ls (rest))) : W p l e R s m args below meth c H locs cells slots Q (F0 m pc ls (.int v :: .ref (θ.1 6) :: rest)) :=
  z_put X hG h in_xM txM oxM nxM 6 rfl rfl 8 (by decide) rfl kF_xM_33 rfl rfl rfl (Nat.le_of_ble_eq_true rfl) hdg (fun H1 locs1 h1 => kk H1 locs1 h1)
theorem px_xM_36 (X : CallFix p m c cc nL s args big RxM) (hG : GX Γ s s.heap) (h : HS Γ s (WX Γ θ ρ S Z) H locs) {v : Int32} (hdg : decode cc pc = .ok (.putfield 36, 3)) (kk : ∀ (H1 : Heap) (locs1 : List Loc), HS Γ s (WX Γ θ ρ (sR S 7 2 v) Z) H1 locs1 → W p l e R s m args below meth c H1 locs1 cells slots Q (F0 m (pc + 3) ls (rest))) : W p l e R s m args below meth c H locs cells slots Q (F0 m pc ls (.int v :: .ref (θ.1 6) :: rest)) :=
  z_put X hG h in_xM txM oxM nxM 6 rfl rfl 9 (by decide) rfl kF_xM_36 rfl rfl rfl (Nat.le_of_ble_eq_true rfl) hdg (fun H1 locs1 h1 => kk H1 locs1 h1)
theorem px_xM_39 (X : CallFix p m c cc nL s args big RxM) (hG : GX Γ s s.heap) (h : HS Γ s (WX Γ θ ρ S Z) H locs) {v : Int32} (hdg : decode cc pc = .ok (.putfield 39, 3)) (kk : ∀ (H1 : Heap) (locs1 : List Loc), HS Γ s (WX Γ θ ρ (sR S 7 3 v) Z) H1 locs1 → W p l e R s m args below meth c H1 locs1 cells slots Q (F0 m (pc + 3) ls (rest))) : W p l e R s m args below meth c H locs cells slots Q (F0 m pc ls (.int v :: .ref (θ.1 6) :: rest)) :=
  z_put X hG h in_xM txM oxM nxM 6 rfl rfl 10 (by decide) rfl kF_xM_39 rfl rfl rfl (Nat.le_of_ble_eq_true rfl) hdg (fun H1 locs1 h1 => kk H1 locs1 h1)
theorem px_xM_42 (X : CallFix p m c cc nL s args big RxM) (hG : GX Γ s s.heap) (h : HS Γ s (WX Γ θ ρ S Z) H locs) {v : Int32} (hdg : decode cc pc = .ok (.putfield 42, 3)) (kk : ∀ (H1 : Heap) (locs1 : List Loc), HS Γ s (WX Γ θ ρ (sR S 7 4 v) Z) H1 locs1 → W p l e R s m args below meth c H1 locs1 cells slots Q (F0 m (pc + 3) ls (rest))) : W p l e R s m args below meth c H locs cells slots Q (F0 m pc ls (.int v :: .ref (θ.1 6) :: rest)) :=
  z_put X hG h in_xM txM oxM nxM 6 rfl rfl 11 (by decide) rfl kF_xM_42 rfl rfl rfl (Nat.le_of_ble_eq_true rfl) hdg (fun H1 locs1 h1 => kk H1 locs1 h1)
theorem px_xM_45 (X : CallFix p m c cc nL s args big RxM) (hG : GX Γ s s.heap) (h : HS Γ s (WX Γ θ ρ S Z) H locs) {v : Int32} (hdg : decode cc pc = .ok (.putfield 45, 3)) (kk : ∀ (H1 : Heap) (locs1 : List Loc), HS Γ s (WX Γ θ ρ (sR S 7 5 v) Z) H1 locs1 → W p l e R s m args below meth c H1 locs1 cells slots Q (F0 m (pc + 3) ls (rest))) : W p l e R s m args below meth c H locs cells slots Q (F0 m pc ls (.int v :: .ref (θ.1 6) :: rest)) :=
  z_put X hG h in_xM txM oxM nxM 6 rfl rfl 12 (by decide) rfl kF_xM_45 rfl rfl rfl (Nat.le_of_ble_eq_true rfl) hdg (fun H1 locs1 h1 => kk H1 locs1 h1)
theorem gx_xM_36 (X : CallFix p m c cc nL s args big RxM) (hG : GX Γ s s.heap) (h : HS Γ s (WX Γ θ ρ S Z) H locs) {x : Int32} (hx : S.1 7 2 = x) (hdg : decode cc pc = .ok (.getfield 36, 3)) (kk : W p l e R s m args below meth c H locs cells slots Q (F0 m (pc + 3) ls (.int x :: rest))) : W p l e R s m args below meth c H locs cells slots Q (F0 m pc ls (.ref (θ.1 6) :: rest)) := by
  subst hx; exact z_get X hG h in_xM 6 rfl rfl 9 (by decide) rfl kF_xM_36 rfl hdg kk
theorem gx_xM_33 (X : CallFix p m c cc nL s args big RxM) (hG : GX Γ s s.heap) (h : HS Γ s (WX Γ θ ρ S Z) H locs) {x : Int32} (hx : S.1 7 1 = x) (hdg : decode cc pc = .ok (.getfield 33, 3)) (kk : W p l e R s m args below meth c H locs cells slots Q (F0 m (pc + 3) ls (.int x :: rest))) : W p l e R s m args below meth c H locs cells slots Q (F0 m pc ls (.ref (θ.1 6) :: rest)) := by
  subst hx; exact z_get X hG h in_xM 6 rfl rfl 8 (by decide) rfl kF_xM_33 rfl hdg kk
theorem gx_xM_39 (X : CallFix p m c cc nL s args big RxM) (hG : GX Γ s s.heap) (h : HS Γ s (WX Γ θ ρ S Z) H locs) {x : Int32} (hx : S.1 7 3 = x) (hdg : decode cc pc = .ok (.getfield 39, 3)) (kk : W p l e R s m args below meth c H locs cells slots Q (F0 m (pc + 3) ls (.int x :: rest))) : W p l e R s m args below meth c H locs cells slots Q (F0 m pc ls (.ref (θ.1 6) :: rest)) := by
  subst hx; exact z_get X hG h in_xM 6 rfl rfl 10 (by decide) rfl kF_xM_39 rfl hdg kk
theorem gx_xM_42 (X : CallFix p m c cc nL s args big RxM) (hG : GX Γ s s.heap) (h : HS Γ s (WX Γ θ ρ S Z) H locs) {x : Int32} (hx : S.1 7 4 = x) (hdg : decode cc pc = .ok (.getfield 42, 3)) (kk : W p l e R s m args below meth c H locs cells slots Q (F0 m (pc + 3) ls (.int x :: rest))) : W p l e R s m args below meth c H locs cells slots Q (F0 m pc ls (.ref (θ.1 6) :: rest)) := by
  subst hx; exact z_get X hG h in_xM 6 rfl rfl 11 (by decide) rfl kF_xM_42 rfl hdg kk
theorem gx_xM_45 (X : CallFix p m c cc nL s args big RxM) (hG : GX Γ s s.heap) (h : HS Γ s (WX Γ θ ρ S Z) H locs) {x : Int32} (hx : S.1 7 5 = x) (hdg : decode cc pc = .ok (.getfield 45, 3)) (kk : W p l e R s m args below meth c H locs cells slots Q (F0 m (pc + 3) ls (.int x :: rest))) : W p l e R s m args below meth c H locs cells slots Q (F0 m pc ls (.ref (θ.1 6) :: rest)) := by
  subst hx; exact z_get X hG h in_xM 6 rfl rfl 12 (by decide) rfl kF_xM_45 rfl hdg kk
theorem gx_xM_29 (X : CallFix p m c cc nL s args big RxM) (hG : GX Γ s s.heap) (h : HS Γ s (WX Γ θ ρ S Z) H locs) {x : Int32} (hx : S.1 7 0 = x) (hdg : decode cc pc = .ok (.getfield 29, 3)) (kk : W p l e R s m args below meth c H locs cells slots Q (F0 m (pc + 3) ls (.int x :: rest))) : W p l e R s m args below meth c H locs cells slots Q (F0 m pc ls (.ref (θ.1 6) :: rest)) := by
  subst hx; exact z_get X hG h in_xM 6 rfl rfl 7 (by decide) rfl kF_xM_29 rfl hdg kk
theorem gx_xM_20 (X : CallFix p m c cc nL s args big RxM) (hG : GX Γ s s.heap) (h : HS Γ s (WX Γ θ ρ S Z) H locs) (hdg : decode cc pc = .ok (.getfield 20, 3)) (kk : W p l e R s m args below meth c H locs cells slots Q (F0 m (pc + 3) ls (.ref (θ.1 9) :: rest))) : W p l e R s m args below meth c H locs cells slots Q (F0 m pc ls (.ref (θ.1 6) :: rest)) := by
  exact z_get X hG h in_xM 6 rfl rfl 5 (by decide) rfl kF_xM_20 rfl hdg kk
theorem gx_xM_48 (X : CallFix p m c cc nL s args big RxM) (hG : GX Γ s s.heap) (h : HS Γ s (WX Γ θ ρ S Z) H locs) {x : Int32} (hx : S.1 7 6 = x) (hdg : decode cc pc = .ok (.getfield 48, 3)) (kk : W p l e R s m args below meth c H locs cells slots Q (F0 m (pc + 3) ls (.int x :: rest))) : W p l e R s m args below meth c H locs cells slots Q (F0 m pc ls (.ref (θ.1 6) :: rest)) := by
  subst hx; exact z_get X hG h in_xM 6 rfl rfl 13 (by decide) rfl kF_xM_48 rfl hdg kk
theorem gx_xM_63 (X : CallFix p m c cc nL s args big RxM) (hG : GX Γ s s.heap) (h : HS Γ s (WX Γ θ ρ S Z) H locs) {x : Option Nat} (hx : S.2 300 = x) (hdg : decode cc pc = .ok (.getfield 63, 3)) (kk : W p l e R s m args below meth c H locs cells slots Q (F0 m (pc + 3) ls (va_rf (Option.map θ.2 x) :: rest))) : W p l e R s m args below meth c H locs cells slots Q (F0 m pc ls (.ref (θ.1 6) :: rest)) := by
  subst hx; exact z_get X hG h in_xM 6 rfl rfl 14 (by decide) rfl kF_xM_63 rfl hdg kk
theorem cx_xM_75 {K : Option Value → va_W → Prop} {As : List Value} {fr lo mc ms : Nat} {W0 : va_W} {a q0 : Nat} {fs : List Value} (X : CallFix p m c cc nL s args big RxM) (hG : GX Γ s s.heap) (h : HS Γ s W0 H locs) (hls : ls.size = nL) (hM : MM l yxM_mayBegin cxM_mayBegin 1 (some .boolean) fr lo Γ (.ref a :: As) W0 K mc ms) (hR : fr + 1 ≤ R.frames ∧ 8 + (1 + 11) + lo ≤ R.locals) (he : W0[q0]? = some (a, .inr (3, fs))) (hn : As.length = 0) (hW : (rest.map fun v => v.category).sum ≤ 8) (hdg : decode cc pc = .ok (.invokevirtual 75, 3)) (hf : cells + mc ≤ R.cells ∧ slots + ms ≤ R.slots) (kk : ∀ (v : Option Value) (W1 : va_W), K v W1 → ∀ (H1 : Heap) (locs1 : List Loc), HS Γ s W1 H1 locs1 → W p l e R s m args below meth c H1 locs1 (cells + mc) (slots + ms) Q (F0 m (pc + 3) ls (v.toList ++ rest))) : W p l e R s m args below meth c H locs cells slots Q (F0 m pc ls (As.reverse ++ .ref a :: rest)) :=
  z_callV X hG h hls hM kw_xM_75 kc_xM_mayBegin (by decide +kernel) hR (ci := 3) rfl rfl he hn hW hdg hf kk
theorem gx_xM_79 (X : CallFix p m c cc nL s args big RxM) (hG : GX Γ s s.heap) (h : HS Γ s (WX Γ θ ρ S Z) H locs) (hdg : decode cc pc = .ok (.getstatic 79, 3)) (kk : W p l e R s m args below meth c H locs cells slots Q (F0 m (pc + 3) ls (.ref (Γ.2.2.2.1 5) :: rest))) : W p l e R s m args below meth c H locs cells slots Q (F0 m pc ls (rest)) :=
  va_gets X.1 X.2.1 ((GX_E hG).1 5 (by decide)).1 h.2.2 X.2.2.2.1 (X.2.2.2.2 _ kF_xM_79) (fun _ h9 => h9) hdg kk
theorem gx_xM_51 (X : CallFix p m c cc nL s args big RxM) (hG : GX Γ s s.heap) (h : HS Γ s (WX Γ θ ρ S Z) H locs) (hdg : decode cc pc = .ok (.getfield 51, 3)) (kk : W p l e R s m args below meth c H locs cells slots Q (F0 m (pc + 3) ls (.ref (θ.1 3) :: rest))) : W p l e R s m args below meth c H locs cells slots Q (F0 m pc ls (.ref (θ.1 6) :: rest)) := by
  exact z_get X hG h in_xM 6 rfl rfl 0 (by decide) rfl kF_xM_51 rfl hdg kk
theorem cx_xM_91 {K : Option Value → va_W → Prop} {As : List Value} {fr lo mc ms : Nat} {W0 : va_W} {a q0 : Nat} {fs : List Value} (X : CallFix p m c cc nL s args big RxM) (hG : GX Γ s s.heap) (h : HS Γ s W0 H locs) (hls : ls.size = nL) (hM : MM l yxP_at cxP_at 2 (some (.object "ThrowScenario$Node")) fr lo Γ (.ref a :: As) W0 K mc ms) (hR : fr + 1 ≤ R.frames ∧ 8 + (2 + 11) + lo ≤ R.locals) (he : W0[q0]? = some (a, .inr (2, fs))) (hn : As.length = 1) (hW : (rest.map fun v => v.category).sum ≤ 8) (hdg : decode cc pc = .ok (.invokevirtual 91, 3)) (hf : cells + mc ≤ R.cells ∧ slots + ms ≤ R.slots) (kk : ∀ (v : Option Value) (W1 : va_W), K v W1 → ∀ (H1 : Heap) (locs1 : List Loc), HS Γ s W1 H1 locs1 → W p l e R s m args below meth c H1 locs1 (cells + mc) (slots + ms) Q (F0 m (pc + 3) ls (v.toList ++ rest))) : W p l e R s m args below meth c H locs cells slots Q (F0 m pc ls (As.reverse ++ .ref a :: rest)) :=
  z_callV X hG h hls hM kw_xM_91 kc_xP_at (by decide +kernel) hR (ci := 2) rfl rfl he hn hW hdg hf kk
theorem gx_xM_95 (X : CallFix p m c cc nL s args big RxM) (hG : GX Γ s s.heap) (h : HS Γ s (WX Γ θ ρ S Z) H locs) {j : Nat} (hj : j < ρ.2.1) {x : Int32} (hx : ρ.2.2.1 0 j = x) (hdg : decode cc pc = .ok (.getfield 95, 3)) (kk : W p l e R s m args below meth c H locs cells slots Q (F0 m (pc + 3) ls (.int x :: rest))) : W p l e R s m args below meth c H locs cells slots Q (F0 m pc ls (.ref (ρ.1 j) :: rest)) := by
  subst hx; exact z_get X hG h in_xN (314 + j) (WX_node hj) rfl 0 (by decide) rfl kF_xM_95 rfl hdg kk
theorem cx_xM_100 {K : Option Value → va_W → Prop} {As : List Value} {fr lo mc ms : Nat} {W0 : va_W} {a q0 : Nat} {fs : List Value} (X : CallFix p m c cc nL s args big RxM) (hG : GX Γ s s.heap) (h : HS Γ s W0 H locs) (hls : ls.size = nL) (hM : MM l yxM_sequence cxM_sequence 5 (some (.object "ThrowScenario$Way")) fr lo Γ (.ref a :: As) W0 K mc ms) (hR : fr + 1 ≤ R.frames ∧ 8 + (5 + 11) + lo ≤ R.locals) (he : W0[q0]? = some (a, .inr (3, fs))) (hn : As.length = 3) (hW : (rest.map fun v => v.category).sum ≤ 8) (hdg : decode cc pc = .ok (.invokevirtual 100, 3)) (hf : cells + mc ≤ R.cells ∧ slots + ms ≤ R.slots) (kk : ∀ (v : Option Value) (W1 : va_W), K v W1 → ∀ (H1 : Heap) (locs1 : List Loc), HS Γ s W1 H1 locs1 → W p l e R s m args below meth c H1 locs1 (cells + mc) (slots + ms) Q (F0 m (pc + 3) ls (v.toList ++ rest))) : W p l e R s m args below meth c H locs cells slots Q (F0 m pc ls (As.reverse ++ .ref a :: rest)) :=
  z_callV X hG h hls hM kw_xM_100 kc_xM_sequence (by decide +kernel) hR (ci := 3) rfl rfl he hn hW hdg hf kk
theorem cx_xM_104 {K : Option Value → va_W → Prop} {As : List Value} {fr lo mc ms : Nat} {W0 : va_W} {a q0 : Nat} {fs : List Value} (X : CallFix p m c cc nL s args big RxM) (hG : GX Γ s s.heap) (h : HS Γ s W0 H locs) (hls : ls.size = nL) (hM : MM l yxM_choose cxM_choose 5 (some (.object "ThrowScenario$Way")) fr lo Γ (.ref a :: As) W0 K mc ms) (hR : fr + 1 ≤ R.frames ∧ 8 + (5 + 11) + lo ≤ R.locals) (he : W0[q0]? = some (a, .inr (3, fs))) (hn : As.length = 3) (hW : (rest.map fun v => v.category).sum ≤ 8) (hdg : decode cc pc = .ok (.invokevirtual 104, 3)) (hf : cells + mc ≤ R.cells ∧ slots + ms ≤ R.slots) (kk : ∀ (v : Option Value) (W1 : va_W), K v W1 → ∀ (H1 : Heap) (locs1 : List Loc), HS Γ s W1 H1 locs1 → W p l e R s m args below meth c H1 locs1 (cells + mc) (slots + ms) Q (F0 m (pc + 3) ls (v.toList ++ rest))) : W p l e R s m args below meth c H locs cells slots Q (F0 m pc ls (As.reverse ++ .ref a :: rest)) :=
  z_callV X hG h hls hM kw_xM_104 kc_xM_choose (by decide +kernel) hR (ci := 3) rfl rfl he hn hW hdg hf kk
theorem cx_xM_107 {K : Option Value → va_W → Prop} {As : List Value} {fr lo mc ms : Nat} {W0 : va_W} {a q0 : Nat} {fs : List Value} (X : CallFix p m c cc nL s args big RxM) (hG : GX Γ s s.heap) (h : HS Γ s W0 H locs) (hls : ls.size = nL) (hM : MM l yxM_loop cxM_loop 6 (some (.object "ThrowScenario$Way")) fr lo Γ (.ref a :: As) W0 K mc ms) (hR : fr + 1 ≤ R.frames ∧ 8 + (6 + 11) + lo ≤ R.locals) (he : W0[q0]? = some (a, .inr (3, fs))) (hn : As.length = 3) (hW : (rest.map fun v => v.category).sum ≤ 8) (hdg : decode cc pc = .ok (.invokevirtual 107, 3)) (hf : cells + mc ≤ R.cells ∧ slots + ms ≤ R.slots) (kk : ∀ (v : Option Value) (W1 : va_W), K v W1 → ∀ (H1 : Heap) (locs1 : List Loc), HS Γ s W1 H1 locs1 → W p l e R s m args below meth c H1 locs1 (cells + mc) (slots + ms) Q (F0 m (pc + 3) ls (v.toList ++ rest))) : W p l e R s m args below meth c H locs cells slots Q (F0 m pc ls (As.reverse ++ .ref a :: rest)) :=
  z_callV X hG h hls hM kw_xM_107 kc_xM_loop (by decide +kernel) hR (ci := 3) rfl rfl he hn hW hdg hf kk
theorem cx_xM_110 {K : Option Value → va_W → Prop} {As : List Value} {fr lo mc ms : Nat} {W0 : va_W} {a q0 : Nat} {fs : List Value} (X : CallFix p m c cc nL s args big RxM) (hG : GX Γ s s.heap) (h : HS Γ s W0 H locs) (hls : ls.size = nL) (hM : MM l yxM_call cxM_call 4 (some (.object "ThrowScenario$Way")) fr lo Γ (.ref a :: As) W0 K mc ms) (hR : fr + 1 ≤ R.frames ∧ 8 + (4 + 11) + lo ≤ R.locals) (he : W0[q0]? = some (a, .inr (3, fs))) (hn : As.length = 2) (hW : (rest.map fun v => v.category).sum ≤ 8) (hdg : decode cc pc = .ok (.invokevirtual 110, 3)) (hf : cells + mc ≤ R.cells ∧ slots + ms ≤ R.slots) (kk : ∀ (v : Option Value) (W1 : va_W), K v W1 → ∀ (H1 : Heap) (locs1 : List Loc), HS Γ s W1 H1 locs1 → W p l e R s m args below meth c H1 locs1 (cells + mc) (slots + ms) Q (F0 m (pc + 3) ls (v.toList ++ rest))) : W p l e R s m args below meth c H locs cells slots Q (F0 m pc ls (As.reverse ++ .ref a :: rest)) :=
  z_callV X hG h hls hM kw_xM_110 kc_xM_call (by decide +kernel) hR (ci := 3) rfl rfl he hn hW hdg hf kk
theorem cx_xM_114 {K : Option Value → va_W → Prop} {As : List Value} {fr lo mc ms : Nat} {W0 : va_W} {a q0 : Nat} {fs : List Value} (X : CallFix p m c cc nL s args big RxM) (hG : GX Γ s s.heap) (h : HS Γ s W0 H locs) (hls : ls.size = nL) (hM : MM l yxM_tryAndCatch cxM_tryAndCatch 5 (some (.object "ThrowScenario$Way")) fr lo Γ (.ref a :: As) W0 K mc ms) (hR : fr + 1 ≤ R.frames ∧ 8 + (5 + 11) + lo ≤ R.locals) (he : W0[q0]? = some (a, .inr (3, fs))) (hn : As.length = 3) (hW : (rest.map fun v => v.category).sum ≤ 8) (hdg : decode cc pc = .ok (.invokevirtual 114, 3)) (hf : cells + mc ≤ R.cells ∧ slots + ms ≤ R.slots) (kk : ∀ (v : Option Value) (W1 : va_W), K v W1 → ∀ (H1 : Heap) (locs1 : List Loc), HS Γ s W1 H1 locs1 → W p l e R s m args below meth c H1 locs1 (cells + mc) (slots + ms) Q (F0 m (pc + 3) ls (v.toList ++ rest))) : W p l e R s m args below meth c H locs cells slots Q (F0 m pc ls (As.reverse ++ .ref a :: rest)) :=
  z_callV X hG h hls hM kw_xM_114 kc_xM_tryAndCatch (by decide +kernel) hR (ci := 3) rfl rfl he hn hW hdg hf kk
theorem cx_xM_117 {K : Option Value → va_W → Prop} {As : List Value} {fr lo mc ms : Nat} {W0 : va_W} {a q0 : Nat} {fs : List Value} (X : CallFix p m c cc nL s args big RxM) (hG : GX Γ s s.heap) (h : HS Γ s W0 H locs) (hls : ls.size = nL) (hM : MM l yxM_doBoth cxM_doBoth 9 (some (.object "ThrowScenario$Way")) fr lo Γ (.ref a :: As) W0 K mc ms) (hR : fr + 1 ≤ R.frames ∧ 8 + (9 + 11) + lo ≤ R.locals) (he : W0[q0]? = some (a, .inr (3, fs))) (hn : As.length = 3) (hW : (rest.map fun v => v.category).sum ≤ 8) (hdg : decode cc pc = .ok (.invokevirtual 117, 3)) (hf : cells + mc ≤ R.cells ∧ slots + ms ≤ R.slots) (kk : ∀ (v : Option Value) (W1 : va_W), K v W1 → ∀ (H1 : Heap) (locs1 : List Loc), HS Γ s W1 H1 locs1 → W p l e R s m args below meth c H1 locs1 (cells + mc) (slots + ms) Q (F0 m (pc + 3) ls (v.toList ++ rest))) : W p l e R s m args below meth c H locs cells slots Q (F0 m pc ls (As.reverse ++ .ref a :: rest)) :=
  z_callV X hG h hls hM kw_xM_117 kc_xM_doBoth (by decide +kernel) hR (ci := 3) rfl rfl he hn hW hdg hf kk
theorem cx_xM_120 {K : Option Value → va_W → Prop} {As : List Value} {fr lo mc ms : Nat} {W0 : va_W} {a q0 : Nat} {fs : List Value} (X : CallFix p m c cc nL s args big RxM) (hG : GX Γ s s.heap) (h : HS Γ s W0 H locs) (hls : ls.size = nL) (hM : MM l yxM_lock cxM_lock 5 (some (.object "ThrowScenario$Way")) fr lo Γ (.ref a :: As) W0 K mc ms) (hR : fr + 1 ≤ R.frames ∧ 8 + (5 + 11) + lo ≤ R.locals) (he : W0[q0]? = some (a, .inr (3, fs))) (hn : As.length = 3) (hW : (rest.map fun v => v.category).sum ≤ 8) (hdg : decode cc pc = .ok (.invokevirtual 120, 3)) (hf : cells + mc ≤ R.cells ∧ slots + ms ≤ R.slots) (kk : ∀ (v : Option Value) (W1 : va_W), K v W1 → ∀ (H1 : Heap) (locs1 : List Loc), HS Γ s W1 H1 locs1 → W p l e R s m args below meth c H1 locs1 (cells + mc) (slots + ms) Q (F0 m (pc + 3) ls (v.toList ++ rest))) : W p l e R s m args below meth c H locs cells slots Q (F0 m pc ls (As.reverse ++ .ref a :: rest)) :=
  z_callV X hG h hls hM kw_xM_120 kc_xM_lock (by decide +kernel) hR (ci := 3) rfl rfl he hn hW hdg hf kk
theorem gx_xM_123 (X : CallFix p m c cc nL s args big RxM) (hG : GX Γ s s.heap) (h : HS Γ s (WX Γ θ ρ S Z) H locs) (hdg : decode cc pc = .ok (.getstatic 123, 3)) (kk : W p l e R s m args below meth c H locs cells slots Q (F0 m (pc + 3) ls (.ref (Γ.2.2.2.1 1) :: rest))) : W p l e R s m args below meth c H locs cells slots Q (F0 m pc ls (rest)) :=
  va_gets X.1 X.2.1 ((GX_E hG).1 1 (by decide)).1 h.2.2 X.2.2.2.1 (X.2.2.2.2 _ kF_xM_123) (fun _ h9 => h9) hdg kk
theorem gx_xM_126 (X : CallFix p m c cc nL s args big RxM) (hG : GX Γ s s.heap) (h : HS Γ s (WX Γ θ ρ S Z) H locs) {j : Nat} (hj : j < ρ.2.1) {x : Int32} (hx : ρ.2.2.1 1 j = x) (hdg : decode cc pc = .ok (.getfield 126, 3)) (kk : W p l e R s m args below meth c H locs cells slots Q (F0 m (pc + 3) ls (.int x :: rest))) : W p l e R s m args below meth c H locs cells slots Q (F0 m pc ls (.ref (ρ.1 j) :: rest)) := by
  subst hx; exact z_get X hG h in_xN (314 + j) (WX_node hj) rfl 1 (by decide) rfl kF_xM_126 rfl hdg kk
theorem gx_xM_129 (X : CallFix p m c cc nL s args big RxM) (hG : GX Γ s s.heap) (h : HS Γ s (WX Γ θ ρ S Z) H locs) (hdg : decode cc pc = .ok (.getstatic 129, 3)) (kk : W p l e R s m args below meth c H locs cells slots Q (F0 m (pc + 3) ls (.ref (Γ.2.2.2.1 2) :: rest))) : W p l e R s m args below meth c H locs cells slots Q (F0 m pc ls (rest)) :=
  va_gets X.1 X.2.1 ((GX_E hG).1 2 (by decide)).1 h.2.2 X.2.2.2.1 (X.2.2.2.2 _ kF_xM_129) (fun _ h9 => h9) hdg kk
theorem cx_xM_132 {K : Option Value → va_W → Prop} {As : List Value} {fr lo mc ms : Nat} {W0 : va_W} {a q0 : Nat} {fs : List Value} (X : CallFix p m c cc nL s args big RxM) (hG : GX Γ s s.heap) (h : HS Γ s W0 H locs) (hls : ls.size = nL) (hM : MM l yxM_carry cxM_carry 3 (some (.object "ThrowScenario$Way")) fr lo Γ (.ref a :: As) W0 K mc ms) (hR : fr + 1 ≤ R.frames ∧ 8 + (3 + 11) + lo ≤ R.locals) (he : W0[q0]? = some (a, .inr (3, fs))) (hn : As.length = 2) (hW : (rest.map fun v => v.category).sum ≤ 8) (hdg : decode cc pc = .ok (.invokevirtual 132, 3)) (hf : cells + mc ≤ R.cells ∧ slots + ms ≤ R.slots) (kk : ∀ (v : Option Value) (W1 : va_W), K v W1 → ∀ (H1 : Heap) (locs1 : List Loc), HS Γ s W1 H1 locs1 → W p l e R s m args below meth c H1 locs1 (cells + mc) (slots + ms) Q (F0 m (pc + 3) ls (v.toList ++ rest))) : W p l e R s m args below meth c H locs cells slots Q (F0 m pc ls (As.reverse ++ .ref a :: rest)) :=
  z_callV X hG h hls hM kw_xM_132 kc_xM_carry (by decide +kernel) hR (ci := 3) rfl rfl he hn hW hdg hf kk
theorem gx_xM_136 (X : CallFix p m c cc nL s args big RxM) (hG : GX Γ s s.heap) (h : HS Γ s (WX Γ θ ρ S Z) H locs) (hdg : decode cc pc = .ok (.getstatic 136, 3)) (kk : W p l e R s m args below meth c H locs cells slots Q (F0 m (pc + 3) ls (.ref (Γ.2.2.2.1 4) :: rest))) : W p l e R s m args below meth c H locs cells slots Q (F0 m pc ls (rest)) :=
  va_gets X.1 X.2.1 ((GX_E hG).1 4 (by decide)).1 h.2.2 X.2.2.2.1 (X.2.2.2.2 _ kF_xM_136) (fun _ h9 => h9) hdg kk
theorem gx_xM_139 (X : CallFix p m c cc nL s args big RxM) (hG : GX Γ s s.heap) (h : HS Γ s (WX Γ θ ρ S Z) H locs) {j : Nat} (hj : j < ρ.2.1) {x : Int32} (hx : ρ.2.2.1 2 j = x) (hdg : decode cc pc = .ok (.getfield 139, 3)) (kk : W p l e R s m args below meth c H locs cells slots Q (F0 m (pc + 3) ls (.int x :: rest))) : W p l e R s m args below meth c H locs cells slots Q (F0 m pc ls (.ref (ρ.1 j) :: rest)) := by
  subst hx; exact z_get X hG h in_xN (314 + j) (WX_node hj) rfl 2 (by decide) rfl kF_xM_139 rfl hdg kk
theorem cx_xM_142 {K : Option Value → va_W → Prop} {As : List Value} {fr lo mc ms : Nat} {W0 : va_W} {a q0 : Nat} {fs : List Value} (X : CallFix p m c cc nL s args big RxM) (hG : GX Γ s s.heap) (h : HS Γ s W0 H locs) (hls : ls.size = nL) (hM : MM l yxM_raise cxM_raise 4 (some (.object "ThrowScenario$Way")) fr lo Γ (.ref a :: As) W0 K mc ms) (hR : fr + 1 ≤ R.frames ∧ 8 + (4 + 11) + lo ≤ R.locals) (he : W0[q0]? = some (a, .inr (3, fs))) (hn : As.length = 3) (hW : (rest.map fun v => v.category).sum ≤ 8) (hdg : decode cc pc = .ok (.invokevirtual 142, 3)) (hf : cells + mc ≤ R.cells ∧ slots + ms ≤ R.slots) (kk : ∀ (v : Option Value) (W1 : va_W), K v W1 → ∀ (H1 : Heap) (locs1 : List Loc), HS Γ s W1 H1 locs1 → W p l e R s m args below meth c H1 locs1 (cells + mc) (slots + ms) Q (F0 m (pc + 3) ls (v.toList ++ rest))) : W p l e R s m args below meth c H locs cells slots Q (F0 m pc ls (As.reverse ++ .ref a :: rest)) :=
  z_callV X hG h hls hM kw_xM_142 kc_xM_raise (by decide +kernel) hR (ci := 3) rfl rfl he hn hW hdg hf kk
theorem cx_xM_145 {K : Option Value → va_W → Prop} {As : List Value} {fr lo mc ms : Nat} {W0 : va_W} {a q0 : Nat} {fs : List Value} (X : CallFix p m c cc nL s args big RxM) (hG : GX Γ s s.heap) (h : HS Γ s W0 H locs) (hls : ls.size = nL) (hM : MM l yxM_rethrow cxM_rethrow 2 (some (.object "ThrowScenario$Way")) fr lo Γ (.ref a :: As) W0 K mc ms) (hR : fr + 1 ≤ R.frames ∧ 8 + (2 + 11) + lo ≤ R.locals) (he : W0[q0]? = some (a, .inr (3, fs))) (hn : As.length = 1) (hW : (rest.map fun v => v.category).sum ≤ 8) (hdg : decode cc pc = .ok (.invokevirtual 145, 3)) (hf : cells + mc ≤ R.cells ∧ slots + ms ≤ R.slots) (kk : ∀ (v : Option Value) (W1 : va_W), K v W1 → ∀ (H1 : Heap) (locs1 : List Loc), HS Γ s W1 H1 locs1 → W p l e R s m args below meth c H1 locs1 (cells + mc) (slots + ms) Q (F0 m (pc + 3) ls (v.toList ++ rest))) : W p l e R s m args below meth c H locs cells slots Q (F0 m pc ls (As.reverse ++ .ref a :: rest)) :=
  z_callV X hG h hls hM kw_xM_145 kc_xM_rethrow (by decide +kernel) hR (ci := 3) rfl rfl he hn hW hdg hf kk
theorem cx_xM_149 {K : Option Value → va_W → Prop} {As : List Value} {fr lo mc ms : Nat} {W0 : va_W} {a q0 : Nat} {fs : List Value} (X : CallFix p m c cc nL s args big RxM) (hG : GX Γ s s.heap) (h : HS Γ s W0 H locs) (hls : ls.size = nL) (hM : MM l yxM_divide cxM_divide 3 (some (.object "ThrowScenario$Way")) fr lo Γ (.ref a :: As) W0 K mc ms) (hR : fr + 1 ≤ R.frames ∧ 8 + (3 + 11) + lo ≤ R.locals) (he : W0[q0]? = some (a, .inr (3, fs))) (hn : As.length = 1) (hW : (rest.map fun v => v.category).sum ≤ 8) (hdg : decode cc pc = .ok (.invokevirtual 149, 3)) (hf : cells + mc ≤ R.cells ∧ slots + ms ≤ R.slots) (kk : ∀ (v : Option Value) (W1 : va_W), K v W1 → ∀ (H1 : Heap) (locs1 : List Loc), HS Γ s W1 H1 locs1 → W p l e R s m args below meth c H1 locs1 (cells + mc) (slots + ms) Q (F0 m (pc + 3) ls (v.toList ++ rest))) : W p l e R s m args below meth c H locs cells slots Q (F0 m pc ls (As.reverse ++ .ref a :: rest)) :=
  z_callV X hG h hls hM kw_xM_149 kc_xM_divide (by decide +kernel) hR (ci := 3) rfl rfl he hn hW hdg hf kk
theorem cx_xM_153 {K : Option Value → va_W → Prop} {As : List Value} {fr lo mc ms : Nat} {W0 : va_W} {a q0 : Nat} {fs : List Value} (X : CallFix p m c cc nL s args big RxM) (hG : GX Γ s s.heap) (h : HS Γ s W0 H locs) (hls : ls.size = nL) (hM : MM l yxM_index cxM_index 4 (some (.object "ThrowScenario$Way")) fr lo Γ (.ref a :: As) W0 K mc ms) (hR : fr + 1 ≤ R.frames ∧ 8 + (4 + 11) + lo ≤ R.locals) (he : W0[q0]? = some (a, .inr (3, fs))) (hn : As.length = 1) (hW : (rest.map fun v => v.category).sum ≤ 8) (hdg : decode cc pc = .ok (.invokevirtual 153, 3)) (hf : cells + mc ≤ R.cells ∧ slots + ms ≤ R.slots) (kk : ∀ (v : Option Value) (W1 : va_W), K v W1 → ∀ (H1 : Heap) (locs1 : List Loc), HS Γ s W1 H1 locs1 → W p l e R s m args below meth c H1 locs1 (cells + mc) (slots + ms) Q (F0 m (pc + 3) ls (v.toList ++ rest))) : W p l e R s m args below meth c H locs cells slots Q (F0 m pc ls (As.reverse ++ .ref a :: rest)) :=
  z_callV X hG h hls hM kw_xM_153 kc_xM_index (by decide +kernel) hR (ci := 3) rfl rfl he hn hW hdg hf kk
theorem cx_xM_156 {K : Option Value → va_W → Prop} {As : List Value} {fr lo mc ms : Nat} {W0 : va_W} {a q0 : Nat} {fs : List Value} (X : CallFix p m c cc nL s args big RxM) (hG : GX Γ s s.heap) (h : HS Γ s W0 H locs) (hls : ls.size = nL) (hM : MM l yxM_cast cxM_cast 3 (some (.object "ThrowScenario$Way")) fr lo Γ (.ref a :: As) W0 K mc ms) (hR : fr + 1 ≤ R.frames ∧ 8 + (3 + 11) + lo ≤ R.locals) (he : W0[q0]? = some (a, .inr (3, fs))) (hn : As.length = 2) (hW : (rest.map fun v => v.category).sum ≤ 8) (hdg : decode cc pc = .ok (.invokevirtual 156, 3)) (hf : cells + mc ≤ R.cells ∧ slots + ms ≤ R.slots) (kk : ∀ (v : Option Value) (W1 : va_W), K v W1 → ∀ (H1 : Heap) (locs1 : List Loc), HS Γ s W1 H1 locs1 → W p l e R s m args below meth c H1 locs1 (cells + mc) (slots + ms) Q (F0 m (pc + 3) ls (v.toList ++ rest))) : W p l e R s m args below meth c H locs cells slots Q (F0 m pc ls (As.reverse ++ .ref a :: rest)) :=
  z_callV X hG h hls hM kw_xM_156 kc_xM_cast (by decide +kernel) hR (ci := 3) rfl rfl he hn hW hdg hf kk
theorem cx_xM_160 {K : Option Value → va_W → Prop} {As : List Value} {fr lo mc ms : Nat} {W0 : va_W} {a q0 : Nat} {fs : List Value} (X : CallFix p m c cc nL s args big RxM) (hG : GX Γ s s.heap) (h : HS Γ s W0 H locs) (hls : ls.size = nL) (hM : MM l yxM_wake cxM_wake 2 (some (.object "ThrowScenario$Way")) fr lo Γ (.ref a :: As) W0 K mc ms) (hR : fr + 1 ≤ R.frames ∧ 8 + (2 + 11) + lo ≤ R.locals) (he : W0[q0]? = some (a, .inr (3, fs))) (hn : As.length = 1) (hW : (rest.map fun v => v.category).sum ≤ 8) (hdg : decode cc pc = .ok (.invokevirtual 160, 3)) (hf : cells + mc ≤ R.cells ∧ slots + ms ≤ R.slots) (kk : ∀ (v : Option Value) (W1 : va_W), K v W1 → ∀ (H1 : Heap) (locs1 : List Loc), HS Γ s W1 H1 locs1 → W p l e R s m args below meth c H1 locs1 (cells + mc) (slots + ms) Q (F0 m (pc + 3) ls (v.toList ++ rest))) : W p l e R s m args below meth c H locs cells slots Q (F0 m pc ls (As.reverse ++ .ref a :: rest)) :=
  z_callV X hG h hls hM kw_xM_160 kc_xM_wake (by decide +kernel) hR (ci := 3) rfl rfl he hn hW hdg hf kk
theorem cx_xM_163 {K : Option Value → va_W → Prop} {As : List Value} {fr lo mc ms : Nat} {W0 : va_W} {a q0 : Nat} {fs : List Value} (X : CallFix p m c cc nL s args big RxM) (hG : GX Γ s s.heap) (h : HS Γ s W0 H locs) (hls : ls.size = nL) (hM : MM l yxM_note cxM_note 3 (some (.object "ThrowScenario$Way")) fr lo Γ (.ref a :: As) W0 K mc ms) (hR : fr + 1 ≤ R.frames ∧ 8 + (3 + 11) + lo ≤ R.locals) (he : W0[q0]? = some (a, .inr (3, fs))) (hn : As.length = 2) (hW : (rest.map fun v => v.category).sum ≤ 8) (hdg : decode cc pc = .ok (.invokevirtual 163, 3)) (hf : cells + mc ≤ R.cells ∧ slots + ms ≤ R.slots) (kk : ∀ (v : Option Value) (W1 : va_W), K v W1 → ∀ (H1 : Heap) (locs1 : List Loc), HS Γ s W1 H1 locs1 → W p l e R s m args below meth c H1 locs1 (cells + mc) (slots + ms) Q (F0 m (pc + 3) ls (v.toList ++ rest))) : W p l e R s m args below meth c H locs cells slots Q (F0 m pc ls (As.reverse ++ .ref a :: rest)) :=
  z_callV X hG h hls hM kw_xM_163 kc_xM_note (by decide +kernel) hR (ci := 3) rfl rfl he hn hW hdg hf kk
theorem cx_xM_71 {K : Option Value → va_W → Prop} {As : List Value} {fr lo mc ms : Nat} {W0 : va_W} {a q0 : Nat} {fs : List Value} (X : CallFix p m c cc nL s args big RxM) (hG : GX Γ s s.heap) (h : HS Γ s W0 H locs) (hls : ls.size = nL) (hM : MM l yxM_perform cxM_perform 5 (some (.object "ThrowScenario$Way")) fr lo Γ (.ref a :: As) W0 K mc ms) (hR : fr + 1 ≤ R.frames ∧ 8 + (5 + 11) + lo ≤ R.locals) (he : W0[q0]? = some (a, .inr (3, fs))) (hn : As.length = 3) (hW : (rest.map fun v => v.category).sum ≤ 8) (hdg : decode cc pc = .ok (.invokevirtual 71, 3)) (hf : cells + mc ≤ R.cells ∧ slots + ms ≤ R.slots) (kk : ∀ (v : Option Value) (W1 : va_W), K v W1 → ∀ (H1 : Heap) (locs1 : List Loc), HS Γ s W1 H1 locs1 → W p l e R s m args below meth c H1 locs1 (cells + mc) (slots + ms) Q (F0 m (pc + 3) ls (v.toList ++ rest))) : W p l e R s m args below meth c H locs cells slots Q (F0 m pc ls (As.reverse ++ .ref a :: rest)) :=
  z_callV X hG h hls hM kw_xM_71 kc_xM_perform (by decide +kernel) hR (ci := 3) rfl rfl he hn hW hdg hf kk
theorem gx_xM_166 (X : CallFix p m c cc nL s args big RxM) (hG : GX Γ s s.heap) (h : HS Γ s (WX Γ θ ρ S Z) H locs) (hdg : decode cc pc = .ok (.getstatic 166, 3)) (kk : W p l e R s m args below meth c H locs cells slots Q (F0 m (pc + 3) ls (.ref (Γ.2.2.2.1 0) :: rest))) : W p l e R s m args below meth c H locs cells slots Q (F0 m pc ls (rest)) :=
  va_gets X.1 X.2.1 ((GX_E hG).1 0 (by decide)).1 h.2.2 X.2.2.2.1 (X.2.2.2.2 _ kF_xM_166) (fun _ h9 => h9) hdg kk
theorem gx_xM_169 (X : CallFix p m c cc nL s args big RxM) (hG : GX Γ s s.heap) (h : HS Γ s (WX Γ θ ρ S Z) H locs) {j : Nat} (hj : j < ρ.2.1) {x : Int32} (hx : ρ.2.2.1 3 j = x) (hdg : decode cc pc = .ok (.getfield 169, 3)) (kk : W p l e R s m args below meth c H locs cells slots Q (F0 m (pc + 3) ls (.int x :: rest))) : W p l e R s m args below meth c H locs cells slots Q (F0 m pc ls (.ref (ρ.1 j) :: rest)) := by
  subst hx; exact z_get X hG h in_xN (314 + j) (WX_node hj) rfl 3 (by decide) rfl kF_xM_169 rfl hdg kk
theorem cx_xM_172 {K : Option Value → va_W → Prop} {As : List Value} {fr lo mc ms : Nat} {W0 : va_W} {a q0 : Nat} {fs : List Value} (X : CallFix p m c cc nL s args big RxM) (hG : GX Γ s s.heap) (h : HS Γ s W0 H locs) (hls : ls.size = nL) (hM : MM l yxP_isDefined cxP_isDefined 2 (some .boolean) fr lo Γ (.ref a :: As) W0 K mc ms) (hR : fr + 1 ≤ R.frames ∧ 8 + (2 + 11) + lo ≤ R.locals) (he : W0[q0]? = some (a, .inr (2, fs))) (hn : As.length = 1) (hW : (rest.map fun v => v.category).sum ≤ 8) (hdg : decode cc pc = .ok (.invokevirtual 172, 3)) (hf : cells + mc ≤ R.cells ∧ slots + ms ≤ R.slots) (kk : ∀ (v : Option Value) (W1 : va_W), K v W1 → ∀ (H1 : Heap) (locs1 : List Loc), HS Γ s W1 H1 locs1 → W p l e R s m args below meth c H1 locs1 (cells + mc) (slots + ms) Q (F0 m (pc + 3) ls (v.toList ++ rest))) : W p l e R s m args below meth c H locs cells slots Q (F0 m pc ls (As.reverse ++ .ref a :: rest)) :=
  z_callV X hG h hls hM kw_xM_172 kc_xP_isDefined (by decide +kernel) hR (ci := 2) rfl rfl he hn hW hdg hf kk
theorem gx_xM_59 (X : CallFix p m c cc nL s args big RxM) (hG : GX Γ s s.heap) (h : HS Γ s (WX Γ θ ρ S Z) H locs) {x : Int32} (hx : ρ.2.2.1 7 3 = x) (hdg : decode cc pc = .ok (.getfield 59, 3)) (kk : W p l e R s m args below meth c H locs cells slots Q (F0 m (pc + 3) ls (.int x :: rest))) : W p l e R s m args below meth c H locs cells slots Q (F0 m pc ls (.ref (θ.1 6) :: rest)) := by
  subst hx; exact z_get X hG h in_xM 6 rfl rfl 2 (by decide) rfl kF_xM_59 rfl hdg kk
theorem cx_xM_67 {K : Option Value → va_W → Prop} {As : List Value} {fr lo mc ms : Nat} {W0 : va_W} {a q0 : Nat} {fs : List Value} (X : CallFix p m c cc nL s args big RxM) (hG : GX Γ s s.heap) (h : HS Γ s W0 H locs) (hls : ls.size = nL) (hM : MM l yxP_statementOf cxP_statementOf 2 (some .int) fr lo Γ (.ref a :: As) W0 K mc ms) (hR : fr + 1 ≤ R.frames ∧ 8 + (2 + 11) + lo ≤ R.locals) (he : W0[q0]? = some (a, .inr (2, fs))) (hn : As.length = 1) (hW : (rest.map fun v => v.category).sum ≤ 8) (hdg : decode cc pc = .ok (.invokevirtual 67, 3)) (hf : cells + mc ≤ R.cells ∧ slots + ms ≤ R.slots) (kk : ∀ (v : Option Value) (W1 : va_W), K v W1 → ∀ (H1 : Heap) (locs1 : List Loc), HS Γ s W1 H1 locs1 → W p l e R s m args below meth c H1 locs1 (cells + mc) (slots + ms) Q (F0 m (pc + 3) ls (v.toList ++ rest))) : W p l e R s m args below meth c H locs cells slots Q (F0 m pc ls (As.reverse ++ .ref a :: rest)) :=
  z_callV X hG h hls hM kw_xM_67 kc_xP_statementOf (by decide +kernel) hR (ci := 2) rfl rfl he hn hW hdg hf kk
theorem gx_xM_178 (X : CallFix p m c cc nL s args big RxM) (hG : GX Γ s s.heap) (h : HS Γ s (WX Γ θ ρ S Z) H locs) (hdg : decode cc pc = .ok (.getstatic 178, 3)) (kk : W p l e R s m args below meth c H locs cells slots Q (F0 m (pc + 3) ls (.ref (Γ.2.2.2.1 3) :: rest))) : W p l e R s m args below meth c H locs cells slots Q (F0 m pc ls (rest)) :=
  va_gets X.1 X.2.1 ((GX_E hG).1 3 (by decide)).1 h.2.2 X.2.2.2.1 (X.2.2.2.2 _ kF_xM_178) (fun _ h9 => h9) hdg kk
theorem gx_xM_181 (X : CallFix p m c cc nL s args big RxM) (hG : GX Γ s s.heap) (h : HS Γ s (WX Γ θ ρ S Z) H locs) {w : Nat} (hw : w < 6) (hdg : decode cc pc = .ok (.getfield 181, 3)) (kk : W p l e R s m args below meth c H locs cells slots Q (F0 m (pc + 3) ls (.int (er w) :: rest))) : W p l e R s m args below meth c H locs cells slots Q (F0 m pc ls (.ref (Γ.2.2.2.1 w) :: rest)) :=
  va_getE (q := ("ThrowScenario$Way", "endsRun", "Z", [0, 0, 0, 0, 1, 1])) X.1 X.2.1 (GX_E hG) hw h.2.2 X.2.2.2.1 (List.mem_singleton.mpr rfl) (X.2.2.2.2 _ kF_xM_181) (fun _ h9 => h9) hdg kk
theorem gx_xM_55 (X : CallFix p m c cc nL s args big RxM) (hG : GX Γ s s.heap) (h : HS Γ s (WX Γ θ ρ S Z) H locs) (hdg : decode cc pc = .ok (.getfield 55, 3)) (kk : W p l e R s m args below meth c H locs cells slots Q (F0 m (pc + 3) ls (.ref (θ.1 1) :: rest))) : W p l e R s m args below meth c H locs cells slots Q (F0 m pc ls (.ref (θ.1 6) :: rest)) := by
  exact z_get X hG h in_xM 6 rfl rfl 1 (by decide) rfl kF_xM_55 rfl hdg kk
theorem gx_xM_185 (X : CallFix p m c cc nL s args big RxM) (hG : GX Γ s s.heap) (h : HS Γ s (WX Γ θ ρ S Z) H locs) {j : Nat} (hj : j < 300) {x : Int32} (hx : S.1 3 j = x) (hdg : decode cc pc = .ok (.getfield 185, 3)) (kk : W p l e R s m args below meth c H locs cells slots Q (F0 m (pc + 3) ls (.int x :: rest))) : W p l e R s m args below meth c H locs cells slots Q (F0 m pc ls (.ref (θ.2 j) :: rest)) := by
  subst hx; exact z_get X hG h in_xH (14 + j) (WX_thr hj) rfl 0 (by decide) rfl kF_xM_185 rfl hdg kk
theorem cx_xM_188 {K : Option Value → va_W → Prop} {As : List Value} {fr lo mc ms : Nat} {W0 : va_W} {a q0 : Nat} {fs : List Value} (X : CallFix p m c cc nL s args big RxM) (hG : GX Γ s s.heap) (h : HS Γ s W0 H locs) (hls : ls.size = nL) (hM : MM l yxC_is cxC_is 5 (some .boolean) fr lo Γ (.ref a :: As) W0 K mc ms) (hR : fr + 1 ≤ R.frames ∧ 8 + (5 + 11) + lo ≤ R.locals) (he : W0[q0]? = some (a, .inr (1, fs))) (hn : As.length = 2) (hW : (rest.map fun v => v.category).sum ≤ 8) (hdg : decode cc pc = .ok (.invokevirtual 188, 3)) (hf : cells + mc ≤ R.cells ∧ slots + ms ≤ R.slots) (kk : ∀ (v : Option Value) (W1 : va_W), K v W1 → ∀ (H1 : Heap) (locs1 : List Loc), HS Γ s W1 H1 locs1 → W p l e R s m args below meth c H1 locs1 (cells + mc) (slots + ms) Q (F0 m (pc + 3) ls (v.toList ++ rest))) : W p l e R s m args below meth c H locs cells slots Q (F0 m pc ls (As.reverse ++ .ref a :: rest)) :=
  z_callV X hG h hls hM kw_xM_188 kc_xC_is (by decide +kernel) hR (ci := 1) rfl rfl he hn hW hdg hf kk
theorem gx_xM_194 (X : CallFix p m c cc nL s args big RxM) (hG : GX Γ s s.heap) (h : HS Γ s (WX Γ θ ρ S Z) H locs) {j : Nat} (hj : j < 300) {x : Int32} (hx : S.1 6 j = x) (hdg : decode cc pc = .ok (.getfield 194, 3)) (kk : W p l e R s m args below meth c H locs cells slots Q (F0 m (pc + 3) ls (.int x :: rest))) : W p l e R s m args below meth c H locs cells slots Q (F0 m pc ls (.ref (θ.2 j) :: rest)) := by
  subst hx; exact z_get X hG h in_xH (14 + j) (WX_thr hj) rfl 3 (by decide) rfl kF_xM_194 rfl hdg kk
theorem px_xM_194 (X : CallFix p m c cc nL s args big RxM) (hG : GX Γ s s.heap) (h : HS Γ s (WX Γ θ ρ S Z) H locs) {j : Nat} (hj : j < 300) {v : Int32} (hdg : decode cc pc = .ok (.putfield 194, 3)) (kk : ∀ (H1 : Heap) (locs1 : List Loc), HS Γ s (WX Γ θ ρ (sR S 6 j v) Z) H1 locs1 → W p l e R s m args below meth c H1 locs1 cells slots Q (F0 m (pc + 3) ls (rest))) : W p l e R s m args below meth c H locs cells slots Q (F0 m pc ls (.int v :: .ref (θ.2 j) :: rest)) :=
  z_put X hG h in_xH txH oxH nxH (14 + j) (WX_thr hj) rfl 3 (by decide) rfl kF_xM_194 rfl rfl rfl (Nat.le_of_ble_eq_true rfl) hdg (fun H1 locs1 h1 => kk H1 locs1 (by rw [← WX_set (S := S) (S1 := (sR S 6 j v)) hj rfl (thX_TR6)]; exact h1))
theorem px_xM_48 (X : CallFix p m c cc nL s args big RxM) (hG : GX Γ s s.heap) (h : HS Γ s (WX Γ θ ρ S Z) H locs) {v : Int32} (hdg : decode cc pc = .ok (.putfield 48, 3)) (kk : ∀ (H1 : Heap) (locs1 : List Loc), HS Γ s (WX Γ θ ρ (sR S 7 6 v) Z) H1 locs1 → W p l e R s m args below meth c H1 locs1 cells slots Q (F0 m (pc + 3) ls (rest))) : W p l e R s m args below meth c H locs cells slots Q (F0 m pc ls (.int v :: .ref (θ.1 6) :: rest)) :=
  z_put X hG h in_xM txM oxM nxM 6 rfl rfl 13 (by decide) rfl kF_xM_48 rfl rfl rfl (Nat.le_of_ble_eq_true rfl) hdg (fun H1 locs1 h1 => kk H1 locs1 h1)
theorem px_xM_63 (X : CallFix p m c cc nL s args big RxM) (hG : GX Γ s s.heap) (h : HS Γ s (WX Γ θ ρ S Z) H locs) {o : Option Nat} (hdg : decode cc pc = .ok (.putfield 63, 3)) (kk : ∀ (H1 : Heap) (locs1 : List Loc), HS Γ s (WX Γ θ ρ (sC S 300 o) Z) H1 locs1 → W p l e R s m args below meth c H1 locs1 cells slots Q (F0 m (pc + 3) ls (rest))) : W p l e R s m args below meth c H locs cells slots Q (F0 m pc ls (va_rf (Option.map θ.2 o) :: .ref (θ.1 6) :: rest)) :=
  z_put X hG h in_xM txM oxM nxM 6 rfl rfl 14 (by decide) rfl kF_xM_63 rfl (rf_nar _) (rf_fit _) (Nat.le_of_ble_eq_true rfl) hdg (fun H1 locs1 h1 => kk H1 locs1 (by rw [WX_c (k := 300) (by decide)]; exact h1))
theorem gx_xM_25 (X : CallFix p m c cc nL s args big RxM) (hG : GX Γ s s.heap) (h : HS Γ s (WX Γ θ ρ S Z) H locs) (hdg : decode cc pc = .ok (.getfield 25, 3)) (kk : W p l e R s m args below meth c H locs cells slots Q (F0 m (pc + 3) ls (.ref (θ.1 10) :: rest))) : W p l e R s m args below meth c H locs cells slots Q (F0 m pc ls (.ref (θ.1 6) :: rest)) := by
  exact z_get X hG h in_xM 6 rfl rfl 6 (by decide) rfl kF_xM_25 rfl hdg kk
theorem cx_xM_197 {K : Option Value → va_W → Prop} {As : List Value} {fr lo mc ms : Nat} {W0 : va_W} {a q0 : Nat} {fs : List Value} (X : CallFix p m c cc nL s args big RxM) (hG : GX Γ s s.heap) (h : HS Γ s W0 H locs) (hls : ls.size = nL) (hM : MM l yxH_become cxH_become 4 none fr lo Γ (.ref a :: As) W0 K mc ms) (hR : fr + 1 ≤ R.frames ∧ 8 + (4 + 11) + lo ≤ R.locals) (he : W0[q0]? = some (a, .inr (5, fs))) (hn : As.length = 3) (hW : (rest.map fun v => v.category).sum ≤ 8) (hdg : decode cc pc = .ok (.invokevirtual 197, 3)) (hf : cells + mc ≤ R.cells ∧ slots + ms ≤ R.slots) (kk : ∀ (v : Option Value) (W1 : va_W), K v W1 → ∀ (H1 : Heap) (locs1 : List Loc), HS Γ s W1 H1 locs1 → W p l e R s m args below meth c H1 locs1 (cells + mc) (slots + ms) Q (F0 m (pc + 3) ls (v.toList ++ rest))) : W p l e R s m args below meth c H locs cells slots Q (F0 m pc ls (As.reverse ++ .ref a :: rest)) :=
  z_callV X hG h hls hM kw_xM_197 kc_xH_become (by decide +kernel) hR (ci := 5) rfl rfl he hn hW hdg hf kk
theorem cx_xM_201 {K : Option Value → va_W → Prop} {As : List Value} {fr lo mc ms : Nat} {W0 : va_W} {a q0 : Nat} {fs : List Value} (X : CallFix p m c cc nL s args big RxM) (hG : GX Γ s s.heap) (h : HS Γ s W0 H locs) (hls : ls.size = nL) (hM : MM l yxM_addToLog cxM_addToLog 2 none fr lo Γ (.ref a :: As) W0 K mc ms) (hR : fr + 1 ≤ R.frames ∧ 8 + (2 + 11) + lo ≤ R.locals) (he : W0[q0]? = some (a, .inr (3, fs))) (hn : As.length = 1) (hW : (rest.map fun v => v.category).sum ≤ 8) (hdg : decode cc pc = .ok (.invokevirtual 201, 3)) (hf : cells + mc ≤ R.cells ∧ slots + ms ≤ R.slots) (kk : ∀ (v : Option Value) (W1 : va_W), K v W1 → ∀ (H1 : Heap) (locs1 : List Loc), HS Γ s W1 H1 locs1 → W p l e R s m args below meth c H1 locs1 (cells + mc) (slots + ms) Q (F0 m (pc + 3) ls (v.toList ++ rest))) : W p l e R s m args below meth c H locs cells slots Q (F0 m pc ls (As.reverse ++ .ref a :: rest)) :=
  z_callV X hG h hls hM kw_xM_201 kc_xM_addToLog (by decide +kernel) hR (ci := 3) rfl rfl he hn hW hdg hf kk
theorem cx_xM_205 {K : Option Value → va_W → Prop} {As : List Value} {fr lo mc ms : Nat} {W0 : va_W} {a q0 : Nat} {fs : List Value} (X : CallFix p m c cc nL s args big RxM) (hG : GX Γ s s.heap) (h : HS Γ s W0 H locs) (hls : ls.size = nL) (hM : MM l yxH_origin cxH_origin 2 (some (.object "ThrowScenario$Thrown")) fr lo Γ (.ref a :: As) W0 K mc ms) (hR : fr + 1 ≤ R.frames ∧ 8 + (2 + 11) + lo ≤ R.locals) (he : W0[q0]? = some (a, .inr (5, fs))) (hn : As.length = 0) (hW : (rest.map fun v => v.category).sum ≤ 8) (hdg : decode cc pc = .ok (.invokevirtual 205, 3)) (hf : cells + mc ≤ R.cells ∧ slots + ms ≤ R.slots) (kk : ∀ (v : Option Value) (W1 : va_W), K v W1 → ∀ (H1 : Heap) (locs1 : List Loc), HS Γ s W1 H1 locs1 → W p l e R s m args below meth c H1 locs1 (cells + mc) (slots + ms) Q (F0 m (pc + 3) ls (v.toList ++ rest))) : W p l e R s m args below meth c H locs cells slots Q (F0 m pc ls (As.reverse ++ .ref a :: rest)) :=
  z_callV X hG h hls hM kw_xM_205 kc_xH_origin (by decide +kernel) hR (ci := 5) rfl rfl he hn hW hdg hf kk
theorem gx_xP_19 (X : CallFix p m c cc nL s args big RxP) (hG : GX Γ s s.heap) (h : HS Γ s (WX Γ θ ρ S Z) H locs) {x : Int32} (hx : ρ.2.2.1 7 1 = x) (hdg : decode cc pc = .ok (.getfield 19, 3)) (kk : W p l e R s m args below meth c H locs cells slots Q (F0 m (pc + 3) ls (.int x :: rest))) : W p l e R s m args below meth c H locs cells slots Q (F0 m pc ls (.ref (θ.1 3) :: rest)) := by
  subst hx; exact z_get X hG h in_xP 3 rfl rfl 3 (by decide) rfl kF_xP_19 rfl hdg kk
theorem gx_xP_11 (X : CallFix p m c cc nL s args big RxP) (hG : GX Γ s s.heap) (h : HS Γ s (WX Γ θ ρ S Z) H locs) (hdg : decode cc pc = .ok (.getfield 11, 3)) (kk : W p l e R s m args below meth c H locs cells slots Q (F0 m (pc + 3) ls (.ref (θ.1 4) :: rest))) : W p l e R s m args below meth c H locs cells slots Q (F0 m pc ls (.ref (θ.1 3) :: rest)) := by
  exact z_get X hG h in_xP 3 rfl rfl 1 (by decide) rfl kF_xP_11 rfl hdg kk
theorem gx_xP_15 (X : CallFix p m c cc nL s args big RxP) (hG : GX Γ s s.heap) (h : HS Γ s (WX Γ θ ρ S Z) H locs) (hdg : decode cc pc = .ok (.getfield 15, 3)) (kk : W p l e R s m args below meth c H locs cells slots Q (F0 m (pc + 3) ls (.ref (θ.1 5) :: rest))) : W p l e R s m args below meth c H locs cells slots Q (F0 m pc ls (.ref (θ.1 3) :: rest)) := by
  exact z_get X hG h in_xP 3 rfl rfl 2 (by decide) rfl kF_xP_15 rfl hdg kk
theorem cx_xP_34 {K : Option Value → va_W → Prop} {As : List Value} {fr lo mc ms : Nat} {W0 : va_W} (X : CallFix p m c cc nL s args big RxP) (hG : GX Γ s s.heap) (h : HS Γ s W0 H locs) (hls : ls.size = nL) (hM : MM l yxP_isRoutine cxP_isRoutine 1 (some .boolean) fr lo Γ As W0 K mc ms) (hR : fr + 1 ≤ R.frames ∧ 8 + (1 + 11) + lo ≤ R.locals) (hn : As.length = 1) (hW : (rest.map fun v => v.category).sum ≤ 8) (hdg : decode cc pc = .ok (.invokestatic 34, 3)) (hf : cells + mc ≤ R.cells ∧ slots + ms ≤ R.slots) (kk : ∀ (v : Option Value) (W1 : va_W), K v W1 → ∀ (H1 : Heap) (locs1 : List Loc), HS Γ s W1 H1 locs1 → W p l e R s m args below meth c H1 locs1 (cells + mc) (slots + ms) Q (F0 m (pc + 3) ls (v.toList ++ rest))) : W p l e R s m args below meth c H locs cells slots Q (F0 m pc ls (As.reverse ++ rest)) :=
  z_callS X hG h hls hM kw_xP_34 kc_xP_isRoutine (by decide +kernel) hR hn hW hdg hf kk
theorem cx_xP_38 {K : Option Value → va_W → Prop} {As : List Value} {fr lo mc ms : Nat} {W0 : va_W} (X : CallFix p m c cc nL s args big RxP) (hG : GX Γ s s.heap) (h : HS Γ s W0 H locs) (hls : ls.size = nL) (hM : MM l yxP_isVariable cxP_isVariable 1 (some .boolean) fr lo Γ As W0 K mc ms) (hR : fr + 1 ≤ R.frames ∧ 8 + (1 + 11) + lo ≤ R.locals) (hn : As.length = 1) (hW : (rest.map fun v => v.category).sum ≤ 8) (hdg : decode cc pc = .ok (.invokestatic 38, 3)) (hf : cells + mc ≤ R.cells ∧ slots + ms ≤ R.slots) (kk : ∀ (v : Option Value) (W1 : va_W), K v W1 → ∀ (H1 : Heap) (locs1 : List Loc), HS Γ s W1 H1 locs1 → W p l e R s m args below meth c H1 locs1 (cells + mc) (slots + ms) Q (F0 m (pc + 3) ls (v.toList ++ rest))) : W p l e R s m args below meth c H locs cells slots Q (F0 m pc ls (As.reverse ++ rest)) :=
  z_callS X hG h hls hM kw_xP_38 kc_xP_isVariable (by decide +kernel) hR hn hW hdg hf kk
theorem cx_xP_41 {K : Option Value → va_W → Prop} {As : List Value} {fr lo mc ms : Nat} {W0 : va_W} {a q0 : Nat} {fs : List Value} (X : CallFix p m c cc nL s args big RxP) (hG : GX Γ s s.heap) (h : HS Γ s W0 H locs) (hls : ls.size = nL) (hM : MM l yxP_isNode cxP_isNode 2 (some .boolean) fr lo Γ (.ref a :: As) W0 K mc ms) (hR : fr + 1 ≤ R.frames ∧ 8 + (2 + 11) + lo ≤ R.locals) (he : W0[q0]? = some (a, .inr (2, fs))) (hn : As.length = 1) (hW : (rest.map fun v => v.category).sum ≤ 8) (hdg : decode cc pc = .ok (.invokevirtual 41, 3)) (hf : cells + mc ≤ R.cells ∧ slots + ms ≤ R.slots) (kk : ∀ (v : Option Value) (W1 : va_W), K v W1 → ∀ (H1 : Heap) (locs1 : List Loc), HS Γ s W1 H1 locs1 → W p l e R s m args below meth c H1 locs1 (cells + mc) (slots + ms) Q (F0 m (pc + 3) ls (v.toList ++ rest))) : W p l e R s m args below meth c H locs cells slots Q (F0 m pc ls (As.reverse ++ .ref a :: rest)) :=
  z_callV X hG h hls hM kw_xP_41 kc_xP_isNode (by decide +kernel) hR (ci := 2) rfl rfl he hn hW hdg hf kk
theorem gx_xP_23 (X : CallFix p m c cc nL s args big RxP) (hG : GX Γ s s.heap) (h : HS Γ s (WX Γ θ ρ S Z) H locs) (hdg : decode cc pc = .ok (.getfield 23, 3)) (kk : W p l e R s m args below meth c H locs cells slots Q (F0 m (pc + 3) ls (.ref (θ.1 1) :: rest))) : W p l e R s m args below meth c H locs cells slots Q (F0 m pc ls (.ref (θ.1 3) :: rest)) := by
  exact z_get X hG h in_xP 3 rfl rfl 0 (by decide) rfl kF_xP_23 rfl hdg kk
theorem cx_xP_44 {K : Option Value → va_W → Prop} {As : List Value} {fr lo mc ms : Nat} {W0 : va_W} {a q0 : Nat} {fs : List Value} (X : CallFix p m c cc nL s args big RxP) (hG : GX Γ s s.heap) (h : HS Γ s W0 H locs) (hls : ls.size = nL) (hM : MM l yxC_has cxC_has 2 (some .boolean) fr lo Γ (.ref a :: As) W0 K mc ms) (hR : fr + 1 ≤ R.frames ∧ 8 + (2 + 11) + lo ≤ R.locals) (he : W0[q0]? = some (a, .inr (1, fs))) (hn : As.length = 1) (hW : (rest.map fun v => v.category).sum ≤ 8) (hdg : decode cc pc = .ok (.invokevirtual 44, 3)) (hf : cells + mc ≤ R.cells ∧ slots + ms ≤ R.slots) (kk : ∀ (v : Option Value) (W1 : va_W), K v W1 → ∀ (H1 : Heap) (locs1 : List Loc), HS Γ s W1 H1 locs1 → W p l e R s m args below meth c H1 locs1 (cells + mc) (slots + ms) Q (F0 m (pc + 3) ls (v.toList ++ rest))) : W p l e R s m args below meth c H locs cells slots Q (F0 m pc ls (As.reverse ++ .ref a :: rest)) :=
  z_callV X hG h hls hM kw_xP_44 kc_xC_has (by decide +kernel) hR (ci := 1) rfl rfl he hn hW hdg hf kk
theorem cx_xP_49 {K : Option Value → va_W → Prop} {As : List Value} {fr lo mc ms : Nat} {W0 : va_W} (X : CallFix p m c cc nL s args big RxP) (hG : GX Γ s s.heap) (h : HS Γ s W0 H locs) (hls : ls.size = nL) (hM : MM l yxP_isMonitor cxP_isMonitor 1 (some .boolean) fr lo Γ As W0 K mc ms) (hR : fr + 1 ≤ R.frames ∧ 8 + (1 + 11) + lo ≤ R.locals) (hn : As.length = 1) (hW : (rest.map fun v => v.category).sum ≤ 8) (hdg : decode cc pc = .ok (.invokestatic 49, 3)) (hf : cells + mc ≤ R.cells ∧ slots + ms ≤ R.slots) (kk : ∀ (v : Option Value) (W1 : va_W), K v W1 → ∀ (H1 : Heap) (locs1 : List Loc), HS Γ s W1 H1 locs1 → W p l e R s m args below meth c H1 locs1 (cells + mc) (slots + ms) Q (F0 m (pc + 3) ls (v.toList ++ rest))) : W p l e R s m args below meth c H locs cells slots Q (F0 m pc ls (As.reverse ++ rest)) :=
  z_callS X hG h hls hM kw_xP_49 kc_xP_isMonitor (by decide +kernel) hR hn hW hdg hf kk
theorem cx_xP_52 {K : Option Value → va_W → Prop} {As : List Value} {fr lo mc ms : Nat} {W0 : va_W} {a q0 : Nat} {fs : List Value} (X : CallFix p m c cc nL s args big RxP) (hG : GX Γ s s.heap) (h : HS Γ s W0 H locs) (hls : ls.size = nL) (hM : MM l yxP_levelAt cxP_levelAt 2 (some .int) fr lo Γ (.ref a :: As) W0 K mc ms) (hR : fr + 1 ≤ R.frames ∧ 8 + (2 + 11) + lo ≤ R.locals) (he : W0[q0]? = some (a, .inr (2, fs))) (hn : As.length = 1) (hW : (rest.map fun v => v.category).sum ≤ 8) (hdg : decode cc pc = .ok (.invokevirtual 52, 3)) (hf : cells + mc ≤ R.cells ∧ slots + ms ≤ R.slots) (kk : ∀ (v : Option Value) (W1 : va_W), K v W1 → ∀ (H1 : Heap) (locs1 : List Loc), HS Γ s W1 H1 locs1 → W p l e R s m args below meth c H1 locs1 (cells + mc) (slots + ms) Q (F0 m (pc + 3) ls (v.toList ++ rest))) : W p l e R s m args below meth c H locs cells slots Q (F0 m pc ls (As.reverse ++ .ref a :: rest)) :=
  z_callV X hG h hls hM kw_xP_52 kc_xP_levelAt (by decide +kernel) hR (ci := 2) rfl rfl he hn hW hdg hf kk
theorem gx_xP_62 (X : CallFix p m c cc nL s args big RxP) (hG : GX Γ s s.heap) (h : HS Γ s (WX Γ θ ρ S Z) H locs) {j : Nat} (hj : j < ρ.2.1) {x : Int32} (hx : ρ.2.2.1 4 j = x) (hdg : decode cc pc = .ok (.getfield 62, 3)) (kk : W p l e R s m args below meth c H locs cells slots Q (F0 m (pc + 3) ls (.int x :: rest))) : W p l e R s m args below meth c H locs cells slots Q (F0 m pc ls (.ref (ρ.1 j) :: rest)) := by
  subst hx; exact z_get X hG h in_xN (314 + j) (WX_node hj) rfl 4 (by decide) rfl kF_xP_62 rfl hdg kk
theorem px_xH_7 (X : CallFix p m c cc nL s args big RxH) (hG : GX Γ s s.heap) (h : HS Γ s (WX Γ θ ρ S Z) H locs) {j : Nat} (hj : j < 300) {v : Int32} (hdg : decode cc pc = .ok (.putfield 7, 3)) (kk : ∀ (H1 : Heap) (locs1 : List Loc), HS Γ s (WX Γ θ ρ (sR S 3 j v) Z) H1 locs1 → W p l e R s m args below meth c H1 locs1 cells slots Q (F0 m (pc + 3) ls (rest))) : W p l e R s m args below meth c H locs cells slots Q (F0 m pc ls (.int v :: .ref (θ.2 j) :: rest)) :=
  z_put X hG h in_xH txH oxH nxH (14 + j) (WX_thr hj) rfl 0 (by decide) rfl kF_xH_7 rfl rfl rfl (Nat.le_of_ble_eq_true rfl) hdg (fun H1 locs1 h1 => kk H1 locs1 (by rw [← WX_set (S := S) (S1 := (sR S 3 j v)) hj rfl (thX_TR3)]; exact h1))
theorem px_xH_13 (X : CallFix p m c cc nL s args big RxH) (hG : GX Γ s s.heap) (h : HS Γ s (WX Γ θ ρ S Z) H locs) {j : Nat} (hj : j < 300) {v : Int32} (hdg : decode cc pc = .ok (.putfield 13, 3)) (kk : ∀ (H1 : Heap) (locs1 : List Loc), HS Γ s (WX Γ θ ρ (sR S 4 j v) Z) H1 locs1 → W p l e R s m args below meth c H1 locs1 cells slots Q (F0 m (pc + 3) ls (rest))) : W p l e R s m args below meth c H locs cells slots Q (F0 m pc ls (.int v :: .ref (θ.2 j) :: rest)) :=
  z_put X hG h in_xH txH oxH nxH (14 + j) (WX_thr hj) rfl 1 (by decide) rfl kF_xH_13 rfl rfl rfl (Nat.le_of_ble_eq_true rfl) hdg (fun H1 locs1 h1 => kk H1 locs1 (by rw [← WX_set (S := S) (S1 := (sR S 4 j v)) hj rfl (thX_TR4)]; exact h1))
theorem px_xH_16 (X : CallFix p m c cc nL s args big RxH) (hG : GX Γ s s.heap) (h : HS Γ s (WX Γ θ ρ S Z) H locs) {j : Nat} (hj : j < 300) {o : Option Nat} (hdg : decode cc pc = .ok (.putfield 16, 3)) (kk : ∀ (H1 : Heap) (locs1 : List Loc), HS Γ s (WX Γ θ ρ (sC S j o) Z) H1 locs1 → W p l e R s m args below meth c H1 locs1 cells slots Q (F0 m (pc + 3) ls (rest))) : W p l e R s m args below meth c H locs cells slots Q (F0 m pc ls (va_rf (Option.map θ.2 o) :: .ref (θ.2 j) :: rest)) :=
  z_put X hG h in_xH txH oxH nxH (14 + j) (WX_thr hj) rfl 2 (by decide) rfl kF_xH_16 rfl (rf_nar _) (rf_fit _) (Nat.le_of_ble_eq_true rfl) hdg (fun H1 locs1 h1 => kk H1 locs1 (by rw [← WX_set (S := S) (S1 := (sC S j o)) hj (fx_sC hj) (thX_TC)]; exact h1))
theorem px_xH_20 (X : CallFix p m c cc nL s args big RxH) (hG : GX Γ s s.heap) (h : HS Γ s (WX Γ θ ρ S Z) H locs) {j : Nat} (hj : j < 300) {v : Int32} (hdg : decode cc pc = .ok (.putfield 20, 3)) (kk : ∀ (H1 : Heap) (locs1 : List Loc), HS Γ s (WX Γ θ ρ (sR S 6 j v) Z) H1 locs1 → W p l e R s m args below meth c H1 locs1 cells slots Q (F0 m (pc + 3) ls (rest))) : W p l e R s m args below meth c H locs cells slots Q (F0 m pc ls (.int v :: .ref (θ.2 j) :: rest)) :=
  z_put X hG h in_xH txH oxH nxH (14 + j) (WX_thr hj) rfl 3 (by decide) rfl kF_xH_20 rfl rfl rfl (Nat.le_of_ble_eq_true rfl) hdg (fun H1 locs1 h1 => kk H1 locs1 (by rw [← WX_set (S := S) (S1 := (sR S 6 j v)) hj rfl (thX_TR6)]; exact h1))
theorem gx_xH_16 (X : CallFix p m c cc nL s args big RxH) (hG : GX Γ s s.heap) (h : HS Γ s (WX Γ θ ρ S Z) H locs) {j : Nat} (hj : j < 300) {x : Option Nat} (hx : S.2 j = x) (hdg : decode cc pc = .ok (.getfield 16, 3)) (kk : W p l e R s m args below meth c H locs cells slots Q (F0 m (pc + 3) ls (va_rf (Option.map θ.2 x) :: rest))) : W p l e R s m args below meth c H locs cells slots Q (F0 m pc ls (.ref (θ.2 j) :: rest)) := by
  subst hx; exact z_get X hG h in_xH (14 + j) (WX_thr hj) rfl 2 (by decide) rfl kF_xH_16 rfl hdg kk
end XR
end
section
def wxC_size  (post : Int32 → Sg → Prop) (ρ : Rh) (S : Sg)  : Prop := post (ρ.2.2.1 7 0) S
set_option maxHeartbeats 4000000 in
set_option maxRecDepth 100000 in
theorem mxC_size (l : Launch) (Γ : Gm) (θ : Th) (ρ : Rh) (S : Sg) (Z : va_W)  (post : Int32 → Sg → Prop) (hw : wxC_size post ρ S ) : MM l yxC_size cxC_size 1 (some .int) 0 0 Γ [.ref (θ.1 1)] (WX Γ θ ρ S Z) (KK (fun r : Int32 => some (.int r)) (fun S' => WX Γ θ ρ S' Z) post) 0 0 := by
  refine MM_of (by decide) (Nat.le_of_ble_eq_true rfl) ?_
  intro p e s m below meth c X hr hlk hnm hG h ls hl
  have hx := X.1
  have hb := X.2.1
  have hl : lv_has ls 1 [(0, .ref (θ.1 1))] := hl
  unfold wxC_size at hw
  refine lv_aload_n hx hb dxC_size_0 rfl (lv_at hl 0 rfl) ?_
  refine gx_xC_13 X hG h (x := ρ.2.2.1 7 0) rfl dxC_size_1 ?_
  exact z_iret X hr hlk h ⟨_, _, rfl, rfl, hw⟩ dxC_size_4
def wxC_has  (post : Int32 → Sg → Prop) (ρ : Rh) (S : Sg) (x : Int32) : Prop := ((x < (0 : Int32)) → post (0 : Int32) S) ∧ ((¬ (x < (0 : Int32))) → (((ρ.2.2.1 7 0) ≤ x) → post (0 : Int32) S) ∧ ((¬ ((ρ.2.2.1 7 0) ≤ x)) → post (1 : Int32) S))
set_option maxHeartbeats 4000000 in
set_option maxRecDepth 100000 in
theorem mxC_has (l : Launch) (Γ : Gm) (θ : Th) (ρ : Rh) (S : Sg) (Z : va_W) (x : Int32) (post : Int32 → Sg → Prop) (hw : wxC_has post ρ S x) : MM l yxC_has cxC_has 2 (some .boolean) 0 0 Γ [.ref (θ.1 1), .int x] (WX Γ θ ρ S Z) (KK (fun r : Int32 => some (.int r)) (fun S' => WX Γ θ ρ S' Z) post) 0 0 := by
  refine MM_of (by decide) (Nat.le_of_ble_eq_true rfl) ?_
  intro p e s m below meth c X hr hlk hnm hG h ls hl
  have hx := X.1
  have hb := X.2.1
  have hl : lv_has ls 2 [(0, .ref (θ.1 1)), (1, .int x)] := hl
  unfold wxC_has at hw
  refine lv_iload_n hx hb dxC_has_0 rfl (lv_at hl 1 rfl) ?_
  refine lv_if_lt (tgt := 16) hx hb dxC_has_1 (by decide) (fun c1 => ?_) (fun c1 => ?_)
  · have hw := hw.1 c1
    refine lv_iconst (v := 0) hx hb dxC_has_16 (by decide) ?_
    exact z_zret X hr hlk h rfl ⟨_, _, rfl, rfl, hw⟩ dxC_has_17
  · have hw := hw.2 c1
    refine lv_iload_n hx hb dxC_has_4 rfl (lv_at hl 1 rfl) ?_
    refine lv_aload_n hx hb dxC_has_5 rfl (lv_at hl 0 rfl) ?_
    refine gx_xC_13 X hG h (x := ρ.2.2.1 7 0) rfl dxC_has_6 ?_
    refine lv_icmp_ge (tgt := 16) hx hb dxC_has_9 (by decide) (fun c2 => ?_) (fun c2 => ?_)
    · have hw := hw.1 c2
      refine lv_iconst (v := 0) hx hb dxC_has_16 (by decide) ?_
      exact z_zret X hr hlk h rfl ⟨_, _, rfl, rfl, hw⟩ dxC_has_17
    · have hw := hw.2 c2
      refine lv_iconst (v := 1) hx hb dxC_has_12 (by decide) ?_
      refine lv_goto (tgt := 17) hx hb dxC_has_13 (by decide) ?_
      exact z_zret X hr hlk h rfl ⟨_, _, rfl, rfl, hw⟩ dxC_has_17
def wxC_isFull  (post : Int32 → Sg → Prop) (ρ : Rh) (S : Sg)  : Prop := ((¬ ((ρ.2.2.1 7 0) = (16 : Int32))) → post (0 : Int32) S) ∧ (((ρ.2.2.1 7 0) = (16 : Int32)) → post (1 : Int32) S)
set_option maxHeartbeats 4000000 in
set_option maxRecDepth 100000 in
theorem mxC_isFull (l : Launch) (Γ : Gm) (θ : Th) (ρ : Rh) (S : Sg) (Z : va_W)  (post : Int32 → Sg → Prop) (hw : wxC_isFull post ρ S ) : MM l yxC_isFull cxC_isFull 1 (some .boolean) 0 0 Γ [.ref (θ.1 1)] (WX Γ θ ρ S Z) (KK (fun r : Int32 => some (.int r)) (fun S' => WX Γ θ ρ S' Z) post) 0 0 := by
  refine MM_of (by decide) (Nat.le_of_ble_eq_true rfl) ?_
  intro p e s m below meth c X hr hlk hnm hG h ls hl
  have hx := X.1
  have hb := X.2.1
  have hl : lv_has ls 1 [(0, .ref (θ.1 1))] := hl
  unfold wxC_isFull at hw
  refine lv_aload_n hx hb dxC_isFull_0 rfl (lv_at hl 0 rfl) ?_
  refine gx_xC_13 X hG h (x := ρ.2.2.1 7 0) rfl dxC_isFull_1 ?_
  refine lv_bipush (v := 16) hx hb dxC_isFull_4 (by decide) ?_
  refine lv_icmp_ne (tgt := 13) hx hb dxC_isFull_6 (by decide) (fun c1 => ?_) (fun c1 => ?_)
  · have hw := hw.1 c1
    refine lv_iconst (v := 0) hx hb dxC_isFull_13 (by decide) ?_
    exact z_zret X hr hlk h rfl ⟨_, _, rfl, rfl, hw⟩ dxC_isFull_14
  · have hw := hw.2 c1
    refine lv_iconst (v := 1) hx hb dxC_isFull_9 (by decide) ?_
    refine lv_goto (tgt := 14) hx hb dxC_isFull_10 (by decide) ?_
    exact z_zret X hr hlk h rfl ⟨_, _, rfl, rfl, hw⟩ dxC_isFull_14
def wxC_is_c5  (post : Int32 → Sg → Prop) (ρ : Rh) (x : Int32) (y : Int32) : Nat → Sg → Int32 → Int32 → Prop
  | 0, _, _, _ => False
  | d + 1, S, a3, a4 => (((16 : Int32) ≤ a4) → ((¬ (a3 = y)) → post (0 : Int32) S) ∧ ((a3 = y) → post (1 : Int32) S)) ∧ ((¬ ((16 : Int32) ≤ a4)) → wxC_has (fun r3 S4 => ((r3 = (0 : Int32)) → ((¬ (a3 = y)) → post (0 : Int32) S4) ∧ ((a3 = y) → post (1 : Int32) S4)) ∧ ((¬ (r3 = (0 : Int32))) → ((a3 = y) → ((¬ (a3 = y)) → post (0 : Int32) S4) ∧ ((a3 = y) → post (1 : Int32) S4)) ∧ ((¬ (a3 = y)) → (vp_in a3 16) ∧ wxC_is_c5 post ρ x y d S4 (ρ.2.2.1 6 a3.toNatClampNeg) (a4 + 1)))) ρ S a3)
set_option maxHeartbeats 4000000 in
set_option maxRecDepth 100000 in
theorem txC_is_c5 {p : Program} {l : Launch} {e : Env} {s : State} {m : MethodId} {below : List Frame} {meth : Method} {c : Code} (Γ : Gm) (θ : Th) (ρ : Rh) (Z : va_W) (x : Int32) (y : Int32)  (post : Int32 → Sg → Prop) (X : CallFix p m c cxC_is 5 s ([.ref (θ.1 1), .int x, .int y] : List Value).toArray big RxC) (hr : meth.sig.returnType = (some .boolean)) (hlk : meth.locks = false) (hG : GX Γ s s.heap) :
    ∀ (d : Nat) (S : Sg) (a3 : Int32) (a4 : Int32) (hw : wxC_is_c5 post ρ x y d S a3 a4) (H : Heap) (locs : List Loc) (h : HS Γ s (WX Γ θ ρ S Z) H locs) (ls : Array Slot) (hl : lv_has ls 5 [(0, .ref (θ.1 1)), (1, .int x), (2, .int y), (3, .int a3), (4, .int a4)]), W p l e { frames := 1, cells := 0, slots := 0, locals := 21 } s m ([.ref (θ.1 1), .int x, .int y] : List Value).toArray below meth c H locs 0 0 (MQ below (QM Γ (KK (fun r : Int32 => some (.int r)) (fun S' => WX Γ θ ρ S' Z) post)) ([.ref (θ.1 1), .int x, .int y] : List Value).toArray s 0 0 (AA Γ)) (F0 m 5 ls []) := by
  have hx := X.1
  have hb := X.2.1
  intro d
  induction d with
  | zero => intro S a3 a4 hw; exact absurd hw (by simp [wxC_is_c5])
  | succ d ih =>
    intro S a3 a4 hw H locs h ls hl
    rw [wxC_is_c5] at hw
    refine lv_iload hx hb dxC_is_5 (lv_at hl 4 rfl) ?_
    refine lv_bipush (v := 16) hx hb dxC_is_7 (by decide) ?_
    refine lv_icmp_ge (tgt := 38) hx hb dxC_is_9 (by decide) (fun c1 => ?_) (fun c1 => ?_)
    · have hw := hw.1 c1
      refine lv_iload_n hx hb dxC_is_38 rfl (lv_at hl 3 rfl) ?_
      refine lv_iload_n hx hb dxC_is_39 rfl (lv_at hl 2 rfl) ?_
      refine lv_icmp_ne (tgt := 47) hx hb dxC_is_40 (by decide) (fun c2 => ?_) (fun c2 => ?_)
      · have hw := hw.1 c2
        refine lv_iconst (v := 0) hx hb dxC_is_47 (by decide) ?_
        exact z_zret X hr hlk h rfl ⟨_, _, rfl, rfl, hw⟩ dxC_is_48
      · have hw := hw.2 c2
        refine lv_iconst (v := 1) hx hb dxC_is_43 (by decide) ?_
        refine lv_goto (tgt := 48) hx hb dxC_is_44 (by decide) ?_
        exact z_zret X hr hlk h rfl ⟨_, _, rfl, rfl, hw⟩ dxC_is_48
    · have hw := hw.2 c1
      refine lv_aload_n hx hb dxC_is_12 rfl (lv_at hl 0 rfl) ?_
      refine lv_iload_n hx hb dxC_is_13 rfl (lv_at hl 3 rfl) ?_
      refine cx_xC_26 (As := [.int a3]) (rest := []) X hG h hl.1 (mxC_has l Γ θ ρ S Z a3 _ hw) ⟨show 0 + 1 ≤ 1 from by omega, show 8 + (2 + 11) + 0 ≤ 21 from by omega⟩ (q0 := 1) rfl rfl (Nat.le_of_ble_eq_true rfl) dxC_is_14 ⟨Nat.le_of_ble_eq_true rfl, Nat.le_of_ble_eq_true rfl⟩ (fun v W1 hK H locs h => ?_)
      obtain ⟨r3, S4, rfl, rfl, hw⟩ := hK
      refine W.eq (g2 := F0 m 17 ls [.int r3]) rfl ?_
      refine lv_if_eq (tgt := 38) hx hb dxC_is_17 (by decide) (fun c5 => ?_) (fun c5 => ?_)
      · have hw := hw.1 c5
        refine lv_iload_n hx hb dxC_is_38 rfl (lv_at hl 3 rfl) ?_
        refine lv_iload_n hx hb dxC_is_39 rfl (lv_at hl 2 rfl) ?_
        refine lv_icmp_ne (tgt := 47) hx hb dxC_is_40 (by decide) (fun c6 => ?_) (fun c6 => ?_)
        · have hw := hw.1 c6
          refine lv_iconst (v := 0) hx hb dxC_is_47 (by decide) ?_
          exact z_zret X hr hlk h rfl ⟨_, _, rfl, rfl, hw⟩ dxC_is_48
        · have hw := hw.2 c6
          refine lv_iconst (v := 1) hx hb dxC_is_43 (by decide) ?_
          refine lv_goto (tgt := 48) hx hb dxC_is_44 (by decide) ?_
          exact z_zret X hr hlk h rfl ⟨_, _, rfl, rfl, hw⟩ dxC_is_48
      · have hw := hw.2 c5
        refine lv_iload_n hx hb dxC_is_20 rfl (lv_at hl 3 rfl) ?_
        refine lv_iload_n hx hb dxC_is_21 rfl (lv_at hl 2 rfl) ?_
        refine lv_icmp_eq (tgt := 38) hx hb dxC_is_22 (by decide) (fun c7 => ?_) (fun c7 => ?_)
        · have hw := hw.1 c7
          refine lv_iload_n hx hb dxC_is_38 rfl (lv_at hl 3 rfl) ?_
          refine lv_iload_n hx hb dxC_is_39 rfl (lv_at hl 2 rfl) ?_
          refine lv_icmp_ne (tgt := 47) hx hb dxC_is_40 (by decide) (fun c8 => ?_) (fun c8 => ?_)
          · have hw := hw.1 c8
            refine lv_iconst (v := 0) hx hb dxC_is_47 (by decide) ?_
            exact z_zret X hr hlk h rfl ⟨_, _, rfl, rfl, hw⟩ dxC_is_48
          · have hw := hw.2 c8
            refine lv_iconst (v := 1) hx hb dxC_is_43 (by decide) ?_
            refine lv_goto (tgt := 48) hx hb dxC_is_44 (by decide) ?_
            exact z_zret X hr hlk h rfl ⟨_, _, rfl, rfl, hw⟩ dxC_is_48
        · have hw := hw.2 c7
          refine lv_aload_n hx hb dxC_is_25 rfl (lv_at hl 0 rfl) ?_
          refine gx_xC_9 X hG h dxC_is_26 ?_
          refine lv_iload_n hx hb dxC_is_29 rfl (lv_at hl 3 rfl) ?_
          obtain ⟨o9, hw⟩ := hw
          refine lx_2 X hG h o9 (x := ρ.2.2.1 6 a3.toNatClampNeg) rfl dxC_is_30 ?_
          refine lv_istore_n (lv' := [(3, .int (ρ.2.2.1 6 a3.toNatClampNeg)), (0, .ref (θ.1 1)), (1, .int x), (2, .int y), (4, .int a4)]) hx hb dxC_is_31 rfl hl (by decide) rfl (fun ls hl => ?_)
          refine lv_iinc (v := a4 + 1) (lv' := [(4, .int (a4 + 1)), (3, .int (ρ.2.2.1 6 a3.toNatClampNeg)), (0, .ref (θ.1 1)), (1, .int x), (2, .int y)]) hx hb dxC_is_32 hl (k := 4) rfl rfl (by decide) rfl (fun ls hl => ?_)
          refine lv_goto (tgt := 5) hx hb dxC_is_35 (by decide) ?_
          exact ih S4 (ρ.2.2.1 6 a3.toNatClampNeg) (a4 + 1) hw _ _ h ls (lv_sub hl [2, 3, 4, 1, 0] rfl)
def wxC_is  (post : Int32 → Sg → Prop) (ρ : Rh) (S : Sg) (x : Int32) (y : Int32) : Prop := ∃ d10 : Nat, wxC_is_c5 post ρ x y d10 S x (0 : Int32)
set_option maxHeartbeats 4000000 in
set_option maxRecDepth 100000 in
theorem mxC_is (l : Launch) (Γ : Gm) (θ : Th) (ρ : Rh) (S : Sg) (Z : va_W) (x : Int32) (y : Int32) (post : Int32 → Sg → Prop) (hw : wxC_is post ρ S x y) : MM l yxC_is cxC_is 5 (some .boolean) 1 21 Γ [.ref (θ.1 1), .int x, .int y] (WX Γ θ ρ S Z) (KK (fun r : Int32 => some (.int r)) (fun S' => WX Γ θ ρ S' Z) post) 0 0 := by
  refine MM_of (by decide) (Nat.le_of_ble_eq_true rfl) ?_
  intro p e s m below meth c X hr hlk hnm hG h ls hl
  have hx := X.1
  have hb := X.2.1
  have hl : lv_has ls 5 [(0, .ref (θ.1 1)), (1, .int x), (2, .int y)] := hl
  unfold wxC_is at hw
  refine lv_iload_n hx hb dxC_is_0 rfl (lv_at hl 1 rfl) ?_
  refine lv_istore_n (lv' := [(3, .int x), (0, .ref (θ.1 1)), (1, .int x), (2, .int y)]) hx hb dxC_is_1 rfl hl (by decide) rfl (fun ls hl => ?_)
  refine lv_iconst (v := 0) hx hb dxC_is_2 (by decide) ?_
  refine lv_istore (lv' := [(4, .int 0), (3, .int x), (0, .ref (θ.1 1)), (1, .int x), (2, .int y)]) hx hb dxC_is_3 hl (by decide) rfl (fun ls hl => ?_)
  obtain ⟨d10, hw⟩ := hw
  exact txC_is_c5 Γ θ ρ Z x y post X hr hlk hG d10 S x (0 : Int32) hw _ _ h ls (lv_sub hl [2, 3, 4, 1, 0] rfl)
def wxP_size  (post : Int32 → Sg → Prop) (ρ : Rh) (S : Sg)  : Prop := post (ρ.2.2.1 7 1) S
set_option maxHeartbeats 4000000 in
set_option maxRecDepth 100000 in
theorem mxP_size (l : Launch) (Γ : Gm) (θ : Th) (ρ : Rh) (S : Sg) (Z : va_W)  (post : Int32 → Sg → Prop) (hw : wxP_size post ρ S ) : MM l yxP_size cxP_size 1 (some .int) 0 0 Γ [.ref (θ.1 3)] (WX Γ θ ρ S Z) (KK (fun r : Int32 => some (.int r)) (fun S' => WX Γ θ ρ S' Z) post) 0 0 := by
  refine MM_of (by decide) (Nat.le_of_ble_eq_true rfl) ?_
  intro p e s m below meth c X hr hlk hnm hG h ls hl
  have hx := X.1
  have hb := X.2.1
  have hl : lv_has ls 1 [(0, .ref (θ.1 3))] := hl
  unfold wxP_size at hw
  refine lv_aload_n hx hb dxP_size_0 rfl (lv_at hl 0 rfl) ?_
  refine gx_xP_19 X hG h (x := ρ.2.2.1 7 1) rfl dxP_size_1 ?_
  exact z_iret X hr hlk h ⟨_, _, rfl, rfl, hw⟩ dxP_size_4
def wxP_isFull  (post : Int32 → Sg → Prop) (ρ : Rh) (S : Sg)  : Prop := ((¬ ((ρ.2.2.1 7 1) = (64 : Int32))) → post (0 : Int32) S) ∧ (((ρ.2.2.1 7 1) = (64 : Int32)) → post (1 : Int32) S)
set_option maxHeartbeats 4000000 in
set_option maxRecDepth 100000 in
theorem mxP_isFull (l : Launch) (Γ : Gm) (θ : Th) (ρ : Rh) (S : Sg) (Z : va_W)  (post : Int32 → Sg → Prop) (hw : wxP_isFull post ρ S ) : MM l yxP_isFull cxP_isFull 1 (some .boolean) 0 0 Γ [.ref (θ.1 3)] (WX Γ θ ρ S Z) (KK (fun r : Int32 => some (.int r)) (fun S' => WX Γ θ ρ S' Z) post) 0 0 := by
  refine MM_of (by decide) (Nat.le_of_ble_eq_true rfl) ?_
  intro p e s m below meth c X hr hlk hnm hG h ls hl
  have hx := X.1
  have hb := X.2.1
  have hl : lv_has ls 1 [(0, .ref (θ.1 3))] := hl
  unfold wxP_isFull at hw
  refine lv_aload_n hx hb dxP_isFull_0 rfl (lv_at hl 0 rfl) ?_
  refine gx_xP_19 X hG h (x := ρ.2.2.1 7 1) rfl dxP_isFull_1 ?_
  refine lv_bipush (v := 64) hx hb dxP_isFull_4 (by decide) ?_
  refine lv_icmp_ne (tgt := 13) hx hb dxP_isFull_6 (by decide) (fun c1 => ?_) (fun c1 => ?_)
  · have hw := hw.1 c1
    refine lv_iconst (v := 0) hx hb dxP_isFull_13 (by decide) ?_
    exact z_zret X hr hlk h rfl ⟨_, _, rfl, rfl, hw⟩ dxP_isFull_14
  · have hw := hw.2 c1
    refine lv_iconst (v := 1) hx hb dxP_isFull_9 (by decide) ?_
    refine lv_goto (tgt := 14) hx hb dxP_isFull_10 (by decide) ?_
    exact z_zret X hr hlk h rfl ⟨_, _, rfl, rfl, hw⟩ dxP_isFull_14
def wxP_at  (post : Nat → Sg → Prop) (ρ : Rh) (S : Sg) (x : Int32) : Prop := (vp_in x 64) ∧ (x.toNatClampNeg < ρ.2.1) ∧ post x.toNatClampNeg S
set_option maxHeartbeats 4000000 in
set_option maxRecDepth 100000 in
theorem mxP_at (l : Launch) (Γ : Gm) (θ : Th) (ρ : Rh) (S : Sg) (Z : va_W) (x : Int32) (post : Nat → Sg → Prop) (hw : wxP_at post ρ S x) : MM l yxP_at cxP_at 2 (some (.object "ThrowScenario$Node")) 0 0 Γ [.ref (θ.1 3), .int x] (WX Γ θ ρ S Z) (KK (fun r : Nat => some (.ref (ρ.1 r))) (fun S' => WX Γ θ ρ S' Z) post) 0 0 := by
  refine MM_of (by decide) (Nat.le_of_ble_eq_true rfl) ?_
  intro p e s m below meth c X hr hlk hnm hG h ls hl
  have hx := X.1
  have hb := X.2.1
  have hl : lv_has ls 2 [(0, .ref (θ.1 3)), (1, .int x)] := hl
  unfold wxP_at at hw
  refine lv_aload_n hx hb dxP_at_0 rfl (lv_at hl 0 rfl) ?_
  refine gx_xP_11 X hG h dxP_at_1 ?_
  refine lv_iload_n hx hb dxP_at_4 rfl (lv_at hl 1 rfl) ?_
  obtain ⟨o1, hw⟩ := hw
  obtain ⟨o2, hw⟩ := hw
  refine lx_4 X hG h o1 o2 dxP_at_5 ?_
  exact z_aret X hr hlk h (Or.inr ⟨_, rfl⟩) ⟨_, _, rfl, rfl, hw⟩ dxP_at_6
def wxP_statementOf  (post : Int32 → Sg → Prop) (ρ : Rh) (S : Sg) (x : Int32) : Prop := (vp_in x 6) ∧ post (ρ.2.2.1 5 x.toNatClampNeg) S
set_option maxHeartbeats 4000000 in
set_option maxRecDepth 100000 in
theorem mxP_statementOf (l : Launch) (Γ : Gm) (θ : Th) (ρ : Rh) (S : Sg) (Z : va_W) (x : Int32) (post : Int32 → Sg → Prop) (hw : wxP_statementOf post ρ S x) : MM l yxP_statementOf cxP_statementOf 2 (some .int) 0 0 Γ [.ref (θ.1 3), .int x] (WX Γ θ ρ S Z) (KK (fun r : Int32 => some (.int r)) (fun S' => WX Γ θ ρ S' Z) post) 0 0 := by
  refine MM_of (by decide) (Nat.le_of_ble_eq_true rfl) ?_
  intro p e s m below meth c X hr hlk hnm hG h ls hl
  have hx := X.1
  have hb := X.2.1
  have hl : lv_has ls 2 [(0, .ref (θ.1 3)), (1, .int x)] := hl
  unfold wxP_statementOf at hw
  refine lv_aload_n hx hb dxP_statementOf_0 rfl (lv_at hl 0 rfl) ?_
  refine gx_xP_15 X hG h dxP_statementOf_1 ?_
  refine lv_iload_n hx hb dxP_statementOf_4 rfl (lv_at hl 1 rfl) ?_
  obtain ⟨o1, hw⟩ := hw
  refine lx_5 X hG h o1 (x := ρ.2.2.1 5 x.toNatClampNeg) rfl dxP_statementOf_5 ?_
  exact z_iret X hr hlk h ⟨_, _, rfl, rfl, hw⟩ dxP_statementOf_6
def wxP_isRoutine  (post : Int32 → Sg → Prop) (ρ : Rh) (S : Sg) (x : Int32) : Prop := ((x < (0 : Int32)) → post (0 : Int32) S) ∧ ((¬ (x < (0 : Int32))) → (((6 : Int32) ≤ x) → post (0 : Int32) S) ∧ ((¬ ((6 : Int32) ≤ x)) → post (1 : Int32) S))
set_option maxHeartbeats 4000000 in
set_option maxRecDepth 100000 in
theorem mxP_isRoutine (l : Launch) (Γ : Gm) (θ : Th) (ρ : Rh) (S : Sg) (Z : va_W) (x : Int32) (post : Int32 → Sg → Prop) (hw : wxP_isRoutine post ρ S x) : MM l yxP_isRoutine cxP_isRoutine 1 (some .boolean) 0 0 Γ [.int x] (WX Γ θ ρ S Z) (KK (fun r : Int32 => some (.int r)) (fun S' => WX Γ θ ρ S' Z) post) 0 0 := by
  refine MM_of (by decide) (Nat.le_of_ble_eq_true rfl) ?_
  intro p e s m below meth c X hr hlk hnm hG h ls hl
  have hx := X.1
  have hb := X.2.1
  have hl : lv_has ls 1 [(0, .int x)] := hl
  unfold wxP_isRoutine at hw
  refine lv_iload_n hx hb dxP_isRoutine_0 rfl (lv_at hl 0 rfl) ?_
  refine lv_if_lt (tgt := 14) hx hb dxP_isRoutine_1 (by decide) (fun c1 => ?_) (fun c1 => ?_)
  · have hw := hw.1 c1
    refine lv_iconst (v := 0) hx hb dxP_isRoutine_14 (by decide) ?_
    exact z_zret X hr hlk h rfl ⟨_, _, rfl, rfl, hw⟩ dxP_isRoutine_15
  · have hw := hw.2 c1
    refine lv_iload_n hx hb dxP_isRoutine_4 rfl (lv_at hl 0 rfl) ?_
    refine lv_bipush (v := 6) hx hb dxP_isRoutine_5 (by decide) ?_
    refine lv_icmp_ge (tgt := 14) hx hb dxP_isRoutine_7 (by decide) (fun c2 => ?_) (fun c2 => ?_)
    · have hw := hw.1 c2
      refine lv_iconst (v := 0) hx hb dxP_isRoutine_14 (by decide) ?_
      exact z_zret X hr hlk h rfl ⟨_, _, rfl, rfl, hw⟩ dxP_isRoutine_15
    · have hw := hw.2 c2
      refine lv_iconst (v := 1) hx hb dxP_isRoutine_10 (by decide) ?_
      refine lv_goto (tgt := 15) hx hb dxP_isRoutine_11 (by decide) ?_
      exact z_zret X hr hlk h rfl ⟨_, _, rfl, rfl, hw⟩ dxP_isRoutine_15
def wxP_isVariable  (post : Int32 → Sg → Prop) (ρ : Rh) (S : Sg) (x : Int32) : Prop := ((x < (0 : Int32)) → post (0 : Int32) S) ∧ ((¬ (x < (0 : Int32))) → (((4 : Int32) ≤ x) → post (0 : Int32) S) ∧ ((¬ ((4 : Int32) ≤ x)) → post (1 : Int32) S))
set_option maxHeartbeats 4000000 in
set_option maxRecDepth 100000 in
theorem mxP_isVariable (l : Launch) (Γ : Gm) (θ : Th) (ρ : Rh) (S : Sg) (Z : va_W) (x : Int32) (post : Int32 → Sg → Prop) (hw : wxP_isVariable post ρ S x) : MM l yxP_isVariable cxP_isVariable 1 (some .boolean) 0 0 Γ [.int x] (WX Γ θ ρ S Z) (KK (fun r : Int32 => some (.int r)) (fun S' => WX Γ θ ρ S' Z) post) 0 0 := by
  refine MM_of (by decide) (Nat.le_of_ble_eq_true rfl) ?_
  intro p e s m below meth c X hr hlk hnm hG h ls hl
  have hx := X.1
  have hb := X.2.1
  have hl : lv_has ls 1 [(0, .int x)] := hl
  unfold wxP_isVariable at hw
  refine lv_iload_n hx hb dxP_isVariable_0 rfl (lv_at hl 0 rfl) ?_
  refine lv_if_lt (tgt := 13) hx hb dxP_isVariable_1 (by decide) (fun c1 => ?_) (fun c1 => ?_)
  · have hw := hw.1 c1
    refine lv_iconst (v := 0) hx hb dxP_isVariable_13 (by decide) ?_
    exact z_zret X hr hlk h rfl ⟨_, _, rfl, rfl, hw⟩ dxP_isVariable_14
  · have hw := hw.2 c1
    refine lv_iload_n hx hb dxP_isVariable_4 rfl (lv_at hl 0 rfl) ?_
    refine lv_iconst (v := 4) hx hb dxP_isVariable_5 (by decide) ?_
    refine lv_icmp_ge (tgt := 13) hx hb dxP_isVariable_6 (by decide) (fun c2 => ?_) (fun c2 => ?_)
    · have hw := hw.1 c2
      refine lv_iconst (v := 0) hx hb dxP_isVariable_13 (by decide) ?_
      exact z_zret X hr hlk h rfl ⟨_, _, rfl, rfl, hw⟩ dxP_isVariable_14
    · have hw := hw.2 c2
      refine lv_iconst (v := 1) hx hb dxP_isVariable_9 (by decide) ?_
      refine lv_goto (tgt := 14) hx hb dxP_isVariable_10 (by decide) ?_
      exact z_zret X hr hlk h rfl ⟨_, _, rfl, rfl, hw⟩ dxP_isVariable_14
def wxP_isMonitor  (post : Int32 → Sg → Prop) (ρ : Rh) (S : Sg) (x : Int32) : Prop := ((x < (0 : Int32)) → post (0 : Int32) S) ∧ ((¬ (x < (0 : Int32))) → (((2 : Int32) ≤ x) → post (0 : Int32) S) ∧ ((¬ ((2 : Int32) ≤ x)) → post (1 : Int32) S))
set_option maxHeartbeats 4000000 in
set_option maxRecDepth 100000 in
theorem mxP_isMonitor (l : Launch) (Γ : Gm) (θ : Th) (ρ : Rh) (S : Sg) (Z : va_W) (x : Int32) (post : Int32 → Sg → Prop) (hw : wxP_isMonitor post ρ S x) : MM l yxP_isMonitor cxP_isMonitor 1 (some .boolean) 0 0 Γ [.int x] (WX Γ θ ρ S Z) (KK (fun r : Int32 => some (.int r)) (fun S' => WX Γ θ ρ S' Z) post) 0 0 := by
  refine MM_of (by decide) (Nat.le_of_ble_eq_true rfl) ?_
  intro p e s m below meth c X hr hlk hnm hG h ls hl
  have hx := X.1
  have hb := X.2.1
  have hl : lv_has ls 1 [(0, .int x)] := hl
  unfold wxP_isMonitor at hw
  refine lv_iload_n hx hb dxP_isMonitor_0 rfl (lv_at hl 0 rfl) ?_
  refine lv_if_lt (tgt := 13) hx hb dxP_isMonitor_1 (by decide) (fun c1 => ?_) (fun c1 => ?_)
  · have hw := hw.1 c1
    refine lv_iconst (v := 0) hx hb dxP_isMonitor_13 (by decide) ?_
    exact z_zret X hr hlk h rfl ⟨_, _, rfl, rfl, hw⟩ dxP_isMonitor_14
  · have hw := hw.2 c1
    refine lv_iload_n hx hb dxP_isMonitor_4 rfl (lv_at hl 0 rfl) ?_
    refine lv_iconst (v := 2) hx hb dxP_isMonitor_5 (by decide) ?_
    refine lv_icmp_ge (tgt := 13) hx hb dxP_isMonitor_6 (by decide) (fun c2 => ?_) (fun c2 => ?_)
    · have hw := hw.1 c2
      refine lv_iconst (v := 0) hx hb dxP_isMonitor_13 (by decide) ?_
      exact z_zret X hr hlk h rfl ⟨_, _, rfl, rfl, hw⟩ dxP_isMonitor_14
    · have hw := hw.2 c2
      refine lv_iconst (v := 1) hx hb dxP_isMonitor_9 (by decide) ?_
      refine lv_goto (tgt := 14) hx hb dxP_isMonitor_10 (by decide) ?_
      exact z_zret X hr hlk h rfl ⟨_, _, rfl, rfl, hw⟩ dxP_isMonitor_14
def wxP_isDefined  (post : Int32 → Sg → Prop) (ρ : Rh) (S : Sg) (x : Int32) : Prop := wxP_isRoutine (fun r1 S2 => ((r1 = (0 : Int32)) → post (0 : Int32) S2) ∧ ((¬ (r1 = (0 : Int32))) → (vp_in x 6) ∧ (((ρ.2.2.1 5 x.toNatClampNeg) = (-1 : Int32)) → post (0 : Int32) S2) ∧ ((¬ ((ρ.2.2.1 5 x.toNatClampNeg) = (-1 : Int32))) → post (1 : Int32) S2))) ρ S x
set_option maxHeartbeats 4000000 in
set_option maxRecDepth 100000 in
theorem mxP_isDefined (l : Launch) (Γ : Gm) (θ : Th) (ρ : Rh) (S : Sg) (Z : va_W) (x : Int32) (post : Int32 → Sg → Prop) (hw : wxP_isDefined post ρ S x) : MM l yxP_isDefined cxP_isDefined 2 (some .boolean) 1 20 Γ [.ref (θ.1 3), .int x] (WX Γ θ ρ S Z) (KK (fun r : Int32 => some (.int r)) (fun S' => WX Γ θ ρ S' Z) post) 0 0 := by
  refine MM_of (by decide) (Nat.le_of_ble_eq_true rfl) ?_
  intro p e s m below meth c X hr hlk hnm hG h ls hl
  have hx := X.1
  have hb := X.2.1
  have hl : lv_has ls 2 [(0, .ref (θ.1 3)), (1, .int x)] := hl
  unfold wxP_isDefined at hw
  refine lv_iload_n hx hb dxP_isDefined_0 rfl (lv_at hl 1 rfl) ?_
  refine cx_xP_34 (As := [.int x]) (rest := []) X hG h hl.1 (mxP_isRoutine l Γ θ ρ S Z x _ hw) ⟨show 0 + 1 ≤ 1 from by omega, show 8 + (1 + 11) + 0 ≤ 20 from by omega⟩ rfl (Nat.le_of_ble_eq_true rfl) dxP_isDefined_1 ⟨Nat.le_of_ble_eq_true rfl, Nat.le_of_ble_eq_true rfl⟩ (fun v W1 hK H locs h => ?_)
  obtain ⟨r1, S2, rfl, rfl, hw⟩ := hK
  refine W.eq (g2 := F0 m 4 ls [.int r1]) rfl ?_
  refine lv_if_eq (tgt := 21) hx hb dxP_isDefined_4 (by decide) (fun c3 => ?_) (fun c3 => ?_)
  · have hw := hw.1 c3
    refine lv_iconst (v := 0) hx hb dxP_isDefined_21 (by decide) ?_
    exact z_zret X hr hlk h rfl ⟨_, _, rfl, rfl, hw⟩ dxP_isDefined_22
  · have hw := hw.2 c3
    refine lv_aload_n hx hb dxP_isDefined_7 rfl (lv_at hl 0 rfl) ?_
    refine gx_xP_15 X hG h dxP_isDefined_8 ?_
    refine lv_iload_n hx hb dxP_isDefined_11 rfl (lv_at hl 1 rfl) ?_
    obtain ⟨o4, hw⟩ := hw
    refine lx_5 X hG h o4 (x := ρ.2.2.1 5 x.toNatClampNeg) rfl dxP_isDefined_12 ?_
    refine lv_iconst (v := -1) hx hb dxP_isDefined_13 (by decide) ?_
    refine lv_icmp_eq (tgt := 21) hx hb dxP_isDefined_14 (by decide) (fun c5 => ?_) (fun c5 => ?_)
    · have hw := hw.1 c5
      refine lv_iconst (v := 0) hx hb dxP_isDefined_21 (by decide) ?_
      exact z_zret X hr hlk h rfl ⟨_, _, rfl, rfl, hw⟩ dxP_isDefined_22
    · have hw := hw.2 c5
      refine lv_iconst (v := 1) hx hb dxP_isDefined_17 (by decide) ?_
      refine lv_goto (tgt := 22) hx hb dxP_isDefined_18 (by decide) ?_
      exact z_zret X hr hlk h rfl ⟨_, _, rfl, rfl, hw⟩ dxP_isDefined_22
def wxP_isNode  (post : Int32 → Sg → Prop) (ρ : Rh) (S : Sg) (x : Int32) : Prop := ((x < (0 : Int32)) → post (0 : Int32) S) ∧ ((¬ (x < (0 : Int32))) → (((ρ.2.2.1 7 1) ≤ x) → post (0 : Int32) S) ∧ ((¬ ((ρ.2.2.1 7 1) ≤ x)) → post (1 : Int32) S))
set_option maxHeartbeats 4000000 in
set_option maxRecDepth 100000 in
theorem mxP_isNode (l : Launch) (Γ : Gm) (θ : Th) (ρ : Rh) (S : Sg) (Z : va_W) (x : Int32) (post : Int32 → Sg → Prop) (hw : wxP_isNode post ρ S x) : MM l yxP_isNode cxP_isNode 2 (some .boolean) 0 0 Γ [.ref (θ.1 3), .int x] (WX Γ θ ρ S Z) (KK (fun r : Int32 => some (.int r)) (fun S' => WX Γ θ ρ S' Z) post) 0 0 := by
  refine MM_of (by decide) (Nat.le_of_ble_eq_true rfl) ?_
  intro p e s m below meth c X hr hlk hnm hG h ls hl
  have hx := X.1
  have hb := X.2.1
  have hl : lv_has ls 2 [(0, .ref (θ.1 3)), (1, .int x)] := hl
  unfold wxP_isNode at hw
  refine lv_iload_n hx hb dxP_isNode_0 rfl (lv_at hl 1 rfl) ?_
  refine lv_if_lt (tgt := 16) hx hb dxP_isNode_1 (by decide) (fun c1 => ?_) (fun c1 => ?_)
  · have hw := hw.1 c1
    refine lv_iconst (v := 0) hx hb dxP_isNode_16 (by decide) ?_
    exact z_zret X hr hlk h rfl ⟨_, _, rfl, rfl, hw⟩ dxP_isNode_17
  · have hw := hw.2 c1
    refine lv_iload_n hx hb dxP_isNode_4 rfl (lv_at hl 1 rfl) ?_
    refine lv_aload_n hx hb dxP_isNode_5 rfl (lv_at hl 0 rfl) ?_
    refine gx_xP_19 X hG h (x := ρ.2.2.1 7 1) rfl dxP_isNode_6 ?_
    refine lv_icmp_ge (tgt := 16) hx hb dxP_isNode_9 (by decide) (fun c2 => ?_) (fun c2 => ?_)
    · have hw := hw.1 c2
      refine lv_iconst (v := 0) hx hb dxP_isNode_16 (by decide) ?_
      exact z_zret X hr hlk h rfl ⟨_, _, rfl, rfl, hw⟩ dxP_isNode_17
    · have hw := hw.2 c2
      refine lv_iconst (v := 1) hx hb dxP_isNode_12 (by decide) ?_
      refine lv_goto (tgt := 17) hx hb dxP_isNode_13 (by decide) ?_
      exact z_zret X hr hlk h rfl ⟨_, _, rfl, rfl, hw⟩ dxP_isNode_17
def wxP_levelAt  (post : Int32 → Sg → Prop) (ρ : Rh) (S : Sg) (x : Int32) : Prop := wxP_isNode (fun r1 S2 => ((r1 = (0 : Int32)) → post (0 : Int32) S2) ∧ ((¬ (r1 = (0 : Int32))) → (vp_in x 64) ∧ (x.toNatClampNeg < ρ.2.1) ∧ post (ρ.2.2.1 4 x.toNatClampNeg) S2)) ρ S x
set_option maxHeartbeats 4000000 in
set_option maxRecDepth 100000 in
theorem mxP_levelAt (l : Launch) (Γ : Gm) (θ : Th) (ρ : Rh) (S : Sg) (Z : va_W) (x : Int32) (post : Int32 → Sg → Prop) (hw : wxP_levelAt post ρ S x) : MM l yxP_levelAt cxP_levelAt 2 (some .int) 1 21 Γ [.ref (θ.1 3), .int x] (WX Γ θ ρ S Z) (KK (fun r : Int32 => some (.int r)) (fun S' => WX Γ θ ρ S' Z) post) 0 0 := by
  refine MM_of (by decide) (Nat.le_of_ble_eq_true rfl) ?_
  intro p e s m below meth c X hr hlk hnm hG h ls hl
  have hx := X.1
  have hb := X.2.1
  have hl : lv_has ls 2 [(0, .ref (θ.1 3)), (1, .int x)] := hl
  unfold wxP_levelAt at hw
  refine lv_aload_n hx hb dxP_levelAt_0 rfl (lv_at hl 0 rfl) ?_
  refine lv_iload_n hx hb dxP_levelAt_1 rfl (lv_at hl 1 rfl) ?_
  refine cx_xP_41 (As := [.int x]) (rest := []) X hG h hl.1 (mxP_isNode l Γ θ ρ S Z x _ hw) ⟨show 0 + 1 ≤ 1 from by omega, show 8 + (2 + 11) + 0 ≤ 21 from by omega⟩ (q0 := 3) rfl rfl (Nat.le_of_ble_eq_true rfl) dxP_levelAt_2 ⟨Nat.le_of_ble_eq_true rfl, Nat.le_of_ble_eq_true rfl⟩ (fun v W1 hK H locs h => ?_)
  obtain ⟨r1, S2, rfl, rfl, hw⟩ := hK
  refine W.eq (g2 := F0 m 5 ls [.int r1]) rfl ?_
  refine lv_if_eq (tgt := 20) hx hb dxP_levelAt_5 (by decide) (fun c3 => ?_) (fun c3 => ?_)
  · have hw := hw.1 c3
    refine lv_iconst (v := 0) hx hb dxP_levelAt_20 (by decide) ?_
    exact z_iret X hr hlk h ⟨_, _, rfl, rfl, hw⟩ dxP_levelAt_21
  · have hw := hw.2 c3
    refine lv_aload_n hx hb dxP_levelAt_8 rfl (lv_at hl 0 rfl) ?_
    refine gx_xP_11 X hG h dxP_levelAt_9 ?_
    refine lv_iload_n hx hb dxP_levelAt_12 rfl (lv_at hl 1 rfl) ?_
    obtain ⟨o4, hw⟩ := hw
    obtain ⟨o5, hw⟩ := hw
    refine lx_4 X hG h o4 o5 dxP_levelAt_13 ?_
    refine gx_xP_62 X hG h o5 (x := ρ.2.2.1 4 x.toNatClampNeg) rfl dxP_levelAt_14 ?_
    refine lv_goto (tgt := 21) hx hb dxP_levelAt_17 (by decide) ?_
    exact z_iret X hr hlk h ⟨_, _, rfl, rfl, hw⟩ dxP_levelAt_21
def wxP_fits  (post : Int32 → Sg → Prop) (ρ : Rh) (S : Sg) (x : Int32) (a : Int32) (b : Int32) (q : Int32) : Prop := ((x.toInt < 0 ∨ 22 < x.toInt) → post (0 : Int32) S) ∧ (x = 0 → post (1 : Int32) S) ∧ (x = 1 → wxP_isVariable (fun r4 S5 => (r4 = 0 ∨ r4 = 1) ∧ post r4 S5) ρ S a) ∧ (x = 2 → wxP_isVariable (fun r7 S8 => (r7 = 0 ∨ r7 = 1) ∧ post r7 S8) ρ S a) ∧ (x = 3 → wxP_isVariable (fun r10 S11 => (r10 = 0 ∨ r10 = 1) ∧ post r10 S11) ρ S a) ∧ (x = 4 → wxP_isNode (fun r13 S14 => ((r13 = (0 : Int32)) → post (0 : Int32) S14) ∧ ((¬ (r13 = (0 : Int32))) → wxP_isNode (fun r16 S17 => ((r16 = (0 : Int32)) → post (0 : Int32) S17) ∧ ((¬ (r16 = (0 : Int32))) → post (1 : Int32) S17)) ρ S14 b)) ρ S a) ∧ (x = 5 → wxP_isVariable (fun r19 S20 => ((r19 = (0 : Int32)) → post (0 : Int32) S20) ∧ ((¬ (r19 = (0 : Int32))) → wxP_isNode (fun r22 S23 => ((r22 = (0 : Int32)) → post (0 : Int32) S23) ∧ ((¬ (r22 = (0 : Int32))) → ((q = (-1 : Int32)) → post (1 : Int32) S23) ∧ ((¬ (q = (-1 : Int32))) → wxP_isNode (fun r26 S27 => ((r26 = (0 : Int32)) → post (0 : Int32) S27) ∧ ((¬ (r26 = (0 : Int32))) → post (1 : Int32) S27)) ρ S23 q))) ρ S20 b)) ρ S a) ∧ (x = 6 → ((a < (1 : Int32)) → post (0 : Int32) S) ∧ ((¬ (a < (1 : Int32))) → (((8 : Int32) < a) → post (0 : Int32) S) ∧ ((¬ ((8 : Int32) < a)) → wxP_isNode (fun r31 S32 => ((r31 = (0 : Int32)) → post (0 : Int32) S32) ∧ ((¬ (r31 = (0 : Int32))) → post (1 : Int32) S32)) ρ S b))) ∧ (x = 7 → post (1 : Int32) S) ∧ (x = 8 → wxP_isVariable (fun r34 S35 => (r34 = 0 ∨ r34 = 1) ∧ post r34 S35) ρ S a) ∧ (x = 9 → wxP_isRoutine (fun r37 S38 => (r37 = 0 ∨ r37 = 1) ∧ post r37 S38) ρ S a) ∧ (x = 10 → wxC_has (fun r40 S41 => (r40 = 0 ∨ r40 = 1) ∧ post r40 S41) ρ S a) ∧ (x = 11 → post (1 : Int32) S) ∧ (x = 12 → wxC_has (fun r43 S44 => (r43 = 0 ∨ r43 = 1) ∧ post r43 S44) ρ S a) ∧ (x = 13 → wxP_isNode (fun r46 S47 => ((r46 = (0 : Int32)) → post (0 : Int32) S47) ∧ ((¬ (r46 = (0 : Int32))) → wxC_has (fun r49 S50 => ((r49 = (0 : Int32)) → post (0 : Int32) S50) ∧ ((¬ (r49 = (0 : Int32))) → wxP_isNode (fun r52 S53 => ((r52 = (0 : Int32)) → post (0 : Int32) S53) ∧ ((¬ (r52 = (0 : Int32))) → post (1 : Int32) S53)) ρ S50 q)) ρ S47 b)) ρ S a) ∧ (x = 14 → wxP_isNode (fun r55 S56 => ((r55 = (0 : Int32)) → post (0 : Int32) S56) ∧ ((¬ (r55 = (0 : Int32))) → wxP_isNode (fun r58 S59 => ((r58 = (0 : Int32)) → post (0 : Int32) S59) ∧ ((¬ (r58 = (0 : Int32))) → post (1 : Int32) S59)) ρ S56 b)) ρ S a) ∧ (x = 15 → wxP_isNode (fun r61 S62 => ((r61 = (0 : Int32)) → post (0 : Int32) S62) ∧ ((¬ (r61 = (0 : Int32))) → wxP_isNode (fun r64 S65 => ((r64 = (0 : Int32)) → post (0 : Int32) S65) ∧ ((¬ (r64 = (0 : Int32))) → post (1 : Int32) S65)) ρ S62 b)) ρ S a) ∧ (x = 16 → wxP_isVariable (fun r67 S68 => ((r67 = (0 : Int32)) → post (0 : Int32) S68) ∧ ((¬ (r67 = (0 : Int32))) → wxP_isVariable (fun r70 S71 => ((r70 = (0 : Int32)) → post (0 : Int32) S71) ∧ ((¬ (r70 = (0 : Int32))) → post (1 : Int32) S71)) ρ S68 b)) ρ S a) ∧ (x = 17 → wxP_isVariable (fun r73 S74 => ((r73 = (0 : Int32)) → post (0 : Int32) S74) ∧ ((¬ (r73 = (0 : Int32))) → ((b < (0 : Int32)) → post (0 : Int32) S74) ∧ ((¬ (b < (0 : Int32))) → (((4 : Int32) < b) → post (0 : Int32) S74) ∧ ((¬ ((4 : Int32) < b)) → post (1 : Int32) S74)))) ρ S a) ∧ (x = 18 → wxC_has (fun r78 S79 => (r78 = 0 ∨ r78 = 1) ∧ post r78 S79) ρ S a) ∧ (x = 19 → wxP_isVariable (fun r81 S82 => (r81 = 0 ∨ r81 = 1) ∧ post r81 S82) ρ S a) ∧ (x = 20 → wxP_isMonitor (fun r84 S85 => ((r84 = (0 : Int32)) → post (0 : Int32) S85) ∧ ((¬ (r84 = (0 : Int32))) → wxP_isNode (fun r87 S88 => ((r87 = (0 : Int32)) → post (0 : Int32) S88) ∧ ((¬ (r87 = (0 : Int32))) → post (1 : Int32) S88)) ρ S85 b)) ρ S a) ∧ (x = 21 → wxP_isMonitor (fun r90 S91 => (r90 = 0 ∨ r90 = 1) ∧ post r90 S91) ρ S a) ∧ (x = 22 → post (1 : Int32) S)
set_option maxHeartbeats 4000000 in
set_option maxRecDepth 100000 in
theorem mxP_fits (l : Launch) (Γ : Gm) (θ : Th) (ρ : Rh) (S : Sg) (Z : va_W) (x : Int32) (a : Int32) (b : Int32) (q : Int32) (post : Int32 → Sg → Prop) (hw : wxP_fits post ρ S x a b q) : MM l yxP_fits cxP_fits 5 (some .boolean) 1 21 Γ [.ref (θ.1 3), .int x, .int a, .int b, .int q] (WX Γ θ ρ S Z) (KK (fun r : Int32 => some (.int r)) (fun S' => WX Γ θ ρ S' Z) post) 0 0 := by
  refine MM_of (by decide) (Nat.le_of_ble_eq_true rfl) ?_
  intro p e s m below meth c X hr hlk hnm hG h ls hl
  have hx := X.1
  have hb := X.2.1
  have hl : lv_has ls 5 [(0, .ref (θ.1 3)), (1, .int x), (2, .int a), (3, .int b), (4, .int q)] := hl
  unfold wxP_fits at hw
  refine lv_iload_n hx hb dxP_fits_0 rfl (lv_at hl 1 rfl) ?_
  by_cases c1 : x.toInt < 0 ∨ 22 < x.toInt
  · have hw := hw.1 c1
    refine lv_tableOut (tgt := 314) hx hb dxP_fits_1 c1 (by decide) ?_
    refine lv_iconst (v := 0) hx hb dxP_fits_314 (by decide) ?_
    exact z_zret X hr hlk h rfl ⟨_, _, rfl, rfl, hw⟩ dxP_fits_315
  · have hw := hw.2
    obtain ⟨j3, j_h, e2⟩ := sw_in (lo := 0) (n := 22) c1
    match j3, j_h, e2 with
    | 0, _, e2 =>
      have e2 : x = 0 := e2
      have hw := hw.1 e2
      refine lv_tableIn (off := 107) (tgt := 108) hx hb dxP_fits_1 (by rw [e2]; decide) (by rw [e2]; decide) (by rw [e2]; rfl) (by decide) ?_
      refine lv_iconst (v := 1) hx hb dxP_fits_108 (by decide) ?_
      exact z_zret X hr hlk h rfl ⟨_, _, rfl, rfl, hw⟩ dxP_fits_109
    | 1, _, e2 =>
      have e2 : x = 1 := e2
      have hw := hw.2.1 e2
      refine lv_tableIn (off := 109) (tgt := 110) hx hb dxP_fits_1 (by rw [e2]; decide) (by rw [e2]; decide) (by rw [e2]; rfl) (by decide) ?_
      refine lv_iload_n hx hb dxP_fits_110 rfl (lv_at hl 2 rfl) ?_
      refine cx_xP_38 (As := [.int a]) (rest := []) X hG h hl.1 (mxP_isVariable l Γ θ ρ S Z a _ hw) ⟨show 0 + 1 ≤ 1 from by omega, show 8 + (1 + 11) + 0 ≤ 21 from by omega⟩ rfl (Nat.le_of_ble_eq_true rfl) dxP_fits_111 ⟨Nat.le_of_ble_eq_true rfl, Nat.le_of_ble_eq_true rfl⟩ (fun v W1 hK H locs h => ?_)
      obtain ⟨r4, S5, rfl, rfl, hw⟩ := hK
      refine W.eq (g2 := F0 m 114 ls [.int r4]) rfl ?_
      obtain ⟨o6, hw⟩ := hw
      exact z_zret X hr hlk h (nz o6) ⟨_, _, rfl, rfl, hw⟩ dxP_fits_114
    | 2, _, e2 =>
      have e2 : x = 2 := e2
      have hw := hw.2.2.1 e2
      refine lv_tableIn (off := 109) (tgt := 110) hx hb dxP_fits_1 (by rw [e2]; decide) (by rw [e2]; decide) (by rw [e2]; rfl) (by decide) ?_
      refine lv_iload_n hx hb dxP_fits_110 rfl (lv_at hl 2 rfl) ?_
      refine cx_xP_38 (As := [.int a]) (rest := []) X hG h hl.1 (mxP_isVariable l Γ θ ρ S Z a _ hw) ⟨show 0 + 1 ≤ 1 from by omega, show 8 + (1 + 11) + 0 ≤ 21 from by omega⟩ rfl (Nat.le_of_ble_eq_true rfl) dxP_fits_111 ⟨Nat.le_of_ble_eq_true rfl, Nat.le_of_ble_eq_true rfl⟩ (fun v W1 hK H locs h => ?_)
      obtain ⟨r7, S8, rfl, rfl, hw⟩ := hK
      refine W.eq (g2 := F0 m 114 ls [.int r7]) rfl ?_
      obtain ⟨o9, hw⟩ := hw
      exact z_zret X hr hlk h (nz o9) ⟨_, _, rfl, rfl, hw⟩ dxP_fits_114
    | 3, _, e2 =>
      have e2 : x = 3 := e2
      have hw := hw.2.2.2.1 e2
      refine lv_tableIn (off := 109) (tgt := 110) hx hb dxP_fits_1 (by rw [e2]; decide) (by rw [e2]; decide) (by rw [e2]; rfl) (by decide) ?_
      refine lv_iload_n hx hb dxP_fits_110 rfl (lv_at hl 2 rfl) ?_
      refine cx_xP_38 (As := [.int a]) (rest := []) X hG h hl.1 (mxP_isVariable l Γ θ ρ S Z a _ hw) ⟨show 0 + 1 ≤ 1 from by omega, show 8 + (1 + 11) + 0 ≤ 21 from by omega⟩ rfl (Nat.le_of_ble_eq_true rfl) dxP_fits_111 ⟨Nat.le_of_ble_eq_true rfl, Nat.le_of_ble_eq_true rfl⟩ (fun v W1 hK H locs h => ?_)
      obtain ⟨r10, S11, rfl, rfl, hw⟩ := hK
      refine W.eq (g2 := F0 m 114 ls [.int r10]) rfl ?_
      obtain ⟨o12, hw⟩ := hw
      exact z_zret X hr hlk h (nz o12) ⟨_, _, rfl, rfl, hw⟩ dxP_fits_114
    | 4, _, e2 =>
      have e2 : x = 4 := e2
      have hw := hw.2.2.2.2.1 e2
      refine lv_tableIn (off := 114) (tgt := 115) hx hb dxP_fits_1 (by rw [e2]; decide) (by rw [e2]; decide) (by rw [e2]; rfl) (by decide) ?_
      refine lv_aload_n hx hb dxP_fits_115 rfl (lv_at hl 0 rfl) ?_
      refine lv_iload_n hx hb dxP_fits_116 rfl (lv_at hl 2 rfl) ?_
      refine cx_xP_41 (As := [.int a]) (rest := []) X hG h hl.1 (mxP_isNode l Γ θ ρ S Z a _ hw) ⟨show 0 + 1 ≤ 1 from by omega, show 8 + (2 + 11) + 0 ≤ 21 from by omega⟩ (q0 := 3) rfl rfl (Nat.le_of_ble_eq_true rfl) dxP_fits_117 ⟨Nat.le_of_ble_eq_true rfl, Nat.le_of_ble_eq_true rfl⟩ (fun v W1 hK H locs h => ?_)
      obtain ⟨r13, S14, rfl, rfl, hw⟩ := hK
      refine W.eq (g2 := F0 m 120 ls [.int r13]) rfl ?_
      refine lv_if_eq (tgt := 135) hx hb dxP_fits_120 (by decide) (fun c15 => ?_) (fun c15 => ?_)
      · have hw := hw.1 c15
        refine lv_iconst (v := 0) hx hb dxP_fits_135 (by decide) ?_
        exact z_zret X hr hlk h rfl ⟨_, _, rfl, rfl, hw⟩ dxP_fits_136
      · have hw := hw.2 c15
        refine lv_aload_n hx hb dxP_fits_123 rfl (lv_at hl 0 rfl) ?_
        refine lv_iload_n hx hb dxP_fits_124 rfl (lv_at hl 3 rfl) ?_
        refine cx_xP_41 (As := [.int b]) (rest := []) X hG h hl.1 (mxP_isNode l Γ θ ρ S14 Z b _ hw) ⟨show 0 + 1 ≤ 1 from by omega, show 8 + (2 + 11) + 0 ≤ 21 from by omega⟩ (q0 := 3) rfl rfl (Nat.le_of_ble_eq_true rfl) dxP_fits_125 ⟨Nat.le_of_ble_eq_true rfl, Nat.le_of_ble_eq_true rfl⟩ (fun v W1 hK H locs h => ?_)
        obtain ⟨r16, S17, rfl, rfl, hw⟩ := hK
        refine W.eq (g2 := F0 m 128 ls [.int r16]) rfl ?_
        refine lv_if_eq (tgt := 135) hx hb dxP_fits_128 (by decide) (fun c18 => ?_) (fun c18 => ?_)
        · have hw := hw.1 c18
          refine lv_iconst (v := 0) hx hb dxP_fits_135 (by decide) ?_
          exact z_zret X hr hlk h rfl ⟨_, _, rfl, rfl, hw⟩ dxP_fits_136
        · have hw := hw.2 c18
          refine lv_iconst (v := 1) hx hb dxP_fits_131 (by decide) ?_
          refine lv_goto (tgt := 136) hx hb dxP_fits_132 (by decide) ?_
          exact z_zret X hr hlk h rfl ⟨_, _, rfl, rfl, hw⟩ dxP_fits_136
    | 5, _, e2 =>
      have e2 : x = 5 := e2
      have hw := hw.2.2.2.2.2.1 e2
      refine lv_tableIn (off := 136) (tgt := 137) hx hb dxP_fits_1 (by rw [e2]; decide) (by rw [e2]; decide) (by rw [e2]; rfl) (by decide) ?_
      refine lv_iload_n hx hb dxP_fits_137 rfl (lv_at hl 2 rfl) ?_
      refine cx_xP_38 (As := [.int a]) (rest := []) X hG h hl.1 (mxP_isVariable l Γ θ ρ S Z a _ hw) ⟨show 0 + 1 ≤ 1 from by omega, show 8 + (1 + 11) + 0 ≤ 21 from by omega⟩ rfl (Nat.le_of_ble_eq_true rfl) dxP_fits_138 ⟨Nat.le_of_ble_eq_true rfl, Nat.le_of_ble_eq_true rfl⟩ (fun v W1 hK H locs h => ?_)
      obtain ⟨r19, S20, rfl, rfl, hw⟩ := hK
      refine W.eq (g2 := F0 m 141 ls [.int r19]) rfl ?_
      refine lv_if_eq (tgt := 171) hx hb dxP_fits_141 (by decide) (fun c21 => ?_) (fun c21 => ?_)
      · have hw := hw.1 c21
        refine lv_iconst (v := 0) hx hb dxP_fits_171 (by decide) ?_
        exact z_zret X hr hlk h rfl ⟨_, _, rfl, rfl, hw⟩ dxP_fits_172
      · have hw := hw.2 c21
        refine lv_aload_n hx hb dxP_fits_144 rfl (lv_at hl 0 rfl) ?_
        refine lv_iload_n hx hb dxP_fits_145 rfl (lv_at hl 3 rfl) ?_
        refine cx_xP_41 (As := [.int b]) (rest := []) X hG h hl.1 (mxP_isNode l Γ θ ρ S20 Z b _ hw) ⟨show 0 + 1 ≤ 1 from by omega, show 8 + (2 + 11) + 0 ≤ 21 from by omega⟩ (q0 := 3) rfl rfl (Nat.le_of_ble_eq_true rfl) dxP_fits_146 ⟨Nat.le_of_ble_eq_true rfl, Nat.le_of_ble_eq_true rfl⟩ (fun v W1 hK H locs h => ?_)
        obtain ⟨r22, S23, rfl, rfl, hw⟩ := hK
        refine W.eq (g2 := F0 m 149 ls [.int r22]) rfl ?_
        refine lv_if_eq (tgt := 171) hx hb dxP_fits_149 (by decide) (fun c24 => ?_) (fun c24 => ?_)
        · have hw := hw.1 c24
          refine lv_iconst (v := 0) hx hb dxP_fits_171 (by decide) ?_
          exact z_zret X hr hlk h rfl ⟨_, _, rfl, rfl, hw⟩ dxP_fits_172
        · have hw := hw.2 c24
          refine lv_iload hx hb dxP_fits_152 (lv_at hl 4 rfl) ?_
          refine lv_iconst (v := -1) hx hb dxP_fits_154 (by decide) ?_
          refine lv_icmp_eq (tgt := 167) hx hb dxP_fits_155 (by decide) (fun c25 => ?_) (fun c25 => ?_)
          · have hw := hw.1 c25
            refine lv_iconst (v := 1) hx hb dxP_fits_167 (by decide) ?_
            refine lv_goto (tgt := 172) hx hb dxP_fits_168 (by decide) ?_
            exact z_zret X hr hlk h rfl ⟨_, _, rfl, rfl, hw⟩ dxP_fits_172
          · have hw := hw.2 c25
            refine lv_aload_n hx hb dxP_fits_158 rfl (lv_at hl 0 rfl) ?_
            refine lv_iload hx hb dxP_fits_159 (lv_at hl 4 rfl) ?_
            refine cx_xP_41 (As := [.int q]) (rest := []) X hG h hl.1 (mxP_isNode l Γ θ ρ S23 Z q _ hw) ⟨show 0 + 1 ≤ 1 from by omega, show 8 + (2 + 11) + 0 ≤ 21 from by omega⟩ (q0 := 3) rfl rfl (Nat.le_of_ble_eq_true rfl) dxP_fits_161 ⟨Nat.le_of_ble_eq_true rfl, Nat.le_of_ble_eq_true rfl⟩ (fun v W1 hK H locs h => ?_)
            obtain ⟨r26, S27, rfl, rfl, hw⟩ := hK
            refine W.eq (g2 := F0 m 164 ls [.int r26]) rfl ?_
            refine lv_if_eq (tgt := 171) hx hb dxP_fits_164 (by decide) (fun c28 => ?_) (fun c28 => ?_)
            · have hw := hw.1 c28
              refine lv_iconst (v := 0) hx hb dxP_fits_171 (by decide) ?_
              exact z_zret X hr hlk h rfl ⟨_, _, rfl, rfl, hw⟩ dxP_fits_172
            · have hw := hw.2 c28
              refine lv_iconst (v := 1) hx hb dxP_fits_167 (by decide) ?_
              refine lv_goto (tgt := 172) hx hb dxP_fits_168 (by decide) ?_
              exact z_zret X hr hlk h rfl ⟨_, _, rfl, rfl, hw⟩ dxP_fits_172
    | 6, _, e2 =>
      have e2 : x = 6 := e2
      have hw := hw.2.2.2.2.2.2.1 e2
      refine lv_tableIn (off := 172) (tgt := 173) hx hb dxP_fits_1 (by rw [e2]; decide) (by rw [e2]; decide) (by rw [e2]; rfl) (by decide) ?_
      refine lv_iload_n hx hb dxP_fits_173 rfl (lv_at hl 2 rfl) ?_
      refine lv_iconst (v := 1) hx hb dxP_fits_174 (by decide) ?_
      refine lv_icmp_lt (tgt := 196) hx hb dxP_fits_175 (by decide) (fun c29 => ?_) (fun c29 => ?_)
      · have hw := hw.1 c29
        refine lv_iconst (v := 0) hx hb dxP_fits_196 (by decide) ?_
        exact z_zret X hr hlk h rfl ⟨_, _, rfl, rfl, hw⟩ dxP_fits_197
      · have hw := hw.2 c29
        refine lv_iload_n hx hb dxP_fits_178 rfl (lv_at hl 2 rfl) ?_
        refine lv_bipush (v := 8) hx hb dxP_fits_179 (by decide) ?_
        refine lv_icmp_gt (tgt := 196) hx hb dxP_fits_181 (by decide) (fun c30 => ?_) (fun c30 => ?_)
        · have hw := hw.1 c30
          refine lv_iconst (v := 0) hx hb dxP_fits_196 (by decide) ?_
          exact z_zret X hr hlk h rfl ⟨_, _, rfl, rfl, hw⟩ dxP_fits_197
        · have hw := hw.2 c30
          refine lv_aload_n hx hb dxP_fits_184 rfl (lv_at hl 0 rfl) ?_
          refine lv_iload_n hx hb dxP_fits_185 rfl (lv_at hl 3 rfl) ?_
          refine cx_xP_41 (As := [.int b]) (rest := []) X hG h hl.1 (mxP_isNode l Γ θ ρ S Z b _ hw) ⟨show 0 + 1 ≤ 1 from by omega, show 8 + (2 + 11) + 0 ≤ 21 from by omega⟩ (q0 := 3) rfl rfl (Nat.le_of_ble_eq_true rfl) dxP_fits_186 ⟨Nat.le_of_ble_eq_true rfl, Nat.le_of_ble_eq_true rfl⟩ (fun v W1 hK H locs h => ?_)
          obtain ⟨r31, S32, rfl, rfl, hw⟩ := hK
          refine W.eq (g2 := F0 m 189 ls [.int r31]) rfl ?_
          refine lv_if_eq (tgt := 196) hx hb dxP_fits_189 (by decide) (fun c33 => ?_) (fun c33 => ?_)
          · have hw := hw.1 c33
            refine lv_iconst (v := 0) hx hb dxP_fits_196 (by decide) ?_
            exact z_zret X hr hlk h rfl ⟨_, _, rfl, rfl, hw⟩ dxP_fits_197
          · have hw := hw.2 c33
            refine lv_iconst (v := 1) hx hb dxP_fits_192 (by decide) ?_
            refine lv_goto (tgt := 197) hx hb dxP_fits_193 (by decide) ?_
            exact z_zret X hr hlk h rfl ⟨_, _, rfl, rfl, hw⟩ dxP_fits_197
    | 7, _, e2 =>
      have e2 : x = 7 := e2
      have hw := hw.2.2.2.2.2.2.2.1 e2
      refine lv_tableIn (off := 107) (tgt := 108) hx hb dxP_fits_1 (by rw [e2]; decide) (by rw [e2]; decide) (by rw [e2]; rfl) (by decide) ?_
      refine lv_iconst (v := 1) hx hb dxP_fits_108 (by decide) ?_
      exact z_zret X hr hlk h rfl ⟨_, _, rfl, rfl, hw⟩ dxP_fits_109
    | 8, _, e2 =>
      have e2 : x = 8 := e2
      have hw := hw.2.2.2.2.2.2.2.2.1 e2
      refine lv_tableIn (off := 109) (tgt := 110) hx hb dxP_fits_1 (by rw [e2]; decide) (by rw [e2]; decide) (by rw [e2]; rfl) (by decide) ?_
      refine lv_iload_n hx hb dxP_fits_110 rfl (lv_at hl 2 rfl) ?_
      refine cx_xP_38 (As := [.int a]) (rest := []) X hG h hl.1 (mxP_isVariable l Γ θ ρ S Z a _ hw) ⟨show 0 + 1 ≤ 1 from by omega, show 8 + (1 + 11) + 0 ≤ 21 from by omega⟩ rfl (Nat.le_of_ble_eq_true rfl) dxP_fits_111 ⟨Nat.le_of_ble_eq_true rfl, Nat.le_of_ble_eq_true rfl⟩ (fun v W1 hK H locs h => ?_)
      obtain ⟨r34, S35, rfl, rfl, hw⟩ := hK
      refine W.eq (g2 := F0 m 114 ls [.int r34]) rfl ?_
      obtain ⟨o36, hw⟩ := hw
      exact z_zret X hr hlk h (nz o36) ⟨_, _, rfl, rfl, hw⟩ dxP_fits_114
    | 9, _, e2 =>
      have e2 : x = 9 := e2
      have hw := hw.2.2.2.2.2.2.2.2.2.1 e2
      refine lv_tableIn (off := 197) (tgt := 198) hx hb dxP_fits_1 (by rw [e2]; decide) (by rw [e2]; decide) (by rw [e2]; rfl) (by decide) ?_
      refine lv_iload_n hx hb dxP_fits_198 rfl (lv_at hl 2 rfl) ?_
      refine cx_xP_34 (As := [.int a]) (rest := []) X hG h hl.1 (mxP_isRoutine l Γ θ ρ S Z a _ hw) ⟨show 0 + 1 ≤ 1 from by omega, show 8 + (1 + 11) + 0 ≤ 21 from by omega⟩ rfl (Nat.le_of_ble_eq_true rfl) dxP_fits_199 ⟨Nat.le_of_ble_eq_true rfl, Nat.le_of_ble_eq_true rfl⟩ (fun v W1 hK H locs h => ?_)
      obtain ⟨r37, S38, rfl, rfl, hw⟩ := hK
      refine W.eq (g2 := F0 m 202 ls [.int r37]) rfl ?_
      obtain ⟨o39, hw⟩ := hw
      exact z_zret X hr hlk h (nz o39) ⟨_, _, rfl, rfl, hw⟩ dxP_fits_202
    | 10, _, e2 =>
      have e2 : x = 10 := e2
      have hw := hw.2.2.2.2.2.2.2.2.2.2.1 e2
      refine lv_tableIn (off := 202) (tgt := 203) hx hb dxP_fits_1 (by rw [e2]; decide) (by rw [e2]; decide) (by rw [e2]; rfl) (by decide) ?_
      refine lv_aload_n hx hb dxP_fits_203 rfl (lv_at hl 0 rfl) ?_
      refine gx_xP_23 X hG h dxP_fits_204 ?_
      refine lv_iload_n hx hb dxP_fits_207 rfl (lv_at hl 2 rfl) ?_
      refine cx_xP_44 (As := [.int a]) (rest := []) X hG h hl.1 (mxC_has l Γ θ ρ S Z a _ hw) ⟨show 0 + 1 ≤ 1 from by omega, show 8 + (2 + 11) + 0 ≤ 21 from by omega⟩ (q0 := 1) rfl rfl (Nat.le_of_ble_eq_true rfl) dxP_fits_208 ⟨Nat.le_of_ble_eq_true rfl, Nat.le_of_ble_eq_true rfl⟩ (fun v W1 hK H locs h => ?_)
      obtain ⟨r40, S41, rfl, rfl, hw⟩ := hK
      refine W.eq (g2 := F0 m 211 ls [.int r40]) rfl ?_
      obtain ⟨o42, hw⟩ := hw
      exact z_zret X hr hlk h (nz o42) ⟨_, _, rfl, rfl, hw⟩ dxP_fits_211
    | 11, _, e2 =>
      have e2 : x = 11 := e2
      have hw := hw.2.2.2.2.2.2.2.2.2.2.2.1 e2
      refine lv_tableIn (off := 107) (tgt := 108) hx hb dxP_fits_1 (by rw [e2]; decide) (by rw [e2]; decide) (by rw [e2]; rfl) (by decide) ?_
      refine lv_iconst (v := 1) hx hb dxP_fits_108 (by decide) ?_
      exact z_zret X hr hlk h rfl ⟨_, _, rfl, rfl, hw⟩ dxP_fits_109
    | 12, _, e2 =>
      have e2 : x = 12 := e2
      have hw := hw.2.2.2.2.2.2.2.2.2.2.2.2.1 e2
      refine lv_tableIn (off := 202) (tgt := 203) hx hb dxP_fits_1 (by rw [e2]; decide) (by rw [e2]; decide) (by rw [e2]; rfl) (by decide) ?_
      refine lv_aload_n hx hb dxP_fits_203 rfl (lv_at hl 0 rfl) ?_
      refine gx_xP_23 X hG h dxP_fits_204 ?_
      refine lv_iload_n hx hb dxP_fits_207 rfl (lv_at hl 2 rfl) ?_
      refine cx_xP_44 (As := [.int a]) (rest := []) X hG h hl.1 (mxC_has l Γ θ ρ S Z a _ hw) ⟨show 0 + 1 ≤ 1 from by omega, show 8 + (2 + 11) + 0 ≤ 21 from by omega⟩ (q0 := 1) rfl rfl (Nat.le_of_ble_eq_true rfl) dxP_fits_208 ⟨Nat.le_of_ble_eq_true rfl, Nat.le_of_ble_eq_true rfl⟩ (fun v W1 hK H locs h => ?_)
      obtain ⟨r43, S44, rfl, rfl, hw⟩ := hK
      refine W.eq (g2 := F0 m 211 ls [.int r43]) rfl ?_
      obtain ⟨o45, hw⟩ := hw
      exact z_zret X hr hlk h (nz o45) ⟨_, _, rfl, rfl, hw⟩ dxP_fits_211
    | 13, _, e2 =>
      have e2 : x = 13 := e2
      have hw := hw.2.2.2.2.2.2.2.2.2.2.2.2.2.1 e2
      refine lv_tableIn (off := 211) (tgt := 212) hx hb dxP_fits_1 (by rw [e2]; decide) (by rw [e2]; decide) (by rw [e2]; rfl) (by decide) ?_
      refine lv_aload_n hx hb dxP_fits_212 rfl (lv_at hl 0 rfl) ?_
      refine lv_iload_n hx hb dxP_fits_213 rfl (lv_at hl 2 rfl) ?_
      refine cx_xP_41 (As := [.int a]) (rest := []) X hG h hl.1 (mxP_isNode l Γ θ ρ S Z a _ hw) ⟨show 0 + 1 ≤ 1 from by omega, show 8 + (2 + 11) + 0 ≤ 21 from by omega⟩ (q0 := 3) rfl rfl (Nat.le_of_ble_eq_true rfl) dxP_fits_214 ⟨Nat.le_of_ble_eq_true rfl, Nat.le_of_ble_eq_true rfl⟩ (fun v W1 hK H locs h => ?_)
      obtain ⟨r46, S47, rfl, rfl, hw⟩ := hK
      refine W.eq (g2 := F0 m 217 ls [.int r46]) rfl ?_
      refine lv_if_eq (tgt := 244) hx hb dxP_fits_217 (by decide) (fun c48 => ?_) (fun c48 => ?_)
      · have hw := hw.1 c48
        refine lv_iconst (v := 0) hx hb dxP_fits_244 (by decide) ?_
        exact z_zret X hr hlk h rfl ⟨_, _, rfl, rfl, hw⟩ dxP_fits_245
      · have hw := hw.2 c48
        refine lv_aload_n hx hb dxP_fits_220 rfl (lv_at hl 0 rfl) ?_
        refine gx_xP_23 X hG h dxP_fits_221 ?_
        refine lv_iload_n hx hb dxP_fits_224 rfl (lv_at hl 3 rfl) ?_
        refine cx_xP_44 (As := [.int b]) (rest := []) X hG h hl.1 (mxC_has l Γ θ ρ S47 Z b _ hw) ⟨show 0 + 1 ≤ 1 from by omega, show 8 + (2 + 11) + 0 ≤ 21 from by omega⟩ (q0 := 1) rfl rfl (Nat.le_of_ble_eq_true rfl) dxP_fits_225 ⟨Nat.le_of_ble_eq_true rfl, Nat.le_of_ble_eq_true rfl⟩ (fun v W1 hK H locs h => ?_)
        obtain ⟨r49, S50, rfl, rfl, hw⟩ := hK
        refine W.eq (g2 := F0 m 228 ls [.int r49]) rfl ?_
        refine lv_if_eq (tgt := 244) hx hb dxP_fits_228 (by decide) (fun c51 => ?_) (fun c51 => ?_)
        · have hw := hw.1 c51
          refine lv_iconst (v := 0) hx hb dxP_fits_244 (by decide) ?_
          exact z_zret X hr hlk h rfl ⟨_, _, rfl, rfl, hw⟩ dxP_fits_245
        · have hw := hw.2 c51
          refine lv_aload_n hx hb dxP_fits_231 rfl (lv_at hl 0 rfl) ?_
          refine lv_iload hx hb dxP_fits_232 (lv_at hl 4 rfl) ?_
          refine cx_xP_41 (As := [.int q]) (rest := []) X hG h hl.1 (mxP_isNode l Γ θ ρ S50 Z q _ hw) ⟨show 0 + 1 ≤ 1 from by omega, show 8 + (2 + 11) + 0 ≤ 21 from by omega⟩ (q0 := 3) rfl rfl (Nat.le_of_ble_eq_true rfl) dxP_fits_234 ⟨Nat.le_of_ble_eq_true rfl, Nat.le_of_ble_eq_true rfl⟩ (fun v W1 hK H locs h => ?_)
          obtain ⟨r52, S53, rfl, rfl, hw⟩ := hK
          refine W.eq (g2 := F0 m 237 ls [.int r52]) rfl ?_
          refine lv_if_eq (tgt := 244) hx hb dxP_fits_237 (by decide) (fun c54 => ?_) (fun c54 => ?_)
          · have hw := hw.1 c54
            refine lv_iconst (v := 0) hx hb dxP_fits_244 (by decide) ?_
            exact z_zret X hr hlk h rfl ⟨_, _, rfl, rfl, hw⟩ dxP_fits_245
          · have hw := hw.2 c54
            refine lv_iconst (v := 1) hx hb dxP_fits_240 (by decide) ?_
            refine lv_goto (tgt := 245) hx hb dxP_fits_241 (by decide) ?_
            exact z_zret X hr hlk h rfl ⟨_, _, rfl, rfl, hw⟩ dxP_fits_245
    | 14, _, e2 =>
      have e2 : x = 14 := e2
      have hw := hw.2.2.2.2.2.2.2.2.2.2.2.2.2.2.1 e2
      refine lv_tableIn (off := 114) (tgt := 115) hx hb dxP_fits_1 (by rw [e2]; decide) (by rw [e2]; decide) (by rw [e2]; rfl) (by decide) ?_
      refine lv_aload_n hx hb dxP_fits_115 rfl (lv_at hl 0 rfl) ?_
      refine lv_iload_n hx hb dxP_fits_116 rfl (lv_at hl 2 rfl) ?_
      refine cx_xP_41 (As := [.int a]) (rest := []) X hG h hl.1 (mxP_isNode l Γ θ ρ S Z a _ hw) ⟨show 0 + 1 ≤ 1 from by omega, show 8 + (2 + 11) + 0 ≤ 21 from by omega⟩ (q0 := 3) rfl rfl (Nat.le_of_ble_eq_true rfl) dxP_fits_117 ⟨Nat.le_of_ble_eq_true rfl, Nat.le_of_ble_eq_true rfl⟩ (fun v W1 hK H locs h => ?_)
      obtain ⟨r55, S56, rfl, rfl, hw⟩ := hK
      refine W.eq (g2 := F0 m 120 ls [.int r55]) rfl ?_
      refine lv_if_eq (tgt := 135) hx hb dxP_fits_120 (by decide) (fun c57 => ?_) (fun c57 => ?_)
      · have hw := hw.1 c57
        refine lv_iconst (v := 0) hx hb dxP_fits_135 (by decide) ?_
        exact z_zret X hr hlk h rfl ⟨_, _, rfl, rfl, hw⟩ dxP_fits_136
      · have hw := hw.2 c57
        refine lv_aload_n hx hb dxP_fits_123 rfl (lv_at hl 0 rfl) ?_
        refine lv_iload_n hx hb dxP_fits_124 rfl (lv_at hl 3 rfl) ?_
        refine cx_xP_41 (As := [.int b]) (rest := []) X hG h hl.1 (mxP_isNode l Γ θ ρ S56 Z b _ hw) ⟨show 0 + 1 ≤ 1 from by omega, show 8 + (2 + 11) + 0 ≤ 21 from by omega⟩ (q0 := 3) rfl rfl (Nat.le_of_ble_eq_true rfl) dxP_fits_125 ⟨Nat.le_of_ble_eq_true rfl, Nat.le_of_ble_eq_true rfl⟩ (fun v W1 hK H locs h => ?_)
        obtain ⟨r58, S59, rfl, rfl, hw⟩ := hK
        refine W.eq (g2 := F0 m 128 ls [.int r58]) rfl ?_
        refine lv_if_eq (tgt := 135) hx hb dxP_fits_128 (by decide) (fun c60 => ?_) (fun c60 => ?_)
        · have hw := hw.1 c60
          refine lv_iconst (v := 0) hx hb dxP_fits_135 (by decide) ?_
          exact z_zret X hr hlk h rfl ⟨_, _, rfl, rfl, hw⟩ dxP_fits_136
        · have hw := hw.2 c60
          refine lv_iconst (v := 1) hx hb dxP_fits_131 (by decide) ?_
          refine lv_goto (tgt := 136) hx hb dxP_fits_132 (by decide) ?_
          exact z_zret X hr hlk h rfl ⟨_, _, rfl, rfl, hw⟩ dxP_fits_136
    | 15, _, e2 =>
      have e2 : x = 15 := e2
      have hw := hw.2.2.2.2.2.2.2.2.2.2.2.2.2.2.2.1 e2
      refine lv_tableIn (off := 114) (tgt := 115) hx hb dxP_fits_1 (by rw [e2]; decide) (by rw [e2]; decide) (by rw [e2]; rfl) (by decide) ?_
      refine lv_aload_n hx hb dxP_fits_115 rfl (lv_at hl 0 rfl) ?_
      refine lv_iload_n hx hb dxP_fits_116 rfl (lv_at hl 2 rfl) ?_
      refine cx_xP_41 (As := [.int a]) (rest := []) X hG h hl.1 (mxP_isNode l Γ θ ρ S Z a _ hw) ⟨show 0 + 1 ≤ 1 from by omega, show 8 + (2 + 11) + 0 ≤ 21 from by omega⟩ (q0 := 3) rfl rfl (Nat.le_of_ble_eq_true rfl) dxP_fits_117 ⟨Nat.le_of_ble_eq_true rfl, Nat.le_of_ble_eq_true rfl⟩ (fun v W1 hK H locs h => ?_)
      obtain ⟨r61, S62, rfl, rfl, hw⟩ := hK
      refine W.eq (g2 := F0 m 120 ls [.int r61]) rfl ?_
      refine lv_if_eq (tgt := 135) hx hb dxP_fits_120 (by decide) (fun c63 => ?_) (fun c63 => ?_)
      · have hw := hw.1 c63
        refine lv_iconst (v := 0) hx hb dxP_fits_135 (by decide) ?_
        exact z_zret X hr hlk h rfl ⟨_, _, rfl, rfl, hw⟩ dxP_fits_136
      · have hw := hw.2 c63
        refine lv_aload_n hx hb dxP_fits_123 rfl (lv_at hl 0 rfl) ?_
        refine lv_iload_n hx hb dxP_fits_124 rfl (lv_at hl 3 rfl) ?_
        refine cx_xP_41 (As := [.int b]) (rest := []) X hG h hl.1 (mxP_isNode l Γ θ ρ S62 Z b _ hw) ⟨show 0 + 1 ≤ 1 from by omega, show 8 + (2 + 11) + 0 ≤ 21 from by omega⟩ (q0 := 3) rfl rfl (Nat.le_of_ble_eq_true rfl) dxP_fits_125 ⟨Nat.le_of_ble_eq_true rfl, Nat.le_of_ble_eq_true rfl⟩ (fun v W1 hK H locs h => ?_)
        obtain ⟨r64, S65, rfl, rfl, hw⟩ := hK
        refine W.eq (g2 := F0 m 128 ls [.int r64]) rfl ?_
        refine lv_if_eq (tgt := 135) hx hb dxP_fits_128 (by decide) (fun c66 => ?_) (fun c66 => ?_)
        · have hw := hw.1 c66
          refine lv_iconst (v := 0) hx hb dxP_fits_135 (by decide) ?_
          exact z_zret X hr hlk h rfl ⟨_, _, rfl, rfl, hw⟩ dxP_fits_136
        · have hw := hw.2 c66
          refine lv_iconst (v := 1) hx hb dxP_fits_131 (by decide) ?_
          refine lv_goto (tgt := 136) hx hb dxP_fits_132 (by decide) ?_
          exact z_zret X hr hlk h rfl ⟨_, _, rfl, rfl, hw⟩ dxP_fits_136
    | 16, _, e2 =>
      have e2 : x = 16 := e2
      have hw := hw.2.2.2.2.2.2.2.2.2.2.2.2.2.2.2.2.1 e2
      refine lv_tableIn (off := 245) (tgt := 246) hx hb dxP_fits_1 (by rw [e2]; decide) (by rw [e2]; decide) (by rw [e2]; rfl) (by decide) ?_
      refine lv_iload_n hx hb dxP_fits_246 rfl (lv_at hl 2 rfl) ?_
      refine cx_xP_38 (As := [.int a]) (rest := []) X hG h hl.1 (mxP_isVariable l Γ θ ρ S Z a _ hw) ⟨show 0 + 1 ≤ 1 from by omega, show 8 + (1 + 11) + 0 ≤ 21 from by omega⟩ rfl (Nat.le_of_ble_eq_true rfl) dxP_fits_247 ⟨Nat.le_of_ble_eq_true rfl, Nat.le_of_ble_eq_true rfl⟩ (fun v W1 hK H locs h => ?_)
      obtain ⟨r67, S68, rfl, rfl, hw⟩ := hK
      refine W.eq (g2 := F0 m 250 ls [.int r67]) rfl ?_
      refine lv_if_eq (tgt := 264) hx hb dxP_fits_250 (by decide) (fun c69 => ?_) (fun c69 => ?_)
      · have hw := hw.1 c69
        refine lv_iconst (v := 0) hx hb dxP_fits_264 (by decide) ?_
        exact z_zret X hr hlk h rfl ⟨_, _, rfl, rfl, hw⟩ dxP_fits_265
      · have hw := hw.2 c69
        refine lv_iload_n hx hb dxP_fits_253 rfl (lv_at hl 3 rfl) ?_
        refine cx_xP_38 (As := [.int b]) (rest := []) X hG h hl.1 (mxP_isVariable l Γ θ ρ S68 Z b _ hw) ⟨show 0 + 1 ≤ 1 from by omega, show 8 + (1 + 11) + 0 ≤ 21 from by omega⟩ rfl (Nat.le_of_ble_eq_true rfl) dxP_fits_254 ⟨Nat.le_of_ble_eq_true rfl, Nat.le_of_ble_eq_true rfl⟩ (fun v W1 hK H locs h => ?_)
        obtain ⟨r70, S71, rfl, rfl, hw⟩ := hK
        refine W.eq (g2 := F0 m 257 ls [.int r70]) rfl ?_
        refine lv_if_eq (tgt := 264) hx hb dxP_fits_257 (by decide) (fun c72 => ?_) (fun c72 => ?_)
        · have hw := hw.1 c72
          refine lv_iconst (v := 0) hx hb dxP_fits_264 (by decide) ?_
          exact z_zret X hr hlk h rfl ⟨_, _, rfl, rfl, hw⟩ dxP_fits_265
        · have hw := hw.2 c72
          refine lv_iconst (v := 1) hx hb dxP_fits_260 (by decide) ?_
          refine lv_goto (tgt := 265) hx hb dxP_fits_261 (by decide) ?_
          exact z_zret X hr hlk h rfl ⟨_, _, rfl, rfl, hw⟩ dxP_fits_265
    | 17, _, e2 =>
      have e2 : x = 17 := e2
      have hw := hw.2.2.2.2.2.2.2.2.2.2.2.2.2.2.2.2.2.1 e2
      refine lv_tableIn (off := 265) (tgt := 266) hx hb dxP_fits_1 (by rw [e2]; decide) (by rw [e2]; decide) (by rw [e2]; rfl) (by decide) ?_
      refine lv_iload_n hx hb dxP_fits_266 rfl (lv_at hl 2 rfl) ?_
      refine cx_xP_38 (As := [.int a]) (rest := []) X hG h hl.1 (mxP_isVariable l Γ θ ρ S Z a _ hw) ⟨show 0 + 1 ≤ 1 from by omega, show 8 + (1 + 11) + 0 ≤ 21 from by omega⟩ rfl (Nat.le_of_ble_eq_true rfl) dxP_fits_267 ⟨Nat.le_of_ble_eq_true rfl, Nat.le_of_ble_eq_true rfl⟩ (fun v W1 hK H locs h => ?_)
      obtain ⟨r73, S74, rfl, rfl, hw⟩ := hK
      refine W.eq (g2 := F0 m 270 ls [.int r73]) rfl ?_
      refine lv_if_eq (tgt := 286) hx hb dxP_fits_270 (by decide) (fun c75 => ?_) (fun c75 => ?_)
      · have hw := hw.1 c75
        refine lv_iconst (v := 0) hx hb dxP_fits_286 (by decide) ?_
        exact z_zret X hr hlk h rfl ⟨_, _, rfl, rfl, hw⟩ dxP_fits_287
      · have hw := hw.2 c75
        refine lv_iload_n hx hb dxP_fits_273 rfl (lv_at hl 3 rfl) ?_
        refine lv_if_lt (tgt := 286) hx hb dxP_fits_274 (by decide) (fun c76 => ?_) (fun c76 => ?_)
        · have hw := hw.1 c76
          refine lv_iconst (v := 0) hx hb dxP_fits_286 (by decide) ?_
          exact z_zret X hr hlk h rfl ⟨_, _, rfl, rfl, hw⟩ dxP_fits_287
        · have hw := hw.2 c76
          refine lv_iload_n hx hb dxP_fits_277 rfl (lv_at hl 3 rfl) ?_
          refine lv_iconst (v := 4) hx hb dxP_fits_278 (by decide) ?_
          refine lv_icmp_gt (tgt := 286) hx hb dxP_fits_279 (by decide) (fun c77 => ?_) (fun c77 => ?_)
          · have hw := hw.1 c77
            refine lv_iconst (v := 0) hx hb dxP_fits_286 (by decide) ?_
            exact z_zret X hr hlk h rfl ⟨_, _, rfl, rfl, hw⟩ dxP_fits_287
          · have hw := hw.2 c77
            refine lv_iconst (v := 1) hx hb dxP_fits_282 (by decide) ?_
            refine lv_goto (tgt := 287) hx hb dxP_fits_283 (by decide) ?_
            exact z_zret X hr hlk h rfl ⟨_, _, rfl, rfl, hw⟩ dxP_fits_287
    | 18, _, e2 =>
      have e2 : x = 18 := e2
      have hw := hw.2.2.2.2.2.2.2.2.2.2.2.2.2.2.2.2.2.2.1 e2
      refine lv_tableIn (off := 202) (tgt := 203) hx hb dxP_fits_1 (by rw [e2]; decide) (by rw [e2]; decide) (by rw [e2]; rfl) (by decide) ?_
      refine lv_aload_n hx hb dxP_fits_203 rfl (lv_at hl 0 rfl) ?_
      refine gx_xP_23 X hG h dxP_fits_204 ?_
      refine lv_iload_n hx hb dxP_fits_207 rfl (lv_at hl 2 rfl) ?_
      refine cx_xP_44 (As := [.int a]) (rest := []) X hG h hl.1 (mxC_has l Γ θ ρ S Z a _ hw) ⟨show 0 + 1 ≤ 1 from by omega, show 8 + (2 + 11) + 0 ≤ 21 from by omega⟩ (q0 := 1) rfl rfl (Nat.le_of_ble_eq_true rfl) dxP_fits_208 ⟨Nat.le_of_ble_eq_true rfl, Nat.le_of_ble_eq_true rfl⟩ (fun v W1 hK H locs h => ?_)
      obtain ⟨r78, S79, rfl, rfl, hw⟩ := hK
      refine W.eq (g2 := F0 m 211 ls [.int r78]) rfl ?_
      obtain ⟨o80, hw⟩ := hw
      exact z_zret X hr hlk h (nz o80) ⟨_, _, rfl, rfl, hw⟩ dxP_fits_211
    | 19, _, e2 =>
      have e2 : x = 19 := e2
      have hw := hw.2.2.2.2.2.2.2.2.2.2.2.2.2.2.2.2.2.2.2.1 e2
      refine lv_tableIn (off := 109) (tgt := 110) hx hb dxP_fits_1 (by rw [e2]; decide) (by rw [e2]; decide) (by rw [e2]; rfl) (by decide) ?_
      refine lv_iload_n hx hb dxP_fits_110 rfl (lv_at hl 2 rfl) ?_
      refine cx_xP_38 (As := [.int a]) (rest := []) X hG h hl.1 (mxP_isVariable l Γ θ ρ S Z a _ hw) ⟨show 0 + 1 ≤ 1 from by omega, show 8 + (1 + 11) + 0 ≤ 21 from by omega⟩ rfl (Nat.le_of_ble_eq_true rfl) dxP_fits_111 ⟨Nat.le_of_ble_eq_true rfl, Nat.le_of_ble_eq_true rfl⟩ (fun v W1 hK H locs h => ?_)
      obtain ⟨r81, S82, rfl, rfl, hw⟩ := hK
      refine W.eq (g2 := F0 m 114 ls [.int r81]) rfl ?_
      obtain ⟨o83, hw⟩ := hw
      exact z_zret X hr hlk h (nz o83) ⟨_, _, rfl, rfl, hw⟩ dxP_fits_114
    | 20, _, e2 =>
      have e2 : x = 20 := e2
      have hw := hw.2.2.2.2.2.2.2.2.2.2.2.2.2.2.2.2.2.2.2.2.1 e2
      refine lv_tableIn (off := 287) (tgt := 288) hx hb dxP_fits_1 (by rw [e2]; decide) (by rw [e2]; decide) (by rw [e2]; rfl) (by decide) ?_
      refine lv_iload_n hx hb dxP_fits_288 rfl (lv_at hl 2 rfl) ?_
      refine cx_xP_49 (As := [.int a]) (rest := []) X hG h hl.1 (mxP_isMonitor l Γ θ ρ S Z a _ hw) ⟨show 0 + 1 ≤ 1 from by omega, show 8 + (1 + 11) + 0 ≤ 21 from by omega⟩ rfl (Nat.le_of_ble_eq_true rfl) dxP_fits_289 ⟨Nat.le_of_ble_eq_true rfl, Nat.le_of_ble_eq_true rfl⟩ (fun v W1 hK H locs h => ?_)
      obtain ⟨r84, S85, rfl, rfl, hw⟩ := hK
      refine W.eq (g2 := F0 m 292 ls [.int r84]) rfl ?_
      refine lv_if_eq (tgt := 307) hx hb dxP_fits_292 (by decide) (fun c86 => ?_) (fun c86 => ?_)
      · have hw := hw.1 c86
        refine lv_iconst (v := 0) hx hb dxP_fits_307 (by decide) ?_
        exact z_zret X hr hlk h rfl ⟨_, _, rfl, rfl, hw⟩ dxP_fits_308
      · have hw := hw.2 c86
        refine lv_aload_n hx hb dxP_fits_295 rfl (lv_at hl 0 rfl) ?_
        refine lv_iload_n hx hb dxP_fits_296 rfl (lv_at hl 3 rfl) ?_
        refine cx_xP_41 (As := [.int b]) (rest := []) X hG h hl.1 (mxP_isNode l Γ θ ρ S85 Z b _ hw) ⟨show 0 + 1 ≤ 1 from by omega, show 8 + (2 + 11) + 0 ≤ 21 from by omega⟩ (q0 := 3) rfl rfl (Nat.le_of_ble_eq_true rfl) dxP_fits_297 ⟨Nat.le_of_ble_eq_true rfl, Nat.le_of_ble_eq_true rfl⟩ (fun v W1 hK H locs h => ?_)
        obtain ⟨r87, S88, rfl, rfl, hw⟩ := hK
        refine W.eq (g2 := F0 m 300 ls [.int r87]) rfl ?_
        refine lv_if_eq (tgt := 307) hx hb dxP_fits_300 (by decide) (fun c89 => ?_) (fun c89 => ?_)
        · have hw := hw.1 c89
          refine lv_iconst (v := 0) hx hb dxP_fits_307 (by decide) ?_
          exact z_zret X hr hlk h rfl ⟨_, _, rfl, rfl, hw⟩ dxP_fits_308
        · have hw := hw.2 c89
          refine lv_iconst (v := 1) hx hb dxP_fits_303 (by decide) ?_
          refine lv_goto (tgt := 308) hx hb dxP_fits_304 (by decide) ?_
          exact z_zret X hr hlk h rfl ⟨_, _, rfl, rfl, hw⟩ dxP_fits_308
    | 21, _, e2 =>
      have e2 : x = 21 := e2
      have hw := hw.2.2.2.2.2.2.2.2.2.2.2.2.2.2.2.2.2.2.2.2.2.1 e2
      refine lv_tableIn (off := 308) (tgt := 309) hx hb dxP_fits_1 (by rw [e2]; decide) (by rw [e2]; decide) (by rw [e2]; rfl) (by decide) ?_
      refine lv_iload_n hx hb dxP_fits_309 rfl (lv_at hl 2 rfl) ?_
      refine cx_xP_49 (As := [.int a]) (rest := []) X hG h hl.1 (mxP_isMonitor l Γ θ ρ S Z a _ hw) ⟨show 0 + 1 ≤ 1 from by omega, show 8 + (1 + 11) + 0 ≤ 21 from by omega⟩ rfl (Nat.le_of_ble_eq_true rfl) dxP_fits_310 ⟨Nat.le_of_ble_eq_true rfl, Nat.le_of_ble_eq_true rfl⟩ (fun v W1 hK H locs h => ?_)
      obtain ⟨r90, S91, rfl, rfl, hw⟩ := hK
      refine W.eq (g2 := F0 m 313 ls [.int r90]) rfl ?_
      obtain ⟨o92, hw⟩ := hw
      exact z_zret X hr hlk h (nz o92) ⟨_, _, rfl, rfl, hw⟩ dxP_fits_313
    | 22, _, e2 =>
      have e2 : x = 22 := e2
      have hw := hw.2.2.2.2.2.2.2.2.2.2.2.2.2.2.2.2.2.2.2.2.2.2 e2
      refine lv_tableIn (off := 107) (tgt := 108) hx hb dxP_fits_1 (by rw [e2]; decide) (by rw [e2]; decide) (by rw [e2]; rfl) (by decide) ?_
      refine lv_iconst (v := 1) hx hb dxP_fits_108 (by decide) ?_
      exact z_zret X hr hlk h rfl ⟨_, _, rfl, rfl, hw⟩ dxP_fits_109
    | k + 23, j_h, _ => exact absurd j_h (by omega)
def wxP_levelOf  (post : Int32 → Sg → Prop) (ρ : Rh) (S : Sg) (x : Int32) (a : Int32) (b : Int32) (q : Int32) : Prop := ((x.toInt < 4 ∨ 20 < x.toInt) → post (1 : Int32) S) ∧ (x = 4 → wxP_levelAt (fun r4 S5 => wxP_levelAt (fun r6 S7 => post (1 + (if r4 < r6 then r6 else r4)) S7) ρ S5 b) ρ S a) ∧ (x = 5 → wxP_levelAt (fun r8 S9 => wxP_levelAt (fun r10 S11 => post (1 + (if r8 < r10 then r10 else r8)) S11) ρ S9 q) ρ S b) ∧ (x = 6 → wxP_levelAt (fun r12 S13 => post (1 + r12) S13) ρ S b) ∧ (x = 7 → post (1 : Int32) S) ∧ (x = 8 → post (1 : Int32) S) ∧ (x = 9 → post (1 : Int32) S) ∧ (x = 10 → post (1 : Int32) S) ∧ (x = 11 → post (1 : Int32) S) ∧ (x = 12 → post (1 : Int32) S) ∧ (x = 13 → wxP_levelAt (fun r14 S15 => wxP_levelAt (fun r16 S17 => post (1 + (if r14 < r16 then r16 else r14)) S17) ρ S15 q) ρ S a) ∧ (x = 14 → wxP_levelAt (fun r18 S19 => wxP_levelAt (fun r20 S21 => post (1 + (if r18 < r20 then r20 else r18)) S21) ρ S19 b) ρ S a) ∧ (x = 15 → wxP_levelAt (fun r22 S23 => wxP_levelAt (fun r24 S25 => post (1 + (if r22 < r24 then r24 else r22)) S25) ρ S23 b) ρ S a) ∧ (x = 16 → post (1 : Int32) S) ∧ (x = 17 → post (1 : Int32) S) ∧ (x = 18 → post (1 : Int32) S) ∧ (x = 19 → post (1 : Int32) S) ∧ (x = 20 → wxP_levelAt (fun r26 S27 => post (1 + r26) S27) ρ S b)
set_option maxHeartbeats 4000000 in
set_option maxRecDepth 100000 in
theorem mxP_levelOf (l : Launch) (Γ : Gm) (θ : Th) (ρ : Rh) (S : Sg) (Z : va_W) (x : Int32) (a : Int32) (b : Int32) (q : Int32) (post : Int32 → Sg → Prop) (hw : wxP_levelOf post ρ S x a b q) : MM l yxP_levelOf cxP_levelOf 5 (some .int) 2 42 Γ [.ref (θ.1 3), .int x, .int a, .int b, .int q] (WX Γ θ ρ S Z) (KK (fun r : Int32 => some (.int r)) (fun S' => WX Γ θ ρ S' Z) post) 0 0 := by
  refine MM_of (by decide) (Nat.le_of_ble_eq_true rfl) ?_
  intro p e s m below meth c X hr hlk hnm hG h ls hl
  have hx := X.1
  have hb := X.2.1
  have hl : lv_has ls 5 [(0, .ref (θ.1 3)), (1, .int x), (2, .int a), (3, .int b), (4, .int q)] := hl
  unfold wxP_levelOf at hw
  refine lv_iload_n hx hb dxP_levelOf_0 rfl (lv_at hl 1 rfl) ?_
  by_cases c1 : x.toInt < 4 ∨ 20 < x.toInt
  · have hw := hw.1 c1
    refine lv_tableOut (tgt := 142) hx hb dxP_levelOf_1 c1 (by decide) ?_
    refine lv_iconst (v := 1) hx hb dxP_levelOf_142 (by decide) ?_
    exact z_iret X hr hlk h ⟨_, _, rfl, rfl, hw⟩ dxP_levelOf_143
  · have hw := hw.2
    obtain ⟨j3, j_h, e2⟩ := sw_in (lo := 4) (n := 16) c1
    match j3, j_h, e2 with
    | 0, _, e2 =>
      have e2 : x = 4 := e2
      have hw := hw.1 e2
      refine lv_tableIn (off := 83) (tgt := 84) hx hb dxP_levelOf_1 (by rw [e2]; decide) (by rw [e2]; decide) (by rw [e2]; rfl) (by decide) ?_
      refine lv_iconst (v := 1) hx hb dxP_levelOf_84 (by decide) ?_
      refine lv_aload_n hx hb dxP_levelOf_85 rfl (lv_at hl 0 rfl) ?_
      refine lv_iload_n hx hb dxP_levelOf_86 rfl (lv_at hl 2 rfl) ?_
      refine cx_xP_52 (As := [.int a]) (rest := [.int 1]) X hG h hl.1 (mxP_levelAt l Γ θ ρ S Z a _ hw) ⟨show 1 + 1 ≤ 2 from by omega, show 8 + (2 + 11) + 21 ≤ 42 from by omega⟩ (q0 := 3) rfl rfl (Nat.le_of_ble_eq_true rfl) dxP_levelOf_87 ⟨Nat.le_of_ble_eq_true rfl, Nat.le_of_ble_eq_true rfl⟩ (fun v W1 hK H locs h => ?_)
      obtain ⟨r4, S5, rfl, rfl, hw⟩ := hK
      refine W.eq (g2 := F0 m 90 ls [.int r4, .int 1]) rfl ?_
      refine lv_aload_n hx hb dxP_levelOf_90 rfl (lv_at hl 0 rfl) ?_
      refine lv_iload_n hx hb dxP_levelOf_91 rfl (lv_at hl 3 rfl) ?_
      refine cx_xP_52 (As := [.int b]) (rest := [.int r4, .int 1]) X hG h hl.1 (mxP_levelAt l Γ θ ρ S5 Z b _ hw) ⟨show 1 + 1 ≤ 2 from by omega, show 8 + (2 + 11) + 21 ≤ 42 from by omega⟩ (q0 := 3) rfl rfl (Nat.le_of_ble_eq_true rfl) dxP_levelOf_92 ⟨Nat.le_of_ble_eq_true rfl, Nat.le_of_ble_eq_true rfl⟩ (fun v W1 hK H locs h => ?_)
      obtain ⟨r6, S7, rfl, rfl, hw⟩ := hK
      refine W.eq (g2 := F0 m 95 ls [.int r6, .int r4, .int 1]) rfl ?_
      refine va_mmax hx hb (by rw [hl.1]; exact X.2.2.1) X.2.2.2.1 (X.2.2.2.2 _ kM_xP_56.1) (X.2.2.2.2 _ kM_xP_56.2.1) (X.2.2.2.2 _ kM_xP_56.2.2.1) (X.2.2.2.2 _ kM_xP_56.2.2.2) (show 1 ≤ 2 from by omega) (Nat.le_trans (Nat.add_le_add_right (m := 8) (Nat.le_of_ble_eq_true rfl) 13) (show 8 + 13 ≤ 42 from by omega)) (Nat.zero_le _) (Nat.zero_le _) dxP_levelOf_95 ?_
      refine lv_iadd hx hb dxP_levelOf_98 ?_
      exact z_iret X hr hlk h ⟨_, _, rfl, rfl, hw⟩ dxP_levelOf_99
    | 1, _, e2 =>
      have e2 : x = 5 := e2
      have hw := hw.2.1 e2
      refine lv_tableIn (off := 99) (tgt := 100) hx hb dxP_levelOf_1 (by rw [e2]; decide) (by rw [e2]; decide) (by rw [e2]; rfl) (by decide) ?_
      refine lv_iconst (v := 1) hx hb dxP_levelOf_100 (by decide) ?_
      refine lv_aload_n hx hb dxP_levelOf_101 rfl (lv_at hl 0 rfl) ?_
      refine lv_iload_n hx hb dxP_levelOf_102 rfl (lv_at hl 3 rfl) ?_
      refine cx_xP_52 (As := [.int b]) (rest := [.int 1]) X hG h hl.1 (mxP_levelAt l Γ θ ρ S Z b _ hw) ⟨show 1 + 1 ≤ 2 from by omega, show 8 + (2 + 11) + 21 ≤ 42 from by omega⟩ (q0 := 3) rfl rfl (Nat.le_of_ble_eq_true rfl) dxP_levelOf_103 ⟨Nat.le_of_ble_eq_true rfl, Nat.le_of_ble_eq_true rfl⟩ (fun v W1 hK H locs h => ?_)
      obtain ⟨r8, S9, rfl, rfl, hw⟩ := hK
      refine W.eq (g2 := F0 m 106 ls [.int r8, .int 1]) rfl ?_
      refine lv_aload_n hx hb dxP_levelOf_106 rfl (lv_at hl 0 rfl) ?_
      refine lv_iload hx hb dxP_levelOf_107 (lv_at hl 4 rfl) ?_
      refine cx_xP_52 (As := [.int q]) (rest := [.int r8, .int 1]) X hG h hl.1 (mxP_levelAt l Γ θ ρ S9 Z q _ hw) ⟨show 1 + 1 ≤ 2 from by omega, show 8 + (2 + 11) + 21 ≤ 42 from by omega⟩ (q0 := 3) rfl rfl (Nat.le_of_ble_eq_true rfl) dxP_levelOf_109 ⟨Nat.le_of_ble_eq_true rfl, Nat.le_of_ble_eq_true rfl⟩ (fun v W1 hK H locs h => ?_)
      obtain ⟨r10, S11, rfl, rfl, hw⟩ := hK
      refine W.eq (g2 := F0 m 112 ls [.int r10, .int r8, .int 1]) rfl ?_
      refine va_mmax hx hb (by rw [hl.1]; exact X.2.2.1) X.2.2.2.1 (X.2.2.2.2 _ kM_xP_56.1) (X.2.2.2.2 _ kM_xP_56.2.1) (X.2.2.2.2 _ kM_xP_56.2.2.1) (X.2.2.2.2 _ kM_xP_56.2.2.2) (show 1 ≤ 2 from by omega) (Nat.le_trans (Nat.add_le_add_right (m := 8) (Nat.le_of_ble_eq_true rfl) 13) (show 8 + 13 ≤ 42 from by omega)) (Nat.zero_le _) (Nat.zero_le _) dxP_levelOf_112 ?_
      refine lv_iadd hx hb dxP_levelOf_115 ?_
      exact z_iret X hr hlk h ⟨_, _, rfl, rfl, hw⟩ dxP_levelOf_116
    | 2, _, e2 =>
      have e2 : x = 6 := e2
      have hw := hw.2.2.1 e2
      refine lv_tableIn (off := 116) (tgt := 117) hx hb dxP_levelOf_1 (by rw [e2]; decide) (by rw [e2]; decide) (by rw [e2]; rfl) (by decide) ?_
      refine lv_iconst (v := 1) hx hb dxP_levelOf_117 (by decide) ?_
      refine lv_aload_n hx hb dxP_levelOf_118 rfl (lv_at hl 0 rfl) ?_
      refine lv_iload_n hx hb dxP_levelOf_119 rfl (lv_at hl 3 rfl) ?_
      refine cx_xP_52 (As := [.int b]) (rest := [.int 1]) X hG h hl.1 (mxP_levelAt l Γ θ ρ S Z b _ hw) ⟨show 1 + 1 ≤ 2 from by omega, show 8 + (2 + 11) + 21 ≤ 42 from by omega⟩ (q0 := 3) rfl rfl (Nat.le_of_ble_eq_true rfl) dxP_levelOf_120 ⟨Nat.le_of_ble_eq_true rfl, Nat.le_of_ble_eq_true rfl⟩ (fun v W1 hK H locs h => ?_)
      obtain ⟨r12, S13, rfl, rfl, hw⟩ := hK
      refine W.eq (g2 := F0 m 123 ls [.int r12, .int 1]) rfl ?_
      refine lv_iadd hx hb dxP_levelOf_123 ?_
      exact z_iret X hr hlk h ⟨_, _, rfl, rfl, hw⟩ dxP_levelOf_124
    | 3, _, e2 =>
      have e2 : x = 7 := e2
      have hw := hw.2.2.2.1 e2
      refine lv_tableIn (off := 141) (tgt := 142) hx hb dxP_levelOf_1 (by rw [e2]; decide) (by rw [e2]; decide) (by rw [e2]; rfl) (by decide) ?_
      refine lv_iconst (v := 1) hx hb dxP_levelOf_142 (by decide) ?_
      exact z_iret X hr hlk h ⟨_, _, rfl, rfl, hw⟩ dxP_levelOf_143
    | 4, _, e2 =>
      have e2 : x = 8 := e2
      have hw := hw.2.2.2.2.1 e2
      refine lv_tableIn (off := 141) (tgt := 142) hx hb dxP_levelOf_1 (by rw [e2]; decide) (by rw [e2]; decide) (by rw [e2]; rfl) (by decide) ?_
      refine lv_iconst (v := 1) hx hb dxP_levelOf_142 (by decide) ?_
      exact z_iret X hr hlk h ⟨_, _, rfl, rfl, hw⟩ dxP_levelOf_143
    | 5, _, e2 =>
      have e2 : x = 9 := e2
      have hw := hw.2.2.2.2.2.1 e2
      refine lv_tableIn (off := 141) (tgt := 142) hx hb dxP_levelOf_1 (by rw [e2]; decide) (by rw [e2]; decide) (by rw [e2]; rfl) (by decide) ?_
      refine lv_iconst (v := 1) hx hb dxP_levelOf_142 (by decide) ?_
      exact z_iret X hr hlk h ⟨_, _, rfl, rfl, hw⟩ dxP_levelOf_143
    | 6, _, e2 =>
      have e2 : x = 10 := e2
      have hw := hw.2.2.2.2.2.2.1 e2
      refine lv_tableIn (off := 141) (tgt := 142) hx hb dxP_levelOf_1 (by rw [e2]; decide) (by rw [e2]; decide) (by rw [e2]; rfl) (by decide) ?_
      refine lv_iconst (v := 1) hx hb dxP_levelOf_142 (by decide) ?_
      exact z_iret X hr hlk h ⟨_, _, rfl, rfl, hw⟩ dxP_levelOf_143
    | 7, _, e2 =>
      have e2 : x = 11 := e2
      have hw := hw.2.2.2.2.2.2.2.1 e2
      refine lv_tableIn (off := 141) (tgt := 142) hx hb dxP_levelOf_1 (by rw [e2]; decide) (by rw [e2]; decide) (by rw [e2]; rfl) (by decide) ?_
      refine lv_iconst (v := 1) hx hb dxP_levelOf_142 (by decide) ?_
      exact z_iret X hr hlk h ⟨_, _, rfl, rfl, hw⟩ dxP_levelOf_143
    | 8, _, e2 =>
      have e2 : x = 12 := e2
      have hw := hw.2.2.2.2.2.2.2.2.1 e2
      refine lv_tableIn (off := 141) (tgt := 142) hx hb dxP_levelOf_1 (by rw [e2]; decide) (by rw [e2]; decide) (by rw [e2]; rfl) (by decide) ?_
      refine lv_iconst (v := 1) hx hb dxP_levelOf_142 (by decide) ?_
      exact z_iret X hr hlk h ⟨_, _, rfl, rfl, hw⟩ dxP_levelOf_143
    | 9, _, e2 =>
      have e2 : x = 13 := e2
      have hw := hw.2.2.2.2.2.2.2.2.2.1 e2
      refine lv_tableIn (off := 124) (tgt := 125) hx hb dxP_levelOf_1 (by rw [e2]; decide) (by rw [e2]; decide) (by rw [e2]; rfl) (by decide) ?_
      refine lv_iconst (v := 1) hx hb dxP_levelOf_125 (by decide) ?_
      refine lv_aload_n hx hb dxP_levelOf_126 rfl (lv_at hl 0 rfl) ?_
      refine lv_iload_n hx hb dxP_levelOf_127 rfl (lv_at hl 2 rfl) ?_
      refine cx_xP_52 (As := [.int a]) (rest := [.int 1]) X hG h hl.1 (mxP_levelAt l Γ θ ρ S Z a _ hw) ⟨show 1 + 1 ≤ 2 from by omega, show 8 + (2 + 11) + 21 ≤ 42 from by omega⟩ (q0 := 3) rfl rfl (Nat.le_of_ble_eq_true rfl) dxP_levelOf_128 ⟨Nat.le_of_ble_eq_true rfl, Nat.le_of_ble_eq_true rfl⟩ (fun v W1 hK H locs h => ?_)
      obtain ⟨r14, S15, rfl, rfl, hw⟩ := hK
      refine W.eq (g2 := F0 m 131 ls [.int r14, .int 1]) rfl ?_
      refine lv_aload_n hx hb dxP_levelOf_131 rfl (lv_at hl 0 rfl) ?_
      refine lv_iload hx hb dxP_levelOf_132 (lv_at hl 4 rfl) ?_
      refine cx_xP_52 (As := [.int q]) (rest := [.int r14, .int 1]) X hG h hl.1 (mxP_levelAt l Γ θ ρ S15 Z q _ hw) ⟨show 1 + 1 ≤ 2 from by omega, show 8 + (2 + 11) + 21 ≤ 42 from by omega⟩ (q0 := 3) rfl rfl (Nat.le_of_ble_eq_true rfl) dxP_levelOf_134 ⟨Nat.le_of_ble_eq_true rfl, Nat.le_of_ble_eq_true rfl⟩ (fun v W1 hK H locs h => ?_)
      obtain ⟨r16, S17, rfl, rfl, hw⟩ := hK
      refine W.eq (g2 := F0 m 137 ls [.int r16, .int r14, .int 1]) rfl ?_
      refine va_mmax hx hb (by rw [hl.1]; exact X.2.2.1) X.2.2.2.1 (X.2.2.2.2 _ kM_xP_56.1) (X.2.2.2.2 _ kM_xP_56.2.1) (X.2.2.2.2 _ kM_xP_56.2.2.1) (X.2.2.2.2 _ kM_xP_56.2.2.2) (show 1 ≤ 2 from by omega) (Nat.le_trans (Nat.add_le_add_right (m := 8) (Nat.le_of_ble_eq_true rfl) 13) (show 8 + 13 ≤ 42 from by omega)) (Nat.zero_le _) (Nat.zero_le _) dxP_levelOf_137 ?_
      refine lv_iadd hx hb dxP_levelOf_140 ?_
      exact z_iret X hr hlk h ⟨_, _, rfl, rfl, hw⟩ dxP_levelOf_141
    | 10, _, e2 =>
      have e2 : x = 14 := e2
      have hw := hw.2.2.2.2.2.2.2.2.2.2.1 e2
      refine lv_tableIn (off := 83) (tgt := 84) hx hb dxP_levelOf_1 (by rw [e2]; decide) (by rw [e2]; decide) (by rw [e2]; rfl) (by decide) ?_
      refine lv_iconst (v := 1) hx hb dxP_levelOf_84 (by decide) ?_
      refine lv_aload_n hx hb dxP_levelOf_85 rfl (lv_at hl 0 rfl) ?_
      refine lv_iload_n hx hb dxP_levelOf_86 rfl (lv_at hl 2 rfl) ?_
      refine cx_xP_52 (As := [.int a]) (rest := [.int 1]) X hG h hl.1 (mxP_levelAt l Γ θ ρ S Z a _ hw) ⟨show 1 + 1 ≤ 2 from by omega, show 8 + (2 + 11) + 21 ≤ 42 from by omega⟩ (q0 := 3) rfl rfl (Nat.le_of_ble_eq_true rfl) dxP_levelOf_87 ⟨Nat.le_of_ble_eq_true rfl, Nat.le_of_ble_eq_true rfl⟩ (fun v W1 hK H locs h => ?_)
      obtain ⟨r18, S19, rfl, rfl, hw⟩ := hK
      refine W.eq (g2 := F0 m 90 ls [.int r18, .int 1]) rfl ?_
      refine lv_aload_n hx hb dxP_levelOf_90 rfl (lv_at hl 0 rfl) ?_
      refine lv_iload_n hx hb dxP_levelOf_91 rfl (lv_at hl 3 rfl) ?_
      refine cx_xP_52 (As := [.int b]) (rest := [.int r18, .int 1]) X hG h hl.1 (mxP_levelAt l Γ θ ρ S19 Z b _ hw) ⟨show 1 + 1 ≤ 2 from by omega, show 8 + (2 + 11) + 21 ≤ 42 from by omega⟩ (q0 := 3) rfl rfl (Nat.le_of_ble_eq_true rfl) dxP_levelOf_92 ⟨Nat.le_of_ble_eq_true rfl, Nat.le_of_ble_eq_true rfl⟩ (fun v W1 hK H locs h => ?_)
      obtain ⟨r20, S21, rfl, rfl, hw⟩ := hK
      refine W.eq (g2 := F0 m 95 ls [.int r20, .int r18, .int 1]) rfl ?_
      refine va_mmax hx hb (by rw [hl.1]; exact X.2.2.1) X.2.2.2.1 (X.2.2.2.2 _ kM_xP_56.1) (X.2.2.2.2 _ kM_xP_56.2.1) (X.2.2.2.2 _ kM_xP_56.2.2.1) (X.2.2.2.2 _ kM_xP_56.2.2.2) (show 1 ≤ 2 from by omega) (Nat.le_trans (Nat.add_le_add_right (m := 8) (Nat.le_of_ble_eq_true rfl) 13) (show 8 + 13 ≤ 42 from by omega)) (Nat.zero_le _) (Nat.zero_le _) dxP_levelOf_95 ?_
      refine lv_iadd hx hb dxP_levelOf_98 ?_
      exact z_iret X hr hlk h ⟨_, _, rfl, rfl, hw⟩ dxP_levelOf_99
    | 11, _, e2 =>
      have e2 : x = 15 := e2
      have hw := hw.2.2.2.2.2.2.2.2.2.2.2.1 e2
      refine lv_tableIn (off := 83) (tgt := 84) hx hb dxP_levelOf_1 (by rw [e2]; decide) (by rw [e2]; decide) (by rw [e2]; rfl) (by decide) ?_
      refine lv_iconst (v := 1) hx hb dxP_levelOf_84 (by decide) ?_
      refine lv_aload_n hx hb dxP_levelOf_85 rfl (lv_at hl 0 rfl) ?_
      refine lv_iload_n hx hb dxP_levelOf_86 rfl (lv_at hl 2 rfl) ?_
      refine cx_xP_52 (As := [.int a]) (rest := [.int 1]) X hG h hl.1 (mxP_levelAt l Γ θ ρ S Z a _ hw) ⟨show 1 + 1 ≤ 2 from by omega, show 8 + (2 + 11) + 21 ≤ 42 from by omega⟩ (q0 := 3) rfl rfl (Nat.le_of_ble_eq_true rfl) dxP_levelOf_87 ⟨Nat.le_of_ble_eq_true rfl, Nat.le_of_ble_eq_true rfl⟩ (fun v W1 hK H locs h => ?_)
      obtain ⟨r22, S23, rfl, rfl, hw⟩ := hK
      refine W.eq (g2 := F0 m 90 ls [.int r22, .int 1]) rfl ?_
      refine lv_aload_n hx hb dxP_levelOf_90 rfl (lv_at hl 0 rfl) ?_
      refine lv_iload_n hx hb dxP_levelOf_91 rfl (lv_at hl 3 rfl) ?_
      refine cx_xP_52 (As := [.int b]) (rest := [.int r22, .int 1]) X hG h hl.1 (mxP_levelAt l Γ θ ρ S23 Z b _ hw) ⟨show 1 + 1 ≤ 2 from by omega, show 8 + (2 + 11) + 21 ≤ 42 from by omega⟩ (q0 := 3) rfl rfl (Nat.le_of_ble_eq_true rfl) dxP_levelOf_92 ⟨Nat.le_of_ble_eq_true rfl, Nat.le_of_ble_eq_true rfl⟩ (fun v W1 hK H locs h => ?_)
      obtain ⟨r24, S25, rfl, rfl, hw⟩ := hK
      refine W.eq (g2 := F0 m 95 ls [.int r24, .int r22, .int 1]) rfl ?_
      refine va_mmax hx hb (by rw [hl.1]; exact X.2.2.1) X.2.2.2.1 (X.2.2.2.2 _ kM_xP_56.1) (X.2.2.2.2 _ kM_xP_56.2.1) (X.2.2.2.2 _ kM_xP_56.2.2.1) (X.2.2.2.2 _ kM_xP_56.2.2.2) (show 1 ≤ 2 from by omega) (Nat.le_trans (Nat.add_le_add_right (m := 8) (Nat.le_of_ble_eq_true rfl) 13) (show 8 + 13 ≤ 42 from by omega)) (Nat.zero_le _) (Nat.zero_le _) dxP_levelOf_95 ?_
      refine lv_iadd hx hb dxP_levelOf_98 ?_
      exact z_iret X hr hlk h ⟨_, _, rfl, rfl, hw⟩ dxP_levelOf_99
    | 12, _, e2 =>
      have e2 : x = 16 := e2
      have hw := hw.2.2.2.2.2.2.2.2.2.2.2.2.1 e2
      refine lv_tableIn (off := 141) (tgt := 142) hx hb dxP_levelOf_1 (by rw [e2]; decide) (by rw [e2]; decide) (by rw [e2]; rfl) (by decide) ?_
      refine lv_iconst (v := 1) hx hb dxP_levelOf_142 (by decide) ?_
      exact z_iret X hr hlk h ⟨_, _, rfl, rfl, hw⟩ dxP_levelOf_143
    | 13, _, e2 =>
      have e2 : x = 17 := e2
      have hw := hw.2.2.2.2.2.2.2.2.2.2.2.2.2.1 e2
      refine lv_tableIn (off := 141) (tgt := 142) hx hb dxP_levelOf_1 (by rw [e2]; decide) (by rw [e2]; decide) (by rw [e2]; rfl) (by decide) ?_
      refine lv_iconst (v := 1) hx hb dxP_levelOf_142 (by decide) ?_
      exact z_iret X hr hlk h ⟨_, _, rfl, rfl, hw⟩ dxP_levelOf_143
    | 14, _, e2 =>
      have e2 : x = 18 := e2
      have hw := hw.2.2.2.2.2.2.2.2.2.2.2.2.2.2.1 e2
      refine lv_tableIn (off := 141) (tgt := 142) hx hb dxP_levelOf_1 (by rw [e2]; decide) (by rw [e2]; decide) (by rw [e2]; rfl) (by decide) ?_
      refine lv_iconst (v := 1) hx hb dxP_levelOf_142 (by decide) ?_
      exact z_iret X hr hlk h ⟨_, _, rfl, rfl, hw⟩ dxP_levelOf_143
    | 15, _, e2 =>
      have e2 : x = 19 := e2
      have hw := hw.2.2.2.2.2.2.2.2.2.2.2.2.2.2.2.1 e2
      refine lv_tableIn (off := 141) (tgt := 142) hx hb dxP_levelOf_1 (by rw [e2]; decide) (by rw [e2]; decide) (by rw [e2]; rfl) (by decide) ?_
      refine lv_iconst (v := 1) hx hb dxP_levelOf_142 (by decide) ?_
      exact z_iret X hr hlk h ⟨_, _, rfl, rfl, hw⟩ dxP_levelOf_143
    | 16, _, e2 =>
      have e2 : x = 20 := e2
      have hw := hw.2.2.2.2.2.2.2.2.2.2.2.2.2.2.2.2 e2
      refine lv_tableIn (off := 116) (tgt := 117) hx hb dxP_levelOf_1 (by rw [e2]; decide) (by rw [e2]; decide) (by rw [e2]; rfl) (by decide) ?_
      refine lv_iconst (v := 1) hx hb dxP_levelOf_117 (by decide) ?_
      refine lv_aload_n hx hb dxP_levelOf_118 rfl (lv_at hl 0 rfl) ?_
      refine lv_iload_n hx hb dxP_levelOf_119 rfl (lv_at hl 3 rfl) ?_
      refine cx_xP_52 (As := [.int b]) (rest := [.int 1]) X hG h hl.1 (mxP_levelAt l Γ θ ρ S Z b _ hw) ⟨show 1 + 1 ≤ 2 from by omega, show 8 + (2 + 11) + 21 ≤ 42 from by omega⟩ (q0 := 3) rfl rfl (Nat.le_of_ble_eq_true rfl) dxP_levelOf_120 ⟨Nat.le_of_ble_eq_true rfl, Nat.le_of_ble_eq_true rfl⟩ (fun v W1 hK H locs h => ?_)
      obtain ⟨r26, S27, rfl, rfl, hw⟩ := hK
      refine W.eq (g2 := F0 m 123 ls [.int r26, .int 1]) rfl ?_
      refine lv_iadd hx hb dxP_levelOf_123 ?_
      exact z_iret X hr hlk h ⟨_, _, rfl, rfl, hw⟩ dxP_levelOf_124
    | k + 17, j_h, _ => exact absurd j_h (by omega)
def wxH_become  (post : Unit → Sg → Prop) (ρ : Rh) (S : Sg) (jT : Nat) (x : Int32) (y : Int32) (o : Option Nat) : Prop := (jT < 300) ∧ post () (sR (sC (sR (sR S 3 jT x) 4 jT y) jT o) 6 jT 0)
set_option maxHeartbeats 4000000 in
set_option maxRecDepth 100000 in
theorem mxH_become (l : Launch) (Γ : Gm) (θ : Th) (ρ : Rh) (S : Sg) (Z : va_W) (jT : Nat) (x : Int32) (y : Int32) (o : Option Nat) (post : Unit → Sg → Prop) (hw : wxH_become post ρ S jT x y o) : MM l yxH_become cxH_become 4 none 0 0 Γ [.ref (θ.2 jT), .int x, .int y, va_rf (Option.map θ.2 o)] (WX Γ θ ρ S Z) (KK (fun _ : Unit => none) (fun S' => WX Γ θ ρ S' Z) post) 0 0 := by
  refine MM_of (by decide) (by cases o <;> exact Nat.le_of_ble_eq_true rfl) ?_
  intro p e s m below meth c X hr hlk hnm hG h ls hl
  have hx := X.1
  have hb := X.2.1
  have hl : lv_has ls 4 [(0, .ref (θ.2 jT)), (1, .int x), (2, .int y), (3, va_rf (Option.map θ.2 o))] := hl
  unfold wxH_become at hw
  refine lv_aload_n hx hb dxH_become_0 rfl (lv_at hl 0 rfl) ?_
  refine lv_iload_n hx hb dxH_become_1 rfl (lv_at hl 1 rfl) ?_
  obtain ⟨o1, hw⟩ := hw
  refine px_xH_7 X hG h o1 dxH_become_2 (fun H locs h => ?_)
  refine lv_aload_n hx hb dxH_become_5 rfl (lv_at hl 0 rfl) ?_
  refine lv_iload_n hx hb dxH_become_6 rfl (lv_at hl 2 rfl) ?_
  refine px_xH_13 X hG h o1 dxH_become_7 (fun H locs h => ?_)
  refine lv_aload_n hx hb dxH_become_10 rfl (lv_at hl 0 rfl) ?_
  refine z_aload_nQ X dxH_become_11 rfl (lv_at hl 3 rfl) ?_
  refine px_xH_16 X hG h o1 (o := o) dxH_become_12 (fun H locs h => ?_)
  refine lv_aload_n hx hb dxH_become_15 rfl (lv_at hl 0 rfl) ?_
  refine lv_iconst (v := 0) hx hb dxH_become_16 (by decide) ?_
  refine px_xH_20 X hG h o1 dxH_become_17 (fun H locs h => ?_)
  exact z_vret X hr hlk h ⟨_, _, rfl, rfl, hw⟩ dxH_become_20
def wxH_origin_c2  (post : Nat → Sg → Prop) (ρ : Rh) (jT : Nat) : Nat → Sg → Nat → Prop
  | 0, _, _ => False
  | d + 1, S, a1 => (a1 < 300) ∧ ((S.2 a1) = none → post a1 S) ∧ (∀ j3 : Nat, (S.2 a1) = some j3 → wxH_origin_c2 post ρ jT d S j3)
set_option maxHeartbeats 4000000 in
set_option maxRecDepth 100000 in
theorem txH_origin_c2 {p : Program} {l : Launch} {e : Env} {s : State} {m : MethodId} {below : List Frame} {meth : Method} {c : Code} (Γ : Gm) (θ : Th) (ρ : Rh) (Z : va_W) (jT : Nat)  (post : Nat → Sg → Prop) (X : CallFix p m c cxH_origin 2 s ([.ref (θ.2 jT)] : List Value).toArray big RxH) (hr : meth.sig.returnType = (some (.object "ThrowScenario$Thrown"))) (hlk : meth.locks = false) (hG : GX Γ s s.heap) :
    ∀ (d : Nat) (S : Sg) (a1 : Nat) (hw : wxH_origin_c2 post ρ jT d S a1) (H : Heap) (locs : List Loc) (h : HS Γ s (WX Γ θ ρ S Z) H locs) (ls : Array Slot) (hl : lv_has ls 2 [(0, .ref (θ.2 jT)), (1, .ref (θ.2 a1))]), W p l e { frames := 0, cells := 0, slots := 0, locals := 0 } s m ([.ref (θ.2 jT)] : List Value).toArray below meth c H locs 0 0 (MQ below (QM Γ (KK (fun r : Nat => some (.ref (θ.2 r))) (fun S' => WX Γ θ ρ S' Z) post)) ([.ref (θ.2 jT)] : List Value).toArray s 0 0 (AA Γ)) (F0 m 2 ls []) := by
  have hx := X.1
  have hb := X.2.1
  intro d
  induction d with
  | zero => intro S a1 hw; exact absurd hw (by simp [wxH_origin_c2])
  | succ d ih =>
    intro S a1 hw H locs h ls hl
    rw [wxH_origin_c2] at hw
    refine lv_aload_n hx hb dxH_origin_2 rfl (lv_at hl 1 rfl) ?_
    obtain ⟨o1, hw⟩ := hw
    refine gx_xH_16 X hG h o1 (x := S.2 a1) rfl dxH_origin_3 ?_
    refine x_ifnull X (tgt := 17) dxH_origin_6 (by decide) (fun e2 => ?_) (fun j3 e2 => ?_)
    · have hw := hw.1 e2
      refine lv_aload_n hx hb dxH_origin_17 rfl (lv_at hl 1 rfl) ?_
      exact z_aret X hr hlk h (Or.inr ⟨_, rfl⟩) ⟨_, _, rfl, rfl, hw⟩ dxH_origin_18
    · have hw := hw.2 j3 e2
      refine lv_aload_n hx hb dxH_origin_9 rfl (lv_at hl 1 rfl) ?_
      refine gx_xH_16 X hG h o1 (x := some j3) e2 dxH_origin_10 ?_
      refine lv_astore_n (lv' := [(1, .ref (θ.2 j3)), (0, .ref (θ.2 jT))]) hx hb dxH_origin_13 rfl hl (by decide) rfl (fun ls hl => ?_)
      refine lv_goto (tgt := 2) hx hb dxH_origin_14 (by decide) ?_
      exact ih S j3 hw _ _ h ls (lv_sub hl [1, 0] rfl)
def wxH_origin  (post : Nat → Sg → Prop) (ρ : Rh) (S : Sg) (jT : Nat) : Prop := ∃ d4 : Nat, wxH_origin_c2 post ρ jT d4 S jT
set_option maxHeartbeats 4000000 in
set_option maxRecDepth 100000 in
theorem mxH_origin (l : Launch) (Γ : Gm) (θ : Th) (ρ : Rh) (S : Sg) (Z : va_W) (jT : Nat) (post : Nat → Sg → Prop) (hw : wxH_origin post ρ S jT) : MM l yxH_origin cxH_origin 2 (some (.object "ThrowScenario$Thrown")) 0 0 Γ [.ref (θ.2 jT)] (WX Γ θ ρ S Z) (KK (fun r : Nat => some (.ref (θ.2 r))) (fun S' => WX Γ θ ρ S' Z) post) 0 0 := by
  refine MM_of (by decide) (Nat.le_of_ble_eq_true rfl) ?_
  intro p e s m below meth c X hr hlk hnm hG h ls hl
  have hx := X.1
  have hb := X.2.1
  have hl : lv_has ls 2 [(0, .ref (θ.2 jT))] := hl
  unfold wxH_origin at hw
  refine lv_aload_n hx hb dxH_origin_0 rfl (lv_at hl 0 rfl) ?_
  refine lv_astore_n (lv' := [(1, .ref (θ.2 jT)), (0, .ref (θ.2 jT))]) hx hb dxH_origin_1 rfl hl (by decide) rfl (fun ls hl => ?_)
  obtain ⟨d4, hw⟩ := hw
  exact txH_origin_c2 Γ θ ρ Z jT post X hr hlk hG d4 S jT hw _ _ h ls (lv_sub hl [1, 0] rfl)
def wxM_prepare  (post : Unit → Sg → Prop) (ρ : Rh) (S : Sg) (x : Int32) (y : Int32) : Prop := (vp_in (0 : Int32) 4) ∧ (vp_in (1 : Int32) 4) ∧ (vp_in (2 : Int32) 4) ∧ (vp_in (3 : Int32) 4) ∧ (vp_in (0 : Int32) 2) ∧ (vp_in (1 : Int32) 2) ∧ post () (sR (sR (sR (sR (sR (sR (sR (sR (sR (sR (sR (sR S 0 0 x) 0 1 y) 0 2 0) 0 3 0) 1 0 0) 1 1 0) 7 0 0) 7 1 0) 7 2 0) 7 3 0) 7 4 0) 7 5 0)
set_option maxHeartbeats 4000000 in
set_option maxRecDepth 100000 in
theorem mxM_prepare (l : Launch) (Γ : Gm) (θ : Th) (ρ : Rh) (S : Sg) (Z : va_W) (x : Int32) (y : Int32) (post : Unit → Sg → Prop) (hw : wxM_prepare post ρ S x y) : MM l yxM_prepare cxM_prepare 3 none 0 0 Γ [.ref (θ.1 6), .int x, .int y] (WX Γ θ ρ S Z) (KK (fun _ : Unit => none) (fun S' => WX Γ θ ρ S' Z) post) 0 0 := by
  refine MM_of (by decide) (Nat.le_of_ble_eq_true rfl) ?_
  intro p e s m below meth c X hr hlk hnm hG h ls hl
  have hx := X.1
  have hb := X.2.1
  have hl : lv_has ls 3 [(0, .ref (θ.1 6)), (1, .int x), (2, .int y)] := hl
  unfold wxM_prepare at hw
  refine lv_aload_n hx hb dxM_prepare_0 rfl (lv_at hl 0 rfl) ?_
  refine gx_xM_11 X hG h dxM_prepare_1 ?_
  refine lv_iconst (v := 0) hx hb dxM_prepare_4 (by decide) ?_
  refine lv_iload_n hx hb dxM_prepare_5 rfl (lv_at hl 1 rfl) ?_
  obtain ⟨o1, hw⟩ := hw
  refine sx_7 X hG h o1 dxM_prepare_6 (fun H locs h => ?_)
  refine lv_aload_n hx hb dxM_prepare_7 rfl (lv_at hl 0 rfl) ?_
  refine gx_xM_11 X hG h dxM_prepare_8 ?_
  refine lv_iconst (v := 1) hx hb dxM_prepare_11 (by decide) ?_
  refine lv_iload_n hx hb dxM_prepare_12 rfl (lv_at hl 2 rfl) ?_
  obtain ⟨o2, hw⟩ := hw
  refine sx_7 X hG h o2 dxM_prepare_13 (fun H locs h => ?_)
  refine lv_aload_n hx hb dxM_prepare_14 rfl (lv_at hl 0 rfl) ?_
  refine gx_xM_11 X hG h dxM_prepare_15 ?_
  refine lv_iconst (v := 2) hx hb dxM_prepare_18 (by decide) ?_
  refine lv_iconst (v := 0) hx hb dxM_prepare_19 (by decide) ?_
  obtain ⟨o3, hw⟩ := hw
  refine sx_7 X hG h o3 dxM_prepare_20 (fun H locs h => ?_)
  refine lv_aload_n hx hb dxM_prepare_21 rfl (lv_at hl 0 rfl) ?_
  refine gx_xM_11 X hG h dxM_prepare_22 ?_
  refine lv_iconst (v := 3) hx hb dxM_prepare_25 (by decide) ?_
  refine lv_iconst (v := 0) hx hb dxM_prepare_26 (by decide) ?_
  obtain ⟨o4, hw⟩ := hw
  refine sx_7 X hG h o4 dxM_prepare_27 (fun H locs h => ?_)
  refine lv_aload_n hx hb dxM_prepare_28 rfl (lv_at hl 0 rfl) ?_
  refine gx_xM_17 X hG h dxM_prepare_29 ?_
  refine lv_iconst (v := 0) hx hb dxM_prepare_32 (by decide) ?_
  refine lv_iconst (v := 0) hx hb dxM_prepare_33 (by decide) ?_
  obtain ⟨o5, hw⟩ := hw
  refine sx_8 X hG h o5 dxM_prepare_34 (fun H locs h => ?_)
  refine lv_aload_n hx hb dxM_prepare_35 rfl (lv_at hl 0 rfl) ?_
  refine gx_xM_17 X hG h dxM_prepare_36 ?_
  refine lv_iconst (v := 1) hx hb dxM_prepare_39 (by decide) ?_
  refine lv_iconst (v := 0) hx hb dxM_prepare_40 (by decide) ?_
  obtain ⟨o6, hw⟩ := hw
  refine sx_8 X hG h o6 dxM_prepare_41 (fun H locs h => ?_)
  refine lv_aload_n hx hb dxM_prepare_42 rfl (lv_at hl 0 rfl) ?_
  refine lv_iconst (v := 0) hx hb dxM_prepare_43 (by decide) ?_
  refine px_xM_29 X hG h dxM_prepare_44 (fun H locs h => ?_)
  refine lv_aload_n hx hb dxM_prepare_47 rfl (lv_at hl 0 rfl) ?_
  refine lv_iconst (v := 0) hx hb dxM_prepare_48 (by decide) ?_
  refine px_xM_33 X hG h dxM_prepare_49 (fun H locs h => ?_)
  refine lv_aload_n hx hb dxM_prepare_52 rfl (lv_at hl 0 rfl) ?_
  refine lv_iconst (v := 0) hx hb dxM_prepare_53 (by decide) ?_
  refine px_xM_36 X hG h dxM_prepare_54 (fun H locs h => ?_)
  refine lv_aload_n hx hb dxM_prepare_57 rfl (lv_at hl 0 rfl) ?_
  refine lv_iconst (v := 0) hx hb dxM_prepare_58 (by decide) ?_
  refine px_xM_39 X hG h dxM_prepare_59 (fun H locs h => ?_)
  refine lv_aload_n hx hb dxM_prepare_62 rfl (lv_at hl 0 rfl) ?_
  refine lv_iconst (v := 0) hx hb dxM_prepare_63 (by decide) ?_
  refine px_xM_42 X hG h dxM_prepare_64 (fun H locs h => ?_)
  refine lv_aload_n hx hb dxM_prepare_67 rfl (lv_at hl 0 rfl) ?_
  refine lv_iconst (v := 0) hx hb dxM_prepare_68 (by decide) ?_
  refine px_xM_45 X hG h dxM_prepare_69 (fun H locs h => ?_)
  exact z_vret X hr hlk h ⟨_, _, rfl, rfl, hw⟩ dxM_prepare_72
def wxM_variableAt  (post : Int32 → Sg → Prop) (ρ : Rh) (S : Sg) (x : Int32) : Prop := (vp_in x 4) ∧ post (S.1 0 x.toNatClampNeg) S
set_option maxHeartbeats 4000000 in
set_option maxRecDepth 100000 in
theorem mxM_variableAt (l : Launch) (Γ : Gm) (θ : Th) (ρ : Rh) (S : Sg) (Z : va_W) (x : Int32) (post : Int32 → Sg → Prop) (hw : wxM_variableAt post ρ S x) : MM l yxM_variableAt cxM_variableAt 2 (some .int) 0 0 Γ [.ref (θ.1 6), .int x] (WX Γ θ ρ S Z) (KK (fun r : Int32 => some (.int r)) (fun S' => WX Γ θ ρ S' Z) post) 0 0 := by
  refine MM_of (by decide) (Nat.le_of_ble_eq_true rfl) ?_
  intro p e s m below meth c X hr hlk hnm hG h ls hl
  have hx := X.1
  have hb := X.2.1
  have hl : lv_has ls 2 [(0, .ref (θ.1 6)), (1, .int x)] := hl
  unfold wxM_variableAt at hw
  refine lv_aload_n hx hb dxM_variableAt_0 rfl (lv_at hl 0 rfl) ?_
  refine gx_xM_11 X hG h dxM_variableAt_1 ?_
  refine lv_iload_n hx hb dxM_variableAt_4 rfl (lv_at hl 1 rfl) ?_
  obtain ⟨o1, hw⟩ := hw
  refine lx_7 X hG h o1 (x := S.1 0 x.toNatClampNeg) rfl dxM_variableAt_5 ?_
  exact z_iret X hr hlk h ⟨_, _, rfl, rfl, hw⟩ dxM_variableAt_6
def wxM_tally  (post : Int32 → Sg → Prop) (ρ : Rh) (S : Sg) (x : Int32) : Prop := ((x.toInt < 2 ∨ 9 < x.toInt) → post (-1 : Int32) S) ∧ (x = 2 → post (S.1 7 2) S) ∧ (x = 3 → post (S.1 7 1) S) ∧ (x = 4 → post (S.1 7 3) S) ∧ (x = 5 → post (S.1 7 4) S) ∧ (x = 6 → post (S.1 7 5) S) ∧ (x = 7 → post (S.1 7 0) S) ∧ (x = 8 → (vp_in (0 : Int32) 2) ∧ post (S.1 1 0) S) ∧ (x = 9 → (vp_in (1 : Int32) 2) ∧ post (S.1 1 1) S)
set_option maxHeartbeats 4000000 in
set_option maxRecDepth 100000 in
theorem mxM_tally (l : Launch) (Γ : Gm) (θ : Th) (ρ : Rh) (S : Sg) (Z : va_W) (x : Int32) (post : Int32 → Sg → Prop) (hw : wxM_tally post ρ S x) : MM l yxM_tally cxM_tally 2 (some .int) 0 0 Γ [.ref (θ.1 6), .int x] (WX Γ θ ρ S Z) (KK (fun r : Int32 => some (.int r)) (fun S' => WX Γ θ ρ S' Z) post) 0 0 := by
  refine MM_of (by decide) (Nat.le_of_ble_eq_true rfl) ?_
  intro p e s m below meth c X hr hlk hnm hG h ls hl
  have hx := X.1
  have hb := X.2.1
  have hl : lv_has ls 2 [(0, .ref (θ.1 6)), (1, .int x)] := hl
  unfold wxM_tally at hw
  refine lv_iload_n hx hb dxM_tally_0 rfl (lv_at hl 1 rfl) ?_
  by_cases c1 : x.toInt < 2 ∨ 9 < x.toInt
  · have hw := hw.1 c1
    refine lv_tableOut (tgt := 92) hx hb dxM_tally_1 c1 (by decide) ?_
    refine lv_iconst (v := -1) hx hb dxM_tally_92 (by decide) ?_
    exact z_iret X hr hlk h ⟨_, _, rfl, rfl, hw⟩ dxM_tally_93
  · have hw := hw.2
    obtain ⟨j3, j_h, e2⟩ := sw_in (lo := 2) (n := 7) c1
    match j3, j_h, e2 with
    | 0, _, e2 =>
      have e2 : x = 2 := e2
      have hw := hw.1 e2
      refine lv_tableIn (off := 47) (tgt := 48) hx hb dxM_tally_1 (by rw [e2]; decide) (by rw [e2]; decide) (by rw [e2]; rfl) (by decide) ?_
      refine lv_aload_n hx hb dxM_tally_48 rfl (lv_at hl 0 rfl) ?_
      refine gx_xM_36 X hG h (x := S.1 7 2) rfl dxM_tally_49 ?_
      exact z_iret X hr hlk h ⟨_, _, rfl, rfl, hw⟩ dxM_tally_52
    | 1, _, e2 =>
      have e2 : x = 3 := e2
      have hw := hw.2.1 e2
      refine lv_tableIn (off := 52) (tgt := 53) hx hb dxM_tally_1 (by rw [e2]; decide) (by rw [e2]; decide) (by rw [e2]; rfl) (by decide) ?_
      refine lv_aload_n hx hb dxM_tally_53 rfl (lv_at hl 0 rfl) ?_
      refine gx_xM_33 X hG h (x := S.1 7 1) rfl dxM_tally_54 ?_
      exact z_iret X hr hlk h ⟨_, _, rfl, rfl, hw⟩ dxM_tally_57
    | 2, _, e2 =>
      have e2 : x = 4 := e2
      have hw := hw.2.2.1 e2
      refine lv_tableIn (off := 57) (tgt := 58) hx hb dxM_tally_1 (by rw [e2]; decide) (by rw [e2]; decide) (by rw [e2]; rfl) (by decide) ?_
      refine lv_aload_n hx hb dxM_tally_58 rfl (lv_at hl 0 rfl) ?_
      refine gx_xM_39 X hG h (x := S.1 7 3) rfl dxM_tally_59 ?_
      exact z_iret X hr hlk h ⟨_, _, rfl, rfl, hw⟩ dxM_tally_62
    | 3, _, e2 =>
      have e2 : x = 5 := e2
      have hw := hw.2.2.2.1 e2
      refine lv_tableIn (off := 62) (tgt := 63) hx hb dxM_tally_1 (by rw [e2]; decide) (by rw [e2]; decide) (by rw [e2]; rfl) (by decide) ?_
      refine lv_aload_n hx hb dxM_tally_63 rfl (lv_at hl 0 rfl) ?_
      refine gx_xM_42 X hG h (x := S.1 7 4) rfl dxM_tally_64 ?_
      exact z_iret X hr hlk h ⟨_, _, rfl, rfl, hw⟩ dxM_tally_67
    | 4, _, e2 =>
      have e2 : x = 6 := e2
      have hw := hw.2.2.2.2.1 e2
      refine lv_tableIn (off := 67) (tgt := 68) hx hb dxM_tally_1 (by rw [e2]; decide) (by rw [e2]; decide) (by rw [e2]; rfl) (by decide) ?_
      refine lv_aload_n hx hb dxM_tally_68 rfl (lv_at hl 0 rfl) ?_
      refine gx_xM_45 X hG h (x := S.1 7 5) rfl dxM_tally_69 ?_
      exact z_iret X hr hlk h ⟨_, _, rfl, rfl, hw⟩ dxM_tally_72
    | 5, _, e2 =>
      have e2 : x = 7 := e2
      have hw := hw.2.2.2.2.2.1 e2
      refine lv_tableIn (off := 72) (tgt := 73) hx hb dxM_tally_1 (by rw [e2]; decide) (by rw [e2]; decide) (by rw [e2]; rfl) (by decide) ?_
      refine lv_aload_n hx hb dxM_tally_73 rfl (lv_at hl 0 rfl) ?_
      refine gx_xM_29 X hG h (x := S.1 7 0) rfl dxM_tally_74 ?_
      exact z_iret X hr hlk h ⟨_, _, rfl, rfl, hw⟩ dxM_tally_77
    | 6, _, e2 =>
      have e2 : x = 8 := e2
      have hw := hw.2.2.2.2.2.2.1 e2
      refine lv_tableIn (off := 77) (tgt := 78) hx hb dxM_tally_1 (by rw [e2]; decide) (by rw [e2]; decide) (by rw [e2]; rfl) (by decide) ?_
      refine lv_aload_n hx hb dxM_tally_78 rfl (lv_at hl 0 rfl) ?_
      refine gx_xM_17 X hG h dxM_tally_79 ?_
      refine lv_iconst (v := 0) hx hb dxM_tally_82 (by decide) ?_
      obtain ⟨o4, hw⟩ := hw
      refine lx_8 X hG h o4 (x := S.1 1 0) rfl dxM_tally_83 ?_
      exact z_iret X hr hlk h ⟨_, _, rfl, rfl, hw⟩ dxM_tally_84
    | 7, _, e2 =>
      have e2 : x = 9 := e2
      have hw := hw.2.2.2.2.2.2.2 e2
      refine lv_tableIn (off := 84) (tgt := 85) hx hb dxM_tally_1 (by rw [e2]; decide) (by rw [e2]; decide) (by rw [e2]; rfl) (by decide) ?_
      refine lv_aload_n hx hb dxM_tally_85 rfl (lv_at hl 0 rfl) ?_
      refine gx_xM_17 X hG h dxM_tally_86 ?_
      refine lv_iconst (v := 1) hx hb dxM_tally_89 (by decide) ?_
      obtain ⟨o5, hw⟩ := hw
      refine lx_8 X hG h o5 (x := S.1 1 1) rfl dxM_tally_90 ?_
      exact z_iret X hr hlk h ⟨_, _, rfl, rfl, hw⟩ dxM_tally_91
    | k + 8, j_h, _ => exact absurd j_h (by omega)
def wxM_logSize  (post : Int32 → Sg → Prop) (ρ : Rh) (S : Sg)  : Prop := post (S.1 7 0) S
set_option maxHeartbeats 4000000 in
set_option maxRecDepth 100000 in
theorem mxM_logSize (l : Launch) (Γ : Gm) (θ : Th) (ρ : Rh) (S : Sg) (Z : va_W)  (post : Int32 → Sg → Prop) (hw : wxM_logSize post ρ S ) : MM l yxM_logSize cxM_logSize 1 (some .int) 0 0 Γ [.ref (θ.1 6)] (WX Γ θ ρ S Z) (KK (fun r : Int32 => some (.int r)) (fun S' => WX Γ θ ρ S' Z) post) 0 0 := by
  refine MM_of (by decide) (Nat.le_of_ble_eq_true rfl) ?_
  intro p e s m below meth c X hr hlk hnm hG h ls hl
  have hx := X.1
  have hb := X.2.1
  have hl : lv_has ls 1 [(0, .ref (θ.1 6))] := hl
  unfold wxM_logSize at hw
  refine lv_aload_n hx hb dxM_logSize_0 rfl (lv_at hl 0 rfl) ?_
  refine gx_xM_29 X hG h (x := S.1 7 0) rfl dxM_logSize_1 ?_
  exact z_iret X hr hlk h ⟨_, _, rfl, rfl, hw⟩ dxM_logSize_4
def wxM_logAt  (post : Int32 → Sg → Prop) (ρ : Rh) (S : Sg) (x : Int32) : Prop := (vp_in x 300) ∧ post (S.1 2 x.toNatClampNeg) S
set_option maxHeartbeats 4000000 in
set_option maxRecDepth 100000 in
theorem mxM_logAt (l : Launch) (Γ : Gm) (θ : Th) (ρ : Rh) (S : Sg) (Z : va_W) (x : Int32) (post : Int32 → Sg → Prop) (hw : wxM_logAt post ρ S x) : MM l yxM_logAt cxM_logAt 2 (some .int) 0 0 Γ [.ref (θ.1 6), .int x] (WX Γ θ ρ S Z) (KK (fun r : Int32 => some (.int r)) (fun S' => WX Γ θ ρ S' Z) post) 0 0 := by
  refine MM_of (by decide) (Nat.le_of_ble_eq_true rfl) ?_
  intro p e s m below meth c X hr hlk hnm hG h ls hl
  have hx := X.1
  have hb := X.2.1
  have hl : lv_has ls 2 [(0, .ref (θ.1 6)), (1, .int x)] := hl
  unfold wxM_logAt at hw
  refine lv_aload_n hx hb dxM_logAt_0 rfl (lv_at hl 0 rfl) ?_
  refine gx_xM_20 X hG h dxM_logAt_1 ?_
  refine lv_iload_n hx hb dxM_logAt_4 rfl (lv_at hl 1 rfl) ?_
  obtain ⟨o1, hw⟩ := hw
  refine lx_9 X hG h o1 (x := S.1 2 x.toNatClampNeg) rfl dxM_logAt_5 ?_
  exact z_iret X hr hlk h ⟨_, _, rfl, rfl, hw⟩ dxM_logAt_6
def wxM_carried  (post : Int32 → Sg → Prop) (ρ : Rh) (S : Sg)  : Prop := post (S.1 7 6) S
set_option maxHeartbeats 4000000 in
set_option maxRecDepth 100000 in
theorem mxM_carried (l : Launch) (Γ : Gm) (θ : Th) (ρ : Rh) (S : Sg) (Z : va_W)  (post : Int32 → Sg → Prop) (hw : wxM_carried post ρ S ) : MM l yxM_carried cxM_carried 1 (some .int) 0 0 Γ [.ref (θ.1 6)] (WX Γ θ ρ S Z) (KK (fun r : Int32 => some (.int r)) (fun S' => WX Γ θ ρ S' Z) post) 0 0 := by
  refine MM_of (by decide) (Nat.le_of_ble_eq_true rfl) ?_
  intro p e s m below meth c X hr hlk hnm hG h ls hl
  have hx := X.1
  have hb := X.2.1
  have hl : lv_has ls 1 [(0, .ref (θ.1 6))] := hl
  unfold wxM_carried at hw
  refine lv_aload_n hx hb dxM_carried_0 rfl (lv_at hl 0 rfl) ?_
  refine gx_xM_48 X hG h (x := S.1 7 6) rfl dxM_carried_1 ?_
  exact z_iret X hr hlk h ⟨_, _, rfl, rfl, hw⟩ dxM_carried_4
def wxM_thrown  (post : Option Nat → Sg → Prop) (ρ : Rh) (S : Sg)  : Prop := post (S.2 300) S
set_option maxHeartbeats 4000000 in
set_option maxRecDepth 100000 in
theorem mxM_thrown (l : Launch) (Γ : Gm) (θ : Th) (ρ : Rh) (S : Sg) (Z : va_W)  (post : Option Nat → Sg → Prop) (hw : wxM_thrown post ρ S ) : MM l yxM_thrown cxM_thrown 1 (some (.object "ThrowScenario$Thrown")) 0 0 Γ [.ref (θ.1 6)] (WX Γ θ ρ S Z) (KK (fun r : Option Nat => some (va_rf (Option.map θ.2 r))) (fun S' => WX Γ θ ρ S' Z) post) 0 0 := by
  refine MM_of (by decide) (Nat.le_of_ble_eq_true rfl) ?_
  intro p e s m below meth c X hr hlk hnm hG h ls hl
  have hx := X.1
  have hb := X.2.1
  have hl : lv_has ls 1 [(0, .ref (θ.1 6))] := hl
  unfold wxM_thrown at hw
  refine lv_aload_n hx hb dxM_thrown_0 rfl (lv_at hl 0 rfl) ?_
  refine gx_xM_63 X hG h (x := S.2 300) rfl dxM_thrown_1 ?_
  exact z_aret X hr hlk h (va_rf_or _) ⟨_, _, rfl, rfl, hw⟩ dxM_thrown_4
def wxM_mayBegin  (post : Int32 → Sg → Prop) (ρ : Rh) (S : Sg)  : Prop := (((300 : Int32) ≤ (S.1 7 2)) → post (0 : Int32) S) ∧ ((¬ ((300 : Int32) ≤ (S.1 7 2))) → post (1 : Int32) S)
set_option maxHeartbeats 4000000 in
set_option maxRecDepth 100000 in
theorem mxM_mayBegin (l : Launch) (Γ : Gm) (θ : Th) (ρ : Rh) (S : Sg) (Z : va_W)  (post : Int32 → Sg → Prop) (hw : wxM_mayBegin post ρ S ) : MM l yxM_mayBegin cxM_mayBegin 1 (some .boolean) 0 0 Γ [.ref (θ.1 6)] (WX Γ θ ρ S Z) (KK (fun r : Int32 => some (.int r)) (fun S' => WX Γ θ ρ S' Z) post) 0 0 := by
  refine MM_of (by decide) (Nat.le_of_ble_eq_true rfl) ?_
  intro p e s m below meth c X hr hlk hnm hG h ls hl
  have hx := X.1
  have hb := X.2.1
  have hl : lv_has ls 1 [(0, .ref (θ.1 6))] := hl
  unfold wxM_mayBegin at hw
  refine lv_aload_n hx hb dxM_mayBegin_0 rfl (lv_at hl 0 rfl) ?_
  refine gx_xM_36 X hG h (x := S.1 7 2) rfl dxM_mayBegin_1 ?_
  refine lv_sipush (v := 300) hx hb dxM_mayBegin_4 (by decide) ?_
  refine lv_icmp_ge (tgt := 14) hx hb dxM_mayBegin_7 (by decide) (fun c1 => ?_) (fun c1 => ?_)
  · have hw := hw.1 c1
    refine lv_iconst (v := 0) hx hb dxM_mayBegin_14 (by decide) ?_
    exact z_zret X hr hlk h rfl ⟨_, _, rfl, rfl, hw⟩ dxM_mayBegin_15
  · have hw := hw.2 c1
    refine lv_iconst (v := 1) hx hb dxM_mayBegin_10 (by decide) ?_
    refine lv_goto (tgt := 15) hx hb dxM_mayBegin_11 (by decide) ?_
    exact z_zret X hr hlk h rfl ⟨_, _, rfl, rfl, hw⟩ dxM_mayBegin_15
def wxM_carry  (post : Nat → Sg → Prop) (ρ : Rh) (S : Sg) (x : Int32) (w : Nat) : Prop := post w (sR S 7 6 x)
set_option maxHeartbeats 4000000 in
set_option maxRecDepth 100000 in
theorem mxM_carry (l : Launch) (Γ : Gm) (θ : Th) (ρ : Rh) (S : Sg) (Z : va_W) (x : Int32) (w : Nat) (post : Nat → Sg → Prop) (hw : wxM_carry post ρ S x w) : MM l yxM_carry cxM_carry 3 (some (.object "ThrowScenario$Way")) 0 0 Γ [.ref (θ.1 6), .int x, .ref (Γ.2.2.2.1 w)] (WX Γ θ ρ S Z) (KK (fun r : Nat => some (.ref (Γ.2.2.2.1 r))) (fun S' => WX Γ θ ρ S' Z) post) 0 0 := by
  refine MM_of (by decide) (Nat.le_of_ble_eq_true rfl) ?_
  intro p e s m below meth c X hr hlk hnm hG h ls hl
  have hx := X.1
  have hb := X.2.1
  have hl : lv_has ls 3 [(0, .ref (θ.1 6)), (1, .int x), (2, .ref (Γ.2.2.2.1 w))] := hl
  unfold wxM_carry at hw
  refine lv_aload_n hx hb dxM_carry_0 rfl (lv_at hl 0 rfl) ?_
  refine lv_iload_n hx hb dxM_carry_1 rfl (lv_at hl 1 rfl) ?_
  refine px_xM_48 X hG h dxM_carry_2 (fun H locs h => ?_)
  refine lv_aload_n hx hb dxM_carry_5 rfl (lv_at hl 2 rfl) ?_
  exact z_aret X hr hlk h (Or.inr ⟨_, rfl⟩) ⟨_, _, rfl, rfl, hw⟩ dxM_carry_6
def wxM_addToLog  (post : Unit → Sg → Prop) (ρ : Rh) (S : Sg) (x : Int32) : Prop := (vp_in (S.1 7 0) 300) ∧ post () (sR (sR S 2 ((S.1 7 0).toNatClampNeg) x) 7 0 ((S.1 7 0) + 1))
set_option maxHeartbeats 4000000 in
set_option maxRecDepth 100000 in
theorem mxM_addToLog (l : Launch) (Γ : Gm) (θ : Th) (ρ : Rh) (S : Sg) (Z : va_W) (x : Int32) (post : Unit → Sg → Prop) (hw : wxM_addToLog post ρ S x) : MM l yxM_addToLog cxM_addToLog 2 none 0 0 Γ [.ref (θ.1 6), .int x] (WX Γ θ ρ S Z) (KK (fun _ : Unit => none) (fun S' => WX Γ θ ρ S' Z) post) 0 0 := by
  refine MM_of (by decide) (Nat.le_of_ble_eq_true rfl) ?_
  intro p e s m below meth c X hr hlk hnm hG h ls hl
  have hx := X.1
  have hb := X.2.1
  have hl : lv_has ls 2 [(0, .ref (θ.1 6)), (1, .int x)] := hl
  unfold wxM_addToLog at hw
  refine lv_aload_n hx hb dxM_addToLog_0 rfl (lv_at hl 0 rfl) ?_
  refine gx_xM_20 X hG h dxM_addToLog_1 ?_
  refine lv_aload_n hx hb dxM_addToLog_4 rfl (lv_at hl 0 rfl) ?_
  refine gx_xM_29 X hG h (x := S.1 7 0) rfl dxM_addToLog_5 ?_
  refine lv_iload_n hx hb dxM_addToLog_8 rfl (lv_at hl 1 rfl) ?_
  obtain ⟨o1, hw⟩ := hw
  refine sx_9 X hG h o1 dxM_addToLog_9 (fun H locs h => ?_)
  refine lv_aload_n hx hb dxM_addToLog_10 rfl (lv_at hl 0 rfl) ?_
  refine lv_dup hx hb dxM_addToLog_11 rfl ?_
  refine gx_xM_29 X hG h (x := S.1 7 0) rfl dxM_addToLog_12 ?_
  refine lv_iconst (v := 1) hx hb dxM_addToLog_15 (by decide) ?_
  refine lv_iadd hx hb dxM_addToLog_16 ?_
  refine px_xM_29 X hG h dxM_addToLog_17 (fun H locs h => ?_)
  exact z_vret X hr hlk h ⟨_, _, rfl, rfl, hw⟩ dxM_addToLog_20
def wxM_raise  (post : Nat → Sg → Prop) (ρ : Rh) (S : Sg) (x : Int32) (y : Int32) (o : Option Nat) : Prop := (vp_in (S.1 7 1) 300) ∧ (((S.1 7 1).toNatClampNeg) < 300) ∧ wxH_become (fun (_ : Unit) S4 => post 3 (sR S4 7 1 ((S4.1 7 1) + 1))) ρ (sC S 300 (some ((S.1 7 1).toNatClampNeg))) ((S.1 7 1).toNatClampNeg) x y o
set_option maxHeartbeats 4000000 in
set_option maxRecDepth 100000 in
theorem mxM_raise (l : Launch) (Γ : Gm) (θ : Th) (ρ : Rh) (S : Sg) (Z : va_W) (x : Int32) (y : Int32) (o : Option Nat) (post : Nat → Sg → Prop) (hw : wxM_raise post ρ S x y o) : MM l yxM_raise cxM_raise 4 (some (.object "ThrowScenario$Way")) 1 23 Γ [.ref (θ.1 6), .int x, .int y, va_rf (Option.map θ.2 o)] (WX Γ θ ρ S Z) (KK (fun r : Nat => some (.ref (Γ.2.2.2.1 r))) (fun S' => WX Γ θ ρ S' Z) post) 0 0 := by
  refine MM_of (by decide) (by cases o <;> exact Nat.le_of_ble_eq_true rfl) ?_
  intro p e s m below meth c X hr hlk hnm hG h ls hl
  have hx := X.1
  have hb := X.2.1
  have hl : lv_has ls 4 [(0, .ref (θ.1 6)), (1, .int x), (2, .int y), (3, va_rf (Option.map θ.2 o))] := hl
  unfold wxM_raise at hw
  refine lv_aload_n hx hb dxM_raise_0 rfl (lv_at hl 0 rfl) ?_
  refine lv_aload_n hx hb dxM_raise_1 rfl (lv_at hl 0 rfl) ?_
  refine gx_xM_25 X hG h dxM_raise_2 ?_
  refine lv_aload_n hx hb dxM_raise_5 rfl (lv_at hl 0 rfl) ?_
  refine gx_xM_33 X hG h (x := S.1 7 1) rfl dxM_raise_6 ?_
  obtain ⟨o1, hw⟩ := hw
  refine lx_10 X hG h o1 dxM_raise_9 ?_
  refine px_xM_63 X hG h (o := (some ((S.1 7 1).toNatClampNeg))) dxM_raise_10 (fun H locs h => ?_)
  refine lv_aload_n hx hb dxM_raise_13 rfl (lv_at hl 0 rfl) ?_
  refine gx_xM_63 X hG h (x := (some ((S.1 7 1).toNatClampNeg))) rfl dxM_raise_14 ?_
  refine lv_iload_n hx hb dxM_raise_17 rfl (lv_at hl 1 rfl) ?_
  refine lv_iload_n hx hb dxM_raise_18 rfl (lv_at hl 2 rfl) ?_
  refine z_aload_nQ X dxM_raise_19 rfl (lv_at hl 3 rfl) ?_
  obtain ⟨o2, hw⟩ := hw
  refine cx_xM_197 (As := [.int x, .int y, va_rf (Option.map θ.2 o)]) (rest := []) X hG h hl.1 (mxH_become l Γ θ ρ (sC S 300 (some ((S.1 7 1).toNatClampNeg))) Z ((S.1 7 1).toNatClampNeg) x y o _ hw) ⟨show 0 + 1 ≤ 1 from by omega, show 8 + (4 + 11) + 0 ≤ 23 from by omega⟩ (WX_thr o2) rfl (Nat.le_of_ble_eq_true rfl) dxM_raise_20 ⟨Nat.le_of_ble_eq_true rfl, Nat.le_of_ble_eq_true rfl⟩ (fun v W1 hK H locs h => ?_)
  obtain ⟨r3, S4, rfl, rfl, hw⟩ := hK
  refine W.eq (g2 := F0 m 23 ls []) rfl ?_
  refine lv_aload_n hx hb dxM_raise_23 rfl (lv_at hl 0 rfl) ?_
  refine lv_dup hx hb dxM_raise_24 rfl ?_
  refine gx_xM_33 X hG h (x := S4.1 7 1) rfl dxM_raise_25 ?_
  refine lv_iconst (v := 1) hx hb dxM_raise_28 (by decide) ?_
  refine lv_iadd hx hb dxM_raise_29 ?_
  refine px_xM_33 X hG h dxM_raise_30 (fun H locs h => ?_)
  refine gx_xM_178 X hG h dxM_raise_33 ?_
  exact z_aret X hr hlk h (Or.inr ⟨_, rfl⟩) ⟨_, _, rfl, rfl, hw⟩ dxM_raise_36
def wxM_rethrow  (post : Nat → Sg → Prop) (ρ : Rh) (S : Sg) (o : Option Nat) : Prop := (o = none → wxM_raise (fun r3 S4 => post r3 S4) ρ S (1) (0) none) ∧ (∀ j2 : Nat, o = some j2 → post 3 (sC S 300 (some j2)))
set_option maxHeartbeats 4000000 in
set_option maxRecDepth 100000 in
theorem mxM_rethrow (l : Launch) (Γ : Gm) (θ : Th) (ρ : Rh) (S : Sg) (Z : va_W) (o : Option Nat) (post : Nat → Sg → Prop) (hw : wxM_rethrow post ρ S o) : MM l yxM_rethrow cxM_rethrow 2 (some (.object "ThrowScenario$Way")) 2 46 Γ [.ref (θ.1 6), va_rf (Option.map θ.2 o)] (WX Γ θ ρ S Z) (KK (fun r : Nat => some (.ref (Γ.2.2.2.1 r))) (fun S' => WX Γ θ ρ S' Z) post) 0 0 := by
  refine MM_of (by decide) (by cases o <;> exact Nat.le_of_ble_eq_true rfl) ?_
  intro p e s m below meth c X hr hlk hnm hG h ls hl
  have hx := X.1
  have hb := X.2.1
  have hl : lv_has ls 2 [(0, .ref (θ.1 6)), (1, va_rf (Option.map θ.2 o))] := hl
  unfold wxM_rethrow at hw
  refine z_aload_nQ X dxM_rethrow_0 rfl (lv_at hl 1 rfl) ?_
  refine x_ifnonnull X (tgt := 12) dxM_rethrow_1 (by decide) (fun j2 e1 => ?_) (fun e1 => ?_)
  · have hw := hw.2 j2 e1
    have hl : lv_has ls 2 [(0, .ref (θ.1 6)), (1, .ref (θ.2 j2))] := by rw [e1] at hl; exact hl
    refine lv_aload_n hx hb dxM_rethrow_12 rfl (lv_at hl 0 rfl) ?_
    refine lv_aload_n hx hb dxM_rethrow_13 rfl (lv_at hl 1 rfl) ?_
    refine px_xM_63 X hG h (o := (some j2)) dxM_rethrow_14 (fun H locs h => ?_)
    refine gx_xM_178 X hG h dxM_rethrow_17 ?_
    exact z_aret X hr hlk h (Or.inr ⟨_, rfl⟩) ⟨_, _, rfl, rfl, hw⟩ dxM_rethrow_20
  · have hw := hw.1 e1
    have hl : lv_has ls 2 [(0, .ref (θ.1 6)), (1, .null)] := by rw [e1] at hl; exact hl
    refine lv_aload_n hx hb dxM_rethrow_4 rfl (lv_at hl 0 rfl) ?_
    refine lv_iconst (v := 1) hx hb dxM_rethrow_5 (by decide) ?_
    refine lv_iconst (v := 0) hx hb dxM_rethrow_6 (by decide) ?_
    refine lv_null hx hb dxM_rethrow_7 ?_
    refine cx_xM_142 (As := [.int 1, .int 0, .null]) (rest := []) X hG h hl.1 (mxM_raise l Γ θ ρ S Z (1) (0) none _ hw) ⟨show 1 + 1 ≤ 2 from by omega, show 8 + (4 + 11) + 23 ≤ 46 from by omega⟩ (q0 := 6) rfl rfl (Nat.le_of_ble_eq_true rfl) dxM_rethrow_8 ⟨Nat.le_of_ble_eq_true rfl, Nat.le_of_ble_eq_true rfl⟩ (fun v W1 hK H locs h => ?_)
    obtain ⟨r3, S4, rfl, rfl, hw⟩ := hK
    refine W.eq (g2 := F0 m 11 ls [.ref (Γ.2.2.2.1 r3)]) rfl ?_
    exact z_aret X hr hlk h (Or.inr ⟨_, rfl⟩) ⟨_, _, rfl, rfl, hw⟩ dxM_rethrow_11
def wxM_divide  (post : Nat → Sg → Prop) (ρ : Rh) (S : Sg) (k : Nat) : Prop := (k < ρ.2.1) ∧ (vp_in (ρ.2.2.1 2 k) 4) ∧ ((¬ ((S.1 0 ((ρ.2.2.1 2 k).toNatClampNeg)) = (0 : Int32))) → (vp_in (ρ.2.2.1 1 k) 4) ∧ (¬ (S.1 0 ((ρ.2.2.1 2 k).toNatClampNeg)) = 0) ∧ post 0 (sR S 0 ((ρ.2.2.1 1 k).toNatClampNeg) ((S.1 0 ((ρ.2.2.1 1 k).toNatClampNeg)) / (S.1 0 ((ρ.2.2.1 2 k).toNatClampNeg))))) ∧ (((S.1 0 ((ρ.2.2.1 2 k).toNatClampNeg)) = (0 : Int32)) → wxM_raise (fun r6 S7 => post r6 S7) ρ S (2) (0) none)
set_option maxHeartbeats 4000000 in
set_option maxRecDepth 100000 in
theorem mxM_divide (l : Launch) (Γ : Gm) (θ : Th) (ρ : Rh) (S : Sg) (Z : va_W) (k : Nat) (post : Nat → Sg → Prop) (hw : wxM_divide post ρ S k) : MM l yxM_divide cxM_divide 3 (some (.object "ThrowScenario$Way")) 2 46 Γ [.ref (θ.1 6), .ref (ρ.1 k)] (WX Γ θ ρ S Z) (KK (fun r : Nat => some (.ref (Γ.2.2.2.1 r))) (fun S' => WX Γ θ ρ S' Z) post) 0 0 := by
  refine MM_of (by decide) (Nat.le_of_ble_eq_true rfl) ?_
  intro p e s m below meth c X hr hlk hnm hG h ls hl
  have hx := X.1
  have hb := X.2.1
  have hl : lv_has ls 3 [(0, .ref (θ.1 6)), (1, .ref (ρ.1 k))] := hl
  unfold wxM_divide at hw
  refine lv_aload_n hx hb dxM_divide_0 rfl (lv_at hl 0 rfl) ?_
  refine gx_xM_11 X hG h dxM_divide_1 ?_
  refine lv_aload_n hx hb dxM_divide_4 rfl (lv_at hl 1 rfl) ?_
  obtain ⟨o1, hw⟩ := hw
  refine gx_xM_139 X hG h o1 (x := ρ.2.2.1 2 k) rfl dxM_divide_5 ?_
  obtain ⟨o2, hw⟩ := hw
  refine lx_7 X hG h o2 (x := S.1 0 ((ρ.2.2.1 2 k).toNatClampNeg)) rfl dxM_divide_8 ?_
  refine lv_istore_n (lv' := [(2, .int (S.1 0 ((ρ.2.2.1 2 k).toNatClampNeg))), (0, .ref (θ.1 6)), (1, .ref (ρ.1 k))]) hx hb dxM_divide_9 rfl hl (by decide) rfl (fun ls hl => ?_)
  refine lv_iload_n hx hb dxM_divide_10 rfl (lv_at hl 0 rfl) ?_
  refine lv_if_ne (tgt := 22) hx hb dxM_divide_11 (by decide) (fun c3 => ?_) (fun c3 => ?_)
  · have hw := hw.1 c3
    refine lv_aload_n hx hb dxM_divide_22 rfl (lv_at hl 1 rfl) ?_
    refine gx_xM_11 X hG h dxM_divide_23 ?_
    refine lv_aload_n hx hb dxM_divide_26 rfl (lv_at hl 2 rfl) ?_
    refine gx_xM_126 X hG h o1 (x := ρ.2.2.1 1 k) rfl dxM_divide_27 ?_
    refine lv_dup2_11 hx hb dxM_divide_30 rfl rfl ?_
    obtain ⟨o4, hw⟩ := hw
    refine lx_7 X hG h o4 (x := S.1 0 ((ρ.2.2.1 1 k).toNatClampNeg)) rfl dxM_divide_31 ?_
    refine lv_iload_n hx hb dxM_divide_32 rfl (lv_at hl 0 rfl) ?_
    obtain ⟨o5, hw⟩ := hw
    refine lv_idiv hx hb dxM_divide_33 o5 ?_
    refine sx_7 X hG h o4 dxM_divide_34 (fun H locs h => ?_)
    refine gx_xM_166 X hG h dxM_divide_35 ?_
    exact z_aret X hr hlk h (Or.inr ⟨_, rfl⟩) ⟨_, _, rfl, rfl, hw⟩ dxM_divide_38
  · have hw := hw.2 c3
    refine lv_aload_n hx hb dxM_divide_14 rfl (lv_at hl 1 rfl) ?_
    refine lv_iconst (v := 2) hx hb dxM_divide_15 (by decide) ?_
    refine lv_iconst (v := 0) hx hb dxM_divide_16 (by decide) ?_
    refine lv_null hx hb dxM_divide_17 ?_
    refine cx_xM_142 (As := [.int 2, .int 0, .null]) (rest := []) X hG h hl.1 (mxM_raise l Γ θ ρ S Z (2) (0) none _ hw) ⟨show 1 + 1 ≤ 2 from by omega, show 8 + (4 + 11) + 23 ≤ 46 from by omega⟩ (q0 := 6) rfl rfl (Nat.le_of_ble_eq_true rfl) dxM_divide_18 ⟨Nat.le_of_ble_eq_true rfl, Nat.le_of_ble_eq_true rfl⟩ (fun v W1 hK H locs h => ?_)
    obtain ⟨r6, S7, rfl, rfl, hw⟩ := hK
    refine W.eq (g2 := F0 m 21 ls [.ref (Γ.2.2.2.1 r6)]) rfl ?_
    exact z_aret X hr hlk h (Or.inr ⟨_, rfl⟩) ⟨_, _, rfl, rfl, hw⟩ dxM_divide_21
def wxM_index  (post : Nat → Sg → Prop) (ρ : Rh) (S : Sg) (k : Nat) : Prop := (k < ρ.2.1) ∧ (vp_in (ρ.2.2.1 1 k) 4) ∧ (((S.1 0 ((ρ.2.2.1 1 k).toNatClampNeg)) < (0 : Int32)) → wxM_raise (fun r4 S5 => post r4 S5) ρ S (3) (S.1 0 ((ρ.2.2.1 1 k).toNatClampNeg)) none) ∧ ((¬ ((S.1 0 ((ρ.2.2.1 1 k).toNatClampNeg)) < (0 : Int32))) → (((ρ.2.2.1 2 k) ≤ (S.1 0 ((ρ.2.2.1 1 k).toNatClampNeg))) → wxM_raise (fun r7 S8 => post r7 S8) ρ S (3) (S.1 0 ((ρ.2.2.1 1 k).toNatClampNeg)) none) ∧ ((¬ ((ρ.2.2.1 2 k) ≤ (S.1 0 ((ρ.2.2.1 1 k).toNatClampNeg)))) → post 0 S))
set_option maxHeartbeats 4000000 in
set_option maxRecDepth 100000 in
theorem mxM_index (l : Launch) (Γ : Gm) (θ : Th) (ρ : Rh) (S : Sg) (Z : va_W) (k : Nat) (post : Nat → Sg → Prop) (hw : wxM_index post ρ S k) : MM l yxM_index cxM_index 4 (some (.object "ThrowScenario$Way")) 2 46 Γ [.ref (θ.1 6), .ref (ρ.1 k)] (WX Γ θ ρ S Z) (KK (fun r : Nat => some (.ref (Γ.2.2.2.1 r))) (fun S' => WX Γ θ ρ S' Z) post) 0 0 := by
  refine MM_of (by decide) (Nat.le_of_ble_eq_true rfl) ?_
  intro p e s m below meth c X hr hlk hnm hG h ls hl
  have hx := X.1
  have hb := X.2.1
  have hl : lv_has ls 4 [(0, .ref (θ.1 6)), (1, .ref (ρ.1 k))] := hl
  unfold wxM_index at hw
  refine lv_aload_n hx hb dxM_index_0 rfl (lv_at hl 0 rfl) ?_
  refine gx_xM_11 X hG h dxM_index_1 ?_
  refine lv_aload_n hx hb dxM_index_4 rfl (lv_at hl 1 rfl) ?_
  obtain ⟨o1, hw⟩ := hw
  refine gx_xM_126 X hG h o1 (x := ρ.2.2.1 1 k) rfl dxM_index_5 ?_
  obtain ⟨o2, hw⟩ := hw
  refine lx_7 X hG h o2 (x := S.1 0 ((ρ.2.2.1 1 k).toNatClampNeg)) rfl dxM_index_8 ?_
  refine lv_istore_n (lv' := [(2, .int (S.1 0 ((ρ.2.2.1 1 k).toNatClampNeg))), (0, .ref (θ.1 6)), (1, .ref (ρ.1 k))]) hx hb dxM_index_9 rfl hl (by decide) rfl (fun ls hl => ?_)
  refine lv_iload_n hx hb dxM_index_10 rfl (lv_at hl 0 rfl) ?_
  refine lv_if_lt (tgt := 26) hx hb dxM_index_11 (by decide) (fun c3 => ?_) (fun c3 => ?_)
  · have hw := hw.1 c3
    refine lv_iconst (v := 0) hx hb dxM_index_26 (by decide) ?_
    refine lv_istore_n (lv' := [(3, .int 0), (2, .int (S.1 0 ((ρ.2.2.1 1 k).toNatClampNeg))), (0, .ref (θ.1 6)), (1, .ref (ρ.1 k))]) hx hb dxM_index_27 rfl hl (by decide) rfl (fun ls hl => ?_)
    refine lv_iload_n hx hb dxM_index_28 rfl (lv_at hl 0 rfl) ?_
    refine lv_if_eq (tgt := 38) hx hb dxM_index_29 (by decide) (fun c0 => ?_) (fun c0 => ?_)
    · refine lv_aload_n hx hb dxM_index_38 rfl (lv_at hl 2 rfl) ?_
      refine lv_iconst (v := 3) hx hb dxM_index_39 (by decide) ?_
      refine lv_iload_n hx hb dxM_index_40 rfl (lv_at hl 1 rfl) ?_
      refine lv_null hx hb dxM_index_41 ?_
      refine cx_xM_142 (As := [.int 3, .int (S.1 0 ((ρ.2.2.1 1 k).toNatClampNeg)), .null]) (rest := []) X hG h hl.1 (mxM_raise l Γ θ ρ S Z (3) (S.1 0 ((ρ.2.2.1 1 k).toNatClampNeg)) none _ hw) ⟨show 1 + 1 ≤ 2 from by omega, show 8 + (4 + 11) + 23 ≤ 46 from by omega⟩ (q0 := 6) rfl rfl (Nat.le_of_ble_eq_true rfl) dxM_index_42 ⟨Nat.le_of_ble_eq_true rfl, Nat.le_of_ble_eq_true rfl⟩ (fun v W1 hK H locs h => ?_)
      obtain ⟨r4, S5, rfl, rfl, hw⟩ := hK
      refine W.eq (g2 := F0 m 45 ls [.ref (Γ.2.2.2.1 r4)]) rfl ?_
      exact z_aret X hr hlk h (Or.inr ⟨_, rfl⟩) ⟨_, _, rfl, rfl, hw⟩ dxM_index_45
    · exact absurd c0 (by decide)
  · have hw := hw.2 c3
    refine lv_iload_n hx hb dxM_index_14 rfl (lv_at hl 0 rfl) ?_
    refine lv_aload_n hx hb dxM_index_15 rfl (lv_at hl 2 rfl) ?_
    refine gx_xM_139 X hG h o1 (x := ρ.2.2.1 2 k) rfl dxM_index_16 ?_
    refine lv_icmp_ge (tgt := 26) hx hb dxM_index_19 (by decide) (fun c6 => ?_) (fun c6 => ?_)
    · have hw := hw.1 c6
      refine lv_iconst (v := 0) hx hb dxM_index_26 (by decide) ?_
      refine lv_istore_n (lv' := [(3, .int 0), (2, .int (S.1 0 ((ρ.2.2.1 1 k).toNatClampNeg))), (0, .ref (θ.1 6)), (1, .ref (ρ.1 k))]) hx hb dxM_index_27 rfl hl (by decide) rfl (fun ls hl => ?_)
      refine lv_iload_n hx hb dxM_index_28 rfl (lv_at hl 0 rfl) ?_
      refine lv_if_eq (tgt := 38) hx hb dxM_index_29 (by decide) (fun c0 => ?_) (fun c0 => ?_)
      · refine lv_aload_n hx hb dxM_index_38 rfl (lv_at hl 2 rfl) ?_
        refine lv_iconst (v := 3) hx hb dxM_index_39 (by decide) ?_
        refine lv_iload_n hx hb dxM_index_40 rfl (lv_at hl 1 rfl) ?_
        refine lv_null hx hb dxM_index_41 ?_
        refine cx_xM_142 (As := [.int 3, .int (S.1 0 ((ρ.2.2.1 1 k).toNatClampNeg)), .null]) (rest := []) X hG h hl.1 (mxM_raise l Γ θ ρ S Z (3) (S.1 0 ((ρ.2.2.1 1 k).toNatClampNeg)) none _ hw) ⟨show 1 + 1 ≤ 2 from by omega, show 8 + (4 + 11) + 23 ≤ 46 from by omega⟩ (q0 := 6) rfl rfl (Nat.le_of_ble_eq_true rfl) dxM_index_42 ⟨Nat.le_of_ble_eq_true rfl, Nat.le_of_ble_eq_true rfl⟩ (fun v W1 hK H locs h => ?_)
        obtain ⟨r7, S8, rfl, rfl, hw⟩ := hK
        refine W.eq (g2 := F0 m 45 ls [.ref (Γ.2.2.2.1 r7)]) rfl ?_
        exact z_aret X hr hlk h (Or.inr ⟨_, rfl⟩) ⟨_, _, rfl, rfl, hw⟩ dxM_index_45
      · exact absurd c0 (by decide)
    · have hw := hw.2 c6
      refine lv_iconst (v := 1) hx hb dxM_index_22 (by decide) ?_
      refine lv_goto (tgt := 27) hx hb dxM_index_23 (by decide) ?_
      refine lv_istore_n (lv' := [(3, .int 1), (2, .int (S.1 0 ((ρ.2.2.1 1 k).toNatClampNeg))), (0, .ref (θ.1 6)), (1, .ref (ρ.1 k))]) hx hb dxM_index_27 rfl hl (by decide) rfl (fun ls hl => ?_)
      refine lv_iload_n hx hb dxM_index_28 rfl (lv_at hl 0 rfl) ?_
      refine lv_if_eq (tgt := 38) hx hb dxM_index_29 (by decide) (fun c0 => ?_) (fun c0 => ?_)
      · exact absurd c0 (by decide)
      · refine gx_xM_166 X hG h dxM_index_32 ?_
        refine lv_goto (tgt := 45) hx hb dxM_index_35 (by decide) ?_
        exact z_aret X hr hlk h (Or.inr ⟨_, rfl⟩) ⟨_, _, rfl, rfl, hw⟩ dxM_index_45
def wxM_cast  (post : Nat → Sg → Prop) (ρ : Rh) (S : Sg) (k : Nat) (o : Option Nat) : Prop := (o = none → post 0 S) ∧ (∀ j2 : Nat, o = some j2 → (j2 < 300) ∧ (k < ρ.2.1) ∧ wxC_is (fun r5 S6 => ((r5 = (0 : Int32)) → wxM_raise (fun r8 S9 => post r8 S9) ρ S6 (4) (S6.1 3 j2) none) ∧ ((¬ (r5 = (0 : Int32))) → post 0 S6)) ρ S (S.1 3 j2) (ρ.2.2.1 1 k))
set_option maxHeartbeats 4000000 in
set_option maxRecDepth 100000 in
theorem mxM_cast (l : Launch) (Γ : Gm) (θ : Th) (ρ : Rh) (S : Sg) (Z : va_W) (k : Nat) (o : Option Nat) (post : Nat → Sg → Prop) (hw : wxM_cast post ρ S k o) : MM l yxM_cast cxM_cast 3 (some (.object "ThrowScenario$Way")) 2 46 Γ [.ref (θ.1 6), .ref (ρ.1 k), va_rf (Option.map θ.2 o)] (WX Γ θ ρ S Z) (KK (fun r : Nat => some (.ref (Γ.2.2.2.1 r))) (fun S' => WX Γ θ ρ S' Z) post) 0 0 := by
  refine MM_of (by decide) (by cases o <;> exact Nat.le_of_ble_eq_true rfl) ?_
  intro p e s m below meth c X hr hlk hnm hG h ls hl
  have hx := X.1
  have hb := X.2.1
  have hl : lv_has ls 3 [(0, .ref (θ.1 6)), (1, .ref (ρ.1 k)), (2, va_rf (Option.map θ.2 o))] := hl
  unfold wxM_cast at hw
  refine z_aload_nQ X dxM_cast_0 rfl (lv_at hl 2 rfl) ?_
  refine x_ifnull X (tgt := 22) dxM_cast_1 (by decide) (fun e1 => ?_) (fun j2 e1 => ?_)
  · have hw := hw.1 e1
    have hl : lv_has ls 3 [(0, .ref (θ.1 6)), (1, .ref (ρ.1 k)), (2, .null)] := by rw [e1] at hl; exact hl
    refine gx_xM_166 X hG h dxM_cast_22 ?_
    exact z_aret X hr hlk h (Or.inr ⟨_, rfl⟩) ⟨_, _, rfl, rfl, hw⟩ dxM_cast_25
  · have hw := hw.2 j2 e1
    have hl : lv_has ls 3 [(0, .ref (θ.1 6)), (1, .ref (ρ.1 k)), (2, .ref (θ.2 j2))] := by rw [e1] at hl; exact hl
    refine lv_aload_n hx hb dxM_cast_4 rfl (lv_at hl 0 rfl) ?_
    refine gx_xM_55 X hG h dxM_cast_5 ?_
    refine lv_aload_n hx hb dxM_cast_8 rfl (lv_at hl 2 rfl) ?_
    obtain ⟨o3, hw⟩ := hw
    refine gx_xM_185 X hG h o3 (x := S.1 3 j2) rfl dxM_cast_9 ?_
    refine lv_aload_n hx hb dxM_cast_12 rfl (lv_at hl 1 rfl) ?_
    obtain ⟨o4, hw⟩ := hw
    refine gx_xM_126 X hG h o4 (x := ρ.2.2.1 1 k) rfl dxM_cast_13 ?_
    refine cx_xM_188 (As := [.int (S.1 3 j2), .int (ρ.2.2.1 1 k)]) (rest := []) X hG h hl.1 (mxC_is l Γ θ ρ S Z (S.1 3 j2) (ρ.2.2.1 1 k) _ hw) ⟨show 1 + 1 ≤ 2 from by omega, show 8 + (5 + 11) + 21 ≤ 46 from by omega⟩ (q0 := 1) rfl rfl (Nat.le_of_ble_eq_true rfl) dxM_cast_16 ⟨Nat.le_of_ble_eq_true rfl, Nat.le_of_ble_eq_true rfl⟩ (fun v W1 hK H locs h => ?_)
    obtain ⟨r5, S6, rfl, rfl, hw⟩ := hK
    refine W.eq (g2 := F0 m 19 ls [.int r5]) rfl ?_
    refine lv_if_eq (tgt := 26) hx hb dxM_cast_19 (by decide) (fun c7 => ?_) (fun c7 => ?_)
    · have hw := hw.1 c7
      refine lv_aload_n hx hb dxM_cast_26 rfl (lv_at hl 0 rfl) ?_
      refine lv_iconst (v := 4) hx hb dxM_cast_27 (by decide) ?_
      refine lv_aload_n hx hb dxM_cast_28 rfl (lv_at hl 2 rfl) ?_
      refine gx_xM_185 X hG h o3 (x := S6.1 3 j2) rfl dxM_cast_29 ?_
      refine lv_null hx hb dxM_cast_32 ?_
      refine cx_xM_142 (As := [.int 4, .int (S6.1 3 j2), .null]) (rest := []) X hG h hl.1 (mxM_raise l Γ θ ρ S6 Z (4) (S6.1 3 j2) none _ hw) ⟨show 1 + 1 ≤ 2 from by omega, show 8 + (4 + 11) + 23 ≤ 46 from by omega⟩ (q0 := 6) rfl rfl (Nat.le_of_ble_eq_true rfl) dxM_cast_33 ⟨Nat.le_of_ble_eq_true rfl, Nat.le_of_ble_eq_true rfl⟩ (fun v W1 hK H locs h => ?_)
      obtain ⟨r8, S9, rfl, rfl, hw⟩ := hK
      refine W.eq (g2 := F0 m 36 ls [.ref (Γ.2.2.2.1 r8)]) rfl ?_
      exact z_aret X hr hlk h (Or.inr ⟨_, rfl⟩) ⟨_, _, rfl, rfl, hw⟩ dxM_cast_36
    · have hw := hw.2 c7
      refine gx_xM_166 X hG h dxM_cast_22 ?_
      exact z_aret X hr hlk h (Or.inr ⟨_, rfl⟩) ⟨_, _, rfl, rfl, hw⟩ dxM_cast_25
def wxM_wake  (post : Nat → Sg → Prop) (ρ : Rh) (S : Sg) (k : Nat) : Prop := (k < ρ.2.1) ∧ (vp_in (ρ.2.2.1 1 k) 2) ∧ ((¬ ((S.1 1 ((ρ.2.2.1 1 k).toNatClampNeg)) = (0 : Int32))) → wxM_addToLog (fun (_ : Unit) S5 => post 0 S5) ρ S (100 + (ρ.2.2.1 1 k))) ∧ (((S.1 1 ((ρ.2.2.1 1 k).toNatClampNeg)) = (0 : Int32)) → wxM_raise (fun r6 S7 => post r6 S7) ρ S (6) (ρ.2.2.1 1 k) none)
set_option maxHeartbeats 4000000 in
set_option maxRecDepth 100000 in
theorem mxM_wake (l : Launch) (Γ : Gm) (θ : Th) (ρ : Rh) (S : Sg) (Z : va_W) (k : Nat) (post : Nat → Sg → Prop) (hw : wxM_wake post ρ S k) : MM l yxM_wake cxM_wake 2 (some (.object "ThrowScenario$Way")) 2 46 Γ [.ref (θ.1 6), .ref (ρ.1 k)] (WX Γ θ ρ S Z) (KK (fun r : Nat => some (.ref (Γ.2.2.2.1 r))) (fun S' => WX Γ θ ρ S' Z) post) 0 0 := by
  refine MM_of (by decide) (Nat.le_of_ble_eq_true rfl) ?_
  intro p e s m below meth c X hr hlk hnm hG h ls hl
  have hx := X.1
  have hb := X.2.1
  have hl : lv_has ls 2 [(0, .ref (θ.1 6)), (1, .ref (ρ.1 k))] := hl
  unfold wxM_wake at hw
  refine lv_aload_n hx hb dxM_wake_0 rfl (lv_at hl 0 rfl) ?_
  refine gx_xM_17 X hG h dxM_wake_1 ?_
  refine lv_aload_n hx hb dxM_wake_4 rfl (lv_at hl 1 rfl) ?_
  obtain ⟨o1, hw⟩ := hw
  refine gx_xM_126 X hG h o1 (x := ρ.2.2.1 1 k) rfl dxM_wake_5 ?_
  obtain ⟨o2, hw⟩ := hw
  refine lx_8 X hG h o2 (x := S.1 1 ((ρ.2.2.1 1 k).toNatClampNeg)) rfl dxM_wake_8 ?_
  refine lv_if_ne (tgt := 24) hx hb dxM_wake_9 (by decide) (fun c3 => ?_) (fun c3 => ?_)
  · have hw := hw.1 c3
    refine lv_aload_n hx hb dxM_wake_24 rfl (lv_at hl 0 rfl) ?_
    refine lv_bipush (v := 100) hx hb dxM_wake_25 (by decide) ?_
    refine lv_aload_n hx hb dxM_wake_27 rfl (lv_at hl 1 rfl) ?_
    refine gx_xM_126 X hG h o1 (x := ρ.2.2.1 1 k) rfl dxM_wake_28 ?_
    refine lv_iadd hx hb dxM_wake_31 ?_
    refine cx_xM_201 (As := [.int (100 + (ρ.2.2.1 1 k))]) (rest := []) X hG h hl.1 (mxM_addToLog l Γ θ ρ S Z (100 + (ρ.2.2.1 1 k)) _ hw) ⟨show 0 + 1 ≤ 2 from by omega, show 8 + (2 + 11) + 0 ≤ 46 from by omega⟩ (q0 := 6) rfl rfl (Nat.le_of_ble_eq_true rfl) dxM_wake_32 ⟨Nat.le_of_ble_eq_true rfl, Nat.le_of_ble_eq_true rfl⟩ (fun v W1 hK H locs h => ?_)
    obtain ⟨r4, S5, rfl, rfl, hw⟩ := hK
    refine W.eq (g2 := F0 m 35 ls []) rfl ?_
    refine gx_xM_166 X hG h dxM_wake_35 ?_
    exact z_aret X hr hlk h (Or.inr ⟨_, rfl⟩) ⟨_, _, rfl, rfl, hw⟩ dxM_wake_38
  · have hw := hw.2 c3
    refine lv_aload_n hx hb dxM_wake_12 rfl (lv_at hl 0 rfl) ?_
    refine lv_bipush (v := 6) hx hb dxM_wake_13 (by decide) ?_
    refine lv_aload_n hx hb dxM_wake_15 rfl (lv_at hl 1 rfl) ?_
    refine gx_xM_126 X hG h o1 (x := ρ.2.2.1 1 k) rfl dxM_wake_16 ?_
    refine lv_null hx hb dxM_wake_19 ?_
    refine cx_xM_142 (As := [.int 6, .int (ρ.2.2.1 1 k), .null]) (rest := []) X hG h hl.1 (mxM_raise l Γ θ ρ S Z (6) (ρ.2.2.1 1 k) none _ hw) ⟨show 1 + 1 ≤ 2 from by omega, show 8 + (4 + 11) + 23 ≤ 46 from by omega⟩ (q0 := 6) rfl rfl (Nat.le_of_ble_eq_true rfl) dxM_wake_20 ⟨Nat.le_of_ble_eq_true rfl, Nat.le_of_ble_eq_true rfl⟩ (fun v W1 hK H locs h => ?_)
    obtain ⟨r6, S7, rfl, rfl, hw⟩ := hK
    refine W.eq (g2 := F0 m 23 ls [.ref (Γ.2.2.2.1 r6)]) rfl ?_
    exact z_aret X hr hlk h (Or.inr ⟨_, rfl⟩) ⟨_, _, rfl, rfl, hw⟩ dxM_wake_23
def wxM_note  (post : Nat → Sg → Prop) (ρ : Rh) (S : Sg) (k : Nat) (o : Option Nat) : Prop := (k < ρ.2.1) ∧ ((ρ.2.2.1 0 k) = 0 → wxM_addToLog (fun (_ : Unit) S4 => post 0 S4) ρ S (ρ.2.2.1 1 k)) ∧ (¬ (ρ.2.2.1 0 k) = 0 → ((ρ.2.2.1 0 k) = 1 → (vp_in (ρ.2.2.1 1 k) 4) ∧ wxM_addToLog (fun (_ : Unit) S8 => post 0 S8) ρ S (S.1 0 ((ρ.2.2.1 1 k).toNatClampNeg))) ∧ (¬ (ρ.2.2.1 0 k) = 1 → ((ρ.2.2.1 0 k) = 2 → (vp_in (ρ.2.2.1 1 k) 4) ∧ post 0 (sR S 0 ((ρ.2.2.1 1 k).toNatClampNeg) (ρ.2.2.1 2 k))) ∧ (¬ (ρ.2.2.1 0 k) = 2 → ((ρ.2.2.1 0 k) = 3 → (vp_in (ρ.2.2.1 1 k) 4) ∧ post 0 (sR S 0 ((ρ.2.2.1 1 k).toNatClampNeg) ((S.1 0 ((ρ.2.2.1 1 k).toNatClampNeg)) + (ρ.2.2.1 2 k)))) ∧ (¬ (ρ.2.2.1 0 k) = 3 → ((ρ.2.2.1 0 k) = 22 → (o = none → post 0 S) ∧ (∀ j15 : Nat, o = some j15 → (j15 < 300) ∧ wxH_origin (fun r17 S18 => (r17 < 300) ∧ wxM_addToLog (fun (_ : Unit) S21 => post 0 S21) ρ S18 (S18.1 3 r17)) ρ S j15)) ∧ (¬ (ρ.2.2.1 0 k) = 22 → post 0 S)))))
set_option maxHeartbeats 4000000 in
set_option maxRecDepth 100000 in
theorem mxM_note (l : Launch) (Γ : Gm) (θ : Th) (ρ : Rh) (S : Sg) (Z : va_W) (k : Nat) (o : Option Nat) (post : Nat → Sg → Prop) (hw : wxM_note post ρ S k o) : MM l yxM_note cxM_note 3 (some (.object "ThrowScenario$Way")) 1 21 Γ [.ref (θ.1 6), .ref (ρ.1 k), va_rf (Option.map θ.2 o)] (WX Γ θ ρ S Z) (KK (fun r : Nat => some (.ref (Γ.2.2.2.1 r))) (fun S' => WX Γ θ ρ S' Z) post) 0 0 := by
  refine MM_of (by decide) (by cases o <;> exact Nat.le_of_ble_eq_true rfl) ?_
  intro p e s m below meth c X hr hlk hnm hG h ls hl
  have hx := X.1
  have hb := X.2.1
  have hl : lv_has ls 3 [(0, .ref (θ.1 6)), (1, .ref (ρ.1 k)), (2, va_rf (Option.map θ.2 o))] := hl
  unfold wxM_note at hw
  refine lv_aload_n hx hb dxM_note_0 rfl (lv_at hl 1 rfl) ?_
  obtain ⟨o1, hw⟩ := hw
  refine gx_xM_95 X hG h o1 (x := ρ.2.2.1 0 k) rfl dxM_note_1 ?_
  by_cases c2 : (ρ.2.2.1 0 k) = 0
  · have hw := hw.1 c2
    refine lv_lookup (off := 52) (tgt := 56) hx hb dxM_note_4 (by decide) (by rw [c2]; rfl) (by decide) ?_
    refine lv_aload_n hx hb dxM_note_56 rfl (lv_at hl 0 rfl) ?_
    refine lv_aload_n hx hb dxM_note_57 rfl (lv_at hl 1 rfl) ?_
    refine gx_xM_126 X hG h o1 (x := ρ.2.2.1 1 k) rfl dxM_note_58 ?_
    refine cx_xM_201 (As := [.int (ρ.2.2.1 1 k)]) (rest := []) X hG h hl.1 (mxM_addToLog l Γ θ ρ S Z (ρ.2.2.1 1 k) _ hw) ⟨show 0 + 1 ≤ 1 from by omega, show 8 + (2 + 11) + 0 ≤ 21 from by omega⟩ (q0 := 6) rfl rfl (Nat.le_of_ble_eq_true rfl) dxM_note_61 ⟨Nat.le_of_ble_eq_true rfl, Nat.le_of_ble_eq_true rfl⟩ (fun v W1 hK H locs h => ?_)
    obtain ⟨r3, S4, rfl, rfl, hw⟩ := hK
    refine W.eq (g2 := F0 m 64 ls []) rfl ?_
    refine lv_goto (tgt := 136) hx hb dxM_note_64 (by decide) ?_
    refine gx_xM_166 X hG h dxM_note_136 ?_
    exact z_aret X hr hlk h (Or.inr ⟨_, rfl⟩) ⟨_, _, rfl, rfl, hw⟩ dxM_note_139
  · have hw := hw.2 c2
    by_cases c5 : (ρ.2.2.1 0 k) = 1
    · have hw := hw.1 c5
      refine lv_lookup (off := 63) (tgt := 67) hx hb dxM_note_4 (by decide) (by rw [c5]; rfl) (by decide) ?_
      refine lv_aload_n hx hb dxM_note_67 rfl (lv_at hl 0 rfl) ?_
      refine lv_aload_n hx hb dxM_note_68 rfl (lv_at hl 0 rfl) ?_
      refine gx_xM_11 X hG h dxM_note_69 ?_
      refine lv_aload_n hx hb dxM_note_72 rfl (lv_at hl 1 rfl) ?_
      refine gx_xM_126 X hG h o1 (x := ρ.2.2.1 1 k) rfl dxM_note_73 ?_
      obtain ⟨o6, hw⟩ := hw
      refine lx_7 X hG h o6 (x := S.1 0 ((ρ.2.2.1 1 k).toNatClampNeg)) rfl dxM_note_76 ?_
      refine cx_xM_201 (As := [.int (S.1 0 ((ρ.2.2.1 1 k).toNatClampNeg))]) (rest := []) X hG h hl.1 (mxM_addToLog l Γ θ ρ S Z (S.1 0 ((ρ.2.2.1 1 k).toNatClampNeg)) _ hw) ⟨show 0 + 1 ≤ 1 from by omega, show 8 + (2 + 11) + 0 ≤ 21 from by omega⟩ (q0 := 6) rfl rfl (Nat.le_of_ble_eq_true rfl) dxM_note_77 ⟨Nat.le_of_ble_eq_true rfl, Nat.le_of_ble_eq_true rfl⟩ (fun v W1 hK H locs h => ?_)
      obtain ⟨r7, S8, rfl, rfl, hw⟩ := hK
      refine W.eq (g2 := F0 m 80 ls []) rfl ?_
      refine lv_goto (tgt := 136) hx hb dxM_note_80 (by decide) ?_
      refine gx_xM_166 X hG h dxM_note_136 ?_
      exact z_aret X hr hlk h (Or.inr ⟨_, rfl⟩) ⟨_, _, rfl, rfl, hw⟩ dxM_note_139
    · have hw := hw.2 c5
      by_cases c9 : (ρ.2.2.1 0 k) = 2
      · have hw := hw.1 c9
        refine lv_lookup (off := 79) (tgt := 83) hx hb dxM_note_4 (by decide) (by rw [c9]; rfl) (by decide) ?_
        refine lv_aload_n hx hb dxM_note_83 rfl (lv_at hl 0 rfl) ?_
        refine gx_xM_11 X hG h dxM_note_84 ?_
        refine lv_aload_n hx hb dxM_note_87 rfl (lv_at hl 1 rfl) ?_
        refine gx_xM_126 X hG h o1 (x := ρ.2.2.1 1 k) rfl dxM_note_88 ?_
        refine lv_aload_n hx hb dxM_note_91 rfl (lv_at hl 1 rfl) ?_
        refine gx_xM_139 X hG h o1 (x := ρ.2.2.1 2 k) rfl dxM_note_92 ?_
        obtain ⟨o10, hw⟩ := hw
        refine sx_7 X hG h o10 dxM_note_95 (fun H locs h => ?_)
        refine lv_goto (tgt := 136) hx hb dxM_note_96 (by decide) ?_
        refine gx_xM_166 X hG h dxM_note_136 ?_
        exact z_aret X hr hlk h (Or.inr ⟨_, rfl⟩) ⟨_, _, rfl, rfl, hw⟩ dxM_note_139
      · have hw := hw.2 c9
        by_cases c11 : (ρ.2.2.1 0 k) = 3
        · have hw := hw.1 c11
          refine lv_lookup (off := 95) (tgt := 99) hx hb dxM_note_4 (by decide) (by rw [c11]; rfl) (by decide) ?_
          refine lv_aload_n hx hb dxM_note_99 rfl (lv_at hl 0 rfl) ?_
          refine gx_xM_11 X hG h dxM_note_100 ?_
          refine lv_aload_n hx hb dxM_note_103 rfl (lv_at hl 1 rfl) ?_
          refine gx_xM_126 X hG h o1 (x := ρ.2.2.1 1 k) rfl dxM_note_104 ?_
          refine lv_dup2_11 hx hb dxM_note_107 rfl rfl ?_
          obtain ⟨o12, hw⟩ := hw
          refine lx_7 X hG h o12 (x := S.1 0 ((ρ.2.2.1 1 k).toNatClampNeg)) rfl dxM_note_108 ?_
          refine lv_aload_n hx hb dxM_note_109 rfl (lv_at hl 1 rfl) ?_
          refine gx_xM_139 X hG h o1 (x := ρ.2.2.1 2 k) rfl dxM_note_110 ?_
          refine lv_iadd hx hb dxM_note_113 ?_
          refine sx_7 X hG h o12 dxM_note_114 (fun H locs h => ?_)
          refine lv_goto (tgt := 136) hx hb dxM_note_115 (by decide) ?_
          refine gx_xM_166 X hG h dxM_note_136 ?_
          exact z_aret X hr hlk h (Or.inr ⟨_, rfl⟩) ⟨_, _, rfl, rfl, hw⟩ dxM_note_139
        · have hw := hw.2 c11
          by_cases c13 : (ρ.2.2.1 0 k) = 22
          · have hw := hw.1 c13
            refine lv_lookup (off := 114) (tgt := 118) hx hb dxM_note_4 (by decide) (by rw [c13]; rfl) (by decide) ?_
            refine z_aload_nQ X dxM_note_118 rfl (lv_at hl 2 rfl) ?_
            refine x_ifnull X (tgt := 136) dxM_note_119 (by decide) (fun e14 => ?_) (fun j15 e14 => ?_)
            · have hw := hw.1 e14
              have hl : lv_has ls 3 [(0, .ref (θ.1 6)), (1, .ref (ρ.1 k)), (2, .null)] := by rw [e14] at hl; exact hl
              refine gx_xM_166 X hG h dxM_note_136 ?_
              exact z_aret X hr hlk h (Or.inr ⟨_, rfl⟩) ⟨_, _, rfl, rfl, hw⟩ dxM_note_139
            · have hw := hw.2 j15 e14
              have hl : lv_has ls 3 [(0, .ref (θ.1 6)), (1, .ref (ρ.1 k)), (2, .ref (θ.2 j15))] := by rw [e14] at hl; exact hl
              refine lv_aload_n hx hb dxM_note_122 rfl (lv_at hl 0 rfl) ?_
              refine lv_aload_n hx hb dxM_note_123 rfl (lv_at hl 2 rfl) ?_
              obtain ⟨o16, hw⟩ := hw
              refine cx_xM_205 (As := []) (rest := [.ref (θ.1 6)]) X hG h hl.1 (mxH_origin l Γ θ ρ S Z j15 _ hw) ⟨show 0 + 1 ≤ 1 from by omega, show 8 + (2 + 11) + 0 ≤ 21 from by omega⟩ (WX_thr o16) rfl (Nat.le_of_ble_eq_true rfl) dxM_note_124 ⟨Nat.le_of_ble_eq_true rfl, Nat.le_of_ble_eq_true rfl⟩ (fun v W1 hK H locs h => ?_)
              obtain ⟨r17, S18, rfl, rfl, hw⟩ := hK
              refine W.eq (g2 := F0 m 127 ls [.ref (θ.2 r17), .ref (θ.1 6)]) rfl ?_
              obtain ⟨o19, hw⟩ := hw
              refine gx_xM_185 X hG h o19 (x := S18.1 3 r17) rfl dxM_note_127 ?_
              refine cx_xM_201 (As := [.int (S18.1 3 r17)]) (rest := []) X hG h hl.1 (mxM_addToLog l Γ θ ρ S18 Z (S18.1 3 r17) _ hw) ⟨show 0 + 1 ≤ 1 from by omega, show 8 + (2 + 11) + 0 ≤ 21 from by omega⟩ (q0 := 6) rfl rfl (Nat.le_of_ble_eq_true rfl) dxM_note_130 ⟨Nat.le_of_ble_eq_true rfl, Nat.le_of_ble_eq_true rfl⟩ (fun v W1 hK H locs h => ?_)
              obtain ⟨r20, S21, rfl, rfl, hw⟩ := hK
              refine W.eq (g2 := F0 m 133 ls []) rfl ?_
              refine lv_goto (tgt := 136) hx hb dxM_note_133 (by decide) ?_
              refine gx_xM_166 X hG h dxM_note_136 ?_
              exact z_aret X hr hlk h (Or.inr ⟨_, rfl⟩) ⟨_, _, rfl, rfl, hw⟩ dxM_note_139
          · have hw := hw.2 c13
            refine lv_lookup (off := 132) (tgt := 136) hx hb dxM_note_4 (by decide) ((lv_osw c2 (by decide)).trans <| (lv_osw c5 (by decide)).trans <| (lv_osw c9 (by decide)).trans <| (lv_osw c11 (by decide)).trans <| (lv_osw c13 (by decide)).trans <| rfl) (by decide) ?_
            refine gx_xM_166 X hG h dxM_note_136 ?_
            exact z_aret X hr hlk h (Or.inr ⟨_, rfl⟩) ⟨_, _, rfl, rfl, hw⟩ dxM_note_139
end
section
abbrev RecT : Type := (Nat → Sg → Prop) → Rh → Sg → Int32 → Int32 → Option Nat → Prop
abbrev RecM (l : Launch) (Γ : Gm) (θ : Th) (rec : RecT) (dd : Nat) : Prop := ∀ (ρ : Rh) (S : Sg) (Z : va_W) (x y : Int32) (o : Option Nat) (post : Nat → Sg → Prop), rec post ρ S x y o → MM l yxM_perform cxM_perform 5 (some (.object "ThrowScenario$Way")) (2 * dd + 12) (60 * dd + 400) Γ [.ref (θ.1 6), .int x, .int y, va_rf (Option.map θ.2 o)] (WX Γ θ ρ S Z) (KK (fun r : Nat => some (.ref (Γ.2.2.2.1 r))) (fun S' => WX Γ θ ρ S' Z) post) 0 0
def wxM_sequence (rec : RecT) (post : Nat → Sg → Prop) (ρ : Rh) (S : Sg) (k : Nat) (y : Int32) (o : Option Nat) : Prop := (k < ρ.2.1) ∧ rec (fun r2 S3 => (r2 < 6) ∧ ((¬ (r2 = 0)) → post r2 S3) ∧ ((r2 = 0) → rec (fun r6 S7 => post r6 S7) ρ S3 (ρ.2.2.1 2 k) y o)) ρ S (ρ.2.2.1 1 k) y o
set_option maxHeartbeats 4000000 in
set_option maxRecDepth 100000 in
theorem mxM_sequence (l : Launch) (Γ : Gm) (θ : Th) (ρ : Rh) (S : Sg) (Z : va_W) (k : Nat) (y : Int32) (o : Option Nat) (rec : RecT) (dd : Nat) (hrec : RecM l Γ θ rec dd) (post : Nat → Sg → Prop) (hw : wxM_sequence rec post ρ S k y o) : MM l yxM_sequence cxM_sequence 5 (some (.object "ThrowScenario$Way")) (2 * dd + 13) (60 * dd + 430) Γ [.ref (θ.1 6), .ref (ρ.1 k), .int y, va_rf (Option.map θ.2 o)] (WX Γ θ ρ S Z) (KK (fun r : Nat => some (.ref (Γ.2.2.2.1 r))) (fun S' => WX Γ θ ρ S' Z) post) 0 0 := by
  refine MM_of (by decide) (by cases o <;> exact Nat.le_of_ble_eq_true rfl) ?_
  intro p e s m below meth c X hr hlk hnm hG h ls hl
  have hx := X.1
  have hb := X.2.1
  have hl : lv_has ls 5 [(0, .ref (θ.1 6)), (1, .ref (ρ.1 k)), (2, .int y), (3, va_rf (Option.map θ.2 o))] := hl
  unfold wxM_sequence at hw
  refine lv_aload_n hx hb dxM_sequence_0 rfl (lv_at hl 0 rfl) ?_
  refine lv_aload_n hx hb dxM_sequence_1 rfl (lv_at hl 1 rfl) ?_
  obtain ⟨o1, hw⟩ := hw
  refine gx_xM_126 X hG h o1 (x := ρ.2.2.1 1 k) rfl dxM_sequence_2 ?_
  refine lv_iload_n hx hb dxM_sequence_5 rfl (lv_at hl 2 rfl) ?_
  refine z_aload_nQ X dxM_sequence_6 rfl (lv_at hl 3 rfl) ?_
  refine cx_xM_71 (As := [.int (ρ.2.2.1 1 k), .int y, va_rf (Option.map θ.2 o)]) (rest := []) X hG h hl.1 (hrec  ρ S Z (ρ.2.2.1 1 k) y o _ hw) ⟨show (2 * dd + 12) + 1 ≤ (2 * dd + 13) from by omega, show 8 + (5 + 11) + (60 * dd + 400) ≤ (60 * dd + 430) from by omega⟩ (q0 := 6) rfl rfl (Nat.le_of_ble_eq_true rfl) dxM_sequence_7 ⟨Nat.le_of_ble_eq_true rfl, Nat.le_of_ble_eq_true rfl⟩ (fun v W1 hK H locs h => ?_)
  obtain ⟨r2, S3, rfl, rfl, hw⟩ := hK
  refine W.eq (g2 := F0 m 10 ls [.ref (Γ.2.2.2.1 r2)]) rfl ?_
  refine lv_astore (lv' := [(4, .ref (Γ.2.2.2.1 r2)), (0, .ref (θ.1 6)), (1, .ref (ρ.1 k)), (2, .int y), (3, va_rf (Option.map θ.2 o))]) hx hb dxM_sequence_10 hl (by decide) (by simp [List.filter_cons, va_rf_cat]) (fun ls hl => ?_)
  refine lv_aload hx hb dxM_sequence_12 (lv_at hl 0 rfl) ?_
  refine gx_xM_166 X hG h dxM_sequence_14 ?_
  obtain ⟨o4, hw⟩ := hw
  refine x_acmp_ne X hG (tgt := 33) o4 (by decide) dxM_sequence_17 (by decide) (fun c5 => ?_) (fun c5 => ?_)
  · have hw := hw.1 c5
    refine lv_aload hx hb dxM_sequence_33 (lv_at hl 0 rfl) ?_
    exact z_aret X hr hlk h (Or.inr ⟨_, rfl⟩) ⟨_, _, rfl, rfl, hw⟩ dxM_sequence_35
  · have hw := hw.2 c5
    refine lv_aload_n hx hb dxM_sequence_20 rfl (lv_at hl 1 rfl) ?_
    refine lv_aload_n hx hb dxM_sequence_21 rfl (lv_at hl 2 rfl) ?_
    refine gx_xM_139 X hG h o1 (x := ρ.2.2.1 2 k) rfl dxM_sequence_22 ?_
    refine lv_iload_n hx hb dxM_sequence_25 rfl (lv_at hl 3 rfl) ?_
    refine z_aload_nQ X dxM_sequence_26 rfl (lv_at hl 4 rfl) ?_
    refine cx_xM_71 (As := [.int (ρ.2.2.1 2 k), .int y, va_rf (Option.map θ.2 o)]) (rest := []) X hG h hl.1 (hrec  ρ S3 Z (ρ.2.2.1 2 k) y o _ hw) ⟨show (2 * dd + 12) + 1 ≤ (2 * dd + 13) from by omega, show 8 + (5 + 11) + (60 * dd + 400) ≤ (60 * dd + 430) from by omega⟩ (q0 := 6) rfl rfl (Nat.le_of_ble_eq_true rfl) dxM_sequence_27 ⟨Nat.le_of_ble_eq_true rfl, Nat.le_of_ble_eq_true rfl⟩ (fun v W1 hK H locs h => ?_)
    obtain ⟨r6, S7, rfl, rfl, hw⟩ := hK
    refine W.eq (g2 := F0 m 30 ls [.ref (Γ.2.2.2.1 r6)]) rfl ?_
    refine lv_goto (tgt := 35) hx hb dxM_sequence_30 (by decide) ?_
    exact z_aret X hr hlk h (Or.inr ⟨_, rfl⟩) ⟨_, _, rfl, rfl, hw⟩ dxM_sequence_35
def wxM_choose (rec : RecT) (post : Nat → Sg → Prop) (ρ : Rh) (S : Sg) (k : Nat) (y : Int32) (o : Option Nat) : Prop := (k < ρ.2.1) ∧ (vp_in (ρ.2.2.1 1 k) 4) ∧ (((S.1 0 ((ρ.2.2.1 1 k).toNatClampNeg)) = (0 : Int32)) → ((¬ ((ρ.2.2.1 3 k) = (-1 : Int32))) → rec (fun r5 S6 => post r5 S6) ρ S (ρ.2.2.1 3 k) y o) ∧ (((ρ.2.2.1 3 k) = (-1 : Int32)) → post 0 S)) ∧ ((¬ ((S.1 0 ((ρ.2.2.1 1 k).toNatClampNeg)) = (0 : Int32))) → ((¬ ((ρ.2.2.1 2 k) = (-1 : Int32))) → rec (fun r8 S9 => post r8 S9) ρ S (ρ.2.2.1 2 k) y o) ∧ (((ρ.2.2.1 2 k) = (-1 : Int32)) → post 0 S))
set_option maxHeartbeats 4000000 in
set_option maxRecDepth 100000 in
theorem mxM_choose (l : Launch) (Γ : Gm) (θ : Th) (ρ : Rh) (S : Sg) (Z : va_W) (k : Nat) (y : Int32) (o : Option Nat) (rec : RecT) (dd : Nat) (hrec : RecM l Γ θ rec dd) (post : Nat → Sg → Prop) (hw : wxM_choose rec post ρ S k y o) : MM l yxM_choose cxM_choose 5 (some (.object "ThrowScenario$Way")) (2 * dd + 13) (60 * dd + 430) Γ [.ref (θ.1 6), .ref (ρ.1 k), .int y, va_rf (Option.map θ.2 o)] (WX Γ θ ρ S Z) (KK (fun r : Nat => some (.ref (Γ.2.2.2.1 r))) (fun S' => WX Γ θ ρ S' Z) post) 0 0 := by
  refine MM_of (by decide) (by cases o <;> exact Nat.le_of_ble_eq_true rfl) ?_
  intro p e s m below meth c X hr hlk hnm hG h ls hl
  have hx := X.1
  have hb := X.2.1
  have hl : lv_has ls 5 [(0, .ref (θ.1 6)), (1, .ref (ρ.1 k)), (2, .int y), (3, va_rf (Option.map θ.2 o))] := hl
  unfold wxM_choose at hw
  refine lv_aload_n hx hb dxM_choose_0 rfl (lv_at hl 0 rfl) ?_
  refine gx_xM_11 X hG h dxM_choose_1 ?_
  refine lv_aload_n hx hb dxM_choose_4 rfl (lv_at hl 1 rfl) ?_
  obtain ⟨o1, hw⟩ := hw
  refine gx_xM_126 X hG h o1 (x := ρ.2.2.1 1 k) rfl dxM_choose_5 ?_
  obtain ⟨o2, hw⟩ := hw
  refine lx_7 X hG h o2 (x := S.1 0 ((ρ.2.2.1 1 k).toNatClampNeg)) rfl dxM_choose_8 ?_
  refine lv_if_eq (tgt := 19) hx hb dxM_choose_9 (by decide) (fun c3 => ?_) (fun c3 => ?_)
  · have hw := hw.1 c3
    refine lv_aload_n hx hb dxM_choose_19 rfl (lv_at hl 1 rfl) ?_
    refine gx_xM_169 X hG h o1 (x := ρ.2.2.1 3 k) rfl dxM_choose_20 ?_
    refine lv_istore (lv' := [(4, .int (ρ.2.2.1 3 k)), (0, .ref (θ.1 6)), (1, .ref (ρ.1 k)), (2, .int y), (3, va_rf (Option.map θ.2 o))]) hx hb dxM_choose_23 hl (by decide) (by simp [List.filter_cons, va_rf_cat]) (fun ls hl => ?_)
    refine lv_iload hx hb dxM_choose_25 (lv_at hl 0 rfl) ?_
    refine lv_iconst (v := -1) hx hb dxM_choose_27 (by decide) ?_
    refine lv_icmp_ne (tgt := 37) hx hb dxM_choose_28 (by decide) (fun c4 => ?_) (fun c4 => ?_)
    · have hw := hw.1 c4
      refine lv_aload_n hx hb dxM_choose_37 rfl (lv_at hl 1 rfl) ?_
      refine lv_iload hx hb dxM_choose_38 (lv_at hl 0 rfl) ?_
      refine lv_iload_n hx hb dxM_choose_40 rfl (lv_at hl 3 rfl) ?_
      refine z_aload_nQ X dxM_choose_41 rfl (lv_at hl 4 rfl) ?_
      refine cx_xM_71 (As := [.int (ρ.2.2.1 3 k), .int y, va_rf (Option.map θ.2 o)]) (rest := []) X hG h hl.1 (hrec  ρ S Z (ρ.2.2.1 3 k) y o _ hw) ⟨show (2 * dd + 12) + 1 ≤ (2 * dd + 13) from by omega, show 8 + (5 + 11) + (60 * dd + 400) ≤ (60 * dd + 430) from by omega⟩ (q0 := 6) rfl rfl (Nat.le_of_ble_eq_true rfl) dxM_choose_42 ⟨Nat.le_of_ble_eq_true rfl, Nat.le_of_ble_eq_true rfl⟩ (fun v W1 hK H locs h => ?_)
      obtain ⟨r5, S6, rfl, rfl, hw⟩ := hK
      refine W.eq (g2 := F0 m 45 ls [.ref (Γ.2.2.2.1 r5)]) rfl ?_
      exact z_aret X hr hlk h (Or.inr ⟨_, rfl⟩) ⟨_, _, rfl, rfl, hw⟩ dxM_choose_45
    · have hw := hw.2 c4
      refine gx_xM_166 X hG h dxM_choose_31 ?_
      refine lv_goto (tgt := 45) hx hb dxM_choose_34 (by decide) ?_
      exact z_aret X hr hlk h (Or.inr ⟨_, rfl⟩) ⟨_, _, rfl, rfl, hw⟩ dxM_choose_45
  · have hw := hw.2 c3
    refine lv_aload_n hx hb dxM_choose_12 rfl (lv_at hl 1 rfl) ?_
    refine gx_xM_139 X hG h o1 (x := ρ.2.2.1 2 k) rfl dxM_choose_13 ?_
    refine lv_goto (tgt := 23) hx hb dxM_choose_16 (by decide) ?_
    refine lv_istore (lv' := [(4, .int (ρ.2.2.1 2 k)), (0, .ref (θ.1 6)), (1, .ref (ρ.1 k)), (2, .int y), (3, va_rf (Option.map θ.2 o))]) hx hb dxM_choose_23 hl (by decide) (by simp [List.filter_cons, va_rf_cat]) (fun ls hl => ?_)
    refine lv_iload hx hb dxM_choose_25 (lv_at hl 0 rfl) ?_
    refine lv_iconst (v := -1) hx hb dxM_choose_27 (by decide) ?_
    refine lv_icmp_ne (tgt := 37) hx hb dxM_choose_28 (by decide) (fun c7 => ?_) (fun c7 => ?_)
    · have hw := hw.1 c7
      refine lv_aload_n hx hb dxM_choose_37 rfl (lv_at hl 1 rfl) ?_
      refine lv_iload hx hb dxM_choose_38 (lv_at hl 0 rfl) ?_
      refine lv_iload_n hx hb dxM_choose_40 rfl (lv_at hl 3 rfl) ?_
      refine z_aload_nQ X dxM_choose_41 rfl (lv_at hl 4 rfl) ?_
      refine cx_xM_71 (As := [.int (ρ.2.2.1 2 k), .int y, va_rf (Option.map θ.2 o)]) (rest := []) X hG h hl.1 (hrec  ρ S Z (ρ.2.2.1 2 k) y o _ hw) ⟨show (2 * dd + 12) + 1 ≤ (2 * dd + 13) from by omega, show 8 + (5 + 11) + (60 * dd + 400) ≤ (60 * dd + 430) from by omega⟩ (q0 := 6) rfl rfl (Nat.le_of_ble_eq_true rfl) dxM_choose_42 ⟨Nat.le_of_ble_eq_true rfl, Nat.le_of_ble_eq_true rfl⟩ (fun v W1 hK H locs h => ?_)
      obtain ⟨r8, S9, rfl, rfl, hw⟩ := hK
      refine W.eq (g2 := F0 m 45 ls [.ref (Γ.2.2.2.1 r8)]) rfl ?_
      exact z_aret X hr hlk h (Or.inr ⟨_, rfl⟩) ⟨_, _, rfl, rfl, hw⟩ dxM_choose_45
    · have hw := hw.2 c7
      refine gx_xM_166 X hG h dxM_choose_31 ?_
      refine lv_goto (tgt := 45) hx hb dxM_choose_34 (by decide) ?_
      exact z_aret X hr hlk h (Or.inr ⟨_, rfl⟩) ⟨_, _, rfl, rfl, hw⟩ dxM_choose_45
def wxM_loop_c43 (rec : RecT) (post : Nat → Sg → Prop) (ρ : Rh) (k : Nat) (y : Int32) (o : Option Nat) (S : Sg) (a4 : Nat) : Prop := (a4 < 6) ∧ ((¬ (a4 = 1)) → post a4 S) ∧ ((a4 = 1) → post 0 S)
set_option maxHeartbeats 4000000 in
set_option maxRecDepth 100000 in
theorem txM_loop_c43 {p : Program} {l : Launch} {e : Env} {s : State} {m : MethodId} {below : List Frame} {meth : Method} {c : Code} (Γ : Gm) (θ : Th) (ρ : Rh) (Z : va_W) (k : Nat) (y : Int32) (o : Option Nat)  (rec : RecT) (dd : Nat) (hrec : RecM l Γ θ rec dd) (post : Nat → Sg → Prop) (X : CallFix p m c cxM_loop 6 s ([.ref (θ.1 6), .ref (ρ.1 k), .int y, va_rf (Option.map θ.2 o)] : List Value).toArray big RxM) (hr : meth.sig.returnType = (some (.object "ThrowScenario$Way"))) (hlk : meth.locks = false) (hG : GX Γ s s.heap) :
    ∀ (S : Sg) (a4 : Nat) (hw : wxM_loop_c43 rec post ρ k y o S a4) (H : Heap) (locs : List Loc) (h : HS Γ s (WX Γ θ ρ S Z) H locs) (ls : Array Slot) (hl : lv_has ls 6 [(0, .ref (θ.1 6)), (1, .ref (ρ.1 k)), (2, .int y), (3, va_rf (Option.map θ.2 o)), (4, .ref (Γ.2.2.2.1 a4))]), W p l e { frames := 2 * dd + 13, cells := 0, slots := 0, locals := 60 * dd + 430 } s m ([.ref (θ.1 6), .ref (ρ.1 k), .int y, va_rf (Option.map θ.2 o)] : List Value).toArray below meth c H locs 0 0 (MQ below (QM Γ (KK (fun r : Nat => some (.ref (Γ.2.2.2.1 r))) (fun S' => WX Γ θ ρ S' Z) post)) ([.ref (θ.1 6), .ref (ρ.1 k), .int y, va_rf (Option.map θ.2 o)] : List Value).toArray s 0 0 (AA Γ)) (F0 m 43 ls []) := by
  have hx := X.1
  have hb := X.2.1
  intro S a4 hw H locs h ls hl
  unfold wxM_loop_c43 at hw
  refine lv_aload hx hb dxM_loop_43 (lv_at hl 4 rfl) ?_
  refine gx_xM_123 X hG h dxM_loop_45 ?_
  obtain ⟨o1, hw⟩ := hw
  refine x_acmp_ne X hG (tgt := 57) o1 (by decide) dxM_loop_48 (by decide) (fun c2 => ?_) (fun c2 => ?_)
  · have hw := hw.1 c2
    refine lv_aload hx hb dxM_loop_57 (lv_at hl 4 rfl) ?_
    exact z_aret X hr hlk h (Or.inr ⟨_, rfl⟩) ⟨_, _, rfl, rfl, hw⟩ dxM_loop_59
  · have hw := hw.2 c2
    refine gx_xM_166 X hG h dxM_loop_51 ?_
    refine lv_goto (tgt := 59) hx hb dxM_loop_54 (by decide) ?_
    exact z_aret X hr hlk h (Or.inr ⟨_, rfl⟩) ⟨_, _, rfl, rfl, hw⟩ dxM_loop_59
def wxM_loop_c8 (rec : RecT) (post : Nat → Sg → Prop) (ρ : Rh) (k : Nat) (y : Int32) (o : Option Nat) : Nat → Sg → Nat → Int32 → Prop
  | 0, _, _, _ => False
  | d + 1, S, a4, a5 => (k < ρ.2.1) ∧ (((ρ.2.2.1 1 k) ≤ a5) → wxM_loop_c43 rec post ρ k y o S a4) ∧ ((¬ ((ρ.2.2.1 1 k) ≤ a5)) → (a4 < 6) ∧ ((¬ (a4 = 0)) → wxM_loop_c43 rec post ρ k y o S a4) ∧ ((a4 = 0) → rec (fun r5 S6 => wxM_loop_c8 rec post ρ k y o d S6 r5 (a5 + 1)) ρ S (ρ.2.2.1 2 k) y o))
set_option maxHeartbeats 4000000 in
set_option maxRecDepth 100000 in
theorem txM_loop_c8 {p : Program} {l : Launch} {e : Env} {s : State} {m : MethodId} {below : List Frame} {meth : Method} {c : Code} (Γ : Gm) (θ : Th) (ρ : Rh) (Z : va_W) (k : Nat) (y : Int32) (o : Option Nat)  (rec : RecT) (dd : Nat) (hrec : RecM l Γ θ rec dd) (post : Nat → Sg → Prop) (X : CallFix p m c cxM_loop 6 s ([.ref (θ.1 6), .ref (ρ.1 k), .int y, va_rf (Option.map θ.2 o)] : List Value).toArray big RxM) (hr : meth.sig.returnType = (some (.object "ThrowScenario$Way"))) (hlk : meth.locks = false) (hG : GX Γ s s.heap) :
    ∀ (d : Nat) (S : Sg) (a4 : Nat) (a5 : Int32) (hw : wxM_loop_c8 rec post ρ k y o d S a4 a5) (H : Heap) (locs : List Loc) (h : HS Γ s (WX Γ θ ρ S Z) H locs) (ls : Array Slot) (hl : lv_has ls 6 [(0, .ref (θ.1 6)), (1, .ref (ρ.1 k)), (2, .int y), (3, va_rf (Option.map θ.2 o)), (4, .ref (Γ.2.2.2.1 a4)), (5, .int a5)]), W p l e { frames := 2 * dd + 13, cells := 0, slots := 0, locals := 60 * dd + 430 } s m ([.ref (θ.1 6), .ref (ρ.1 k), .int y, va_rf (Option.map θ.2 o)] : List Value).toArray below meth c H locs 0 0 (MQ below (QM Γ (KK (fun r : Nat => some (.ref (Γ.2.2.2.1 r))) (fun S' => WX Γ θ ρ S' Z) post)) ([.ref (θ.1 6), .ref (ρ.1 k), .int y, va_rf (Option.map θ.2 o)] : List Value).toArray s 0 0 (AA Γ)) (F0 m 8 ls []) := by
  have hx := X.1
  have hb := X.2.1
  intro d
  induction d with
  | zero => intro S a4 a5 hw; exact absurd hw (by simp [wxM_loop_c8])
  | succ d ih =>
    intro S a4 a5 hw H locs h ls hl
    rw [wxM_loop_c8] at hw
    refine lv_iload hx hb dxM_loop_8 (lv_at hl 5 rfl) ?_
    refine lv_aload_n hx hb dxM_loop_10 rfl (lv_at hl 1 rfl) ?_
    obtain ⟨o1, hw⟩ := hw
    refine gx_xM_126 X hG h o1 (x := ρ.2.2.1 1 k) rfl dxM_loop_11 ?_
    refine lv_icmp_ge (tgt := 43) hx hb dxM_loop_14 (by decide) (fun c2 => ?_) (fun c2 => ?_)
    · have hw := hw.1 c2
      exact txM_loop_c43 Γ θ ρ Z k y o rec dd hrec post X hr hlk hG S a4 hw _ _ h ls (lv_sub hl [0, 1, 2, 3, 4] rfl)
    · have hw := hw.2 c2
      refine lv_aload hx hb dxM_loop_17 (lv_at hl 4 rfl) ?_
      refine gx_xM_166 X hG h dxM_loop_19 ?_
      obtain ⟨o3, hw⟩ := hw
      refine x_acmp_ne X hG (tgt := 43) o3 (by decide) dxM_loop_22 (by decide) (fun c4 => ?_) (fun c4 => ?_)
      · have hw := hw.1 c4
        exact txM_loop_c43 Γ θ ρ Z k y o rec dd hrec post X hr hlk hG S a4 hw _ _ h ls (lv_sub hl [0, 1, 2, 3, 4] rfl)
      · have hw := hw.2 c4
        refine lv_aload_n hx hb dxM_loop_25 rfl (lv_at hl 0 rfl) ?_
        refine lv_aload_n hx hb dxM_loop_26 rfl (lv_at hl 1 rfl) ?_
        refine gx_xM_139 X hG h o1 (x := ρ.2.2.1 2 k) rfl dxM_loop_27 ?_
        refine lv_iload_n hx hb dxM_loop_30 rfl (lv_at hl 2 rfl) ?_
        refine z_aload_nQ X dxM_loop_31 rfl (lv_at hl 3 rfl) ?_
        refine cx_xM_71 (As := [.int (ρ.2.2.1 2 k), .int y, va_rf (Option.map θ.2 o)]) (rest := []) X hG h hl.1 (hrec  ρ S Z (ρ.2.2.1 2 k) y o _ hw) ⟨show (2 * dd + 12) + 1 ≤ (2 * dd + 13) from by omega, show 8 + (5 + 11) + (60 * dd + 400) ≤ (60 * dd + 430) from by omega⟩ (q0 := 6) rfl rfl (Nat.le_of_ble_eq_true rfl) dxM_loop_32 ⟨Nat.le_of_ble_eq_true rfl, Nat.le_of_ble_eq_true rfl⟩ (fun v W1 hK H locs h => ?_)
        obtain ⟨r5, S6, rfl, rfl, hw⟩ := hK
        refine W.eq (g2 := F0 m 35 ls [.ref (Γ.2.2.2.1 r5)]) rfl ?_
        refine lv_astore (lv' := [(4, .ref (Γ.2.2.2.1 r5)), (0, .ref (θ.1 6)), (1, .ref (ρ.1 k)), (2, .int y), (3, va_rf (Option.map θ.2 o)), (5, .int a5)]) hx hb dxM_loop_35 hl (by decide) (by simp [List.filter_cons, va_rf_cat]) (fun ls hl => ?_)
        refine lv_iinc (v := a5 + 1) (lv' := [(5, .int (a5 + 1)), (4, .ref (Γ.2.2.2.1 r5)), (0, .ref (θ.1 6)), (1, .ref (ρ.1 k)), (2, .int y), (3, va_rf (Option.map θ.2 o))]) hx hb dxM_loop_37 hl (k := 5) rfl rfl (by decide) rfl (fun ls hl => ?_)
        refine lv_goto (tgt := 8) hx hb dxM_loop_40 (by decide) ?_
        exact ih S6 r5 (a5 + 1) hw _ _ h ls (lv_sub hl [2, 3, 4, 5, 1, 0] rfl)
def wxM_loop (rec : RecT) (post : Nat → Sg → Prop) (ρ : Rh) (S : Sg) (k : Nat) (y : Int32) (o : Option Nat) : Prop := ∃ d7 : Nat, wxM_loop_c8 rec post ρ k y o d7 S 0 (0 : Int32)
set_option maxHeartbeats 4000000 in
set_option maxRecDepth 100000 in
theorem mxM_loop (l : Launch) (Γ : Gm) (θ : Th) (ρ : Rh) (S : Sg) (Z : va_W) (k : Nat) (y : Int32) (o : Option Nat) (rec : RecT) (dd : Nat) (hrec : RecM l Γ θ rec dd) (post : Nat → Sg → Prop) (hw : wxM_loop rec post ρ S k y o) : MM l yxM_loop cxM_loop 6 (some (.object "ThrowScenario$Way")) (2 * dd + 13) (60 * dd + 430) Γ [.ref (θ.1 6), .ref (ρ.1 k), .int y, va_rf (Option.map θ.2 o)] (WX Γ θ ρ S Z) (KK (fun r : Nat => some (.ref (Γ.2.2.2.1 r))) (fun S' => WX Γ θ ρ S' Z) post) 0 0 := by
  refine MM_of (by decide) (by cases o <;> exact Nat.le_of_ble_eq_true rfl) ?_
  intro p e s m below meth c X hr hlk hnm hG h ls hl
  have hx := X.1
  have hb := X.2.1
  have hl : lv_has ls 6 [(0, .ref (θ.1 6)), (1, .ref (ρ.1 k)), (2, .int y), (3, va_rf (Option.map θ.2 o))] := hl
  unfold wxM_loop at hw
  refine gx_xM_166 X hG h dxM_loop_0 ?_
  refine lv_astore (lv' := [(4, .ref (Γ.2.2.2.1 0)), (0, .ref (θ.1 6)), (1, .ref (ρ.1 k)), (2, .int y), (3, va_rf (Option.map θ.2 o))]) hx hb dxM_loop_3 hl (by decide) (by simp [List.filter_cons, va_rf_cat]) (fun ls hl => ?_)
  refine lv_iconst (v := 0) hx hb dxM_loop_5 (by decide) ?_
  refine lv_istore (lv' := [(5, .int 0), (4, .ref (Γ.2.2.2.1 0)), (0, .ref (θ.1 6)), (1, .ref (ρ.1 k)), (2, .int y), (3, va_rf (Option.map θ.2 o))]) hx hb dxM_loop_6 hl (by decide) rfl (fun ls hl => ?_)
  obtain ⟨d7, hw⟩ := hw
  exact txM_loop_c8 Γ θ ρ Z k y o rec dd hrec post X hr hlk hG d7 S 0 (0 : Int32) hw _ _ h ls (lv_sub hl [2, 3, 4, 5, 1, 0] rfl)
def wxM_call_c74 (rec : RecT) (post : Nat → Sg → Prop) (ρ : Rh) (k : Nat) (y : Int32) (S : Sg) (a3 : Nat) : Prop := (a3 < 6) ∧ ((a3 = 3) → post a3 S) ∧ ((¬ (a3 = 3)) → (((er a3) = (0 : Int32)) → post 0 S) ∧ ((¬ ((er a3) = (0 : Int32))) → post a3 S))
set_option maxHeartbeats 4000000 in
set_option maxRecDepth 100000 in
theorem txM_call_c74 {p : Program} {l : Launch} {e : Env} {s : State} {m : MethodId} {below : List Frame} {meth : Method} {c : Code} (Γ : Gm) (θ : Th) (ρ : Rh) (Z : va_W) (k : Nat) (y : Int32)  (rec : RecT) (dd : Nat) (hrec : RecM l Γ θ rec dd) (post : Nat → Sg → Prop) (X : CallFix p m c cxM_call 4 s ([.ref (θ.1 6), .ref (ρ.1 k), .int y] : List Value).toArray big RxM) (hr : meth.sig.returnType = (some (.object "ThrowScenario$Way"))) (hlk : meth.locks = false) (hG : GX Γ s s.heap) :
    ∀ (S : Sg) (a3 : Nat) (hw : wxM_call_c74 rec post ρ k y S a3) (H : Heap) (locs : List Loc) (h : HS Γ s (WX Γ θ ρ S Z) H locs) (ls : Array Slot) (hl : lv_has ls 4 [(0, .ref (θ.1 6)), (1, .ref (ρ.1 k)), (2, .int y), (3, .ref (Γ.2.2.2.1 a3))]), W p l e { frames := 2 * dd + 13, cells := 0, slots := 0, locals := 60 * dd + 430 } s m ([.ref (θ.1 6), .ref (ρ.1 k), .int y] : List Value).toArray below meth c H locs 0 0 (MQ below (QM Γ (KK (fun r : Nat => some (.ref (Γ.2.2.2.1 r))) (fun S' => WX Γ θ ρ S' Z) post)) ([.ref (θ.1 6), .ref (ρ.1 k), .int y] : List Value).toArray s 0 0 (AA Γ)) (F0 m 74 ls []) := by
  have hx := X.1
  have hb := X.2.1
  intro S a3 hw H locs h ls hl
  unfold wxM_call_c74 at hw
  refine lv_aload_n hx hb dxM_call_74 rfl (lv_at hl 3 rfl) ?_
  refine gx_xM_178 X hG h dxM_call_75 ?_
  obtain ⟨o1, hw⟩ := hw
  refine x_acmp_eq X hG (tgt := 88) o1 (by decide) dxM_call_78 (by decide) (fun c2 => ?_) (fun c2 => ?_)
  · have hw := hw.1 c2
    refine lv_aload_n hx hb dxM_call_88 rfl (lv_at hl 3 rfl) ?_
    refine lv_goto (tgt := 95) hx hb dxM_call_89 (by decide) ?_
    exact z_aret X hr hlk h (Or.inr ⟨_, rfl⟩) ⟨_, _, rfl, rfl, hw⟩ dxM_call_95
  · have hw := hw.2 c2
    refine lv_aload_n hx hb dxM_call_81 rfl (lv_at hl 3 rfl) ?_
    refine gx_xM_181 X hG h o1 dxM_call_82 ?_
    refine lv_if_eq (tgt := 92) hx hb dxM_call_85 (by decide) (fun c3 => ?_) (fun c3 => ?_)
    · have hw := hw.1 c3
      refine gx_xM_166 X hG h dxM_call_92 ?_
      exact z_aret X hr hlk h (Or.inr ⟨_, rfl⟩) ⟨_, _, rfl, rfl, hw⟩ dxM_call_95
    · have hw := hw.2 c3
      refine lv_aload_n hx hb dxM_call_88 rfl (lv_at hl 3 rfl) ?_
      refine lv_goto (tgt := 95) hx hb dxM_call_89 (by decide) ?_
      exact z_aret X hr hlk h (Or.inr ⟨_, rfl⟩) ⟨_, _, rfl, rfl, hw⟩ dxM_call_95
def wxM_call (rec : RecT) (post : Nat → Sg → Prop) (ρ : Rh) (S : Sg) (k : Nat) (y : Int32) : Prop := (k < ρ.2.1) ∧ wxP_isDefined (fun r2 S3 => ((¬ (r2 = (0 : Int32))) → ((y < (ρ.2.2.1 7 3)) → wxP_statementOf (fun r6 S7 => rec (fun r8 S9 => (r8 < 6) ∧ ((¬ (r8 = 2)) → wxM_call_c74 rec post ρ k y S9 r8) ∧ ((r8 = 2) → (vp_in (0 : Int32) 4) ∧ wxM_call_c74 rec post ρ k y (sR S9 0 0 (S9.1 7 6)) r8)) ρ S7 r6 (y + 1) none) ρ S3 (ρ.2.2.1 1 k)) ∧ ((¬ (y < (ρ.2.2.1 7 3))) → wxM_raise (fun r13 S14 => post r13 S14) ρ S3 (5) (ρ.2.2.1 7 3) none)) ∧ ((r2 = (0 : Int32)) → post 0 S3)) ρ S (ρ.2.2.1 1 k)
set_option maxHeartbeats 4000000 in
set_option maxRecDepth 100000 in
theorem mxM_call (l : Launch) (Γ : Gm) (θ : Th) (ρ : Rh) (S : Sg) (Z : va_W) (k : Nat) (y : Int32) (rec : RecT) (dd : Nat) (hrec : RecM l Γ θ rec dd) (post : Nat → Sg → Prop) (hw : wxM_call rec post ρ S k y) : MM l yxM_call cxM_call 4 (some (.object "ThrowScenario$Way")) (2 * dd + 13) (60 * dd + 430) Γ [.ref (θ.1 6), .ref (ρ.1 k), .int y] (WX Γ θ ρ S Z) (KK (fun r : Nat => some (.ref (Γ.2.2.2.1 r))) (fun S' => WX Γ θ ρ S' Z) post) 0 0 := by
  refine MM_of (by decide) (Nat.le_of_ble_eq_true rfl) ?_
  intro p e s m below meth c X hr hlk hnm hG h ls hl
  have hx := X.1
  have hb := X.2.1
  have hl : lv_has ls 4 [(0, .ref (θ.1 6)), (1, .ref (ρ.1 k)), (2, .int y)] := hl
  unfold wxM_call at hw
  refine lv_aload_n hx hb dxM_call_0 rfl (lv_at hl 0 rfl) ?_
  refine gx_xM_51 X hG h dxM_call_1 ?_
  refine lv_aload_n hx hb dxM_call_4 rfl (lv_at hl 1 rfl) ?_
  obtain ⟨o1, hw⟩ := hw
  refine gx_xM_126 X hG h o1 (x := ρ.2.2.1 1 k) rfl dxM_call_5 ?_
  refine cx_xM_172 (As := [.int (ρ.2.2.1 1 k)]) (rest := []) X hG h hl.1 (mxP_isDefined l Γ θ ρ S Z (ρ.2.2.1 1 k) _ hw) ⟨show 1 + 1 ≤ (2 * dd + 13) from by omega, show 8 + (2 + 11) + 20 ≤ (60 * dd + 430) from by omega⟩ (q0 := 3) rfl rfl (Nat.le_of_ble_eq_true rfl) dxM_call_8 ⟨Nat.le_of_ble_eq_true rfl, Nat.le_of_ble_eq_true rfl⟩ (fun v W1 hK H locs h => ?_)
  obtain ⟨r2, S3, rfl, rfl, hw⟩ := hK
  refine W.eq (g2 := F0 m 11 ls [.int r2]) rfl ?_
  refine lv_if_ne (tgt := 18) hx hb dxM_call_11 (by decide) (fun c4 => ?_) (fun c4 => ?_)
  · have hw := hw.1 c4
    refine lv_iload_n hx hb dxM_call_18 rfl (lv_at hl 2 rfl) ?_
    refine lv_aload_n hx hb dxM_call_19 rfl (lv_at hl 0 rfl) ?_
    refine gx_xM_59 X hG h (x := ρ.2.2.1 7 3) rfl dxM_call_20 ?_
    refine lv_icmp_lt (tgt := 37) hx hb dxM_call_23 (by decide) (fun c5 => ?_) (fun c5 => ?_)
    · have hw := hw.1 c5
      refine lv_aload_n hx hb dxM_call_37 rfl (lv_at hl 0 rfl) ?_
      refine lv_aload_n hx hb dxM_call_38 rfl (lv_at hl 0 rfl) ?_
      refine gx_xM_51 X hG h dxM_call_39 ?_
      refine lv_aload_n hx hb dxM_call_42 rfl (lv_at hl 1 rfl) ?_
      refine gx_xM_126 X hG h o1 (x := ρ.2.2.1 1 k) rfl dxM_call_43 ?_
      refine cx_xM_67 (As := [.int (ρ.2.2.1 1 k)]) (rest := [.ref (θ.1 6)]) X hG h hl.1 (mxP_statementOf l Γ θ ρ S3 Z (ρ.2.2.1 1 k) _ hw) ⟨show 0 + 1 ≤ (2 * dd + 13) from by omega, show 8 + (2 + 11) + 0 ≤ (60 * dd + 430) from by omega⟩ (q0 := 3) rfl rfl (Nat.le_of_ble_eq_true rfl) dxM_call_46 ⟨Nat.le_of_ble_eq_true rfl, Nat.le_of_ble_eq_true rfl⟩ (fun v W1 hK H locs h => ?_)
      obtain ⟨r6, S7, rfl, rfl, hw⟩ := hK
      refine W.eq (g2 := F0 m 49 ls [.int r6, .ref (θ.1 6)]) rfl ?_
      refine lv_iload_n hx hb dxM_call_49 rfl (lv_at hl 2 rfl) ?_
      refine lv_iconst (v := 1) hx hb dxM_call_50 (by decide) ?_
      refine lv_iadd hx hb dxM_call_51 ?_
      refine lv_null hx hb dxM_call_52 ?_
      refine cx_xM_71 (As := [.int r6, .int (y + 1), .null]) (rest := []) X hG h hl.1 (hrec  ρ S7 Z r6 (y + 1) none _ hw) ⟨show (2 * dd + 12) + 1 ≤ (2 * dd + 13) from by omega, show 8 + (5 + 11) + (60 * dd + 400) ≤ (60 * dd + 430) from by omega⟩ (q0 := 6) rfl rfl (Nat.le_of_ble_eq_true rfl) dxM_call_53 ⟨Nat.le_of_ble_eq_true rfl, Nat.le_of_ble_eq_true rfl⟩ (fun v W1 hK H locs h => ?_)
      obtain ⟨r8, S9, rfl, rfl, hw⟩ := hK
      refine W.eq (g2 := F0 m 56 ls [.ref (Γ.2.2.2.1 r8)]) rfl ?_
      refine lv_astore_n (lv' := [(3, .ref (Γ.2.2.2.1 r8)), (0, .ref (θ.1 6)), (1, .ref (ρ.1 k)), (2, .int y)]) hx hb dxM_call_56 rfl hl (by decide) rfl (fun ls hl => ?_)
      refine lv_aload_n hx hb dxM_call_57 rfl (lv_at hl 0 rfl) ?_
      refine gx_xM_129 X hG h dxM_call_58 ?_
      obtain ⟨o10, hw⟩ := hw
      refine x_acmp_ne X hG (tgt := 74) o10 (by decide) dxM_call_61 (by decide) (fun c11 => ?_) (fun c11 => ?_)
      · have hw := hw.1 c11
        exact txM_call_c74 Γ θ ρ Z k y rec dd hrec post X hr hlk hG S9 r8 hw _ _ h ls (lv_sub hl [1, 2, 3, 0] rfl)
      · have hw := hw.2 c11
        refine lv_aload_n hx hb dxM_call_64 rfl (lv_at hl 1 rfl) ?_
        refine gx_xM_11 X hG h dxM_call_65 ?_
        refine lv_iconst (v := 0) hx hb dxM_call_68 (by decide) ?_
        refine lv_aload_n hx hb dxM_call_69 rfl (lv_at hl 1 rfl) ?_
        refine gx_xM_48 X hG h (x := S9.1 7 6) rfl dxM_call_70 ?_
        obtain ⟨o12, hw⟩ := hw
        refine sx_7 X hG h o12 dxM_call_73 (fun H locs h => ?_)
        exact txM_call_c74 Γ θ ρ Z k y rec dd hrec post X hr hlk hG (sR S9 0 0 (S9.1 7 6)) r8 hw _ _ h ls (lv_sub hl [1, 2, 3, 0] rfl)
    · have hw := hw.2 c5
      refine lv_aload_n hx hb dxM_call_26 rfl (lv_at hl 0 rfl) ?_
      refine lv_iconst (v := 5) hx hb dxM_call_27 (by decide) ?_
      refine lv_aload_n hx hb dxM_call_28 rfl (lv_at hl 0 rfl) ?_
      refine gx_xM_59 X hG h (x := ρ.2.2.1 7 3) rfl dxM_call_29 ?_
      refine lv_null hx hb dxM_call_32 ?_
      refine cx_xM_142 (As := [.int 5, .int (ρ.2.2.1 7 3), .null]) (rest := []) X hG h hl.1 (mxM_raise l Γ θ ρ S3 Z (5) (ρ.2.2.1 7 3) none _ hw) ⟨show 1 + 1 ≤ (2 * dd + 13) from by omega, show 8 + (4 + 11) + 23 ≤ (60 * dd + 430) from by omega⟩ (q0 := 6) rfl rfl (Nat.le_of_ble_eq_true rfl) dxM_call_33 ⟨Nat.le_of_ble_eq_true rfl, Nat.le_of_ble_eq_true rfl⟩ (fun v W1 hK H locs h => ?_)
      obtain ⟨r13, S14, rfl, rfl, hw⟩ := hK
      refine W.eq (g2 := F0 m 36 ls [.ref (Γ.2.2.2.1 r13)]) rfl ?_
      exact z_aret X hr hlk h (Or.inr ⟨_, rfl⟩) ⟨_, _, rfl, rfl, hw⟩ dxM_call_36
  · have hw := hw.2 c4
    refine gx_xM_166 X hG h dxM_call_14 ?_
    exact z_aret X hr hlk h (Or.inr ⟨_, rfl⟩) ⟨_, _, rfl, rfl, hw⟩ dxM_call_17
def wxM_tryAndCatch (rec : RecT) (post : Nat → Sg → Prop) (ρ : Rh) (S : Sg) (k : Nat) (y : Int32) (o : Option Nat) : Prop := (k < ρ.2.1) ∧ rec (fun r2 S3 => (r2 < 6) ∧ ((¬ (r2 = 3)) → post r2 S3) ∧ ((r2 = 3) → ∃ j6 : Nat, (S3.2 300) = some j6 ∧ (j6 < 300) ∧ wxC_is (fun r9 S10 => ((¬ (r9 = (0 : Int32))) → wxM_mayBegin (fun r12 S13 => ((r12 = (0 : Int32)) → rec (fun r15 S16 => post r15 S16) ρ S13 (ρ.2.2.1 3 k) y (S13.2 300)) ∧ ((¬ (r12 = (0 : Int32))) → rec (fun r17 S18 => post r17 S18) ρ (sR S13 7 3 ((S13.1 7 3) + 1)) (ρ.2.2.1 3 k) y (S13.2 300))) ρ S10 ) ∧ ((r9 = (0 : Int32)) → post r2 S10)) ρ S3 (S3.1 3 j6) (ρ.2.2.1 2 k))) ρ S (ρ.2.2.1 1 k) y o
set_option maxHeartbeats 4000000 in
set_option maxRecDepth 100000 in
theorem mxM_tryAndCatch (l : Launch) (Γ : Gm) (θ : Th) (ρ : Rh) (S : Sg) (Z : va_W) (k : Nat) (y : Int32) (o : Option Nat) (rec : RecT) (dd : Nat) (hrec : RecM l Γ θ rec dd) (post : Nat → Sg → Prop) (hw : wxM_tryAndCatch rec post ρ S k y o) : MM l yxM_tryAndCatch cxM_tryAndCatch 5 (some (.object "ThrowScenario$Way")) (2 * dd + 13) (60 * dd + 430) Γ [.ref (θ.1 6), .ref (ρ.1 k), .int y, va_rf (Option.map θ.2 o)] (WX Γ θ ρ S Z) (KK (fun r : Nat => some (.ref (Γ.2.2.2.1 r))) (fun S' => WX Γ θ ρ S' Z) post) 0 0 := by
  refine MM_of (by decide) (by cases o <;> exact Nat.le_of_ble_eq_true rfl) ?_
  intro p e s m below meth c X hr hlk hnm hG h ls hl
  have hx := X.1
  have hb := X.2.1
  have hl : lv_has ls 5 [(0, .ref (θ.1 6)), (1, .ref (ρ.1 k)), (2, .int y), (3, va_rf (Option.map θ.2 o))] := hl
  unfold wxM_tryAndCatch at hw
  refine lv_aload_n hx hb dxM_tryAndCatch_0 rfl (lv_at hl 0 rfl) ?_
  refine lv_aload_n hx hb dxM_tryAndCatch_1 rfl (lv_at hl 1 rfl) ?_
  obtain ⟨o1, hw⟩ := hw
  refine gx_xM_126 X hG h o1 (x := ρ.2.2.1 1 k) rfl dxM_tryAndCatch_2 ?_
  refine lv_iload_n hx hb dxM_tryAndCatch_5 rfl (lv_at hl 2 rfl) ?_
  refine z_aload_nQ X dxM_tryAndCatch_6 rfl (lv_at hl 3 rfl) ?_
  refine cx_xM_71 (As := [.int (ρ.2.2.1 1 k), .int y, va_rf (Option.map θ.2 o)]) (rest := []) X hG h hl.1 (hrec  ρ S Z (ρ.2.2.1 1 k) y o _ hw) ⟨show (2 * dd + 12) + 1 ≤ (2 * dd + 13) from by omega, show 8 + (5 + 11) + (60 * dd + 400) ≤ (60 * dd + 430) from by omega⟩ (q0 := 6) rfl rfl (Nat.le_of_ble_eq_true rfl) dxM_tryAndCatch_7 ⟨Nat.le_of_ble_eq_true rfl, Nat.le_of_ble_eq_true rfl⟩ (fun v W1 hK H locs h => ?_)
  obtain ⟨r2, S3, rfl, rfl, hw⟩ := hK
  refine W.eq (g2 := F0 m 10 ls [.ref (Γ.2.2.2.1 r2)]) rfl ?_
  refine lv_astore (lv' := [(4, .ref (Γ.2.2.2.1 r2)), (0, .ref (θ.1 6)), (1, .ref (ρ.1 k)), (2, .int y), (3, va_rf (Option.map θ.2 o))]) hx hb dxM_tryAndCatch_10 hl (by decide) (by simp [List.filter_cons, va_rf_cat]) (fun ls hl => ?_)
  refine lv_aload hx hb dxM_tryAndCatch_12 (lv_at hl 0 rfl) ?_
  refine gx_xM_178 X hG h dxM_tryAndCatch_14 ?_
  obtain ⟨o4, hw⟩ := hw
  refine x_acmp_ne X hG (tgt := 41) o4 (by decide) dxM_tryAndCatch_17 (by decide) (fun c5 => ?_) (fun c5 => ?_)
  · have hw := hw.1 c5
    refine lv_aload hx hb dxM_tryAndCatch_41 (lv_at hl 0 rfl) ?_
    exact z_aret X hr hlk h (Or.inr ⟨_, rfl⟩) ⟨_, _, rfl, rfl, hw⟩ dxM_tryAndCatch_43
  · have hw := hw.2 c5
    refine lv_aload_n hx hb dxM_tryAndCatch_20 rfl (lv_at hl 1 rfl) ?_
    refine gx_xM_55 X hG h dxM_tryAndCatch_21 ?_
    refine lv_aload_n hx hb dxM_tryAndCatch_24 rfl (lv_at hl 1 rfl) ?_
    refine gx_xM_63 X hG h (x := S3.2 300) rfl dxM_tryAndCatch_25 ?_
    obtain ⟨j6, e7, hw⟩ := hw
    refine W.eq (g2 := F0 m 28 ls [.ref (θ.2 j6), .ref (θ.1 1)]) (by rw [e7]; rfl) ?_
    obtain ⟨o8, hw⟩ := hw
    refine gx_xM_185 X hG h o8 (x := S3.1 3 j6) rfl dxM_tryAndCatch_28 ?_
    refine lv_aload_n hx hb dxM_tryAndCatch_31 rfl (lv_at hl 2 rfl) ?_
    refine gx_xM_139 X hG h o1 (x := ρ.2.2.1 2 k) rfl dxM_tryAndCatch_32 ?_
    refine cx_xM_188 (As := [.int (S3.1 3 j6), .int (ρ.2.2.1 2 k)]) (rest := []) X hG h hl.1 (mxC_is l Γ θ ρ S3 Z (S3.1 3 j6) (ρ.2.2.1 2 k) _ hw) ⟨show 1 + 1 ≤ (2 * dd + 13) from by omega, show 8 + (5 + 11) + 21 ≤ (60 * dd + 430) from by omega⟩ (q0 := 1) rfl rfl (Nat.le_of_ble_eq_true rfl) dxM_tryAndCatch_35 ⟨Nat.le_of_ble_eq_true rfl, Nat.le_of_ble_eq_true rfl⟩ (fun v W1 hK H locs h => ?_)
    obtain ⟨r9, S10, rfl, rfl, hw⟩ := hK
    refine W.eq (g2 := F0 m 38 ls [.int r9]) rfl ?_
    refine lv_if_ne (tgt := 44) hx hb dxM_tryAndCatch_38 (by decide) (fun c11 => ?_) (fun c11 => ?_)
    · have hw := hw.1 c11
      refine lv_aload_n hx hb dxM_tryAndCatch_44 rfl (lv_at hl 1 rfl) ?_
      refine cx_xM_75 (As := []) (rest := []) X hG h hl.1 (mxM_mayBegin l Γ θ ρ S10 Z  _ hw) ⟨show 0 + 1 ≤ (2 * dd + 13) from by omega, show 8 + (1 + 11) + 0 ≤ (60 * dd + 430) from by omega⟩ (q0 := 6) rfl rfl (Nat.le_of_ble_eq_true rfl) dxM_tryAndCatch_45 ⟨Nat.le_of_ble_eq_true rfl, Nat.le_of_ble_eq_true rfl⟩ (fun v W1 hK H locs h => ?_)
      obtain ⟨r12, S13, rfl, rfl, hw⟩ := hK
      refine W.eq (g2 := F0 m 48 ls [.int r12]) rfl ?_
      refine lv_if_eq (tgt := 61) hx hb dxM_tryAndCatch_48 (by decide) (fun c14 => ?_) (fun c14 => ?_)
      · have hw := hw.1 c14
        refine lv_aload_n hx hb dxM_tryAndCatch_61 rfl (lv_at hl 1 rfl) ?_
        refine lv_aload_n hx hb dxM_tryAndCatch_62 rfl (lv_at hl 2 rfl) ?_
        refine gx_xM_169 X hG h o1 (x := ρ.2.2.1 3 k) rfl dxM_tryAndCatch_63 ?_
        refine lv_iload_n hx hb dxM_tryAndCatch_66 rfl (lv_at hl 3 rfl) ?_
        refine lv_aload_n hx hb dxM_tryAndCatch_67 rfl (lv_at hl 1 rfl) ?_
        refine gx_xM_63 X hG h (x := S13.2 300) rfl dxM_tryAndCatch_68 ?_
        refine cx_xM_71 (As := [.int (ρ.2.2.1 3 k), .int y, va_rf (Option.map θ.2 (S13.2 300))]) (rest := []) X hG h hl.1 (hrec  ρ S13 Z (ρ.2.2.1 3 k) y (S13.2 300) _ hw) ⟨show (2 * dd + 12) + 1 ≤ (2 * dd + 13) from by omega, show 8 + (5 + 11) + (60 * dd + 400) ≤ (60 * dd + 430) from by omega⟩ (q0 := 6) rfl rfl (Nat.le_of_ble_eq_true rfl) dxM_tryAndCatch_71 ⟨Nat.le_of_ble_eq_true rfl, Nat.le_of_ble_eq_true rfl⟩ (fun v W1 hK H locs h => ?_)
        obtain ⟨r15, S16, rfl, rfl, hw⟩ := hK
        refine W.eq (g2 := F0 m 74 ls [.ref (Γ.2.2.2.1 r15)]) rfl ?_
        exact z_aret X hr hlk h (Or.inr ⟨_, rfl⟩) ⟨_, _, rfl, rfl, hw⟩ dxM_tryAndCatch_74
      · have hw := hw.2 c14
        refine lv_aload_n hx hb dxM_tryAndCatch_51 rfl (lv_at hl 1 rfl) ?_
        refine lv_dup hx hb dxM_tryAndCatch_52 rfl ?_
        refine gx_xM_39 X hG h (x := S13.1 7 3) rfl dxM_tryAndCatch_53 ?_
        refine lv_iconst (v := 1) hx hb dxM_tryAndCatch_56 (by decide) ?_
        refine lv_iadd hx hb dxM_tryAndCatch_57 ?_
        refine px_xM_39 X hG h dxM_tryAndCatch_58 (fun H locs h => ?_)
        refine lv_aload_n hx hb dxM_tryAndCatch_61 rfl (lv_at hl 1 rfl) ?_
        refine lv_aload_n hx hb dxM_tryAndCatch_62 rfl (lv_at hl 2 rfl) ?_
        refine gx_xM_169 X hG h o1 (x := ρ.2.2.1 3 k) rfl dxM_tryAndCatch_63 ?_
        refine lv_iload_n hx hb dxM_tryAndCatch_66 rfl (lv_at hl 3 rfl) ?_
        refine lv_aload_n hx hb dxM_tryAndCatch_67 rfl (lv_at hl 1 rfl) ?_
        refine gx_xM_63 X hG h (x := S13.2 300) rfl dxM_tryAndCatch_68 ?_
        refine cx_xM_71 (As := [.int (ρ.2.2.1 3 k), .int y, va_rf (Option.map θ.2 (S13.2 300))]) (rest := []) X hG h hl.1 (hrec  ρ (sR S13 7 3 ((S13.1 7 3) + 1)) Z (ρ.2.2.1 3 k) y (S13.2 300) _ hw) ⟨show (2 * dd + 12) + 1 ≤ (2 * dd + 13) from by omega, show 8 + (5 + 11) + (60 * dd + 400) ≤ (60 * dd + 430) from by omega⟩ (q0 := 6) rfl rfl (Nat.le_of_ble_eq_true rfl) dxM_tryAndCatch_71 ⟨Nat.le_of_ble_eq_true rfl, Nat.le_of_ble_eq_true rfl⟩ (fun v W1 hK H locs h => ?_)
        obtain ⟨r17, S18, rfl, rfl, hw⟩ := hK
        refine W.eq (g2 := F0 m 74 ls [.ref (Γ.2.2.2.1 r17)]) rfl ?_
        exact z_aret X hr hlk h (Or.inr ⟨_, rfl⟩) ⟨_, _, rfl, rfl, hw⟩ dxM_tryAndCatch_74
    · have hw := hw.2 c11
      refine lv_aload hx hb dxM_tryAndCatch_41 (lv_at hl 0 rfl) ?_
      exact z_aret X hr hlk h (Or.inr ⟨_, rfl⟩) ⟨_, _, rfl, rfl, hw⟩ dxM_tryAndCatch_43
def wxM_doBoth_c136 (rec : RecT) (post : Nat → Sg → Prop) (ρ : Rh) (k : Nat) (y : Int32) (o : Option Nat) (S : Sg) (a4 : Nat) (a5 : Int32) (a6 : Option Nat) : Prop := post a4 (sC (sR S 7 6 a5) 300 a6)
set_option maxHeartbeats 4000000 in
set_option maxRecDepth 100000 in
theorem txM_doBoth_c136 {p : Program} {l : Launch} {e : Env} {s : State} {m : MethodId} {below : List Frame} {meth : Method} {c : Code} (Γ : Gm) (θ : Th) (ρ : Rh) (Z : va_W) (k : Nat) (y : Int32) (o : Option Nat)  (rec : RecT) (dd : Nat) (hrec : RecM l Γ θ rec dd) (post : Nat → Sg → Prop) (X : CallFix p m c cxM_doBoth 9 s ([.ref (θ.1 6), .ref (ρ.1 k), .int y, va_rf (Option.map θ.2 o)] : List Value).toArray big RxM) (hr : meth.sig.returnType = (some (.object "ThrowScenario$Way"))) (hlk : meth.locks = false) (hG : GX Γ s s.heap) :
    ∀ (S : Sg) (a4 : Nat) (a5 : Int32) (a6 : Option Nat) (hw : wxM_doBoth_c136 rec post ρ k y o S a4 a5 a6) (H : Heap) (locs : List Loc) (h : HS Γ s (WX Γ θ ρ S Z) H locs) (ls : Array Slot) (hl : lv_has ls 9 [(0, .ref (θ.1 6)), (1, .ref (ρ.1 k)), (2, .int y), (3, va_rf (Option.map θ.2 o)), (4, .ref (Γ.2.2.2.1 a4)), (5, .int a5), (6, va_rf (Option.map θ.2 a6))]), W p l e { frames := 2 * dd + 13, cells := 0, slots := 0, locals := 60 * dd + 430 } s m ([.ref (θ.1 6), .ref (ρ.1 k), .int y, va_rf (Option.map θ.2 o)] : List Value).toArray below meth c H locs 0 0 (MQ below (QM Γ (KK (fun r : Nat => some (.ref (Γ.2.2.2.1 r))) (fun S' => WX Γ θ ρ S' Z) post)) ([.ref (θ.1 6), .ref (ρ.1 k), .int y, va_rf (Option.map θ.2 o)] : List Value).toArray s 0 0 (AA Γ)) (F0 m 136 ls []) := by
  have hx := X.1
  have hb := X.2.1
  intro S a4 a5 a6 hw H locs h ls hl
  unfold wxM_doBoth_c136 at hw
  refine lv_aload_n hx hb dxM_doBoth_136 rfl (lv_at hl 0 rfl) ?_
  refine lv_iload hx hb dxM_doBoth_137 (lv_at hl 5 rfl) ?_
  refine px_xM_48 X hG h dxM_doBoth_139 (fun H locs h => ?_)
  refine lv_aload_n hx hb dxM_doBoth_142 rfl (lv_at hl 0 rfl) ?_
  refine z_aloadQ X dxM_doBoth_143 (lv_at hl 6 rfl) ?_
  refine px_xM_63 X hG h (o := a6) dxM_doBoth_145 (fun H locs h => ?_)
  refine lv_aload hx hb dxM_doBoth_148 (lv_at hl 4 rfl) ?_
  exact z_aret X hr hlk h (Or.inr ⟨_, rfl⟩) ⟨_, _, rfl, rfl, hw⟩ dxM_doBoth_150
def wxM_doBoth_c112 (rec : RecT) (post : Nat → Sg → Prop) (ρ : Rh) (k : Nat) (y : Int32) (o : Option Nat) (S : Sg) (a4 : Nat) (a5 : Int32) (a6 : Option Nat) (a7 : Nat) (a8 : Int32) : Prop := ((a8 = (0 : Int32)) → wxM_doBoth_c136 rec post ρ k y o S a4 a5 a6) ∧ ((¬ (a8 = (0 : Int32))) → (a7 < 6) ∧ ((¬ (a7 = 3)) → wxM_doBoth_c136 rec post ρ k y o S a4 a5 a6) ∧ ((a7 = 3) → ∃ j4 : Nat, a6 = some j4 ∧ (j4 < 300) ∧ wxM_doBoth_c136 rec post ρ k y o (sR S 6 j4 ((S.1 6 j4) + 1)) a4 a5 (some j4)))
set_option maxHeartbeats 4000000 in
set_option maxRecDepth 100000 in
theorem txM_doBoth_c112 {p : Program} {l : Launch} {e : Env} {s : State} {m : MethodId} {below : List Frame} {meth : Method} {c : Code} (Γ : Gm) (θ : Th) (ρ : Rh) (Z : va_W) (k : Nat) (y : Int32) (o : Option Nat)  (rec : RecT) (dd : Nat) (hrec : RecM l Γ θ rec dd) (post : Nat → Sg → Prop) (X : CallFix p m c cxM_doBoth 9 s ([.ref (θ.1 6), .ref (ρ.1 k), .int y, va_rf (Option.map θ.2 o)] : List Value).toArray big RxM) (hr : meth.sig.returnType = (some (.object "ThrowScenario$Way"))) (hlk : meth.locks = false) (hG : GX Γ s s.heap) :
    ∀ (S : Sg) (a4 : Nat) (a5 : Int32) (a6 : Option Nat) (a7 : Nat) (a8 : Int32) (hw : wxM_doBoth_c112 rec post ρ k y o S a4 a5 a6 a7 a8) (H : Heap) (locs : List Loc) (h : HS Γ s (WX Γ θ ρ S Z) H locs) (ls : Array Slot) (hl : lv_has ls 9 [(0, .ref (θ.1 6)), (1, .ref (ρ.1 k)), (2, .int y), (3, va_rf (Option.map θ.2 o)), (4, .ref (Γ.2.2.2.1 a4)), (5, .int a5), (6, va_rf (Option.map θ.2 a6)), (7, .ref (Γ.2.2.2.1 a7)), (8, .int a8)]), W p l e { frames := 2 * dd + 13, cells := 0, slots := 0, locals := 60 * dd + 430 } s m ([.ref (θ.1 6), .ref (ρ.1 k), .int y, va_rf (Option.map θ.2 o)] : List Value).toArray below meth c H locs 0 0 (MQ below (QM Γ (KK (fun r : Nat => some (.ref (Γ.2.2.2.1 r))) (fun S' => WX Γ θ ρ S' Z) post)) ([.ref (θ.1 6), .ref (ρ.1 k), .int y, va_rf (Option.map θ.2 o)] : List Value).toArray s 0 0 (AA Γ)) (F0 m 112 ls []) := by
  have hx := X.1
  have hb := X.2.1
  intro S a4 a5 a6 a7 a8 hw H locs h ls hl
  unfold wxM_doBoth_c112 at hw
  refine lv_iload hx hb dxM_doBoth_112 (lv_at hl 8 rfl) ?_
  refine lv_if_eq (tgt := 136) hx hb dxM_doBoth_114 (by decide) (fun c1 => ?_) (fun c1 => ?_)
  · have hw := hw.1 c1
    exact txM_doBoth_c136 Γ θ ρ Z k y o rec dd hrec post X hr hlk hG S a4 a5 a6 hw _ _ h ls (lv_sub hl [0, 1, 2, 3, 4, 5, 6] rfl)
  · have hw := hw.2 c1
    refine lv_aload hx hb dxM_doBoth_117 (lv_at hl 7 rfl) ?_
    refine gx_xM_178 X hG h dxM_doBoth_119 ?_
    obtain ⟨o2, hw⟩ := hw
    refine x_acmp_ne X hG (tgt := 136) o2 (by decide) dxM_doBoth_122 (by decide) (fun c3 => ?_) (fun c3 => ?_)
    · have hw := hw.1 c3
      exact txM_doBoth_c136 Γ θ ρ Z k y o rec dd hrec post X hr hlk hG S a4 a5 a6 hw _ _ h ls (lv_sub hl [0, 1, 2, 3, 4, 5, 6] rfl)
    · have hw := hw.2 c3
      refine z_aloadQ X dxM_doBoth_125 (lv_at hl 6 rfl) ?_
      refine lv_dup hx hb dxM_doBoth_127 va_rf_cat ?_
      obtain ⟨j4, e5, hw⟩ := hw
      refine W.eq (g2 := F0 m 128 ls [.ref (θ.2 j4), .ref (θ.2 j4)]) (by rw [e5]; rfl) ?_
      have hl : lv_has ls 9 [(0, .ref (θ.1 6)), (1, .ref (ρ.1 k)), (2, .int y), (3, va_rf (Option.map θ.2 o)), (4, .ref (Γ.2.2.2.1 a4)), (5, .int a5), (6, .ref (θ.2 j4)), (7, .ref (Γ.2.2.2.1 a7)), (8, .int a8)] := by rw [e5] at hl; exact hl
      obtain ⟨o6, hw⟩ := hw
      refine gx_xM_194 X hG h o6 (x := S.1 6 j4) rfl dxM_doBoth_128 ?_
      refine lv_iconst (v := 1) hx hb dxM_doBoth_131 (by decide) ?_
      refine lv_iadd hx hb dxM_doBoth_132 ?_
      refine px_xM_194 X hG h o6 dxM_doBoth_133 (fun H locs h => ?_)
      exact txM_doBoth_c136 Γ θ ρ Z k y o rec dd hrec post X hr hlk hG (sR S 6 j4 ((S.1 6 j4) + 1)) a4 a5 (some j4) hw _ _ h ls (lv_sub hl [0, 1, 2, 3, 4, 5, 6] rfl)
def wxM_doBoth_c94 (rec : RecT) (post : Nat → Sg → Prop) (ρ : Rh) (k : Nat) (y : Int32) (o : Option Nat) (S : Sg) (a4 : Nat) (a5 : Int32) (a6 : Option Nat) (a7 : Nat) (b0 : Int32) : Prop := (a7 < 6) ∧ ((a7 = 0) → wxM_doBoth_c112 rec post ρ k y o S a4 a5 a6 a7 b0) ∧ ((¬ (a7 = 0)) → ((¬ (b0 = (0 : Int32))) → wxM_doBoth_c112 rec post ρ k y o S a4 a5 a6 a7 b0) ∧ ((b0 = (0 : Int32)) → post a7 S))
set_option maxHeartbeats 4000000 in
set_option maxRecDepth 100000 in
theorem txM_doBoth_c94 {p : Program} {l : Launch} {e : Env} {s : State} {m : MethodId} {below : List Frame} {meth : Method} {c : Code} (Γ : Gm) (θ : Th) (ρ : Rh) (Z : va_W) (k : Nat) (y : Int32) (o : Option Nat)  (rec : RecT) (dd : Nat) (hrec : RecM l Γ θ rec dd) (post : Nat → Sg → Prop) (X : CallFix p m c cxM_doBoth 9 s ([.ref (θ.1 6), .ref (ρ.1 k), .int y, va_rf (Option.map θ.2 o)] : List Value).toArray big RxM) (hr : meth.sig.returnType = (some (.object "ThrowScenario$Way"))) (hlk : meth.locks = false) (hG : GX Γ s s.heap) :
    ∀ (S : Sg) (a4 : Nat) (a5 : Int32) (a6 : Option Nat) (a7 : Nat) (b0 : Int32) (hw : wxM_doBoth_c94 rec post ρ k y o S a4 a5 a6 a7 b0) (H : Heap) (locs : List Loc) (h : HS Γ s (WX Γ θ ρ S Z) H locs) (ls : Array Slot) (hl : lv_has ls 9 [(0, .ref (θ.1 6)), (1, .ref (ρ.1 k)), (2, .int y), (3, va_rf (Option.map θ.2 o)), (4, .ref (Γ.2.2.2.1 a4)), (5, .int a5), (6, va_rf (Option.map θ.2 a6)), (7, .ref (Γ.2.2.2.1 a7))]), W p l e { frames := 2 * dd + 13, cells := 0, slots := 0, locals := 60 * dd + 430 } s m ([.ref (θ.1 6), .ref (ρ.1 k), .int y, va_rf (Option.map θ.2 o)] : List Value).toArray below meth c H locs 0 0 (MQ below (QM Γ (KK (fun r : Nat => some (.ref (Γ.2.2.2.1 r))) (fun S' => WX Γ θ ρ S' Z) post)) ([.ref (θ.1 6), .ref (ρ.1 k), .int y, va_rf (Option.map θ.2 o)] : List Value).toArray s 0 0 (AA Γ)) (F0 m 94 ls [.int b0]) := by
  have hx := X.1
  have hb := X.2.1
  intro S a4 a5 a6 a7 b0 hw H locs h ls hl
  unfold wxM_doBoth_c94 at hw
  refine lv_istore (lv' := [(8, .int b0), (0, .ref (θ.1 6)), (1, .ref (ρ.1 k)), (2, .int y), (3, va_rf (Option.map θ.2 o)), (4, .ref (Γ.2.2.2.1 a4)), (5, .int a5), (6, va_rf (Option.map θ.2 a6)), (7, .ref (Γ.2.2.2.1 a7))]) hx hb dxM_doBoth_94 hl (by decide) rfl (fun ls hl => ?_)
  refine lv_aload hx hb dxM_doBoth_96 (lv_at hl 8 rfl) ?_
  refine gx_xM_166 X hG h dxM_doBoth_98 ?_
  obtain ⟨o1, hw⟩ := hw
  refine x_acmp_eq X hG (tgt := 112) o1 (by decide) dxM_doBoth_101 (by decide) (fun c2 => ?_) (fun c2 => ?_)
  · have hw := hw.1 c2
    exact txM_doBoth_c112 Γ θ ρ Z k y o rec dd hrec post X hr hlk hG S a4 a5 a6 a7 b0 hw _ _ h ls (lv_sub hl [1, 2, 3, 4, 5, 6, 7, 8, 0] rfl)
  · have hw := hw.2 c2
    refine lv_iload hx hb dxM_doBoth_104 (lv_at hl 0 rfl) ?_
    refine lv_if_ne (tgt := 112) hx hb dxM_doBoth_106 (by decide) (fun c7 => ?_) (fun c7 => ?_)
    · have hw := hw.1 c7
      exact txM_doBoth_c112 Γ θ ρ Z k y o rec dd hrec post X hr hlk hG S a4 a5 a6 a7 b0 hw _ _ h ls (lv_sub hl [1, 2, 3, 4, 5, 6, 7, 8, 0] rfl)
    · have hw := hw.2 c7
      refine lv_aload hx hb dxM_doBoth_109 (lv_at hl 8 rfl) ?_
      exact z_aret X hr hlk h (Or.inr ⟨_, rfl⟩) ⟨_, _, rfl, rfl, hw⟩ dxM_doBoth_111
def wxM_doBoth_c52 (rec : RecT) (post : Nat → Sg → Prop) (ρ : Rh) (k : Nat) (y : Int32) (o : Option Nat) (S : Sg) (a4 : Nat) (a5 : Int32) (a6 : Option Nat) : Prop := (k < ρ.2.1) ∧ rec (fun r2 S3 => ((¬ ((ρ.2.2.1 0 k) = (15 : Int32))) → wxM_doBoth_c94 rec post ρ k y o S3 a4 a5 a6 r2 (0 : Int32)) ∧ (((ρ.2.2.1 0 k) = (15 : Int32)) → (a4 < 6) ∧ ((¬ (a4 = 3)) → wxM_doBoth_c94 rec post ρ k y o S3 a4 a5 a6 r2 (0 : Int32)) ∧ ((a4 = 3) → (r2 < 6) ∧ ((¬ ((er r2) = (0 : Int32))) → wxM_doBoth_c94 rec post ρ k y o S3 a4 a5 a6 r2 (0 : Int32)) ∧ (((er r2) = (0 : Int32)) → wxM_doBoth_c94 rec post ρ k y o S3 a4 a5 a6 r2 (1 : Int32))))) ρ S (ρ.2.2.1 2 k) y o
set_option maxHeartbeats 4000000 in
set_option maxRecDepth 100000 in
theorem txM_doBoth_c52 {p : Program} {l : Launch} {e : Env} {s : State} {m : MethodId} {below : List Frame} {meth : Method} {c : Code} (Γ : Gm) (θ : Th) (ρ : Rh) (Z : va_W) (k : Nat) (y : Int32) (o : Option Nat)  (rec : RecT) (dd : Nat) (hrec : RecM l Γ θ rec dd) (post : Nat → Sg → Prop) (X : CallFix p m c cxM_doBoth 9 s ([.ref (θ.1 6), .ref (ρ.1 k), .int y, va_rf (Option.map θ.2 o)] : List Value).toArray big RxM) (hr : meth.sig.returnType = (some (.object "ThrowScenario$Way"))) (hlk : meth.locks = false) (hG : GX Γ s s.heap) :
    ∀ (S : Sg) (a4 : Nat) (a5 : Int32) (a6 : Option Nat) (hw : wxM_doBoth_c52 rec post ρ k y o S a4 a5 a6) (H : Heap) (locs : List Loc) (h : HS Γ s (WX Γ θ ρ S Z) H locs) (ls : Array Slot) (hl : lv_has ls 9 [(0, .ref (θ.1 6)), (1, .ref (ρ.1 k)), (2, .int y), (3, va_rf (Option.map θ.2 o)), (4, .ref (Γ.2.2.2.1 a4)), (5, .int a5), (6, va_rf (Option.map θ.2 a6))]), W p l e { frames := 2 * dd + 13, cells := 0, slots := 0, locals := 60 * dd + 430 } s m ([.ref (θ.1 6), .ref (ρ.1 k), .int y, va_rf (Option.map θ.2 o)] : List Value).toArray below meth c H locs 0 0 (MQ below (QM Γ (KK (fun r : Nat => some (.ref (Γ.2.2.2.1 r))) (fun S' => WX Γ θ ρ S' Z) post)) ([.ref (θ.1 6), .ref (ρ.1 k), .int y, va_rf (Option.map θ.2 o)] : List Value).toArray s 0 0 (AA Γ)) (F0 m 52 ls []) := by
  have hx := X.1
  have hb := X.2.1
  intro S a4 a5 a6 hw H locs h ls hl
  unfold wxM_doBoth_c52 at hw
  refine lv_aload_n hx hb dxM_doBoth_52 rfl (lv_at hl 0 rfl) ?_
  refine lv_aload_n hx hb dxM_doBoth_53 rfl (lv_at hl 1 rfl) ?_
  obtain ⟨o1, hw⟩ := hw
  refine gx_xM_139 X hG h o1 (x := ρ.2.2.1 2 k) rfl dxM_doBoth_54 ?_
  refine lv_iload_n hx hb dxM_doBoth_57 rfl (lv_at hl 2 rfl) ?_
  refine z_aload_nQ X dxM_doBoth_58 rfl (lv_at hl 3 rfl) ?_
  refine cx_xM_71 (As := [.int (ρ.2.2.1 2 k), .int y, va_rf (Option.map θ.2 o)]) (rest := []) X hG h hl.1 (hrec  ρ S Z (ρ.2.2.1 2 k) y o _ hw) ⟨show (2 * dd + 12) + 1 ≤ (2 * dd + 13) from by omega, show 8 + (5 + 11) + (60 * dd + 400) ≤ (60 * dd + 430) from by omega⟩ (q0 := 6) rfl rfl (Nat.le_of_ble_eq_true rfl) dxM_doBoth_59 ⟨Nat.le_of_ble_eq_true rfl, Nat.le_of_ble_eq_true rfl⟩ (fun v W1 hK H locs h => ?_)
  obtain ⟨r2, S3, rfl, rfl, hw⟩ := hK
  refine W.eq (g2 := F0 m 62 ls [.ref (Γ.2.2.2.1 r2)]) rfl ?_
  refine lv_astore (lv' := [(7, .ref (Γ.2.2.2.1 r2)), (0, .ref (θ.1 6)), (1, .ref (ρ.1 k)), (2, .int y), (3, va_rf (Option.map θ.2 o)), (4, .ref (Γ.2.2.2.1 a4)), (5, .int a5), (6, va_rf (Option.map θ.2 a6))]) hx hb dxM_doBoth_62 hl (by decide) (by simp [List.filter_cons, va_rf_cat]) (fun ls hl => ?_)
  refine lv_aload_n hx hb dxM_doBoth_64 rfl (lv_at hl 2 rfl) ?_
  refine gx_xM_95 X hG h o1 (x := ρ.2.2.1 0 k) rfl dxM_doBoth_65 ?_
  refine lv_bipush (v := 15) hx hb dxM_doBoth_68 (by decide) ?_
  refine lv_icmp_ne (tgt := 93) hx hb dxM_doBoth_70 (by decide) (fun c4 => ?_) (fun c4 => ?_)
  · have hw := hw.1 c4
    refine lv_iconst (v := 0) hx hb dxM_doBoth_93 (by decide) ?_
    exact txM_doBoth_c94 Γ θ ρ Z k y o rec dd hrec post X hr hlk hG S3 a4 a5 a6 r2 (0 : Int32) hw _ _ h ls (lv_sub hl [1, 2, 3, 4, 5, 6, 7, 0] rfl)
  · have hw := hw.2 c4
    refine lv_aload hx hb dxM_doBoth_73 (lv_at hl 5 rfl) ?_
    refine gx_xM_178 X hG h dxM_doBoth_75 ?_
    obtain ⟨o8, hw⟩ := hw
    refine x_acmp_ne X hG (tgt := 93) o8 (by decide) dxM_doBoth_78 (by decide) (fun c9 => ?_) (fun c9 => ?_)
    · have hw := hw.1 c9
      refine lv_iconst (v := 0) hx hb dxM_doBoth_93 (by decide) ?_
      exact txM_doBoth_c94 Γ θ ρ Z k y o rec dd hrec post X hr hlk hG S3 a4 a5 a6 r2 (0 : Int32) hw _ _ h ls (lv_sub hl [1, 2, 3, 4, 5, 6, 7, 0] rfl)
    · have hw := hw.2 c9
      refine lv_aload hx hb dxM_doBoth_81 (lv_at hl 0 rfl) ?_
      obtain ⟨o10, hw⟩ := hw
      refine gx_xM_181 X hG h o10 dxM_doBoth_83 ?_
      refine lv_if_ne (tgt := 93) hx hb dxM_doBoth_86 (by decide) (fun c11 => ?_) (fun c11 => ?_)
      · have hw := hw.1 c11
        refine lv_iconst (v := 0) hx hb dxM_doBoth_93 (by decide) ?_
        exact txM_doBoth_c94 Γ θ ρ Z k y o rec dd hrec post X hr hlk hG S3 a4 a5 a6 r2 (0 : Int32) hw _ _ h ls (lv_sub hl [1, 2, 3, 4, 5, 6, 7, 0] rfl)
      · have hw := hw.2 c11
        refine lv_iconst (v := 1) hx hb dxM_doBoth_89 (by decide) ?_
        refine lv_goto (tgt := 94) hx hb dxM_doBoth_90 (by decide) ?_
        exact txM_doBoth_c94 Γ θ ρ Z k y o rec dd hrec post X hr hlk hG S3 a4 a5 a6 r2 (1 : Int32) hw _ _ h ls (lv_sub hl [1, 2, 3, 4, 5, 6, 7, 0] rfl)
def wxM_doBoth (rec : RecT) (post : Nat → Sg → Prop) (ρ : Rh) (S : Sg) (k : Nat) (y : Int32) (o : Option Nat) : Prop := (k < ρ.2.1) ∧ rec (fun r2 S3 => (r2 < 6) ∧ (((er r2) = (0 : Int32)) → wxM_mayBegin (fun r6 S7 => ((r6 = (0 : Int32)) → wxM_doBoth_c52 rec post ρ k y o S7 r2 (S3.1 7 6) (S3.2 300)) ∧ ((¬ (r6 = (0 : Int32))) → wxM_doBoth_c52 rec post ρ k y o (sR S7 7 4 ((S7.1 7 4) + 1)) r2 (S3.1 7 6) (S3.2 300))) ρ S3 ) ∧ ((¬ ((er r2) = (0 : Int32))) → post r2 S3)) ρ S (ρ.2.2.1 1 k) y o
set_option maxHeartbeats 4000000 in
set_option maxRecDepth 100000 in
theorem mxM_doBoth (l : Launch) (Γ : Gm) (θ : Th) (ρ : Rh) (S : Sg) (Z : va_W) (k : Nat) (y : Int32) (o : Option Nat) (rec : RecT) (dd : Nat) (hrec : RecM l Γ θ rec dd) (post : Nat → Sg → Prop) (hw : wxM_doBoth rec post ρ S k y o) : MM l yxM_doBoth cxM_doBoth 9 (some (.object "ThrowScenario$Way")) (2 * dd + 13) (60 * dd + 430) Γ [.ref (θ.1 6), .ref (ρ.1 k), .int y, va_rf (Option.map θ.2 o)] (WX Γ θ ρ S Z) (KK (fun r : Nat => some (.ref (Γ.2.2.2.1 r))) (fun S' => WX Γ θ ρ S' Z) post) 0 0 := by
  refine MM_of (by decide) (by cases o <;> exact Nat.le_of_ble_eq_true rfl) ?_
  intro p e s m below meth c X hr hlk hnm hG h ls hl
  have hx := X.1
  have hb := X.2.1
  have hl : lv_has ls 9 [(0, .ref (θ.1 6)), (1, .ref (ρ.1 k)), (2, .int y), (3, va_rf (Option.map θ.2 o))] := hl
  unfold wxM_doBoth at hw
  refine lv_aload_n hx hb dxM_doBoth_0 rfl (lv_at hl 0 rfl) ?_
  refine lv_aload_n hx hb dxM_doBoth_1 rfl (lv_at hl 1 rfl) ?_
  obtain ⟨o1, hw⟩ := hw
  refine gx_xM_126 X hG h o1 (x := ρ.2.2.1 1 k) rfl dxM_doBoth_2 ?_
  refine lv_iload_n hx hb dxM_doBoth_5 rfl (lv_at hl 2 rfl) ?_
  refine z_aload_nQ X dxM_doBoth_6 rfl (lv_at hl 3 rfl) ?_
  refine cx_xM_71 (As := [.int (ρ.2.2.1 1 k), .int y, va_rf (Option.map θ.2 o)]) (rest := []) X hG h hl.1 (hrec  ρ S Z (ρ.2.2.1 1 k) y o _ hw) ⟨show (2 * dd + 12) + 1 ≤ (2 * dd + 13) from by omega, show 8 + (5 + 11) + (60 * dd + 400) ≤ (60 * dd + 430) from by omega⟩ (q0 := 6) rfl rfl (Nat.le_of_ble_eq_true rfl) dxM_doBoth_7 ⟨Nat.le_of_ble_eq_true rfl, Nat.le_of_ble_eq_true rfl⟩ (fun v W1 hK H locs h => ?_)
  obtain ⟨r2, S3, rfl, rfl, hw⟩ := hK
  refine W.eq (g2 := F0 m 10 ls [.ref (Γ.2.2.2.1 r2)]) rfl ?_
  refine lv_astore (lv' := [(4, .ref (Γ.2.2.2.1 r2)), (0, .ref (θ.1 6)), (1, .ref (ρ.1 k)), (2, .int y), (3, va_rf (Option.map θ.2 o))]) hx hb dxM_doBoth_10 hl (by decide) (by simp [List.filter_cons, va_rf_cat]) (fun ls hl => ?_)
  refine lv_aload hx hb dxM_doBoth_12 (lv_at hl 0 rfl) ?_
  obtain ⟨o4, hw⟩ := hw
  refine gx_xM_181 X hG h o4 dxM_doBoth_14 ?_
  refine lv_if_eq (tgt := 23) hx hb dxM_doBoth_17 (by decide) (fun c5 => ?_) (fun c5 => ?_)
  · have hw := hw.1 c5
    refine lv_aload_n hx hb dxM_doBoth_23 rfl (lv_at hl 1 rfl) ?_
    refine gx_xM_48 X hG h (x := S3.1 7 6) rfl dxM_doBoth_24 ?_
    refine lv_istore (lv' := [(5, .int (S3.1 7 6)), (4, .ref (Γ.2.2.2.1 r2)), (0, .ref (θ.1 6)), (1, .ref (ρ.1 k)), (2, .int y), (3, va_rf (Option.map θ.2 o))]) hx hb dxM_doBoth_27 hl (by decide) rfl (fun ls hl => ?_)
    refine lv_aload_n hx hb dxM_doBoth_29 rfl (lv_at hl 2 rfl) ?_
    refine gx_xM_63 X hG h (x := S3.2 300) rfl dxM_doBoth_30 ?_
    refine z_astoreQ (lv' := [(6, va_rf (Option.map θ.2 (S3.2 300))), (5, .int (S3.1 7 6)), (4, .ref (Γ.2.2.2.1 r2)), (0, .ref (θ.1 6)), (1, .ref (ρ.1 k)), (2, .int y), (3, va_rf (Option.map θ.2 o))]) X dxM_doBoth_33 hl (by decide) rfl (fun ls hl => ?_)
    refine lv_aload_n hx hb dxM_doBoth_35 rfl (lv_at hl 3 rfl) ?_
    refine cx_xM_75 (As := []) (rest := []) X hG h hl.1 (mxM_mayBegin l Γ θ ρ S3 Z  _ hw) ⟨show 0 + 1 ≤ (2 * dd + 13) from by omega, show 8 + (1 + 11) + 0 ≤ (60 * dd + 430) from by omega⟩ (q0 := 6) rfl rfl (Nat.le_of_ble_eq_true rfl) dxM_doBoth_36 ⟨Nat.le_of_ble_eq_true rfl, Nat.le_of_ble_eq_true rfl⟩ (fun v W1 hK H locs h => ?_)
    obtain ⟨r6, S7, rfl, rfl, hw⟩ := hK
    refine W.eq (g2 := F0 m 39 ls [.int r6]) rfl ?_
    refine lv_if_eq (tgt := 52) hx hb dxM_doBoth_39 (by decide) (fun c8 => ?_) (fun c8 => ?_)
    · have hw := hw.1 c8
      exact txM_doBoth_c52 Γ θ ρ Z k y o rec dd hrec post X hr hlk hG S7 r2 (S3.1 7 6) (S3.2 300) hw _ _ h ls (lv_sub hl [3, 4, 5, 6, 2, 1, 0] rfl)
    · have hw := hw.2 c8
      refine lv_aload_n hx hb dxM_doBoth_42 rfl (lv_at hl 3 rfl) ?_
      refine lv_dup hx hb dxM_doBoth_43 rfl ?_
      refine gx_xM_42 X hG h (x := S7.1 7 4) rfl dxM_doBoth_44 ?_
      refine lv_iconst (v := 1) hx hb dxM_doBoth_47 (by decide) ?_
      refine lv_iadd hx hb dxM_doBoth_48 ?_
      refine px_xM_42 X hG h dxM_doBoth_49 (fun H locs h => ?_)
      exact txM_doBoth_c52 Γ θ ρ Z k y o rec dd hrec post X hr hlk hG (sR S7 7 4 ((S7.1 7 4) + 1)) r2 (S3.1 7 6) (S3.2 300) hw _ _ h ls (lv_sub hl [3, 4, 5, 6, 2, 1, 0] rfl)
  · have hw := hw.2 c5
    refine lv_aload hx hb dxM_doBoth_20 (lv_at hl 0 rfl) ?_
    exact z_aret X hr hlk h (Or.inr ⟨_, rfl⟩) ⟨_, _, rfl, rfl, hw⟩ dxM_doBoth_22
def wxM_lock (rec : RecT) (post : Nat → Sg → Prop) (ρ : Rh) (S : Sg) (k : Nat) (y : Int32) (o : Option Nat) : Prop := (k < ρ.2.1) ∧ (vp_in (ρ.2.2.1 1 k) 2) ∧ rec (fun r3 S4 => (r3 < 6) ∧ ((¬ ((er r3) = (0 : Int32))) → post r3 S4) ∧ (((er r3) = (0 : Int32)) → post r3 (sR S4 1 ((ρ.2.2.1 1 k).toNatClampNeg) ((S4.1 1 ((ρ.2.2.1 1 k).toNatClampNeg)) - 1)))) ρ (sR S 1 ((ρ.2.2.1 1 k).toNatClampNeg) ((S.1 1 ((ρ.2.2.1 1 k).toNatClampNeg)) + 1)) (ρ.2.2.1 2 k) y o
set_option maxHeartbeats 4000000 in
set_option maxRecDepth 100000 in
theorem mxM_lock (l : Launch) (Γ : Gm) (θ : Th) (ρ : Rh) (S : Sg) (Z : va_W) (k : Nat) (y : Int32) (o : Option Nat) (rec : RecT) (dd : Nat) (hrec : RecM l Γ θ rec dd) (post : Nat → Sg → Prop) (hw : wxM_lock rec post ρ S k y o) : MM l yxM_lock cxM_lock 5 (some (.object "ThrowScenario$Way")) (2 * dd + 13) (60 * dd + 430) Γ [.ref (θ.1 6), .ref (ρ.1 k), .int y, va_rf (Option.map θ.2 o)] (WX Γ θ ρ S Z) (KK (fun r : Nat => some (.ref (Γ.2.2.2.1 r))) (fun S' => WX Γ θ ρ S' Z) post) 0 0 := by
  refine MM_of (by decide) (by cases o <;> exact Nat.le_of_ble_eq_true rfl) ?_
  intro p e s m below meth c X hr hlk hnm hG h ls hl
  have hx := X.1
  have hb := X.2.1
  have hl : lv_has ls 5 [(0, .ref (θ.1 6)), (1, .ref (ρ.1 k)), (2, .int y), (3, va_rf (Option.map θ.2 o))] := hl
  unfold wxM_lock at hw
  refine lv_aload_n hx hb dxM_lock_0 rfl (lv_at hl 0 rfl) ?_
  refine gx_xM_17 X hG h dxM_lock_1 ?_
  refine lv_aload_n hx hb dxM_lock_4 rfl (lv_at hl 1 rfl) ?_
  obtain ⟨o1, hw⟩ := hw
  refine gx_xM_126 X hG h o1 (x := ρ.2.2.1 1 k) rfl dxM_lock_5 ?_
  refine lv_dup2_11 hx hb dxM_lock_8 rfl rfl ?_
  obtain ⟨o2, hw⟩ := hw
  refine lx_8 X hG h o2 (x := S.1 1 ((ρ.2.2.1 1 k).toNatClampNeg)) rfl dxM_lock_9 ?_
  refine lv_iconst (v := 1) hx hb dxM_lock_10 (by decide) ?_
  refine lv_iadd hx hb dxM_lock_11 ?_
  refine sx_8 X hG h o2 dxM_lock_12 (fun H locs h => ?_)
  refine lv_aload_n hx hb dxM_lock_13 rfl (lv_at hl 0 rfl) ?_
  refine lv_aload_n hx hb dxM_lock_14 rfl (lv_at hl 1 rfl) ?_
  refine gx_xM_139 X hG h o1 (x := ρ.2.2.1 2 k) rfl dxM_lock_15 ?_
  refine lv_iload_n hx hb dxM_lock_18 rfl (lv_at hl 2 rfl) ?_
  refine z_aload_nQ X dxM_lock_19 rfl (lv_at hl 3 rfl) ?_
  refine cx_xM_71 (As := [.int (ρ.2.2.1 2 k), .int y, va_rf (Option.map θ.2 o)]) (rest := []) X hG h hl.1 (hrec  ρ (sR S 1 ((ρ.2.2.1 1 k).toNatClampNeg) ((S.1 1 ((ρ.2.2.1 1 k).toNatClampNeg)) + 1)) Z (ρ.2.2.1 2 k) y o _ hw) ⟨show (2 * dd + 12) + 1 ≤ (2 * dd + 13) from by omega, show 8 + (5 + 11) + (60 * dd + 400) ≤ (60 * dd + 430) from by omega⟩ (q0 := 6) rfl rfl (Nat.le_of_ble_eq_true rfl) dxM_lock_20 ⟨Nat.le_of_ble_eq_true rfl, Nat.le_of_ble_eq_true rfl⟩ (fun v W1 hK H locs h => ?_)
  obtain ⟨r3, S4, rfl, rfl, hw⟩ := hK
  refine W.eq (g2 := F0 m 23 ls [.ref (Γ.2.2.2.1 r3)]) rfl ?_
  refine lv_astore (lv' := [(4, .ref (Γ.2.2.2.1 r3)), (0, .ref (θ.1 6)), (1, .ref (ρ.1 k)), (2, .int y), (3, va_rf (Option.map θ.2 o))]) hx hb dxM_lock_23 hl (by decide) (by simp [List.filter_cons, va_rf_cat]) (fun ls hl => ?_)
  refine lv_aload hx hb dxM_lock_25 (lv_at hl 0 rfl) ?_
  obtain ⟨o5, hw⟩ := hw
  refine gx_xM_181 X hG h o5 dxM_lock_27 ?_
  refine lv_if_ne (tgt := 46) hx hb dxM_lock_30 (by decide) (fun c6 => ?_) (fun c6 => ?_)
  · have hw := hw.1 c6
    refine lv_aload hx hb dxM_lock_46 (lv_at hl 0 rfl) ?_
    exact z_aret X hr hlk h (Or.inr ⟨_, rfl⟩) ⟨_, _, rfl, rfl, hw⟩ dxM_lock_48
  · have hw := hw.2 c6
    refine lv_aload_n hx hb dxM_lock_33 rfl (lv_at hl 1 rfl) ?_
    refine gx_xM_17 X hG h dxM_lock_34 ?_
    refine lv_aload_n hx hb dxM_lock_37 rfl (lv_at hl 2 rfl) ?_
    refine gx_xM_126 X hG h o1 (x := ρ.2.2.1 1 k) rfl dxM_lock_38 ?_
    refine lv_dup2_11 hx hb dxM_lock_41 rfl rfl ?_
    refine lx_8 X hG h o2 (x := S4.1 1 ((ρ.2.2.1 1 k).toNatClampNeg)) rfl dxM_lock_42 ?_
    refine lv_iconst (v := 1) hx hb dxM_lock_43 (by decide) ?_
    refine lv_isub hx hb dxM_lock_44 ?_
    refine sx_8 X hG h o2 dxM_lock_45 (fun H locs h => ?_)
    refine lv_aload hx hb dxM_lock_46 (lv_at hl 0 rfl) ?_
    exact z_aret X hr hlk h (Or.inr ⟨_, rfl⟩) ⟨_, _, rfl, rfl, hw⟩ dxM_lock_48
def wxM_performB (rec : RecT) (post : Nat → Sg → Prop) (ρ : Rh) (S : Sg) (x : Int32) (y : Int32) (o : Option Nat) : Prop := wxM_mayBegin (fun r1 S2 => ((¬ (r1 = (0 : Int32))) → wxP_at (fun r4 S5 => (r4 < ρ.2.1) ∧ (((ρ.2.2.1 0 r4).toInt < 4 ∨ 21 < (ρ.2.2.1 0 r4).toInt) → wxM_note (fun r10 S11 => post r10 S11) ρ S5 r4 o) ∧ ((ρ.2.2.1 0 r4) = 4 → wxM_sequence rec (fun r12 S13 => post r12 S13) ρ S5 r4 y o) ∧ ((ρ.2.2.1 0 r4) = 5 → wxM_choose rec (fun r14 S15 => post r14 S15) ρ S5 r4 y o) ∧ ((ρ.2.2.1 0 r4) = 6 → wxM_loop rec (fun r16 S17 => post r16 S17) ρ S5 r4 y o) ∧ ((ρ.2.2.1 0 r4) = 7 → post 1 S5) ∧ ((ρ.2.2.1 0 r4) = 8 → (vp_in (ρ.2.2.1 1 r4) 4) ∧ wxM_carry (fun r19 S20 => post r19 S20) ρ S5 (S5.1 0 ((ρ.2.2.1 1 r4).toNatClampNeg)) 2) ∧ ((ρ.2.2.1 0 r4) = 9 → wxM_call rec (fun r21 S22 => post r21 S22) ρ S5 r4 y) ∧ ((ρ.2.2.1 0 r4) = 10 → wxM_raise (fun r23 S24 => post r23 S24) ρ S5 (ρ.2.2.1 1 r4) (ρ.2.2.1 2 r4) none) ∧ ((ρ.2.2.1 0 r4) = 11 → wxM_rethrow (fun r25 S26 => post r25 S26) ρ S5 o) ∧ ((ρ.2.2.1 0 r4) = 12 → wxM_raise (fun r27 S28 => post r27 S28) ρ S5 (ρ.2.2.1 1 r4) (ρ.2.2.1 2 r4) o) ∧ ((ρ.2.2.1 0 r4) = 13 → wxM_tryAndCatch rec (fun r29 S30 => post r29 S30) ρ S5 r4 y o) ∧ ((ρ.2.2.1 0 r4) = 14 → wxM_doBoth rec (fun r31 S32 => post r31 S32) ρ S5 r4 y o) ∧ ((ρ.2.2.1 0 r4) = 15 → wxM_doBoth rec (fun r33 S34 => post r33 S34) ρ S5 r4 y o) ∧ ((ρ.2.2.1 0 r4) = 16 → wxM_divide (fun r35 S36 => post r35 S36) ρ S5 r4) ∧ ((ρ.2.2.1 0 r4) = 17 → wxM_index (fun r37 S38 => post r37 S38) ρ S5 r4) ∧ ((ρ.2.2.1 0 r4) = 18 → wxM_cast (fun r39 S40 => post r39 S40) ρ S5 r4 o) ∧ ((ρ.2.2.1 0 r4) = 19 → (vp_in (ρ.2.2.1 1 r4) 4) ∧ wxM_carry (fun r42 S43 => post r42 S43) ρ S5 ((S5.1 0 ((ρ.2.2.1 1 r4).toNatClampNeg)) &&& 255) 4) ∧ ((ρ.2.2.1 0 r4) = 20 → wxM_lock rec (fun r44 S45 => post r44 S45) ρ S5 r4 y o) ∧ ((ρ.2.2.1 0 r4) = 21 → wxM_wake (fun r46 S47 => post r46 S47) ρ S5 r4)) ρ (sR (sR S2 7 2 ((S2.1 7 2) + 1)) 7 5 (if (S2.1 7 5) < y then y else (S2.1 7 5))) x) ∧ ((r1 = (0 : Int32)) → post 5 S2)) ρ S 
set_option maxHeartbeats 4000000 in
set_option maxRecDepth 100000 in
theorem mxM_performB (l : Launch) (Γ : Gm) (θ : Th) (ρ : Rh) (S : Sg) (Z : va_W) (x : Int32) (y : Int32) (o : Option Nat) (rec : RecT) (dd : Nat) (hrec : RecM l Γ θ rec dd) (post : Nat → Sg → Prop) (hw : wxM_performB rec post ρ S x y o) : MM l yxM_perform cxM_perform 5 (some (.object "ThrowScenario$Way")) (2 * dd + 14) (60 * dd + 460) Γ [.ref (θ.1 6), .int x, .int y, va_rf (Option.map θ.2 o)] (WX Γ θ ρ S Z) (KK (fun r : Nat => some (.ref (Γ.2.2.2.1 r))) (fun S' => WX Γ θ ρ S' Z) post) 0 0 := by
  refine MM_of (by decide) (by cases o <;> exact Nat.le_of_ble_eq_true rfl) ?_
  intro p e s m below meth c X hr hlk hnm hG h ls hl
  have hx := X.1
  have hb := X.2.1
  have hl : lv_has ls 5 [(0, .ref (θ.1 6)), (1, .int x), (2, .int y), (3, va_rf (Option.map θ.2 o))] := hl
  unfold wxM_performB at hw
  refine lv_aload_n hx hb dxM_perform_0 rfl (lv_at hl 0 rfl) ?_
  refine cx_xM_75 (As := []) (rest := []) X hG h hl.1 (mxM_mayBegin l Γ θ ρ S Z  _ hw) ⟨show 0 + 1 ≤ (2 * dd + 14) from by omega, show 8 + (1 + 11) + 0 ≤ (60 * dd + 460) from by omega⟩ (q0 := 6) rfl rfl (Nat.le_of_ble_eq_true rfl) dxM_perform_1 ⟨Nat.le_of_ble_eq_true rfl, Nat.le_of_ble_eq_true rfl⟩ (fun v W1 hK H locs h => ?_)
  obtain ⟨r1, S2, rfl, rfl, hw⟩ := hK
  refine W.eq (g2 := F0 m 4 ls [.int r1]) rfl ?_
  refine lv_if_ne (tgt := 11) hx hb dxM_perform_4 (by decide) (fun c3 => ?_) (fun c3 => ?_)
  · have hw := hw.1 c3
    refine lv_aload_n hx hb dxM_perform_11 rfl (lv_at hl 0 rfl) ?_
    refine lv_dup hx hb dxM_perform_12 rfl ?_
    refine gx_xM_36 X hG h (x := S2.1 7 2) rfl dxM_perform_13 ?_
    refine lv_iconst (v := 1) hx hb dxM_perform_16 (by decide) ?_
    refine lv_iadd hx hb dxM_perform_17 ?_
    refine px_xM_36 X hG h dxM_perform_18 (fun H locs h => ?_)
    refine lv_aload_n hx hb dxM_perform_21 rfl (lv_at hl 0 rfl) ?_
    refine lv_aload_n hx hb dxM_perform_22 rfl (lv_at hl 0 rfl) ?_
    refine gx_xM_45 X hG h (x := S2.1 7 5) rfl dxM_perform_23 ?_
    refine lv_iload_n hx hb dxM_perform_26 rfl (lv_at hl 2 rfl) ?_
    refine va_mmax hx hb (by rw [hl.1]; exact X.2.2.1) X.2.2.2.1 (X.2.2.2.2 _ kM_xM_85.1) (X.2.2.2.2 _ kM_xM_85.2.1) (X.2.2.2.2 _ kM_xM_85.2.2.1) (X.2.2.2.2 _ kM_xM_85.2.2.2) (show 1 ≤ (2 * dd + 14) from by omega) (Nat.le_trans (Nat.add_le_add_right (m := 8) (Nat.le_of_ble_eq_true rfl) 13) (show 8 + 13 ≤ (60 * dd + 460) from by omega)) (Nat.zero_le _) (Nat.zero_le _) dxM_perform_27 ?_
    refine px_xM_45 X hG h dxM_perform_30 (fun H locs h => ?_)
    refine lv_aload_n hx hb dxM_perform_33 rfl (lv_at hl 0 rfl) ?_
    refine gx_xM_51 X hG h dxM_perform_34 ?_
    refine lv_iload_n hx hb dxM_perform_37 rfl (lv_at hl 1 rfl) ?_
    refine cx_xM_91 (As := [.int x]) (rest := []) X hG h hl.1 (mxP_at l Γ θ ρ (sR (sR S2 7 2 ((S2.1 7 2) + 1)) 7 5 (if (S2.1 7 5) < y then y else (S2.1 7 5))) Z x _ hw) ⟨show 0 + 1 ≤ (2 * dd + 14) from by omega, show 8 + (2 + 11) + 0 ≤ (60 * dd + 460) from by omega⟩ (q0 := 3) rfl rfl (Nat.le_of_ble_eq_true rfl) dxM_perform_38 ⟨Nat.le_of_ble_eq_true rfl, Nat.le_of_ble_eq_true rfl⟩ (fun v W1 hK H locs h => ?_)
    obtain ⟨r4, S5, rfl, rfl, hw⟩ := hK
    refine W.eq (g2 := F0 m 41 ls [.ref (ρ.1 r4)]) rfl ?_
    refine lv_astore (lv' := [(4, .ref (ρ.1 r4)), (0, .ref (θ.1 6)), (1, .int x), (2, .int y), (3, va_rf (Option.map θ.2 o))]) hx hb dxM_perform_41 hl (by decide) (by simp [List.filter_cons, va_rf_cat]) (fun ls hl => ?_)
    refine lv_aload hx hb dxM_perform_43 (lv_at hl 0 rfl) ?_
    obtain ⟨o6, hw⟩ := hw
    refine gx_xM_95 X hG h o6 (x := ρ.2.2.1 0 r4) rfl dxM_perform_45 ?_
    by_cases c7 : (ρ.2.2.1 0 r4).toInt < 4 ∨ 21 < (ρ.2.2.1 0 r4).toInt
    · have hw := hw.1 c7
      refine lv_tableOut (tgt := 309) hx hb dxM_perform_48 c7 (by decide) ?_
      refine lv_aload_n hx hb dxM_perform_309 rfl (lv_at hl 1 rfl) ?_
      refine lv_aload hx hb dxM_perform_310 (lv_at hl 0 rfl) ?_
      refine z_aload_nQ X dxM_perform_312 rfl (lv_at hl 4 rfl) ?_
      refine cx_xM_163 (As := [.ref (ρ.1 r4), va_rf (Option.map θ.2 o)]) (rest := []) X hG h hl.1 (mxM_note l Γ θ ρ S5 Z r4 o _ hw) ⟨show 1 + 1 ≤ (2 * dd + 14) from by omega, show 8 + (3 + 11) + 21 ≤ (60 * dd + 460) from by omega⟩ (q0 := 6) rfl rfl (Nat.le_of_ble_eq_true rfl) dxM_perform_313 ⟨Nat.le_of_ble_eq_true rfl, Nat.le_of_ble_eq_true rfl⟩ (fun v W1 hK H locs h => ?_)
      obtain ⟨r10, S11, rfl, rfl, hw⟩ := hK
      refine W.eq (g2 := F0 m 316 ls [.ref (Γ.2.2.2.1 r10)]) rfl ?_
      exact z_aret X hr hlk h (Or.inr ⟨_, rfl⟩) ⟨_, _, rfl, rfl, hw⟩ dxM_perform_316
    · have hw := hw.2
      obtain ⟨j9, j_h, e8⟩ := sw_in (lo := 4) (n := 17) c7
      match j9, j_h, e8 with
      | 0, _, e8 =>
        have e8 : (ρ.2.2.1 0 r4) = 4 := e8
        have hw := hw.1 e8
        refine lv_tableIn (off := 88) (tgt := 136) hx hb dxM_perform_48 (by rw [e8]; decide) (by rw [e8]; decide) (by rw [e8]; rfl) (by decide) ?_
        refine lv_aload_n hx hb dxM_perform_136 rfl (lv_at hl 1 rfl) ?_
        refine lv_aload hx hb dxM_perform_137 (lv_at hl 0 rfl) ?_
        refine lv_iload_n hx hb dxM_perform_139 rfl (lv_at hl 3 rfl) ?_
        refine z_aload_nQ X dxM_perform_140 rfl (lv_at hl 4 rfl) ?_
        refine cx_xM_100 (As := [.ref (ρ.1 r4), .int y, va_rf (Option.map θ.2 o)]) (rest := []) X hG h hl.1 (mxM_sequence l Γ θ ρ S5 Z r4 y o rec dd hrec _ hw) ⟨show 2 * dd + 13 + 1 ≤ (2 * dd + 14) from by omega, show 8 + (5 + 11) + (60 * dd + 430) ≤ (60 * dd + 460) from by omega⟩ (q0 := 6) rfl rfl (Nat.le_of_ble_eq_true rfl) dxM_perform_141 ⟨Nat.le_of_ble_eq_true rfl, Nat.le_of_ble_eq_true rfl⟩ (fun v W1 hK H locs h => ?_)
        obtain ⟨r12, S13, rfl, rfl, hw⟩ := hK
        refine W.eq (g2 := F0 m 144 ls [.ref (Γ.2.2.2.1 r12)]) rfl ?_
        exact z_aret X hr hlk h (Or.inr ⟨_, rfl⟩) ⟨_, _, rfl, rfl, hw⟩ dxM_perform_144
      | 1, _, e8 =>
        have e8 : (ρ.2.2.1 0 r4) = 5 := e8
        have hw := hw.2.1 e8
        refine lv_tableIn (off := 97) (tgt := 145) hx hb dxM_perform_48 (by rw [e8]; decide) (by rw [e8]; decide) (by rw [e8]; rfl) (by decide) ?_
        refine lv_aload_n hx hb dxM_perform_145 rfl (lv_at hl 1 rfl) ?_
        refine lv_aload hx hb dxM_perform_146 (lv_at hl 0 rfl) ?_
        refine lv_iload_n hx hb dxM_perform_148 rfl (lv_at hl 3 rfl) ?_
        refine z_aload_nQ X dxM_perform_149 rfl (lv_at hl 4 rfl) ?_
        refine cx_xM_104 (As := [.ref (ρ.1 r4), .int y, va_rf (Option.map θ.2 o)]) (rest := []) X hG h hl.1 (mxM_choose l Γ θ ρ S5 Z r4 y o rec dd hrec _ hw) ⟨show 2 * dd + 13 + 1 ≤ (2 * dd + 14) from by omega, show 8 + (5 + 11) + (60 * dd + 430) ≤ (60 * dd + 460) from by omega⟩ (q0 := 6) rfl rfl (Nat.le_of_ble_eq_true rfl) dxM_perform_150 ⟨Nat.le_of_ble_eq_true rfl, Nat.le_of_ble_eq_true rfl⟩ (fun v W1 hK H locs h => ?_)
        obtain ⟨r14, S15, rfl, rfl, hw⟩ := hK
        refine W.eq (g2 := F0 m 153 ls [.ref (Γ.2.2.2.1 r14)]) rfl ?_
        exact z_aret X hr hlk h (Or.inr ⟨_, rfl⟩) ⟨_, _, rfl, rfl, hw⟩ dxM_perform_153
      | 2, _, e8 =>
        have e8 : (ρ.2.2.1 0 r4) = 6 := e8
        have hw := hw.2.2.1 e8
        refine lv_tableIn (off := 106) (tgt := 154) hx hb dxM_perform_48 (by rw [e8]; decide) (by rw [e8]; decide) (by rw [e8]; rfl) (by decide) ?_
        refine lv_aload_n hx hb dxM_perform_154 rfl (lv_at hl 1 rfl) ?_
        refine lv_aload hx hb dxM_perform_155 (lv_at hl 0 rfl) ?_
        refine lv_iload_n hx hb dxM_perform_157 rfl (lv_at hl 3 rfl) ?_
        refine z_aload_nQ X dxM_perform_158 rfl (lv_at hl 4 rfl) ?_
        refine cx_xM_107 (As := [.ref (ρ.1 r4), .int y, va_rf (Option.map θ.2 o)]) (rest := []) X hG h hl.1 (mxM_loop l Γ θ ρ S5 Z r4 y o rec dd hrec _ hw) ⟨show 2 * dd + 13 + 1 ≤ (2 * dd + 14) from by omega, show 8 + (6 + 11) + (60 * dd + 430) ≤ (60 * dd + 460) from by omega⟩ (q0 := 6) rfl rfl (Nat.le_of_ble_eq_true rfl) dxM_perform_159 ⟨Nat.le_of_ble_eq_true rfl, Nat.le_of_ble_eq_true rfl⟩ (fun v W1 hK H locs h => ?_)
        obtain ⟨r16, S17, rfl, rfl, hw⟩ := hK
        refine W.eq (g2 := F0 m 162 ls [.ref (Γ.2.2.2.1 r16)]) rfl ?_
        exact z_aret X hr hlk h (Or.inr ⟨_, rfl⟩) ⟨_, _, rfl, rfl, hw⟩ dxM_perform_162
      | 3, _, e8 =>
        have e8 : (ρ.2.2.1 0 r4) = 7 := e8
        have hw := hw.2.2.2.1 e8
        refine lv_tableIn (off := 150) (tgt := 198) hx hb dxM_perform_48 (by rw [e8]; decide) (by rw [e8]; decide) (by rw [e8]; rfl) (by decide) ?_
        refine gx_xM_123 X hG h dxM_perform_198 ?_
        exact z_aret X hr hlk h (Or.inr ⟨_, rfl⟩) ⟨_, _, rfl, rfl, hw⟩ dxM_perform_201
      | 4, _, e8 =>
        have e8 : (ρ.2.2.1 0 r4) = 8 := e8
        have hw := hw.2.2.2.2.1 e8
        refine lv_tableIn (off := 154) (tgt := 202) hx hb dxM_perform_48 (by rw [e8]; decide) (by rw [e8]; decide) (by rw [e8]; rfl) (by decide) ?_
        refine lv_aload_n hx hb dxM_perform_202 rfl (lv_at hl 1 rfl) ?_
        refine lv_aload_n hx hb dxM_perform_203 rfl (lv_at hl 1 rfl) ?_
        refine gx_xM_11 X hG h dxM_perform_204 ?_
        refine lv_aload hx hb dxM_perform_207 (lv_at hl 0 rfl) ?_
        refine gx_xM_126 X hG h o6 (x := ρ.2.2.1 1 r4) rfl dxM_perform_209 ?_
        obtain ⟨o18, hw⟩ := hw
        refine lx_7 X hG h o18 (x := S5.1 0 ((ρ.2.2.1 1 r4).toNatClampNeg)) rfl dxM_perform_212 ?_
        refine gx_xM_129 X hG h dxM_perform_213 ?_
        refine cx_xM_132 (As := [.int (S5.1 0 ((ρ.2.2.1 1 r4).toNatClampNeg)), .ref (Γ.2.2.2.1 2)]) (rest := []) X hG h hl.1 (mxM_carry l Γ θ ρ S5 Z (S5.1 0 ((ρ.2.2.1 1 r4).toNatClampNeg)) 2 _ hw) ⟨show 0 + 1 ≤ (2 * dd + 14) from by omega, show 8 + (3 + 11) + 0 ≤ (60 * dd + 460) from by omega⟩ (q0 := 6) rfl rfl (Nat.le_of_ble_eq_true rfl) dxM_perform_216 ⟨Nat.le_of_ble_eq_true rfl, Nat.le_of_ble_eq_true rfl⟩ (fun v W1 hK H locs h => ?_)
        obtain ⟨r19, S20, rfl, rfl, hw⟩ := hK
        refine W.eq (g2 := F0 m 219 ls [.ref (Γ.2.2.2.1 r19)]) rfl ?_
        exact z_aret X hr hlk h (Or.inr ⟨_, rfl⟩) ⟨_, _, rfl, rfl, hw⟩ dxM_perform_219
      | 5, _, e8 =>
        have e8 : (ρ.2.2.1 0 r4) = 9 := e8
        have hw := hw.2.2.2.2.2.1 e8
        refine lv_tableIn (off := 115) (tgt := 163) hx hb dxM_perform_48 (by rw [e8]; decide) (by rw [e8]; decide) (by rw [e8]; rfl) (by decide) ?_
        refine lv_aload_n hx hb dxM_perform_163 rfl (lv_at hl 1 rfl) ?_
        refine lv_aload hx hb dxM_perform_164 (lv_at hl 0 rfl) ?_
        refine lv_iload_n hx hb dxM_perform_166 rfl (lv_at hl 3 rfl) ?_
        refine cx_xM_110 (As := [.ref (ρ.1 r4), .int y]) (rest := []) X hG h hl.1 (mxM_call l Γ θ ρ S5 Z r4 y rec dd hrec _ hw) ⟨show 2 * dd + 13 + 1 ≤ (2 * dd + 14) from by omega, show 8 + (4 + 11) + (60 * dd + 430) ≤ (60 * dd + 460) from by omega⟩ (q0 := 6) rfl rfl (Nat.le_of_ble_eq_true rfl) dxM_perform_167 ⟨Nat.le_of_ble_eq_true rfl, Nat.le_of_ble_eq_true rfl⟩ (fun v W1 hK H locs h => ?_)
        obtain ⟨r21, S22, rfl, rfl, hw⟩ := hK
        refine W.eq (g2 := F0 m 170 ls [.ref (Γ.2.2.2.1 r21)]) rfl ?_
        exact z_aret X hr hlk h (Or.inr ⟨_, rfl⟩) ⟨_, _, rfl, rfl, hw⟩ dxM_perform_170
      | 6, _, e8 =>
        have e8 : (ρ.2.2.1 0 r4) = 10 := e8
        have hw := hw.2.2.2.2.2.2.1 e8
        refine lv_tableIn (off := 194) (tgt := 242) hx hb dxM_perform_48 (by rw [e8]; decide) (by rw [e8]; decide) (by rw [e8]; rfl) (by decide) ?_
        refine lv_aload_n hx hb dxM_perform_242 rfl (lv_at hl 1 rfl) ?_
        refine lv_aload hx hb dxM_perform_243 (lv_at hl 0 rfl) ?_
        refine gx_xM_126 X hG h o6 (x := ρ.2.2.1 1 r4) rfl dxM_perform_245 ?_
        refine lv_aload hx hb dxM_perform_248 (lv_at hl 0 rfl) ?_
        refine gx_xM_139 X hG h o6 (x := ρ.2.2.1 2 r4) rfl dxM_perform_250 ?_
        refine lv_null hx hb dxM_perform_253 ?_
        refine cx_xM_142 (As := [.int (ρ.2.2.1 1 r4), .int (ρ.2.2.1 2 r4), .null]) (rest := []) X hG h hl.1 (mxM_raise l Γ θ ρ S5 Z (ρ.2.2.1 1 r4) (ρ.2.2.1 2 r4) none _ hw) ⟨show 1 + 1 ≤ (2 * dd + 14) from by omega, show 8 + (4 + 11) + 23 ≤ (60 * dd + 460) from by omega⟩ (q0 := 6) rfl rfl (Nat.le_of_ble_eq_true rfl) dxM_perform_254 ⟨Nat.le_of_ble_eq_true rfl, Nat.le_of_ble_eq_true rfl⟩ (fun v W1 hK H locs h => ?_)
        obtain ⟨r23, S24, rfl, rfl, hw⟩ := hK
        refine W.eq (g2 := F0 m 257 ls [.ref (Γ.2.2.2.1 r23)]) rfl ?_
        exact z_aret X hr hlk h (Or.inr ⟨_, rfl⟩) ⟨_, _, rfl, rfl, hw⟩ dxM_perform_257
      | 7, _, e8 =>
        have e8 : (ρ.2.2.1 0 r4) = 11 := e8
        have hw := hw.2.2.2.2.2.2.2.1 e8
        refine lv_tableIn (off := 226) (tgt := 274) hx hb dxM_perform_48 (by rw [e8]; decide) (by rw [e8]; decide) (by rw [e8]; rfl) (by decide) ?_
        refine lv_aload_n hx hb dxM_perform_274 rfl (lv_at hl 1 rfl) ?_
        refine z_aload_nQ X dxM_perform_275 rfl (lv_at hl 4 rfl) ?_
        refine cx_xM_145 (As := [va_rf (Option.map θ.2 o)]) (rest := []) X hG h hl.1 (mxM_rethrow l Γ θ ρ S5 Z o _ hw) ⟨show 2 + 1 ≤ (2 * dd + 14) from by omega, show 8 + (2 + 11) + 46 ≤ (60 * dd + 460) from by omega⟩ (q0 := 6) rfl rfl (Nat.le_of_ble_eq_true rfl) dxM_perform_276 ⟨Nat.le_of_ble_eq_true rfl, Nat.le_of_ble_eq_true rfl⟩ (fun v W1 hK H locs h => ?_)
        obtain ⟨r25, S26, rfl, rfl, hw⟩ := hK
        refine W.eq (g2 := F0 m 279 ls [.ref (Γ.2.2.2.1 r25)]) rfl ?_
        exact z_aret X hr hlk h (Or.inr ⟨_, rfl⟩) ⟨_, _, rfl, rfl, hw⟩ dxM_perform_279
      | 8, _, e8 =>
        have e8 : (ρ.2.2.1 0 r4) = 12 := e8
        have hw := hw.2.2.2.2.2.2.2.2.1 e8
        refine lv_tableIn (off := 210) (tgt := 258) hx hb dxM_perform_48 (by rw [e8]; decide) (by rw [e8]; decide) (by rw [e8]; rfl) (by decide) ?_
        refine lv_aload_n hx hb dxM_perform_258 rfl (lv_at hl 1 rfl) ?_
        refine lv_aload hx hb dxM_perform_259 (lv_at hl 0 rfl) ?_
        refine gx_xM_126 X hG h o6 (x := ρ.2.2.1 1 r4) rfl dxM_perform_261 ?_
        refine lv_aload hx hb dxM_perform_264 (lv_at hl 0 rfl) ?_
        refine gx_xM_139 X hG h o6 (x := ρ.2.2.1 2 r4) rfl dxM_perform_266 ?_
        refine z_aload_nQ X dxM_perform_269 rfl (lv_at hl 4 rfl) ?_
        refine cx_xM_142 (As := [.int (ρ.2.2.1 1 r4), .int (ρ.2.2.1 2 r4), va_rf (Option.map θ.2 o)]) (rest := []) X hG h hl.1 (mxM_raise l Γ θ ρ S5 Z (ρ.2.2.1 1 r4) (ρ.2.2.1 2 r4) o _ hw) ⟨show 1 + 1 ≤ (2 * dd + 14) from by omega, show 8 + (4 + 11) + 23 ≤ (60 * dd + 460) from by omega⟩ (q0 := 6) rfl rfl (Nat.le_of_ble_eq_true rfl) dxM_perform_270 ⟨Nat.le_of_ble_eq_true rfl, Nat.le_of_ble_eq_true rfl⟩ (fun v W1 hK H locs h => ?_)
        obtain ⟨r27, S28, rfl, rfl, hw⟩ := hK
        refine W.eq (g2 := F0 m 273 ls [.ref (Γ.2.2.2.1 r27)]) rfl ?_
        exact z_aret X hr hlk h (Or.inr ⟨_, rfl⟩) ⟨_, _, rfl, rfl, hw⟩ dxM_perform_273
      | 9, _, e8 =>
        have e8 : (ρ.2.2.1 0 r4) = 13 := e8
        have hw := hw.2.2.2.2.2.2.2.2.2.1 e8
        refine lv_tableIn (off := 123) (tgt := 171) hx hb dxM_perform_48 (by rw [e8]; decide) (by rw [e8]; decide) (by rw [e8]; rfl) (by decide) ?_
        refine lv_aload_n hx hb dxM_perform_171 rfl (lv_at hl 1 rfl) ?_
        refine lv_aload hx hb dxM_perform_172 (lv_at hl 0 rfl) ?_
        refine lv_iload_n hx hb dxM_perform_174 rfl (lv_at hl 3 rfl) ?_
        refine z_aload_nQ X dxM_perform_175 rfl (lv_at hl 4 rfl) ?_
        refine cx_xM_114 (As := [.ref (ρ.1 r4), .int y, va_rf (Option.map θ.2 o)]) (rest := []) X hG h hl.1 (mxM_tryAndCatch l Γ θ ρ S5 Z r4 y o rec dd hrec _ hw) ⟨show 2 * dd + 13 + 1 ≤ (2 * dd + 14) from by omega, show 8 + (5 + 11) + (60 * dd + 430) ≤ (60 * dd + 460) from by omega⟩ (q0 := 6) rfl rfl (Nat.le_of_ble_eq_true rfl) dxM_perform_176 ⟨Nat.le_of_ble_eq_true rfl, Nat.le_of_ble_eq_true rfl⟩ (fun v W1 hK H locs h => ?_)
        obtain ⟨r29, S30, rfl, rfl, hw⟩ := hK
        refine W.eq (g2 := F0 m 179 ls [.ref (Γ.2.2.2.1 r29)]) rfl ?_
        exact z_aret X hr hlk h (Or.inr ⟨_, rfl⟩) ⟨_, _, rfl, rfl, hw⟩ dxM_perform_179
      | 10, _, e8 =>
        have e8 : (ρ.2.2.1 0 r4) = 14 := e8
        have hw := hw.2.2.2.2.2.2.2.2.2.2.1 e8
        refine lv_tableIn (off := 132) (tgt := 180) hx hb dxM_perform_48 (by rw [e8]; decide) (by rw [e8]; decide) (by rw [e8]; rfl) (by decide) ?_
        refine lv_aload_n hx hb dxM_perform_180 rfl (lv_at hl 1 rfl) ?_
        refine lv_aload hx hb dxM_perform_181 (lv_at hl 0 rfl) ?_
        refine lv_iload_n hx hb dxM_perform_183 rfl (lv_at hl 3 rfl) ?_
        refine z_aload_nQ X dxM_perform_184 rfl (lv_at hl 4 rfl) ?_
        refine cx_xM_117 (As := [.ref (ρ.1 r4), .int y, va_rf (Option.map θ.2 o)]) (rest := []) X hG h hl.1 (mxM_doBoth l Γ θ ρ S5 Z r4 y o rec dd hrec _ hw) ⟨show 2 * dd + 13 + 1 ≤ (2 * dd + 14) from by omega, show 8 + (9 + 11) + (60 * dd + 430) ≤ (60 * dd + 460) from by omega⟩ (q0 := 6) rfl rfl (Nat.le_of_ble_eq_true rfl) dxM_perform_185 ⟨Nat.le_of_ble_eq_true rfl, Nat.le_of_ble_eq_true rfl⟩ (fun v W1 hK H locs h => ?_)
        obtain ⟨r31, S32, rfl, rfl, hw⟩ := hK
        refine W.eq (g2 := F0 m 188 ls [.ref (Γ.2.2.2.1 r31)]) rfl ?_
        exact z_aret X hr hlk h (Or.inr ⟨_, rfl⟩) ⟨_, _, rfl, rfl, hw⟩ dxM_perform_188
      | 11, _, e8 =>
        have e8 : (ρ.2.2.1 0 r4) = 15 := e8
        have hw := hw.2.2.2.2.2.2.2.2.2.2.2.1 e8
        refine lv_tableIn (off := 132) (tgt := 180) hx hb dxM_perform_48 (by rw [e8]; decide) (by rw [e8]; decide) (by rw [e8]; rfl) (by decide) ?_
        refine lv_aload_n hx hb dxM_perform_180 rfl (lv_at hl 1 rfl) ?_
        refine lv_aload hx hb dxM_perform_181 (lv_at hl 0 rfl) ?_
        refine lv_iload_n hx hb dxM_perform_183 rfl (lv_at hl 3 rfl) ?_
        refine z_aload_nQ X dxM_perform_184 rfl (lv_at hl 4 rfl) ?_
        refine cx_xM_117 (As := [.ref (ρ.1 r4), .int y, va_rf (Option.map θ.2 o)]) (rest := []) X hG h hl.1 (mxM_doBoth l Γ θ ρ S5 Z r4 y o rec dd hrec _ hw) ⟨show 2 * dd + 13 + 1 ≤ (2 * dd + 14) from by omega, show 8 + (9 + 11) + (60 * dd + 430) ≤ (60 * dd + 460) from by omega⟩ (q0 := 6) rfl rfl (Nat.le_of_ble_eq_true rfl) dxM_perform_185 ⟨Nat.le_of_ble_eq_true rfl, Nat.le_of_ble_eq_true rfl⟩ (fun v W1 hK H locs h => ?_)
        obtain ⟨r33, S34, rfl, rfl, hw⟩ := hK
        refine W.eq (g2 := F0 m 188 ls [.ref (Γ.2.2.2.1 r33)]) rfl ?_
        exact z_aret X hr hlk h (Or.inr ⟨_, rfl⟩) ⟨_, _, rfl, rfl, hw⟩ dxM_perform_188
      | 12, _, e8 =>
        have e8 : (ρ.2.2.1 0 r4) = 16 := e8
        have hw := hw.2.2.2.2.2.2.2.2.2.2.2.2.1 e8
        refine lv_tableIn (off := 232) (tgt := 280) hx hb dxM_perform_48 (by rw [e8]; decide) (by rw [e8]; decide) (by rw [e8]; rfl) (by decide) ?_
        refine lv_aload_n hx hb dxM_perform_280 rfl (lv_at hl 1 rfl) ?_
        refine lv_aload hx hb dxM_perform_281 (lv_at hl 0 rfl) ?_
        refine cx_xM_149 (As := [.ref (ρ.1 r4)]) (rest := []) X hG h hl.1 (mxM_divide l Γ θ ρ S5 Z r4 _ hw) ⟨show 2 + 1 ≤ (2 * dd + 14) from by omega, show 8 + (3 + 11) + 46 ≤ (60 * dd + 460) from by omega⟩ (q0 := 6) rfl rfl (Nat.le_of_ble_eq_true rfl) dxM_perform_283 ⟨Nat.le_of_ble_eq_true rfl, Nat.le_of_ble_eq_true rfl⟩ (fun v W1 hK H locs h => ?_)
        obtain ⟨r35, S36, rfl, rfl, hw⟩ := hK
        refine W.eq (g2 := F0 m 286 ls [.ref (Γ.2.2.2.1 r35)]) rfl ?_
        exact z_aret X hr hlk h (Or.inr ⟨_, rfl⟩) ⟨_, _, rfl, rfl, hw⟩ dxM_perform_286
      | 13, _, e8 =>
        have e8 : (ρ.2.2.1 0 r4) = 17 := e8
        have hw := hw.2.2.2.2.2.2.2.2.2.2.2.2.2.1 e8
        refine lv_tableIn (off := 239) (tgt := 287) hx hb dxM_perform_48 (by rw [e8]; decide) (by rw [e8]; decide) (by rw [e8]; rfl) (by decide) ?_
        refine lv_aload_n hx hb dxM_perform_287 rfl (lv_at hl 1 rfl) ?_
        refine lv_aload hx hb dxM_perform_288 (lv_at hl 0 rfl) ?_
        refine cx_xM_153 (As := [.ref (ρ.1 r4)]) (rest := []) X hG h hl.1 (mxM_index l Γ θ ρ S5 Z r4 _ hw) ⟨show 2 + 1 ≤ (2 * dd + 14) from by omega, show 8 + (4 + 11) + 46 ≤ (60 * dd + 460) from by omega⟩ (q0 := 6) rfl rfl (Nat.le_of_ble_eq_true rfl) dxM_perform_290 ⟨Nat.le_of_ble_eq_true rfl, Nat.le_of_ble_eq_true rfl⟩ (fun v W1 hK H locs h => ?_)
        obtain ⟨r37, S38, rfl, rfl, hw⟩ := hK
        refine W.eq (g2 := F0 m 293 ls [.ref (Γ.2.2.2.1 r37)]) rfl ?_
        exact z_aret X hr hlk h (Or.inr ⟨_, rfl⟩) ⟨_, _, rfl, rfl, hw⟩ dxM_perform_293
      | 14, _, e8 =>
        have e8 : (ρ.2.2.1 0 r4) = 18 := e8
        have hw := hw.2.2.2.2.2.2.2.2.2.2.2.2.2.2.1 e8
        refine lv_tableIn (off := 246) (tgt := 294) hx hb dxM_perform_48 (by rw [e8]; decide) (by rw [e8]; decide) (by rw [e8]; rfl) (by decide) ?_
        refine lv_aload_n hx hb dxM_perform_294 rfl (lv_at hl 1 rfl) ?_
        refine lv_aload hx hb dxM_perform_295 (lv_at hl 0 rfl) ?_
        refine z_aload_nQ X dxM_perform_297 rfl (lv_at hl 4 rfl) ?_
        refine cx_xM_156 (As := [.ref (ρ.1 r4), va_rf (Option.map θ.2 o)]) (rest := []) X hG h hl.1 (mxM_cast l Γ θ ρ S5 Z r4 o _ hw) ⟨show 2 + 1 ≤ (2 * dd + 14) from by omega, show 8 + (3 + 11) + 46 ≤ (60 * dd + 460) from by omega⟩ (q0 := 6) rfl rfl (Nat.le_of_ble_eq_true rfl) dxM_perform_298 ⟨Nat.le_of_ble_eq_true rfl, Nat.le_of_ble_eq_true rfl⟩ (fun v W1 hK H locs h => ?_)
        obtain ⟨r39, S40, rfl, rfl, hw⟩ := hK
        refine W.eq (g2 := F0 m 301 ls [.ref (Γ.2.2.2.1 r39)]) rfl ?_
        exact z_aret X hr hlk h (Or.inr ⟨_, rfl⟩) ⟨_, _, rfl, rfl, hw⟩ dxM_perform_301
      | 15, _, e8 =>
        have e8 : (ρ.2.2.1 0 r4) = 19 := e8
        have hw := hw.2.2.2.2.2.2.2.2.2.2.2.2.2.2.2.1 e8
        refine lv_tableIn (off := 172) (tgt := 220) hx hb dxM_perform_48 (by rw [e8]; decide) (by rw [e8]; decide) (by rw [e8]; rfl) (by decide) ?_
        refine lv_aload_n hx hb dxM_perform_220 rfl (lv_at hl 1 rfl) ?_
        refine lv_aload_n hx hb dxM_perform_221 rfl (lv_at hl 1 rfl) ?_
        refine gx_xM_11 X hG h dxM_perform_222 ?_
        refine lv_aload hx hb dxM_perform_225 (lv_at hl 0 rfl) ?_
        refine gx_xM_126 X hG h o6 (x := ρ.2.2.1 1 r4) rfl dxM_perform_227 ?_
        obtain ⟨o41, hw⟩ := hw
        refine lx_7 X hG h o41 (x := S5.1 0 ((ρ.2.2.1 1 r4).toNatClampNeg)) rfl dxM_perform_230 ?_
        refine lv_sipush (v := 255) hx hb dxM_perform_231 (by decide) ?_
        refine lv_iand hx hb dxM_perform_234 ?_
        refine gx_xM_136 X hG h dxM_perform_235 ?_
        refine cx_xM_132 (As := [.int ((S5.1 0 ((ρ.2.2.1 1 r4).toNatClampNeg)) &&& 255), .ref (Γ.2.2.2.1 4)]) (rest := []) X hG h hl.1 (mxM_carry l Γ θ ρ S5 Z ((S5.1 0 ((ρ.2.2.1 1 r4).toNatClampNeg)) &&& 255) 4 _ hw) ⟨show 0 + 1 ≤ (2 * dd + 14) from by omega, show 8 + (3 + 11) + 0 ≤ (60 * dd + 460) from by omega⟩ (q0 := 6) rfl rfl (Nat.le_of_ble_eq_true rfl) dxM_perform_238 ⟨Nat.le_of_ble_eq_true rfl, Nat.le_of_ble_eq_true rfl⟩ (fun v W1 hK H locs h => ?_)
        obtain ⟨r42, S43, rfl, rfl, hw⟩ := hK
        refine W.eq (g2 := F0 m 241 ls [.ref (Γ.2.2.2.1 r42)]) rfl ?_
        exact z_aret X hr hlk h (Or.inr ⟨_, rfl⟩) ⟨_, _, rfl, rfl, hw⟩ dxM_perform_241
      | 16, _, e8 =>
        have e8 : (ρ.2.2.1 0 r4) = 20 := e8
        have hw := hw.2.2.2.2.2.2.2.2.2.2.2.2.2.2.2.2.1 e8
        refine lv_tableIn (off := 141) (tgt := 189) hx hb dxM_perform_48 (by rw [e8]; decide) (by rw [e8]; decide) (by rw [e8]; rfl) (by decide) ?_
        refine lv_aload_n hx hb dxM_perform_189 rfl (lv_at hl 1 rfl) ?_
        refine lv_aload hx hb dxM_perform_190 (lv_at hl 0 rfl) ?_
        refine lv_iload_n hx hb dxM_perform_192 rfl (lv_at hl 3 rfl) ?_
        refine z_aload_nQ X dxM_perform_193 rfl (lv_at hl 4 rfl) ?_
        refine cx_xM_120 (As := [.ref (ρ.1 r4), .int y, va_rf (Option.map θ.2 o)]) (rest := []) X hG h hl.1 (mxM_lock l Γ θ ρ S5 Z r4 y o rec dd hrec _ hw) ⟨show 2 * dd + 13 + 1 ≤ (2 * dd + 14) from by omega, show 8 + (5 + 11) + (60 * dd + 430) ≤ (60 * dd + 460) from by omega⟩ (q0 := 6) rfl rfl (Nat.le_of_ble_eq_true rfl) dxM_perform_194 ⟨Nat.le_of_ble_eq_true rfl, Nat.le_of_ble_eq_true rfl⟩ (fun v W1 hK H locs h => ?_)
        obtain ⟨r44, S45, rfl, rfl, hw⟩ := hK
        refine W.eq (g2 := F0 m 197 ls [.ref (Γ.2.2.2.1 r44)]) rfl ?_
        exact z_aret X hr hlk h (Or.inr ⟨_, rfl⟩) ⟨_, _, rfl, rfl, hw⟩ dxM_perform_197
      | 17, _, e8 =>
        have e8 : (ρ.2.2.1 0 r4) = 21 := e8
        have hw := hw.2.2.2.2.2.2.2.2.2.2.2.2.2.2.2.2.2 e8
        refine lv_tableIn (off := 254) (tgt := 302) hx hb dxM_perform_48 (by rw [e8]; decide) (by rw [e8]; decide) (by rw [e8]; rfl) (by decide) ?_
        refine lv_aload_n hx hb dxM_perform_302 rfl (lv_at hl 1 rfl) ?_
        refine lv_aload hx hb dxM_perform_303 (lv_at hl 0 rfl) ?_
        refine cx_xM_160 (As := [.ref (ρ.1 r4)]) (rest := []) X hG h hl.1 (mxM_wake l Γ θ ρ S5 Z r4 _ hw) ⟨show 2 + 1 ≤ (2 * dd + 14) from by omega, show 8 + (2 + 11) + 46 ≤ (60 * dd + 460) from by omega⟩ (q0 := 6) rfl rfl (Nat.le_of_ble_eq_true rfl) dxM_perform_305 ⟨Nat.le_of_ble_eq_true rfl, Nat.le_of_ble_eq_true rfl⟩ (fun v W1 hK H locs h => ?_)
        obtain ⟨r46, S47, rfl, rfl, hw⟩ := hK
        refine W.eq (g2 := F0 m 308 ls [.ref (Γ.2.2.2.1 r46)]) rfl ?_
        exact z_aret X hr hlk h (Or.inr ⟨_, rfl⟩) ⟨_, _, rfl, rfl, hw⟩ dxM_perform_308
      | k + 18, j_h, _ => exact absurd j_h (by omega)
  · have hw := hw.2 c3
    refine gx_xM_79 X hG h dxM_perform_7 ?_
    exact z_aret X hr hlk h (Or.inr ⟨_, rfl⟩) ⟨_, _, rfl, rfl, hw⟩ dxM_perform_10
def wxM_perform : Nat → RecT
  | 0 => fun _ _ _ _ _ _ => False
  | d + 1 => fun post ρ S x y o => wxM_performB (wxM_perform d) post ρ S x y o
theorem mxM_perform (l : Launch) (Γ : Gm) (θ : Th) : ∀ dd : Nat, RecM l Γ θ (wxM_perform dd) dd := by
  intro dd
  induction dd with
  | zero => intro ρ S Z x y o post hw; exact absurd hw (by simp [wxM_perform])
  | succ d ih =>
    intro ρ S Z x y o post hw
    exact mxM_performB l Γ θ ρ S Z x y o (wxM_perform d) d ih post hw
end
