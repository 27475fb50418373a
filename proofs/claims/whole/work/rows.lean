section
-- ===== PART A: goes FIRST, ahead of the names: the tables' words, and 'selects' of the private methods out of them =====
/-- a private method of a class that the tables say can be made, by its rows of tables_1 -/
def lw_okq (q : MethodName × Nat) : Prop := (q.1.cls ≠ "java/lang/invoke/MethodHandle" ∧ q.1.cls ≠ "java/lang/invoke/VarHandle") ∧ Cond.instantiable q.1.cls q.2 ∈ tables_1 ∧ Cond.privateMethod q.1 ∈ tables_1 ∧ Cond.instanceMethod q.1 ∈ tables_1
theorem lw_p0 : lw_okq (⟨"JoinRuntime", "readBuffer", "()I"⟩, 12) := ⟨⟨by decide +kernel, by decide +kernel⟩, List.mem_of_getElem? (i := 19) (by decide +kernel), List.mem_of_getElem? (i := 217) (by decide +kernel), List.mem_of_getElem? (i := 218) (by decide +kernel)⟩
theorem lw_p1 : lw_okq (⟨"JoinRuntime$RuleReader", "acceptInPattern", "(I)Z"⟩, 4) := ⟨⟨by decide +kernel, by decide +kernel⟩, List.mem_of_getElem? (i := 27) (by decide +kernel), List.mem_of_getElem? (i := 240) (by decide +kernel), List.mem_of_getElem? (i := 241) (by decide +kernel)⟩
theorem lw_p2 : lw_okq (⟨"JoinRuntime$RuleReader", "goTo", "(I)Z"⟩, 4) := ⟨⟨by decide +kernel, by decide +kernel⟩, List.mem_of_getElem? (i := 27) (by decide +kernel), List.mem_of_getElem? (i := 260) (by decide +kernel), List.mem_of_getElem? (i := 261) (by decide +kernel)⟩
theorem lw_p3 : lw_okq (⟨"JoinRuntime$RuleReader", "operandOf", "(I)I"⟩, 4) := ⟨⟨by decide +kernel, by decide +kernel⟩, List.mem_of_getElem? (i := 27) (by decide +kernel), List.mem_of_getElem? (i := 264) (by decide +kernel), List.mem_of_getElem? (i := 265) (by decide +kernel)⟩
theorem lw_p4 : lw_okq (⟨"JoinRuntime$RuleReader", "acceptOperand", "(I)Z"⟩, 4) := ⟨⟨by decide +kernel, by decide +kernel⟩, List.mem_of_getElem? (i := 27) (by decide +kernel), List.mem_of_getElem? (i := 272) (by decide +kernel), List.mem_of_getElem? (i := 273) (by decide +kernel)⟩
theorem lw_p5 : lw_okq (⟨"JoinRuntime$RuleReader", "acceptGuardSign", "(I)Z"⟩, 4) := ⟨⟨by decide +kernel, by decide +kernel⟩, List.mem_of_getElem? (i := 27) (by decide +kernel), List.mem_of_getElem? (i := 285) (by decide +kernel), List.mem_of_getElem? (i := 286) (by decide +kernel)⟩
theorem lw_p6 : lw_okq (⟨"JoinRuntime$RuleReader", "acceptTarget", "(I)Z"⟩, 4) := ⟨⟨by decide +kernel, by decide +kernel⟩, List.mem_of_getElem? (i := 27) (by decide +kernel), List.mem_of_getElem? (i := 289) (by decide +kernel), List.mem_of_getElem? (i := 290) (by decide +kernel)⟩
theorem lw_p7 : lw_okq (⟨"JoinRuntime$RuleReader", "acceptReplyChannel", "(I)Z"⟩, 4) := ⟨⟨by decide +kernel, by decide +kernel⟩, List.mem_of_getElem? (i := 27) (by decide +kernel), List.mem_of_getElem? (i := 297) (by decide +kernel), List.mem_of_getElem? (i := 298) (by decide +kernel)⟩
theorem lw_p8 : lw_okq (⟨"JoinRuntime$RuleReader", "goToOperand", "(I)Z"⟩, 4) := ⟨⟨by decide +kernel, by decide +kernel⟩, List.mem_of_getElem? (i := 27) (by decide +kernel), List.mem_of_getElem? (i := 305) (by decide +kernel), List.mem_of_getElem? (i := 306) (by decide +kernel)⟩
theorem lw_p9 : lw_okq (⟨"JoinRuntime$RuleReader", "acceptBehindOperand", "(I)Z"⟩, 4) := ⟨⟨by decide +kernel, by decide +kernel⟩, List.mem_of_getElem? (i := 27) (by decide +kernel), List.mem_of_getElem? (i := 309) (by decide +kernel), List.mem_of_getElem? (i := 310) (by decide +kernel)⟩
theorem lw_p10 : lw_okq (⟨"JoinRuntime", "isEnabled", "(LJoinRuntime$Rule;)Z"⟩, 12) := ⟨⟨by decide +kernel, by decide +kernel⟩, List.mem_of_getElem? (i := 19) (by decide +kernel), List.mem_of_getElem? (i := 335) (by decide +kernel), List.mem_of_getElem? (i := 336) (by decide +kernel)⟩
theorem lw_p11 : lw_okq (⟨"JoinRuntime", "findMatch", "(LJoinRuntime$Rule;)Z"⟩, 12) := ⟨⟨by decide +kernel, by decide +kernel⟩, List.mem_of_getElem? (i := 19) (by decide +kernel), List.mem_of_getElem? (i := 339) (by decide +kernel), List.mem_of_getElem? (i := 340) (by decide +kernel)⟩
theorem lw_p12 : lw_okq (⟨"JoinRuntime", "choicesOf", "(I)I"⟩, 12) := ⟨⟨by decide +kernel, by decide +kernel⟩, List.mem_of_getElem? (i := 19) (by decide +kernel), List.mem_of_getElem? (i := 346) (by decide +kernel), List.mem_of_getElem? (i := 347) (by decide +kernel)⟩
theorem lw_p13 : lw_okq (⟨"JoinRuntime", "valueOf", "(II)I"⟩, 12) := ⟨⟨by decide +kernel, by decide +kernel⟩, List.mem_of_getElem? (i := 19) (by decide +kernel), List.mem_of_getElem? (i := 351) (by decide +kernel), List.mem_of_getElem? (i := 352) (by decide +kernel)⟩
theorem lw_p14 : lw_okq (⟨"JoinRuntime", "choose", "(II)V"⟩, 12) := ⟨⟨by decide +kernel, by decide +kernel⟩, List.mem_of_getElem? (i := 19) (by decide +kernel), List.mem_of_getElem? (i := 363) (by decide +kernel), List.mem_of_getElem? (i := 364) (by decide +kernel)⟩
theorem lw_p15 : lw_okq (⟨"JoinRuntime", "hasRoom", "(LJoinRuntime$Rule;)Z"⟩, 12) := ⟨⟨by decide +kernel, by decide +kernel⟩, List.mem_of_getElem? (i := 19) (by decide +kernel), List.mem_of_getElem? (i := 367) (by decide +kernel), List.mem_of_getElem? (i := 368) (by decide +kernel)⟩
def lw_privs_1 : List (MethodName × Nat) := [(⟨"JoinRuntime", "readBuffer", "()I"⟩, 12), (⟨"JoinRuntime$RuleReader", "acceptInPattern", "(I)Z"⟩, 4), (⟨"JoinRuntime$RuleReader", "goTo", "(I)Z"⟩, 4), (⟨"JoinRuntime$RuleReader", "operandOf", "(I)I"⟩, 4), (⟨"JoinRuntime$RuleReader", "acceptOperand", "(I)Z"⟩, 4), (⟨"JoinRuntime$RuleReader", "acceptGuardSign", "(I)Z"⟩, 4), (⟨"JoinRuntime$RuleReader", "acceptTarget", "(I)Z"⟩, 4), (⟨"JoinRuntime$RuleReader", "acceptReplyChannel", "(I)Z"⟩, 4), (⟨"JoinRuntime$RuleReader", "goToOperand", "(I)Z"⟩, 4), (⟨"JoinRuntime$RuleReader", "acceptBehindOperand", "(I)Z"⟩, 4), (⟨"JoinRuntime", "isEnabled", "(LJoinRuntime$Rule;)Z"⟩, 12), (⟨"JoinRuntime", "findMatch", "(LJoinRuntime$Rule;)Z"⟩, 12), (⟨"JoinRuntime", "choicesOf", "(I)I"⟩, 12), (⟨"JoinRuntime", "valueOf", "(II)I"⟩, 12), (⟨"JoinRuntime", "choose", "(II)V"⟩, 12), (⟨"JoinRuntime", "hasRoom", "(LJoinRuntime$Rule;)Z"⟩, 12)]
theorem lw_r1 : ∀ q ∈ lw_privs_1, lw_okq q := List.forall_mem_cons.mpr ⟨lw_p0, List.forall_mem_cons.mpr ⟨lw_p1, List.forall_mem_cons.mpr ⟨lw_p2, List.forall_mem_cons.mpr ⟨lw_p3, List.forall_mem_cons.mpr ⟨lw_p4, List.forall_mem_cons.mpr ⟨lw_p5, List.forall_mem_cons.mpr ⟨lw_p6, List.forall_mem_cons.mpr ⟨lw_p7, List.forall_mem_cons.mpr ⟨lw_p8, List.forall_mem_cons.mpr ⟨lw_p9, List.forall_mem_cons.mpr ⟨lw_p10, List.forall_mem_cons.mpr ⟨lw_p11, List.forall_mem_cons.mpr ⟨lw_p12, List.forall_mem_cons.mpr ⟨lw_p13, List.forall_mem_cons.mpr ⟨lw_p14, List.forall_mem_cons.mpr ⟨lw_p15, fun _ h => absurd h List.not_mem_nil⟩⟩⟩⟩⟩⟩⟩⟩⟩⟩⟩⟩⟩⟩⟩⟩
theorem lw_p16 : lw_okq (⟨"JoinRuntime", "fireEnabled", "(I)V"⟩, 12) := ⟨⟨by decide +kernel, by decide +kernel⟩, List.mem_of_getElem? (i := 19) (by decide +kernel), List.mem_of_getElem? (i := 385) (by decide +kernel), List.mem_of_getElem? (i := 386) (by decide +kernel)⟩
theorem lw_p17 : lw_okq (⟨"JoinRuntime", "takeMessages", "(LJoinRuntime$Rule;)V"⟩, 12) := ⟨⟨by decide +kernel, by decide +kernel⟩, List.mem_of_getElem? (i := 19) (by decide +kernel), List.mem_of_getElem? (i := 389) (by decide +kernel), List.mem_of_getElem? (i := 390) (by decide +kernel)⟩
theorem lw_p18 : lw_okq (⟨"JoinRuntime$Tickets", "firstKnown", "()I"⟩, 3) := ⟨⟨by decide +kernel, by decide +kernel⟩, List.mem_of_getElem? (i := 106) (by decide +kernel), List.mem_of_getElem? (i := 414) (by decide +kernel), List.mem_of_getElem? (i := 415) (by decide +kernel)⟩
theorem lw_p19 : lw_okq (⟨"JoinRuntime", "carryOut", "(LJoinRuntime$Rule;I)V"⟩, 12) := ⟨⟨by decide +kernel, by decide +kernel⟩, List.mem_of_getElem? (i := 19) (by decide +kernel), List.mem_of_getElem? (i := 418) (by decide +kernel), List.mem_of_getElem? (i := 419) (by decide +kernel)⟩
theorem lw_p20 : lw_okq (⟨"JoinRuntime", "mixRules", "(J)J"⟩, 12) := ⟨⟨by decide +kernel, by decide +kernel⟩, List.mem_of_getElem? (i := 19) (by decide +kernel), List.mem_of_getElem? (i := 482) (by decide +kernel), List.mem_of_getElem? (i := 483) (by decide +kernel)⟩
theorem lw_p21 : lw_okq (⟨"JoinRuntime", "mixBuffer", "(J)J"⟩, 12) := ⟨⟨by decide +kernel, by decide +kernel⟩, List.mem_of_getElem? (i := 19) (by decide +kernel), List.mem_of_getElem? (i := 509) (by decide +kernel), List.mem_of_getElem? (i := 510) (by decide +kernel)⟩
theorem lw_p22 : lw_okq (⟨"java/lang/Throwable", "fillInStackTrace", "(I)Ljava/lang/Throwable;"⟩, 6) := ⟨⟨by decide +kernel, by decide +kernel⟩, List.mem_of_getElem? (i := 560) (by decide +kernel), List.mem_of_getElem? (i := 558) (by decide +kernel), List.mem_of_getElem? (i := 559) (by decide +kernel)⟩
theorem lw_p23 : lw_okq (⟨"JoinRuntime", "requireRule", "(I)V"⟩, 12) := ⟨⟨by decide +kernel, by decide +kernel⟩, List.mem_of_getElem? (i := 19) (by decide +kernel), List.mem_of_getElem? (i := 631) (by decide +kernel), List.mem_of_getElem? (i := 632) (by decide +kernel)⟩
theorem lw_p24 : lw_okq (⟨"JoinRuntime", "requireTicket", "(I)V"⟩, 12) := ⟨⟨by decide +kernel, by decide +kernel⟩, List.mem_of_getElem? (i := 19) (by decide +kernel), List.mem_of_getElem? (i := 732) (by decide +kernel), List.mem_of_getElem? (i := 733) (by decide +kernel)⟩
theorem lw_p25 : lw_okq (⟨"JoinRuntimeModel", "rightLength", "()I"⟩, 53) := ⟨⟨by decide +kernel, by decide +kernel⟩, List.mem_of_getElem? (i := 784) (by decide +kernel), List.mem_of_getElem? (i := 970) (by decide +kernel), List.mem_of_getElem? (i := 971) (by decide +kernel)⟩
theorem lw_p26 : lw_okq (⟨"JoinRuntimeModel", "takes", "(I)Z"⟩, 53) := ⟨⟨by decide +kernel, by decide +kernel⟩, List.mem_of_getElem? (i := 784) (by decide +kernel), List.mem_of_getElem? (i := 974) (by decide +kernel), List.mem_of_getElem? (i := 975) (by decide +kernel)⟩
theorem lw_p27 : lw_okq (⟨"JoinRuntimeModel", "takesPattern", "(I)Z"⟩, 53) := ⟨⟨by decide +kernel, by decide +kernel⟩, List.mem_of_getElem? (i := 784) (by decide +kernel), List.mem_of_getElem? (i := 978) (by decide +kernel), List.mem_of_getElem? (i := 979) (by decide +kernel)⟩
theorem lw_p28 : lw_okq (⟨"JoinRuntimeModel", "takesGuard", "(I)Z"⟩, 53) := ⟨⟨by decide +kernel, by decide +kernel⟩, List.mem_of_getElem? (i := 784) (by decide +kernel), List.mem_of_getElem? (i := 982) (by decide +kernel), List.mem_of_getElem? (i := 983) (by decide +kernel)⟩
theorem lw_p29 : lw_okq (⟨"JoinRuntimeModel", "isOperand", "(I)Z"⟩, 53) := ⟨⟨by decide +kernel, by decide +kernel⟩, List.mem_of_getElem? (i := 784) (by decide +kernel), List.mem_of_getElem? (i := 989) (by decide +kernel), List.mem_of_getElem? (i := 990) (by decide +kernel)⟩
theorem lw_p30 : lw_okq (⟨"JoinRuntimeModel", "isOfPattern", "(I)Z"⟩, 53) := ⟨⟨by decide +kernel, by decide +kernel⟩, List.mem_of_getElem? (i := 784) (by decide +kernel), List.mem_of_getElem? (i := 993) (by decide +kernel), List.mem_of_getElem? (i := 994) (by decide +kernel)⟩
theorem lw_p31 : lw_okq (⟨"JoinRuntimeModel", "takesOutput", "(I)Z"⟩, 53) := ⟨⟨by decide +kernel, by decide +kernel⟩, List.mem_of_getElem? (i := 784) (by decide +kernel), List.mem_of_getElem? (i := 997) (by decide +kernel), List.mem_of_getElem? (i := 998) (by decide +kernel)⟩
def lw_privs_2 : List (MethodName × Nat) := [(⟨"JoinRuntime", "fireEnabled", "(I)V"⟩, 12), (⟨"JoinRuntime", "takeMessages", "(LJoinRuntime$Rule;)V"⟩, 12), (⟨"JoinRuntime$Tickets", "firstKnown", "()I"⟩, 3), (⟨"JoinRuntime", "carryOut", "(LJoinRuntime$Rule;I)V"⟩, 12), (⟨"JoinRuntime", "mixRules", "(J)J"⟩, 12), (⟨"JoinRuntime", "mixBuffer", "(J)J"⟩, 12), (⟨"java/lang/Throwable", "fillInStackTrace", "(I)Ljava/lang/Throwable;"⟩, 6), (⟨"JoinRuntime", "requireRule", "(I)V"⟩, 12), (⟨"JoinRuntime", "requireTicket", "(I)V"⟩, 12), (⟨"JoinRuntimeModel", "rightLength", "()I"⟩, 53), (⟨"JoinRuntimeModel", "takes", "(I)Z"⟩, 53), (⟨"JoinRuntimeModel", "takesPattern", "(I)Z"⟩, 53), (⟨"JoinRuntimeModel", "takesGuard", "(I)Z"⟩, 53), (⟨"JoinRuntimeModel", "isOperand", "(I)Z"⟩, 53), (⟨"JoinRuntimeModel", "isOfPattern", "(I)Z"⟩, 53), (⟨"JoinRuntimeModel", "takesOutput", "(I)Z"⟩, 53)]
theorem lw_r2 : ∀ q ∈ lw_privs_2, lw_okq q := List.forall_mem_cons.mpr ⟨lw_p16, List.forall_mem_cons.mpr ⟨lw_p17, List.forall_mem_cons.mpr ⟨lw_p18, List.forall_mem_cons.mpr ⟨lw_p19, List.forall_mem_cons.mpr ⟨lw_p20, List.forall_mem_cons.mpr ⟨lw_p21, List.forall_mem_cons.mpr ⟨lw_p22, List.forall_mem_cons.mpr ⟨lw_p23, List.forall_mem_cons.mpr ⟨lw_p24, List.forall_mem_cons.mpr ⟨lw_p25, List.forall_mem_cons.mpr ⟨lw_p26, List.forall_mem_cons.mpr ⟨lw_p27, List.forall_mem_cons.mpr ⟨lw_p28, List.forall_mem_cons.mpr ⟨lw_p29, List.forall_mem_cons.mpr ⟨lw_p30, List.forall_mem_cons.mpr ⟨lw_p31, fun _ h => absurd h List.not_mem_nil⟩⟩⟩⟩⟩⟩⟩⟩⟩⟩⟩⟩⟩⟩⟩⟩
theorem lw_p32 : lw_okq (⟨"JoinRuntimeModel", "takesReply", "(I)Z"⟩, 53) := ⟨⟨by decide +kernel, by decide +kernel⟩, List.mem_of_getElem? (i := 784) (by decide +kernel), List.mem_of_getElem? (i := 1001) (by decide +kernel), List.mem_of_getElem? (i := 1002) (by decide +kernel)⟩
theorem lw_p33 : lw_okq (⟨"JoinRuntimeModel", "takesOperand", "(I)Z"⟩, 53) := ⟨⟨by decide +kernel, by decide +kernel⟩, List.mem_of_getElem? (i := 784) (by decide +kernel), List.mem_of_getElem? (i := 1005) (by decide +kernel), List.mem_of_getElem? (i := 1006) (by decide +kernel)⟩
theorem lw_p34 : lw_okq (⟨"JoinRuntimeModel", "takesBehind", "(I)Z"⟩, 53) := ⟨⟨by decide +kernel, by decide +kernel⟩, List.mem_of_getElem? (i := 784) (by decide +kernel), List.mem_of_getElem? (i := 1009) (by decide +kernel), List.mem_of_getElem? (i := 1010) (by decide +kernel)⟩
theorem lw_p35 : lw_okq (⟨"JoinRuntimeModel", "wholeOutputs", "()I"⟩, 53) := ⟨⟨by decide +kernel, by decide +kernel⟩, List.mem_of_getElem? (i := 784) (by decide +kernel), List.mem_of_getElem? (i := 1017) (by decide +kernel), List.mem_of_getElem? (i := 1018) (by decide +kernel)⟩
theorem lw_p36 : lw_okq (⟨"JoinRuntimeModel", "isRule", "(I)Z"⟩, 53) := ⟨⟨by decide +kernel, by decide +kernel⟩, List.mem_of_getElem? (i := 784) (by decide +kernel), List.mem_of_getElem? (i := 1025) (by decide +kernel), List.mem_of_getElem? (i := 1026) (by decide +kernel)⟩
theorem lw_p37 : lw_okq (⟨"JoinRuntimeModel", "copyRule", "(II)V"⟩, 53) := ⟨⟨by decide +kernel, by decide +kernel⟩, List.mem_of_getElem? (i := 784) (by decide +kernel), List.mem_of_getElem? (i := 1029) (by decide +kernel), List.mem_of_getElem? (i := 1030) (by decide +kernel)⟩
theorem lw_p38 : lw_okq (⟨"JoinRuntimeModel", "put", "(III)V"⟩, 53) := ⟨⟨by decide +kernel, by decide +kernel⟩, List.mem_of_getElem? (i := 784) (by decide +kernel), List.mem_of_getElem? (i := 1052) (by decide +kernel), List.mem_of_getElem? (i := 1053) (by decide +kernel)⟩
theorem lw_p39 : lw_okq (⟨"JoinRuntimeModel", "waitingNow", "()I"⟩, 53) := ⟨⟨by decide +kernel, by decide +kernel⟩, List.mem_of_getElem? (i := 784) (by decide +kernel), List.mem_of_getElem? (i := 1068) (by decide +kernel), List.mem_of_getElem? (i := 1069) (by decide +kernel)⟩
theorem lw_p40 : lw_okq (⟨"JoinRuntimeModel", "readyNow", "()I"⟩, 53) := ⟨⟨by decide +kernel, by decide +kernel⟩, List.mem_of_getElem? (i := 784) (by decide +kernel), List.mem_of_getElem? (i := 1076) (by decide +kernel), List.mem_of_getElem? (i := 1077) (by decide +kernel)⟩
theorem lw_p41 : lw_okq (⟨"JoinRuntimeModel", "enabledNow", "()I"⟩, 53) := ⟨⟨by decide +kernel, by decide +kernel⟩, List.mem_of_getElem? (i := 784) (by decide +kernel), List.mem_of_getElem? (i := 1084) (by decide +kernel), List.mem_of_getElem? (i := 1085) (by decide +kernel)⟩
theorem lw_p42 : lw_okq (⟨"JoinRuntimeModel", "isEnabled", "(I)Z"⟩, 53) := ⟨⟨by decide +kernel, by decide +kernel⟩, List.mem_of_getElem? (i := 784) (by decide +kernel), List.mem_of_getElem? (i := 1088) (by decide +kernel), List.mem_of_getElem? (i := 1089) (by decide +kernel)⟩
theorem lw_p43 : lw_okq (⟨"JoinRuntimeModel", "matches", "(I)Z"⟩, 53) := ⟨⟨by decide +kernel, by decide +kernel⟩, List.mem_of_getElem? (i := 784) (by decide +kernel), List.mem_of_getElem? (i := 1092) (by decide +kernel), List.mem_of_getElem? (i := 1093) (by decide +kernel)⟩
theorem lw_p44 : lw_okq (⟨"JoinRuntimeModel", "isGuarded", "(I)Z"⟩, 53) := ⟨⟨by decide +kernel, by decide +kernel⟩, List.mem_of_getElem? (i := 784) (by decide +kernel), List.mem_of_getElem? (i := 1096) (by decide +kernel), List.mem_of_getElem? (i := 1097) (by decide +kernel)⟩
theorem lw_p45 : lw_okq (⟨"JoinRuntimeModel", "operand", "(I)J"⟩, 53) := ⟨⟨by decide +kernel, by decide +kernel⟩, List.mem_of_getElem? (i := 784) (by decide +kernel), List.mem_of_getElem? (i := 1100) (by decide +kernel), List.mem_of_getElem? (i := 1101) (by decide +kernel)⟩
theorem lw_p46 : lw_okq (⟨"JoinRuntimeModel", "goOn", "(I)Z"⟩, 53) := ⟨⟨by decide +kernel, by decide +kernel⟩, List.mem_of_getElem? (i := 784) (by decide +kernel), List.mem_of_getElem? (i := 1104) (by decide +kernel), List.mem_of_getElem? (i := 1105) (by decide +kernel)⟩
theorem lw_p47 : lw_okq (⟨"JoinRuntimeModel", "hasRoom", "(I)Z"⟩, 53) := ⟨⟨by decide +kernel, by decide +kernel⟩, List.mem_of_getElem? (i := 784) (by decide +kernel), List.mem_of_getElem? (i := 1108) (by decide +kernel), List.mem_of_getElem? (i := 1109) (by decide +kernel)⟩
def lw_privs_3 : List (MethodName × Nat) := [(⟨"JoinRuntimeModel", "takesReply", "(I)Z"⟩, 53), (⟨"JoinRuntimeModel", "takesOperand", "(I)Z"⟩, 53), (⟨"JoinRuntimeModel", "takesBehind", "(I)Z"⟩, 53), (⟨"JoinRuntimeModel", "wholeOutputs", "()I"⟩, 53), (⟨"JoinRuntimeModel", "isRule", "(I)Z"⟩, 53), (⟨"JoinRuntimeModel", "copyRule", "(II)V"⟩, 53), (⟨"JoinRuntimeModel", "put", "(III)V"⟩, 53), (⟨"JoinRuntimeModel", "waitingNow", "()I"⟩, 53), (⟨"JoinRuntimeModel", "readyNow", "()I"⟩, 53), (⟨"JoinRuntimeModel", "enabledNow", "()I"⟩, 53), (⟨"JoinRuntimeModel", "isEnabled", "(I)Z"⟩, 53), (⟨"JoinRuntimeModel", "matches", "(I)Z"⟩, 53), (⟨"JoinRuntimeModel", "isGuarded", "(I)Z"⟩, 53), (⟨"JoinRuntimeModel", "operand", "(I)J"⟩, 53), (⟨"JoinRuntimeModel", "goOn", "(I)Z"⟩, 53), (⟨"JoinRuntimeModel", "hasRoom", "(I)Z"⟩, 53)]
theorem lw_r3 : ∀ q ∈ lw_privs_3, lw_okq q := List.forall_mem_cons.mpr ⟨lw_p32, List.forall_mem_cons.mpr ⟨lw_p33, List.forall_mem_cons.mpr ⟨lw_p34, List.forall_mem_cons.mpr ⟨lw_p35, List.forall_mem_cons.mpr ⟨lw_p36, List.forall_mem_cons.mpr ⟨lw_p37, List.forall_mem_cons.mpr ⟨lw_p38, List.forall_mem_cons.mpr ⟨lw_p39, List.forall_mem_cons.mpr ⟨lw_p40, List.forall_mem_cons.mpr ⟨lw_p41, List.forall_mem_cons.mpr ⟨lw_p42, List.forall_mem_cons.mpr ⟨lw_p43, List.forall_mem_cons.mpr ⟨lw_p44, List.forall_mem_cons.mpr ⟨lw_p45, List.forall_mem_cons.mpr ⟨lw_p46, List.forall_mem_cons.mpr ⟨lw_p47, fun _ h => absurd h List.not_mem_nil⟩⟩⟩⟩⟩⟩⟩⟩⟩⟩⟩⟩⟩⟩⟩⟩
theorem lw_p48 : lw_okq (⟨"JoinRuntimeModel", "nextNow", "()I"⟩, 53) := ⟨⟨by decide +kernel, by decide +kernel⟩, List.mem_of_getElem? (i := 784) (by decide +kernel), List.mem_of_getElem? (i := 1120) (by decide +kernel), List.mem_of_getElem? (i := 1121) (by decide +kernel)⟩
theorem lw_p49 : lw_okq (⟨"JoinRuntimeModel", "fireNow", "(I)V"⟩, 53) := ⟨⟨by decide +kernel, by decide +kernel⟩, List.mem_of_getElem? (i := 784) (by decide +kernel), List.mem_of_getElem? (i := 1128) (by decide +kernel), List.mem_of_getElem? (i := 1129) (by decide +kernel)⟩
theorem lw_p50 : lw_okq (⟨"JoinRuntimeModel", "consume", "(I)V"⟩, 53) := ⟨⟨by decide +kernel, by decide +kernel⟩, List.mem_of_getElem? (i := 784) (by decide +kernel), List.mem_of_getElem? (i := 1132) (by decide +kernel), List.mem_of_getElem? (i := 1133) (by decide +kernel)⟩
theorem lw_p51 : lw_okq (⟨"JoinRuntimeModel", "settle", "(III)V"⟩, 53) := ⟨⟨by decide +kernel, by decide +kernel⟩, List.mem_of_getElem? (i := 784) (by decide +kernel), List.mem_of_getElem? (i := 1136) (by decide +kernel), List.mem_of_getElem? (i := 1137) (by decide +kernel)⟩
theorem lw_p52 : lw_okq (⟨"JoinRuntimeModel", "isKnown", "(I)Z"⟩, 53) := ⟨⟨by decide +kernel, by decide +kernel⟩, List.mem_of_getElem? (i := 784) (by decide +kernel), List.mem_of_getElem? (i := 1140) (by decide +kernel), List.mem_of_getElem? (i := 1141) (by decide +kernel)⟩
theorem lw_p53 : lw_okq (⟨"JoinRuntimeModel", "computed", "(II)I"⟩, 53) := ⟨⟨by decide +kernel, by decide +kernel⟩, List.mem_of_getElem? (i := 784) (by decide +kernel), List.mem_of_getElem? (i := 1144) (by decide +kernel), List.mem_of_getElem? (i := 1145) (by decide +kernel)⟩
theorem lw_p54 : lw_okq (⟨"JoinRuntimeModel", "messages", "()I"⟩, 53) := ⟨⟨by decide +kernel, by decide +kernel⟩, List.mem_of_getElem? (i := 784) (by decide +kernel), List.mem_of_getElem? (i := 1200) (by decide +kernel), List.mem_of_getElem? (i := 1201) (by decide +kernel)⟩
theorem lw_p55 : lw_okq (⟨"JoinRuntimeModel", "mix", "(J)V"⟩, 53) := ⟨⟨by decide +kernel, by decide +kernel⟩, List.mem_of_getElem? (i := 784) (by decide +kernel), List.mem_of_getElem? (i := 1213) (by decide +kernel), List.mem_of_getElem? (i := 1214) (by decide +kernel)⟩
theorem lw_p56 : lw_okq (⟨"JoinRuntimeModel", "mixMessages", "()V"⟩, 53) := ⟨⟨by decide +kernel, by decide +kernel⟩, List.mem_of_getElem? (i := 784) (by decide +kernel), List.mem_of_getElem? (i := 1218) (by decide +kernel), List.mem_of_getElem? (i := 1219) (by decide +kernel)⟩
theorem lw_p57 : lw_okq (⟨"JoinRuntimeModel", "mixTickets", "()V"⟩, 53) := ⟨⟨by decide +kernel, by decide +kernel⟩, List.mem_of_getElem? (i := 784) (by decide +kernel), List.mem_of_getElem? (i := 1222) (by decide +kernel), List.mem_of_getElem? (i := 1223) (by decide +kernel)⟩
def lw_privs_4 : List (MethodName × Nat) := [(⟨"JoinRuntimeModel", "nextNow", "()I"⟩, 53), (⟨"JoinRuntimeModel", "fireNow", "(I)V"⟩, 53), (⟨"JoinRuntimeModel", "consume", "(I)V"⟩, 53), (⟨"JoinRuntimeModel", "settle", "(III)V"⟩, 53), (⟨"JoinRuntimeModel", "isKnown", "(I)Z"⟩, 53), (⟨"JoinRuntimeModel", "computed", "(II)I"⟩, 53), (⟨"JoinRuntimeModel", "messages", "()I"⟩, 53), (⟨"JoinRuntimeModel", "mix", "(J)V"⟩, 53), (⟨"JoinRuntimeModel", "mixMessages", "()V"⟩, 53), (⟨"JoinRuntimeModel", "mixTickets", "()V"⟩, 53)]
theorem lw_r4 : ∀ q ∈ lw_privs_4, lw_okq q := List.forall_mem_cons.mpr ⟨lw_p48, List.forall_mem_cons.mpr ⟨lw_p49, List.forall_mem_cons.mpr ⟨lw_p50, List.forall_mem_cons.mpr ⟨lw_p51, List.forall_mem_cons.mpr ⟨lw_p52, List.forall_mem_cons.mpr ⟨lw_p53, List.forall_mem_cons.mpr ⟨lw_p54, List.forall_mem_cons.mpr ⟨lw_p55, List.forall_mem_cons.mpr ⟨lw_p56, List.forall_mem_cons.mpr ⟨lw_p57, fun _ h => absurd h List.not_mem_nil⟩⟩⟩⟩⟩⟩⟩⟩⟩⟩
def lw_privs : List (MethodName × Nat) := lw_privs_1 ++ (lw_privs_2 ++ (lw_privs_3 ++ (lw_privs_4)))
def lw_tbl : List Cond := k2_sels lw_privs ++ tables_1
theorem lw_privs_ok : ∀ q ∈ lw_privs, lw_okq q := by
  show ∀ q ∈ lw_privs_1 ++ (lw_privs_2 ++ (lw_privs_3 ++ (lw_privs_4))), lw_okq q
  exact List.forall_mem_append.mpr ⟨lw_r1, List.forall_mem_append.mpr ⟨lw_r2, List.forall_mem_append.mpr ⟨lw_r3, lw_r4⟩⟩⟩
/-- the streams that the claim lets the run draw from -/
abbrev lw_cs : List Choice := [Jvm.Choice.named "NaN.bits"]
theorem lw_bits : nanBits ∈ lw_cs := by first | decide | exact List.mem_cons_self | simp [lw_cs, nanBits]
end
section
/-! ===== BEGIN words of one list among another's, by their places ===== -/
theorem goodIn_r {big : List Cond} (ws : List Cond) (ps : List Nat) (hp : ws = ps.filterMap (fun i => big[i]?)) (h : ws.all goodWord = true) : GoodIn big ws := by
  intro w hw
  have h1 := List.all_eq_true.mp h w hw
  rw [hp] at hw
  obtain ⟨i, -, hi⟩ := List.mem_filterMap.mp hw
  have hm : w ∈ big := by first | exact List.mem_of_getElem? hi | exact List.getElem?_mem hi
  exact ⟨hm, good_of_word h1⟩
theorem goodIn_app {big a b : List Cond} (ha : GoodIn big a) (hb : GoodIn big b) : GoodIn big (a ++ b) := fun w h => (List.mem_append.mp h).elim (ha w) (hb w)
theorem goodIn_ca {big a b : List Cond} {c : Cond} (ha : GoodIn big (c :: a)) (hb : GoodIn big b) : GoodIn big (c :: (a ++ b)) := fun w h => (List.mem_cons.mp h).elim (fun e => ha w (List.mem_cons.mpr (Or.inl e))) (fun h => (List.mem_append.mp h).elim (fun h => ha w (List.mem_cons.mpr (Or.inr h))) (hb w))
theorem goodIn_sub {big ws : List Cond} (hm : ∀ w ∈ ws, w ∈ big) (h : ws.all goodWord = true) : GoodIn big ws := fun w hw => ⟨hm w hw, good_of_word (List.all_eq_true.mp h w hw)⟩
/-! ===== END ===== -/

/-! ===== BEGIN exceptions that leave a method, and their catching by the caller (launches without stack traces) ===== -/
section VXA
/-! The laws vx_back, vx_callV, vx_callS, vx_callSW, vx_throw0, vx_throwS follow proofs of the library, with one case more: JvmDerived/Free/Laws.lean (Back.of_free), Shelf42/LK1.lean (callV, callS), Shelf/KitTraced.lean (throwNew0V, throwNewS). -/
/-- where a method has thrown q: the class by its name, the cell, what was written, the world -/
def vx_T (XC : String → State → State → Prop) (st : State) (q : Addr) (t : State) (mc ms : Nat) (free : Addr → Prop) : Prop :=
  ∃ (E : String) (ce : Cell) (L : List Loc), XC E st t ∧ t.heap[q]? = some ce ∧ ce.vm = .none ∧ st.vm.findClass E = some ce.cls ∧ st.WarmedH t.vm ∧ st.sameButNew ({ t with vm := st.vm } : State) L mc ms ∧ ∀ z ∈ L, free z.base
def vx_Q (Qc : Array Value → State → Outcome → State → Prop) (XC : String → State → State → Prop) (mc ms : Nat) (free : Addr → Prop) : Array Value → State → Outcome → State → Prop := fun a st o t =>
  (Qc a st o t ∧ ∃ L, FrameEnd st o t L mc ms ∧ ∀ q ∈ L, free q.base) ∨ ∃ q, o = .threw q ∧ vx_T XC st q t mc ms free
/-- a callee that returns or throws -/
def vx_Met (l : Launch) (y : MethodName) (ws : List Cond) (rm : Room) (Pc : Array Value → State → Prop) (Qc : Array Value → State → Outcome → State → Prop) (XC : String → State → State → Prop) (mc ms : Nat) (free : Addr → Prop) : Prop :=
  MetFree l y (headSpec ws rm) Pc (fun _ _ _ _ _ => True) (vx_Q Qc XC mc ms free)
def vx_Post (XC : String → State → State → Prop) (mc ms : Nat) (free : Addr → Prop) : Pt → Array Value → Addr → Pt → Prop := fun A a q B =>
  ∃ (g : JFrame) (mk : MethodId) (t : State) (L : List Loc) (E : String) (ce : Cell), B.U.heap = t.heap ∧ B.U.vm = t.vm ∧ XC E (A.U.calling g mk a) t ∧ t.heap[q]? = some ce ∧ ce.vm = .none ∧ A.U.vm.findClass E = some ce.cls ∧ B.locs = A.locs ++ L ∧ (∀ z ∈ L, free z.base) ∧ B.cells = A.cells + mc ∧ B.slots = A.slots + ms
def vx_Back (l : Launch) (R : Room) (p : Program) (e : Env) (below : List Frame) (s : State) (sargs : Array Value) (y : MethodName) (len W9 : Nat)
    (Pre : Pt → Array Value → Prop) (Post : Pt → Array Value → Option Value → Pt → Prop) (PostX : Pt → Array Value → Addr → Pt → Prop) : Prop :=
  ∀ (m : MethodId) (meth : Method) (c : Code) (A : Pt) (g : JFrame) (ig : Instr) (mk : MethodId) (a : Array Value),
    Stand p l e R s m sargs below meth c A.U A.locs A.cells A.slots → g.method = m → g.locals.size = c.maxLocals → decode c.code g.pc = .ok (ig, len) →
    2 * g.monitorRoom + (g.stack.map fun v => v.category).sum ≤ W9 → A.U.methodNamed? y = some mk → Pre A a →
    (∃ (v : Option Value) (B : Pt), Stand p l e R s m sargs below meth c B.U B.locs B.cells B.slots ∧ Post A a v B ∧
      Steps p.tables e below (doInvoke e (A.U.setTop g) [] mk a).1 (B.U.setTop { g with pc := g.pc + len, stack := v.toList ++ g.stack })) ∨
    (∃ (q : Addr) (B : Pt), Stand p l e R s m sargs below meth c B.U B.locs B.cells B.slots ∧ PostX A a q B ∧
      Steps p.tables e below (doInvoke e (A.U.setTop g) [] mk a).1 ((B.U.setTop g).pushFrame (.throwing q)))
section Payer
variable {l : Launch} {R : Room} {p : Program} {e : Env} {below : List Frame} {s : State} {sargs : Array Value} {y : MethodName} {len W9 : Nat}
theorem vx_back {ws : List Cond} {rm : Room} {Pc : Array Value → State → Prop} {Qc : Array Value → State → Outcome → State → Prop} {XC : String → State → State → Prop} {mc ms : Nat} {free : Addr → Prop} {bytes : ByteArray} {maxL : Nat} {ret : Option FieldType}
    (hM : vx_Met l y ws rm Pc Qc XC mc ms free) (hblind : FrameBlind Pc) (hrc : rm.cells = mc) (hrs : rm.slots = ms)
    (hframes : rm.frames + 1 ≤ R.frames) (hlocals : W9 + (maxL + 11) + rm.locals ≤ R.locals)
    (hws : ∀ w ∈ ws, ∀ a' U, s.WarmedH U.vm → w.before a' U = true) (hcode : Cond.code y bytes maxL ret ∈ ws) (hinit : ∀ a' U, s.WarmedH U.vm → (Cond.initialized y.cls).before a' U = true) :
    vx_Back l R p e below s sargs y len W9 (PreOf R mc ms Pc) (PostOf Qc mc ms free) (vx_Post XC mc ms free) := by
  intro m meth c A g ig mk a X hg hsize hdg hW hn hp
  have h1 : (headSpec ws rm).pre.before a A.U = true := atoms_intro fun w hw => hws w hw _ _ X.warmed
  have h2 : (Cond.code y bytes maxL ret).before a A.U = true := hws _ hcode _ _ X.warmed
  have h3 : (Cond.initialized y.cls).before a A.U = true := hinit _ _ X.warmed
  have h4 : A.cells + (headSpec ws rm).room.cells ≤ R.cells := by rw [show (headSpec ws rm).room.cells = mc from hrc]; exact hp.1
  have h5 : A.slots + (headSpec ws rm).room.slots ≤ R.slots := by rw [show (headSpec ws rm).room.slots = ms from hrs]; exact hp.2.1
  have hPc : Pc a (A.U.calling g mk a) := hblind _ _ _ _ hp.2.2
  obtain ⟨U, Ls, c0, s0⟩ := A
  dsimp only [Pt.U, Pt.locs, Pt.cells, Pt.slots] at h1 h2 h3 h4 h5 X hn hPc ⊢
  obtain ⟨methY, cY, hmY, hcY, -, hlY, -, -, -, -⟩ := Cond.code_spec hn h2
  obtain ⟨kY, hkY, -⟩ := className_of_methodNamed hn
  have hinitY : kY.init = .initialized := Cond.initialized_spec (findClass_of_methodNamed hn) hkY h3
  have h : At U g.method c below := by rw [hg]; exact X.here
  have hlocals9 : W9 + (maxL + 11) + (headSpec ws rm).room.locals ≤ R.locals := hlocals
  have happ : (headSpec ws rm).appliesLoose y e.platform (U.calling g mk a) = true :=
    Spec.appliesLoose_calling (g := g) h hdg hn hkY hinitY
      (X.room_calling (g := g) (R' := (headSpec ws rm).room) hsize hmY hcY hframes (by rw [hlY]; omega) h4 h5) h1
  obtain ⟨mid, hmid⟩ := h.above
  have hfr : (U.setTop g).frames = (.java g :: mid) ++ below := by rw [State.frames_setTop' g h.top, hmid]; rfl
  obtain ⟨o, s₂, hsteps, -, hend, hq⟩ := Steps.callFree hM p X.admits X.cas X.clock (acts := []) hfr happ hPc trivial
  have hq' : vx_Q Qc XC mc ms free a (U.calling g mk a) o s₂ := hq
  rw [State.frames_setTop' g h.top] at hend
  obtain ⟨g₀, hg0⟩ := Option.isSome_iff_exists.mp h.top
  obtain ⟨r, hr⟩ := State.topJava?_eq_some.mp hg0
  have hr' : (({ U with heap := s₂.heap, slotsUsed := s₂.slotsUsed } : State).setVm s₂.vm).frames = .java g₀ :: r := hr
  rcases hq' with ⟨hqc, L, hfe, hL⟩ | ⟨q, rfl, E, ce, L, hx, hce, hcv, hcl, hW₂, hsm, hL⟩
  · obtain ⟨⟨v, rfl⟩, hW₂, e2, q2, q3, q4, q5, q6⟩ := id hfe
    have e3 : s₂ = ({ (U.calling g mk a).setFrames s₂.frames with heap := s₂.heap, slotsUsed := s₂.slotsUsed } : State).setVm s₂.vm := by
      have : s₂ = ({ s₂ with vm := (U.calling g mk a).vm } : State).setVm s₂.vm := rfl
      rw [e2] at this
      exact this
    obtain ⟨c₂, i₂, len₂, hc₂, hd₂, hf₂⟩ := hend
    have hW' : U.WarmedH s₂.vm := hW₂
    have hcc : c₂ = c := by
      have h1 : s₂.code? g.method = U.code? g.method := by
        rw [State.code?_eq, State.code?_eq, hW'.alike.method?]
      exact Option.some.inj (hc₂.symm.trans (h1.trans h.code))
    subst hcc
    have hlen : len₂ = len := by rw [hdg] at hd₂; cases hd₂; rfl
    subst hlen
    have hs₂ : s₂ = (({ U with heap := s₂.heap, slotsUsed := s₂.slotsUsed } : State).setVm s₂.vm).setTop { g with pc := g.pc + len₂, stack := v.toList ++ g.stack } := by
      refine e3.trans ?_
      rw [hf₂, State.calling_eq h.top, State.setFrames_setFrames, State.setTop_of_frames _ hr', hr]
      rfl
    have hsame : U.sameButNew ({ U with heap := s₂.heap, slotsUsed := s₂.slotsUsed } : State) L mc ms := by
      refine ⟨?_, q2, q3, q4, q5, q6⟩
      obtain ⟨t, ht, -⟩ := State.frames_cons hr
      show ({ U with heap := s₂.heap, slotsUsed := s₂.slotsUsed } : State) = { U.setFrames U.frames with heap := s₂.heap, slotsUsed := s₂.slotsUsed }
      rw [State.setFrames_self ht]
    subst hg
    refine Or.inl ⟨v, ⟨(({ U with heap := s₂.heap, slotsUsed := s₂.slotsUsed } : State).setVm s₂.vm), Ls ++ L, c0 + mc, s0 + ms⟩,
      ⟨X.admits, X.cas, X.clock, X.frames, X.room, X.hears, X.method, X.code, (X.here.setHeapUsed s₂.heap s₂.slotsUsed).setVm hW'.alike, X.tail, State.WarmedH.trans X.warmed hW', X.limits, X.bytes, X.same.trans (hsame.setVm s.vm)⟩,
      ⟨g, mk, s₂, L, rfl, rfl, hqc, rfl, hL, rfl, rfl⟩, ?_⟩
    show Steps p.tables e below _ ((({ U with heap := s₂.heap, slotsUsed := s₂.slotsUsed } : State).setVm s₂.vm).setTop { g with pc := g.pc + len₂, stack := v.toList ++ g.stack })
    rw [← hs₂]
    exact hsteps
  · obtain ⟨e2, q2, q3, q4, q5, q6⟩ := id hsm
    have e3 : s₂ = ({ (U.calling g mk a).setFrames s₂.frames with heap := s₂.heap, slotsUsed := s₂.slotsUsed } : State).setVm s₂.vm := by
      have : s₂ = ({ s₂ with vm := (U.calling g mk a).vm } : State).setVm s₂.vm := rfl
      rw [e2] at this
      exact this
    have hf₂ : s₂.frames = .throwing q :: .java g :: U.frames.tail := hend
    have hW' : U.WarmedH s₂.vm := hW₂
    have hs₂ : s₂ = ((({ U with heap := s₂.heap, slotsUsed := s₂.slotsUsed } : State).setVm s₂.vm).setTop g).pushFrame (.throwing q) := by
      refine e3.trans ?_
      rw [hf₂, State.calling_eq h.top, State.setFrames_setFrames, State.pushFrame, State.frames_setTop _ hr', State.setTop_of_frames _ hr', State.setFrames_setFrames, hr]
      rfl
    have hsame : U.sameButNew ({ U with heap := s₂.heap, slotsUsed := s₂.slotsUsed } : State) L mc ms := by
      refine ⟨?_, q2, q3, q4, q5, q6⟩
      obtain ⟨t, ht, -⟩ := State.frames_cons hr
      show ({ U with heap := s₂.heap, slotsUsed := s₂.slotsUsed } : State) = { U.setFrames U.frames with heap := s₂.heap, slotsUsed := s₂.slotsUsed }
      rw [State.setFrames_self ht]
    subst hg
    refine Or.inr ⟨q, ⟨(({ U with heap := s₂.heap, slotsUsed := s₂.slotsUsed } : State).setVm s₂.vm), Ls ++ L, c0 + mc, s0 + ms⟩,
      ⟨X.admits, X.cas, X.clock, X.frames, X.room, X.hears, X.method, X.code, (X.here.setHeapUsed s₂.heap s₂.slotsUsed).setVm hW'.alike, X.tail, State.WarmedH.trans X.warmed hW', X.limits, X.bytes, X.same.trans (hsame.setVm s.vm)⟩,
      ⟨g, mk, s₂, L, E, ce, rfl, rfl, hx, hce, hcv, hcl, rfl, hL, rfl, rfl⟩, ?_⟩
    show Steps p.tables e below _ (((({ U with heap := s₂.heap, slotsUsed := s₂.slotsUsed } : State).setVm s₂.vm).setTop g).pushFrame (.throwing q))
    rw [← hs₂]
    exact hsteps
end Payer
section Calls
variable {p : Program} {l : Launch} {e : Env} {R : Room} {s : State} {m : MethodId} {args : Array Value} {below : List Frame} {meth : Method} {c : Code} {T : State} {locs : List Loc} {cells slots : Nat}
theorem vx_callV (X : Stand p l e R s m args below meth c T locs cells slots) (hexec : p.tables.exec = Jvm.exec) {own C : String} {index : Nat} {y : MethodName} {bytes : ByteArray} {maxL : Nat} {ret : Option FieldType}
    (hown : s.vm.findClass own = some m.cls) (hlink : (Cond.methodLink own index y).before args s = true) (hinst : (Cond.instanceMethod y).before args s = true) (hsel : (Cond.selects C y y).before args s = true)
    (hcode : (Cond.code y bytes maxL ret).before args s = true) (hy : y.cls ≠ "java/lang/invoke/MethodHandle" ∧ y.cls ≠ "java/lang/invoke/VarHandle")
    {W9 : Nat} {Pre : Pt → Array Value → Prop} {Post : Pt → Array Value → Option Value → Pt → Prop} {PostX : Pt → Array Value → Addr → Pt → Prop} (hK : vx_Back l R p e below s args y 3 W9 Pre Post PostX)
    {b : Addr} {cellB : Cell} (hcell : T.heap[b]? = some cellB) (hobj : cellB.vm.isStatics = false) (hcls : s.vm.findClass C = some cellB.cls)
    {g : JFrame} (hg : g.method = m) (hsize : g.locals.size = c.maxLocals) {argsL rest : List Value} (hlen : ∀ sig, parseMethodDescriptor y.desc = some sig → argsL.length = sig.parameters.length)
    (hstack : g.stack = argsL.reverse ++ .ref b :: rest) (hW : 2 * g.monitorRoom + (rest.map fun v => v.category).sum ≤ W9) (hdg : decode c.code g.pc = .ok (.invokevirtual index, 3))
    (hpre : ∀ vm₁, s.WarmedH vm₁ → Pre ⟨T.setVm vm₁, locs, cells, slots⟩ (Value.ref b :: argsL).toArray) :
    (∃ (v : Option Value) (vm₁ : Vm) (B : Pt), s.WarmedH vm₁ ∧ Stand p l e R s m args below meth c B.U B.locs B.cells B.slots ∧ Post ⟨T.setVm vm₁, locs, cells, slots⟩ (Value.ref b :: argsL).toArray v B ∧
      ∀ target, Steps p.tables e below (B.U.setTop { g with pc := g.pc + 3, stack := v.toList ++ rest }) target → Steps p.tables e below (T.setTop g) target) ∨
    (∃ (q : Addr) (vm₁ : Vm) (B : Pt), s.WarmedH vm₁ ∧ Stand p l e R s m args below meth c B.U B.locs B.cells B.slots ∧ PostX ⟨T.setVm vm₁, locs, cells, slots⟩ (Value.ref b :: argsL).toArray q B ∧
      Steps p.tables e below (T.setTop g) ((B.U.setTop { g with stack := rest }).pushFrame (.throwing q))) := by
  obtain ⟨mk, methM, hnamed, hmethM, hstM, habM⟩ := Cond.instanceMethod_spec hinst
  obtain ⟨methM', cM, hmethM', -, -, -, -, -, -, hsigM⟩ := Cond.code_spec hnamed hcode
  cases hmethM.symm.trans hmethM'
  obtain ⟨c2, r2, m2, q1, q2, q3, q4, kP, hkP, hkPi⟩ := Cond.selects_spec hsel
  cases hcls.symm.trans q1
  cases (State.methodFound?_of_named hnamed hy).symm.trans q2
  cases hnamed.symm.trans q3
  have hselP : selectMethod e.platform s.vm cellB.cls mk = .method mk := by rw [Launch.admits_selectMethod X.admits]; exact q4
  obtain ⟨vm₁, X₁, hstep₁⟩ := X.invokevirtual hexec hown hlink hnamed hmethM hstM hkP hkPi hy (a := b) (cell := cellB) hcell
    (fun z h => by rw [h] at hobj; cases hobj) hselP hmethM habM hkP hkPi (g := g) hg (argsL := argsL) (rest := rest) (hlen _ hsigM) hstack hdg
  rcases hK m meth c ⟨T.setVm vm₁, locs, cells, slots⟩ { g with stack := rest } (.invokevirtual index) mk (Value.ref b :: argsL).toArray X₁ hg hsize hdg hW (X₁.named hnamed) (hpre vm₁ X₁.warmed) with ⟨v, B, X', hpost, hsteps⟩ | ⟨q, B, X', hpost, hsteps⟩
  · exact Or.inl ⟨v, vm₁, B, X₁.warmed, X', hpost, fun target h => hstep₁ _ fun acts => by rw [doInvoke_state]; exact hsteps.trans h⟩
  · exact Or.inr ⟨q, vm₁, B, X₁.warmed, X', hpost, hstep₁ _ fun acts => by rw [doInvoke_state]; exact hsteps⟩
theorem vx_callS (X : Stand p l e R s m args below meth c T locs cells slots) (hexec : p.tables.exec = Jvm.exec) {own : String} {index : Nat} {y : MethodName} {bytes : ByteArray} {maxL : Nat} {ret : Option FieldType}
    (hown : s.vm.findClass own = some m.cls) (hlink : (Cond.methodLink own index y).before args s = true) (hstat : (Cond.static y).before args s = true) (hinit : (Cond.initialized y.cls).before args s = true)
    (hcode : (Cond.code y bytes maxL ret).before args s = true) (hy : y.cls ≠ "java/lang/invoke/MethodHandle" ∧ y.cls ≠ "java/lang/invoke/VarHandle")
    {W9 : Nat} {Pre : Pt → Array Value → Prop} {Post : Pt → Array Value → Option Value → Pt → Prop} {PostX : Pt → Array Value → Addr → Pt → Prop} (hK : vx_Back l R p e below s args y 3 W9 Pre Post PostX)
    {g : JFrame} (hg : g.method = m) (hsize : g.locals.size = c.maxLocals) {argsL rest : List Value} (hlen : ∀ sig, parseMethodDescriptor y.desc = some sig → argsL.length = sig.parameters.length)
    (hstack : g.stack = argsL.reverse ++ rest) (hW : 2 * g.monitorRoom + (rest.map fun v => v.category).sum ≤ W9) (hdg : decode c.code g.pc = .ok (.invokestatic index, 3))
    (hpre : ∀ vm₁, s.WarmedH vm₁ → Pre ⟨T.setVm vm₁, locs, cells, slots⟩ argsL.toArray) :
    (∃ (v : Option Value) (vm₁ : Vm) (B : Pt), s.WarmedH vm₁ ∧ Stand p l e R s m args below meth c B.U B.locs B.cells B.slots ∧ Post ⟨T.setVm vm₁, locs, cells, slots⟩ argsL.toArray v B ∧
      ∀ target, Steps p.tables e below (B.U.setTop { g with pc := g.pc + 3, stack := v.toList ++ rest }) target → Steps p.tables e below (T.setTop g) target) ∨
    (∃ (q : Addr) (vm₁ : Vm) (B : Pt), s.WarmedH vm₁ ∧ Stand p l e R s m args below meth c B.U B.locs B.cells B.slots ∧ PostX ⟨T.setVm vm₁, locs, cells, slots⟩ argsL.toArray q B ∧
      Steps p.tables e below (T.setTop g) ((B.U.setTop { g with stack := rest }).pushFrame (.throwing q))) := by
  obtain ⟨mk, hnamed⟩ := Cond.code_named hcode
  obtain ⟨methM, cM, hmethM, -, -, -, -, -, -, hsigM⟩ := Cond.code_spec hnamed hcode
  have hstatic : methM.isStatic = true := Cond.static_spec hnamed hmethM hstat
  obtain ⟨kP, hkP, -⟩ := className_of_methodNamed hnamed
  have hinitP : kP.init = .initialized := Cond.initialized_spec (findClass_of_methodNamed hnamed) hkP hinit
  obtain ⟨vm₁, X₁, hstep₁⟩ := X.invokestatic hexec hown hlink hnamed hmethM hstatic hkP hinitP hy (g := g) hg (argsL := argsL) (rest := rest) (hlen _ hsigM) hstack hdg
  rcases hK m meth c ⟨T.setVm vm₁, locs, cells, slots⟩ { g with stack := rest } (.invokestatic index) mk argsL.toArray X₁ hg hsize hdg hW (X₁.named hnamed) (hpre vm₁ X₁.warmed) with ⟨v, B, X', hpost, hsteps⟩ | ⟨q, B, X', hpost, hsteps⟩
  · exact Or.inl ⟨v, vm₁, B, X₁.warmed, X', hpost, fun target h => hstep₁ _ fun acts => by rw [doInvoke_state]; exact hsteps.trans h⟩
  · exact Or.inr ⟨q, vm₁, B, X₁.warmed, X', hpost, hstep₁ _ fun acts => by rw [doInvoke_state]; exact hsteps⟩
end Calls
theorem vx_cls {s : State} {T : State} {vm₁ : Vm} {E : String} {k : ClassId} (hW : s.WarmedH vm₁) (h : (T.setVm vm₁).vm.findClass E = some k) : s.vm.findClass E = some k := by
  have h1 : vm₁.findClass E = some k := h
  rw [hW.alike.findClass] at h1
  exact h1
/-- the method's frame g, with q thrown over it -/
def vx_W (p : Program) (l : Launch) (e : Env) (R : Room) (s : State) (m : MethodId) (args : Array Value) (below : List Frame) (meth : Method) (c : Code) (H : Heap) (locs : List Loc) (cells slots : Nat) (Q : State → Prop) (g : JFrame) (q : Addr) : Prop :=
  ∀ T : State, T.heap = H → Stand p l e R s m args below meth c T locs cells slots → ∃ t, Steps p.tables e below ((T.setTop g).pushFrame (.throwing q)) t ∧ Q t
def vx_Run (p : Program) (l : Launch) (e : Env) (R : Room) (s : State) (m : MethodId) (args : Array Value) (below : List Frame) (meth : Method) (c : Code) (H : Heap) (locs : List Loc) (cells slots mc ms : Nat) (g : JFrame) (rest : List Value) (Qa : State → Outcome → State → Prop) (XC : String → State → State → Prop) (free : Addr → Prop) : Prop :=
  ∀ T : State, T.heap = H → Stand p l e R s m args below meth c T locs cells slots →
    (∃ (v : Option Value) (st₀ t T' : State) (L : List Loc), st₀.heap = H ∧ Stand p l e R s m args below meth c T' (locs ++ L) (cells + mc) (slots + ms) ∧ (∀ q ∈ L, free q.base) ∧ T'.heap = t.heap ∧ T'.vm = t.vm ∧ Qa st₀ (.returned v) t ∧
      Goes p e below T g T' { g with pc := g.pc + 3, stack := v.toList ++ rest }) ∨
    (∃ (q : Addr) (st₀ t T' : State) (L : List Loc) (E : String) (ce : Cell), st₀.heap = H ∧ Stand p l e R s m args below meth c T' (locs ++ L) (cells + mc) (slots + ms) ∧ (∀ z ∈ L, free z.base) ∧ T'.heap = t.heap ∧ T'.vm = t.vm ∧ XC E st₀ t ∧ t.heap[q]? = some ce ∧ ce.vm = .none ∧ s.vm.findClass E = some ce.cls ∧
      Steps p.tables e below (T.setTop g) ((T'.setTop { g with stack := rest }).pushFrame (.throwing q)))
def vx_X {S : Type} (px : S → Prop) (B : String → S → State → Prop) (A : Nat → Prop) : String → State → State → Prop := fun E st t => ∃ u : S, px u ∧ B E u t ∧ va_F A st t
section Runs
variable {p : Program} {l : Launch} {e : Env} {R : Room} {s : State} {m : MethodId} {args : Array Value} {below : List Frame} {meth : Method} {c : Code} {H : Heap} {locs : List Loc} {cells slots : Nat}
variable {y : MethodName} {bytes cc : ByteArray} {maxL nL mc ms n index : Nat} {ret : Option FieldType} {ws : List Cond} {rm : Room} {Pc : Array Value → State → Prop} {Qc : Array Value → State → Outcome → State → Prop} {XC : String → State → State → Prop} {free : Addr → Prop} {Ts : List Cond} {own C : String} {b : Addr} {As rest : List Value} {g : JFrame}
theorem vx_callBack (cb : CallB R s args own index y bytes maxL ret ws rm mc ms n) (hM : vx_Met l y ws rm Pc Qc XC mc ms free) (hbl : FrameBlind Pc) : vx_Back l R p e below s args y 3 8 (PreOf R mc ms Pc) (PostOf Qc mc ms free) (vx_Post XC mc ms free) := by
  obtain ⟨hrc, hrs, hfr, hlo, hws, hcw, -, hini, -⟩ := cb
  exact vx_back (bytes := bytes) (maxL := maxL) (ret := ret) hM hbl hrc hrs hfr hlo hws hcw (fun a' U hW => word_at hW (Or.inl (by first | rfl | simp [Cond.onTables, Cond.keeps, Cond.steady])) hini)
theorem vx_runV (S : CallFix p m c cc nL s args Ts own) (hM : vx_Met l y ws rm Pc Qc XC mc ms free) (cw : CallW R s args own C index y bytes maxL ret ws rm mc ms n) (hp : PreV s H C b Pc As)
    (hg : g.method = m) (hn : As.length = n) (hsize : g.locals.size = nL) (hstack : g.stack = As.reverse ++ .ref b :: rest) (hW : 2 * g.monitorRoom + (rest.map fun v => v.category).sum ≤ 8) (hdg : decode cc g.pc = .ok (.invokevirtual index, 3)) (hf : cells + mc ≤ R.cells ∧ slots + ms ≤ R.slots) :
    vx_Run p l e R s m args below meth c H locs cells slots mc ms g rest (Qc (Value.ref b :: As).toArray) XC free := by
  have hK : vx_Back l R p e below s args y 3 8 (PreOf R mc ms Pc) (PostOf Qc mc ms free) (vx_Post XC mc ms free) := vx_callBack cw.1 hM hp.1
  obtain ⟨⟨-, -, -, -, -, -, hcode, -, hy, hlen, hl⟩, hin, hse⟩ := cw
  obtain ⟨hx, hb, hml, ho, -⟩ := S
  obtain ⟨-, ⟨cellB, hcB, hoB, hclB⟩, hPc⟩ := hp
  intro T hT X
  rcases vx_callV X hx (C := C) (bytes := bytes) (maxL := maxL) (ret := ret) ho hl hin hse hcode hy hK (by rw [hT]; exact hcB) hoB hclB hg (hsize.trans hml.symm) (argsL := As) (rest := rest) (fun sig h => hn.trans (hlen sig h)) hstack hW (by rw [hb]; exact hdg)
    (fun vm₁ hW₁ => ⟨hf.1, hf.2, hPc (T.setVm vm₁) hT hW₁⟩) with ⟨v, vm₁, ⟨U', l2, c2, s2⟩, hW₁, X', ⟨g', mk, t, L, e1, e2, hq, h1, hL, h2, h3⟩, st⟩ | ⟨q, vm₁, ⟨U', l2, c2, s2⟩, hW₁, X', ⟨g', mk, t, L, E, ce, e1, e2, hq, hce, hcv, hcl, h1, hL, h2, h3⟩, st⟩
  · dsimp only [Pt.U, Pt.locs, Pt.cells, Pt.slots] at X' e1 e2 h1 h2 h3 st
    subst h1; subst h2; subst h3
    exact Or.inl ⟨v, (T.setVm vm₁).calling g' mk (Value.ref b :: As).toArray, t, U', L, hT, X', hL, e1, e2, hq, st⟩
  · dsimp only [Pt.U, Pt.locs, Pt.cells, Pt.slots] at X' e1 e2 h1 h2 h3 st hcl
    subst h1; subst h2; subst h3
    exact Or.inr ⟨q, (T.setVm vm₁).calling g' mk (Value.ref b :: As).toArray, t, U', L, E, ce, hT, X', hL, e1, e2, hq, hce, hcv, vx_cls hW₁ hcl, st⟩
theorem vx_runS (S : CallFix p m c cc nL s args Ts own) (hM : vx_Met l y ws rm Pc Qc XC mc ms free) (cw : CallB R s args own index y bytes maxL ret ws rm mc ms n ∧ (Cond.static y).before args s = true) (hp : PreS s H Pc As)
    (hg : g.method = m) (hn : As.length = n) (hsize : g.locals.size = nL) (hstack : g.stack = As.reverse ++ rest) (hW : 2 * g.monitorRoom + (rest.map fun v => v.category).sum ≤ 8) (hdg : decode cc g.pc = .ok (.invokestatic index, 3)) (hf : cells + mc ≤ R.cells ∧ slots + ms ≤ R.slots) :
    vx_Run p l e R s m args below meth c H locs cells slots mc ms g rest (Qc As.toArray) XC free := by
  have hK : vx_Back l R p e below s args y 3 8 (PreOf R mc ms Pc) (PostOf Qc mc ms free) (vx_Post XC mc ms free) := vx_callBack cw.1 hM hp.1
  obtain ⟨⟨-, -, -, -, -, -, hcode, hini, hy, hlen, hl⟩, hstt⟩ := cw
  obtain ⟨hx, hb, hml, ho, -⟩ := S
  intro T hT X
  rcases vx_callS X hx (bytes := bytes) (maxL := maxL) (ret := ret) ho hl hstt hini hcode hy hK hg (hsize.trans hml.symm) (argsL := As) (rest := rest) (fun sig h => hn.trans (hlen sig h)) hstack hW (by rw [hb]; exact hdg)
    (fun vm₁ hW₁ => ⟨hf.1, hf.2, hp.2 (T.setVm vm₁) hT hW₁⟩) with ⟨v, vm₁, ⟨U', l2, c2, s2⟩, hW₁, X', ⟨g', mk, t, L, e1, e2, hq, h1, hL, h2, h3⟩, st⟩ | ⟨q, vm₁, ⟨U', l2, c2, s2⟩, hW₁, X', ⟨g', mk, t, L, E, ce, e1, e2, hq, hce, hcv, hcl, h1, hL, h2, h3⟩, st⟩
  · dsimp only [Pt.U, Pt.locs, Pt.cells, Pt.slots] at X' e1 e2 h1 h2 h3 st
    subst h1; subst h2; subst h3
    exact Or.inl ⟨v, (T.setVm vm₁).calling g' mk As.toArray, t, U', L, hT, X', hL, e1, e2, hq, st⟩
  · dsimp only [Pt.U, Pt.locs, Pt.cells, Pt.slots] at X' e1 e2 h1 h2 h3 st hcl
    subst h1; subst h2; subst h3
    exact Or.inr ⟨q, (T.setVm vm₁).calling g' mk As.toArray, t, U', L, E, ce, hT, X', hL, e1, e2, hq, hce, hcv, vx_cls hW₁ hcl, st⟩
end Runs
section Rows
variable {p : Program} {l : Launch} {e : Env} {R : Room} {s : State} {m : MethodId} {args : Array Value} {below : List Frame} {meth : Method} {c : Code} {H : Heap} {locs : List Loc} {cells slots : Nat} {Q : State → Prop}
variable {mc ms : Nat} {free : Addr → Prop} {A0 A1 : Nat → Prop} {H0 : Heap} {a : Array Value} {pc : Nat} {ls : Array Slot} {st0 rest : List Value}
theorem vx_keep {st₀ t T' : State} {L : List Loc} (h0 : st₀.heap = H) (e1 : T'.heap = t.heap) (hS : va_S A0 H0 H locs) (hA : ∀ q, q < H.size → A1 q → A0 q) (hf : ∀ q, free q → A0 q) (hL : ∀ q ∈ L, free q.base) (hF : va_F A1 st₀ t) :
    H.size ≤ T'.heap.size ∧ (∀ q : Nat, q < H.size → ¬ A1 q → T'.heap[q]? = H[q]?) ∧ va_S A0 H0 T'.heap (locs ++ L) := by
  obtain ⟨hz, hk⟩ := hF
  rw [h0] at hz hk
  exact ⟨by rw [e1]; exact hz, fun q h1 h2 => by rw [e1]; exact hk q h1 h2,
    ⟨Nat.le_trans hS.1 (by rw [e1]; exact hz), fun q h1 h2 => by rw [e1, hk q (Nat.lt_of_lt_of_le h1 hS.1) (fun z => h2 (hA q (Nat.lt_of_lt_of_le h1 hS.1) z))]; exact hS.2.1 q h1 h2, fun q hq => by
      rcases List.mem_append.mp hq with h | h
      · exact hS.2.2 q h
      · exact hf _ (hL q h)⟩⟩
theorem vx_calli {S SX : Type} {post : Int32 → S → Prop} {px : SX → Prop} {B : S → State → Prop} {BX : String → SX → State → Prop} {AX : Nat → Prop} (hr : vx_Run p l e R s m args below meth c H locs cells slots mc ms (F0 m pc ls st0) rest (va_Qi post B A1 a) (vx_X px BX AX) free) (hS : va_S A0 H0 H locs) (hA : ∀ q, q < H.size → A1 q → A0 q) (hf : ∀ q, free q → A0 q) (hAX : ∀ q, q < H.size → AX q → A0 q)
    (kx : ∀ (E : String) (ce : Cell) (q9 : Addr) (u : SX) (t : State) (H1 : Heap) (locs1 : List Loc), t.heap = H1 → s.vm.Alike t.vm → px u → BX E u t → H.size ≤ H1.size → (∀ q : Nat, q < H.size → ¬ AX q → H1[q]? = H[q]?) → va_S A0 H0 H1 locs1 → H1[q9]? = some ce → ce.vm = .none → s.vm.findClass E = some ce.cls → vx_W p l e R s m args below meth c H1 locs1 (cells + mc) (slots + ms) Q (F0 m pc ls rest) q9)
    (kk : ∀ (r : Int32) (u : S) (t : State) (H1 : Heap) (locs1 : List Loc), t.heap = H1 → s.vm.Alike t.vm → post r u → B u t → H.size ≤ H1.size → (∀ q : Nat, q < H.size → ¬ A1 q → H1[q]? = H[q]?) → va_S A0 H0 H1 locs1 → W p l e R s m args below meth c H1 locs1 (cells + mc) (slots + ms) Q (F0 m (pc + 3) ls (.int r :: rest))) : W p l e R s m args below meth c H locs cells slots Q (F0 m pc ls st0) := by
  intro T hT X
  rcases hr T hT X with ⟨v, st₀, t, T', L, h0, X', hL, e1, e2, ⟨⟨r, u, hv, hp, hb⟩, hF⟩, st⟩ | ⟨q, st₀, t, T', L, E, ce, h0, X', hL, e1, e2, ⟨u, hp, hb, hF⟩, hce, hcv, hcl, st⟩
  · cases hv
    obtain ⟨k1, k2, k3⟩ := vx_keep h0 e1 hS hA hf hL hF
    obtain ⟨t2, a1, b1⟩ := kk r u t T'.heap (locs ++ L) e1.symm (by rw [← e2]; exact X'.warmed.alike) hp hb k1 k2 k3 T' rfl X'
    exact ⟨t2, st t2 a1, b1⟩
  · obtain ⟨k1, k2, k3⟩ := vx_keep h0 e1 hS hAX hf hL hF
    obtain ⟨t2, a1, b1⟩ := kx E ce q u t T'.heap (locs ++ L) e1.symm (by rw [← e2]; exact X'.warmed.alike) hp hb k1 k2 k3 (by rw [e1]; exact hce) hcv hcl T' rfl X'
    exact ⟨t2, st.trans a1, b1⟩
theorem vx_calll {S SX : Type} {post : Int64 → S → Prop} {px : SX → Prop} {B : S → State → Prop} {BX : String → SX → State → Prop} {AX : Nat → Prop} (hr : vx_Run p l e R s m args below meth c H locs cells slots mc ms (F0 m pc ls st0) rest (va_Ql post B A1 a) (vx_X px BX AX) free) (hS : va_S A0 H0 H locs) (hA : ∀ q, q < H.size → A1 q → A0 q) (hf : ∀ q, free q → A0 q) (hAX : ∀ q, q < H.size → AX q → A0 q)
    (kx : ∀ (E : String) (ce : Cell) (q9 : Addr) (u : SX) (t : State) (H1 : Heap) (locs1 : List Loc), t.heap = H1 → s.vm.Alike t.vm → px u → BX E u t → H.size ≤ H1.size → (∀ q : Nat, q < H.size → ¬ AX q → H1[q]? = H[q]?) → va_S A0 H0 H1 locs1 → H1[q9]? = some ce → ce.vm = .none → s.vm.findClass E = some ce.cls → vx_W p l e R s m args below meth c H1 locs1 (cells + mc) (slots + ms) Q (F0 m pc ls rest) q9)
    (kk : ∀ (r : Int64) (u : S) (t : State) (H1 : Heap) (locs1 : List Loc), t.heap = H1 → s.vm.Alike t.vm → post r u → B u t → H.size ≤ H1.size → (∀ q : Nat, q < H.size → ¬ A1 q → H1[q]? = H[q]?) → va_S A0 H0 H1 locs1 → W p l e R s m args below meth c H1 locs1 (cells + mc) (slots + ms) Q (F0 m (pc + 3) ls (.long r :: rest))) : W p l e R s m args below meth c H locs cells slots Q (F0 m pc ls st0) := by
  intro T hT X
  rcases hr T hT X with ⟨v, st₀, t, T', L, h0, X', hL, e1, e2, ⟨⟨r, u, hv, hp, hb⟩, hF⟩, st⟩ | ⟨q, st₀, t, T', L, E, ce, h0, X', hL, e1, e2, ⟨u, hp, hb, hF⟩, hce, hcv, hcl, st⟩
  · cases hv
    obtain ⟨k1, k2, k3⟩ := vx_keep h0 e1 hS hA hf hL hF
    obtain ⟨t2, a1, b1⟩ := kk r u t T'.heap (locs ++ L) e1.symm (by rw [← e2]; exact X'.warmed.alike) hp hb k1 k2 k3 T' rfl X'
    exact ⟨t2, st t2 a1, b1⟩
  · obtain ⟨k1, k2, k3⟩ := vx_keep h0 e1 hS hAX hf hL hF
    obtain ⟨t2, a1, b1⟩ := kx E ce q u t T'.heap (locs ++ L) e1.symm (by rw [← e2]; exact X'.warmed.alike) hp hb k1 k2 k3 (by rw [e1]; exact hce) hcv hcl T' rfl X'
    exact ⟨t2, st.trans a1, b1⟩
theorem vx_callf {S SX : Type} {post : UInt32 → S → Prop} {px : SX → Prop} {B : S → State → Prop} {BX : String → SX → State → Prop} {AX : Nat → Prop} (hr : vx_Run p l e R s m args below meth c H locs cells slots mc ms (F0 m pc ls st0) rest (va_Qf post B A1 a) (vx_X px BX AX) free) (hS : va_S A0 H0 H locs) (hA : ∀ q, q < H.size → A1 q → A0 q) (hf : ∀ q, free q → A0 q) (hAX : ∀ q, q < H.size → AX q → A0 q)
    (kx : ∀ (E : String) (ce : Cell) (q9 : Addr) (u : SX) (t : State) (H1 : Heap) (locs1 : List Loc), t.heap = H1 → s.vm.Alike t.vm → px u → BX E u t → H.size ≤ H1.size → (∀ q : Nat, q < H.size → ¬ AX q → H1[q]? = H[q]?) → va_S A0 H0 H1 locs1 → H1[q9]? = some ce → ce.vm = .none → s.vm.findClass E = some ce.cls → vx_W p l e R s m args below meth c H1 locs1 (cells + mc) (slots + ms) Q (F0 m pc ls rest) q9)
    (kk : ∀ (r : UInt32) (u : S) (t : State) (H1 : Heap) (locs1 : List Loc), t.heap = H1 → s.vm.Alike t.vm → post r u → B u t → H.size ≤ H1.size → (∀ q : Nat, q < H.size → ¬ A1 q → H1[q]? = H[q]?) → va_S A0 H0 H1 locs1 → W p l e R s m args below meth c H1 locs1 (cells + mc) (slots + ms) Q (F0 m (pc + 3) ls (.float r :: rest))) : W p l e R s m args below meth c H locs cells slots Q (F0 m pc ls st0) := by
  intro T hT X
  rcases hr T hT X with ⟨v, st₀, t, T', L, h0, X', hL, e1, e2, ⟨⟨r, u, hv, hp, hb⟩, hF⟩, st⟩ | ⟨q, st₀, t, T', L, E, ce, h0, X', hL, e1, e2, ⟨u, hp, hb, hF⟩, hce, hcv, hcl, st⟩
  · cases hv
    obtain ⟨k1, k2, k3⟩ := vx_keep h0 e1 hS hA hf hL hF
    obtain ⟨t2, a1, b1⟩ := kk r u t T'.heap (locs ++ L) e1.symm (by rw [← e2]; exact X'.warmed.alike) hp hb k1 k2 k3 T' rfl X'
    exact ⟨t2, st t2 a1, b1⟩
  · obtain ⟨k1, k2, k3⟩ := vx_keep h0 e1 hS hAX hf hL hF
    obtain ⟨t2, a1, b1⟩ := kx E ce q u t T'.heap (locs ++ L) e1.symm (by rw [← e2]; exact X'.warmed.alike) hp hb k1 k2 k3 (by rw [e1]; exact hce) hcv hcl T' rfl X'
    exact ⟨t2, st.trans a1, b1⟩
theorem vx_calld {S SX : Type} {post : UInt64 → S → Prop} {px : SX → Prop} {B : S → State → Prop} {BX : String → SX → State → Prop} {AX : Nat → Prop} (hr : vx_Run p l e R s m args below meth c H locs cells slots mc ms (F0 m pc ls st0) rest (va_Qd post B A1 a) (vx_X px BX AX) free) (hS : va_S A0 H0 H locs) (hA : ∀ q, q < H.size → A1 q → A0 q) (hf : ∀ q, free q → A0 q) (hAX : ∀ q, q < H.size → AX q → A0 q)
    (kx : ∀ (E : String) (ce : Cell) (q9 : Addr) (u : SX) (t : State) (H1 : Heap) (locs1 : List Loc), t.heap = H1 → s.vm.Alike t.vm → px u → BX E u t → H.size ≤ H1.size → (∀ q : Nat, q < H.size → ¬ AX q → H1[q]? = H[q]?) → va_S A0 H0 H1 locs1 → H1[q9]? = some ce → ce.vm = .none → s.vm.findClass E = some ce.cls → vx_W p l e R s m args below meth c H1 locs1 (cells + mc) (slots + ms) Q (F0 m pc ls rest) q9)
    (kk : ∀ (r : UInt64) (u : S) (t : State) (H1 : Heap) (locs1 : List Loc), t.heap = H1 → s.vm.Alike t.vm → post r u → B u t → H.size ≤ H1.size → (∀ q : Nat, q < H.size → ¬ A1 q → H1[q]? = H[q]?) → va_S A0 H0 H1 locs1 → W p l e R s m args below meth c H1 locs1 (cells + mc) (slots + ms) Q (F0 m (pc + 3) ls (.double r :: rest))) : W p l e R s m args below meth c H locs cells slots Q (F0 m pc ls st0) := by
  intro T hT X
  rcases hr T hT X with ⟨v, st₀, t, T', L, h0, X', hL, e1, e2, ⟨⟨r, u, hv, hp, hb⟩, hF⟩, st⟩ | ⟨q, st₀, t, T', L, E, ce, h0, X', hL, e1, e2, ⟨u, hp, hb, hF⟩, hce, hcv, hcl, st⟩
  · cases hv
    obtain ⟨k1, k2, k3⟩ := vx_keep h0 e1 hS hA hf hL hF
    obtain ⟨t2, a1, b1⟩ := kk r u t T'.heap (locs ++ L) e1.symm (by rw [← e2]; exact X'.warmed.alike) hp hb k1 k2 k3 T' rfl X'
    exact ⟨t2, st t2 a1, b1⟩
  · obtain ⟨k1, k2, k3⟩ := vx_keep h0 e1 hS hAX hf hL hF
    obtain ⟨t2, a1, b1⟩ := kx E ce q u t T'.heap (locs ++ L) e1.symm (by rw [← e2]; exact X'.warmed.alike) hp hb k1 k2 k3 (by rw [e1]; exact hce) hcv hcl T' rfl X'
    exact ⟨t2, st.trans a1, b1⟩
theorem vx_callv {S SX : Type} {post : S → Prop} {px : SX → Prop} {B : S → State → Prop} {BX : String → SX → State → Prop} {AX : Nat → Prop} (hr : vx_Run p l e R s m args below meth c H locs cells slots mc ms (F0 m pc ls st0) rest (va_Qv post B A1 a) (vx_X px BX AX) free) (hS : va_S A0 H0 H locs) (hA : ∀ q, q < H.size → A1 q → A0 q) (hf : ∀ q, free q → A0 q) (hAX : ∀ q, q < H.size → AX q → A0 q)
    (kx : ∀ (E : String) (ce : Cell) (q9 : Addr) (u : SX) (t : State) (H1 : Heap) (locs1 : List Loc), t.heap = H1 → s.vm.Alike t.vm → px u → BX E u t → H.size ≤ H1.size → (∀ q : Nat, q < H.size → ¬ AX q → H1[q]? = H[q]?) → va_S A0 H0 H1 locs1 → H1[q9]? = some ce → ce.vm = .none → s.vm.findClass E = some ce.cls → vx_W p l e R s m args below meth c H1 locs1 (cells + mc) (slots + ms) Q (F0 m pc ls rest) q9)
    (kk : ∀ (u : S) (t : State) (H1 : Heap) (locs1 : List Loc), t.heap = H1 → s.vm.Alike t.vm → post u → B u t → H.size ≤ H1.size → (∀ q : Nat, q < H.size → ¬ A1 q → H1[q]? = H[q]?) → va_S A0 H0 H1 locs1 → W p l e R s m args below meth c H1 locs1 (cells + mc) (slots + ms) Q (F0 m (pc + 3) ls (rest))) : W p l e R s m args below meth c H locs cells slots Q (F0 m pc ls st0) := by
  intro T hT X
  rcases hr T hT X with ⟨v, st₀, t, T', L, h0, X', hL, e1, e2, ⟨⟨u, hv, hp, hb⟩, hF⟩, st⟩ | ⟨q, st₀, t, T', L, E, ce, h0, X', hL, e1, e2, ⟨u, hp, hb, hF⟩, hce, hcv, hcl, st⟩
  · cases hv
    obtain ⟨k1, k2, k3⟩ := vx_keep h0 e1 hS hA hf hL hF
    obtain ⟨t2, a1, b1⟩ := kk u t T'.heap (locs ++ L) e1.symm (by rw [← e2]; exact X'.warmed.alike) hp hb k1 k2 k3 T' rfl X'
    exact ⟨t2, st t2 a1, b1⟩
  · obtain ⟨k1, k2, k3⟩ := vx_keep h0 e1 hS hAX hf hL hF
    obtain ⟨t2, a1, b1⟩ := kx E ce q u t T'.heap (locs ++ L) e1.symm (by rw [← e2]; exact X'.warmed.alike) hp hb k1 k2 k3 (by rw [e1]; exact hce) hcv hcl T' rfl X'
    exact ⟨t2, st.trans a1, b1⟩
/-- caught by the row x of this method's table; the rows ahead don't take it -/
theorem vx_catch {own name : String} {E : String} {ce : Cell} {q : Addr} (hown : s.vm.findClass own = some m.cls) (pre : List ExceptionTableEntry) (x : ExceptionTableEntry) (suf : List ExceptionTableEntry) (hsplit : c.exceptionTable.toList = pre ++ x :: suf)
    (hpass : ∀ z ∈ pre, covers z pc = false ∨ (z.catchType ≠ 0 ∧ ∃ nm : String, (Cond.classLink own z.catchType nm).before args s = true ∧ va_Nc E nm s)) (hx : covers x pc = true) (h0 : x.catchType ≠ 0)
    (hlink : (Cond.classLink own x.catchType name).before args s = true) (hcast : (Cond.castable E name).before args s = true) (hcell : H[q]? = some ce) (hv : ce.vm = .none) (hcl : s.vm.findClass E = some ce.cls)
    (kk : W p l e R s m args below meth c H locs cells slots Q (F0 m x.handlerPc ls [.ref q])) : vx_W p l e R s m args below meth c H locs cells slots Q (F0 m pc ls rest) q := by
  intro T hT X
  have hpl : e.platform.magicAccessors = ({} : Platform).magicAccessors := by rw [X.admits.platform]
  obtain ⟨c3, c4, hc3, hc4, hasg⟩ := Cond.castable_spec hcast
  cases Option.some.inj (hc3.symm.trans hcl)
  obtain ⟨c5, hc5, hcl5⟩ := Cond.classLink_spec hown hlink e.platform hpl
  cases Option.some.inj (hc4.symm.trans hc5)
  obtain ⟨vm', X', st⟩ := X.thenCaughtThrough q (g := F0 m pc ls rest) rfl (Steps.refl _) (by rw [hT]; exact hcell) (by rw [hv]; rfl) (by obtain ⟨k9, h9, -⟩ := Vm.findClass_spec hcl; exact ⟨k9, h9⟩) pre x suf hsplit
    (fun z hz => by
      rcases hpass z hz with h | ⟨hz0, nm, hl1, hn1⟩
      · exact Or.inl h
      · obtain ⟨c6, hc6, hcl6⟩ := Cond.classLink_spec hown hl1 e.platform hpl
        obtain ⟨a8, b8, h1, h2, h3⟩ := hn1
        cases Option.some.inj (h1.symm.trans hcl)
        cases Option.some.inj (h2.symm.trans hc6)
        exact Or.inr ⟨hz0, _, hcl6, h3⟩) hx (Or.inr ⟨h0, c4, hcl5, hasg⟩)
  obtain ⟨t, a1, b1⟩ := kk (T.setVm vm') hT X'
  exact ⟨t, st.trans a1, b1⟩
end Rows
section Ends
variable {p : Program} {l : Launch} {e : Env} {R : Room} {s : State} {m : MethodId} {args : Array Value} {below : List Frame} {meth : Method} {c : Code} {H : Heap} {locs : List Loc} {cells slots : Nat} {Q : State → Prop}
variable {mc ms : Nat} {free : Addr → Prop} {A0 A1 : Nat → Prop} {H0 : Heap} {a : Array Value} {ls : Array Slot} {st0 rest : List Value}
variable {Qc : Array Value → State → Outcome → State → Prop} {XC : String → State → State → Prop}
/-- what a body that may throw owes at its end -/
def vx_MQ (below : List Frame) (Qc : Array Value → State → Outcome → State → Prop) (XC : String → State → State → Prop) (a : Array Value) (s : State) (mc ms : Nat) (free : Addr → Prop) : State → Prop := fun t =>
  ∃ o, t.status = .running ∧ Ended t below o ∧ vx_Q Qc XC mc ms free a s o t
theorem vx_ret {g : JFrame} {mc ms : Nat} (k : W p l e R s m args below meth c H locs cells slots (MQ below Qc args s mc ms free) g) : W p l e R s m args below meth c H locs cells slots (vx_MQ below Qc XC args s mc ms free) g := by
  intro T hT X
  obtain ⟨t, a1, o, b1, b2, b3, b4⟩ := k T hT X
  exact ⟨t, a1, o, b1, b2, Or.inl ⟨b3, b4⟩⟩
/-- not caught here: it goes on to the caller -/
theorem vx_widen {g : JFrame} {q : Addr} {k n : Nat} (h1 : cells ≤ k) (h2 : slots ≤ n) (kk : vx_W p l e R s m args below meth c H locs k n Q g q) : vx_W p l e R s m args below meth c H locs cells slots Q g q := fun T hT X => kk T hT (stand_widen X h1 h2)
theorem vx_out {pc : Nat} {E : String} {ce : Cell} {q : Addr} {mc ms : Nat} (hout : ∀ x ∈ c.exceptionTable.toList, covers x pc = false) (hlocks : meth.locks = false) (hcell : H[q]? = some ce) (hv : ce.vm = .none) (hcl : s.vm.findClass E = some ce.cls)
    (hx : ∀ t : State, t.heap = H → s.vm.Alike t.vm → XC E s t) (hf : ∀ z ∈ locs, free z.base) (hc : cells ≤ mc) (hs : slots ≤ ms) :
    vx_W p l e R s m args below meth c H locs cells slots (vx_MQ below Qc XC args s mc ms free) (F0 m pc ls rest) q := by
  intro T hT X
  obtain ⟨st1, hrun, hend, hW, hsm⟩ := X.leaveThrown q (g := F0 m pc ls rest) rfl rfl rfl hout hlocks
  have hcell9 : (T.setFrames (.throwing q :: below)).heap[q]? = some ce := by
    show T.heap[q]? = some ce
    rw [hT]; exact hcell
  exact ⟨_, st1, .threw q, hrun, hend, Or.inr ⟨q, rfl, E, ce, locs, hx _ hT hW.alike, hcell9, hv, hcl, hW, hsm.mono hc hs, hf⟩⟩
theorem vx_frame {U : State} {k n : Nat} (h : s.sameButNew ({ U with vm := s.vm } : State) locs k n) : s.heap.size ≤ U.heap.size ∧ ∀ q : Nat, q < s.heap.size → (∀ z ∈ locs, z.base ≠ q) → U.heap[q]? = s.heap[q]? := by
  obtain ⟨-, h2, -, -, -, h6⟩ := h
  refine ⟨h2, fun q hq hz => ?_⟩
  obtain ⟨c9, e1, e2, e3, e4⟩ := h6 q _ (Array.getElem?_eq_getElem hq)
  have hs : c9.slots = (s.heap[q]).slots := Array.ext_getElem? fun i => e4 i fun hm => hz _ hm rfl
  have h9 : c9 = s.heap[q] := by
    rw [hs] at e2
    exact e2
  have e5 : U.heap[q]? = some c9 := e1
  rw [e5, h9, Array.getElem?_eq_getElem hq]
/-- the words of a throw but the four that speak of the heap -/
def vx_no (w : Cond) : Bool := decide (w ≠ .isRef (.static Bundle.tN "UNASSIGNED_STACK" Bundle.steD)) && decide (w ≠ .isRef (.static Bundle.tN "SUPPRESSED_SENTINEL" Bundle.listD)) && decide (w ≠ .laysStatic Bundle.tN "UNASSIGNED_STACK" Bundle.steD) && decide (w ≠ .laysStatic Bundle.tN "SUPPRESSED_SENTINEL" Bundle.listD)
def vx_at0 (own : String) (ic : Nat) (X : String) (names : List String) : List Cond := (Bundle.ownAtoms0 own ic X names).filter vx_no
def vx_atS (own : String) (ic : Nat) (X : String) (names : List String) : List Cond := (Bundle.ownAtoms own ic X names).filter vx_no
/-- a word that the tables alone decide, or a good one -/
def vx_ot (w : Cond) : Bool := w.onTables || goodWord w
theorem vx_ot_at {args a' : Array Value} {s U : State} {w : Cond} (hW : s.WarmedH U.vm) (hvm : s.vm = U.vm) (hg : vx_ot w = true) (h : w.before args s = true) : w.before a' U = true := by
  simp only [vx_ot, Bool.or_eq_true] at hg
  rcases hg with hg | hg
  · exact va_tabs hg hvm h
  · exact word_at hW (good_of_word hg) h
/-- a list's words: the good ones out of the method's own list, the others by premises of their own -/
theorem vx_hat {args : Array Value} {s : State} {L B : List Cond} (h1 : ∀ w ∈ L.filter goodWord, w.before args s = true) (h2 : ∀ w ∈ L.filter (fun w => !goodWord w), w ∈ B) (h3 : ∀ w ∈ B, w.before args s = true) : ∀ w ∈ L, w.before args s = true := by
  intro w hw
  by_cases g : goodWord w = true
  · exact h1 w (List.mem_filter.mpr ⟨hw, g⟩)
  · refine h3 w (h2 w (List.mem_filter.mpr ⟨hw, ?_⟩))
    show (!goodWord w) = true
    cases hgw : goodWord w
    · rfl
    · exact absurd hgw g
theorem vx_c {args : Array Value} {s : State} {w : Cond} {B : List Cond} (h : w.before args s = true) (t : ∀ w ∈ B, w.before args s = true) : ∀ w' ∈ w :: B, w'.before args s = true := fun w' h' => (List.mem_cons.mp h').elim (fun e => by rw [e]; exact h) (t w')
theorem vx_n {args : Array Value} {s : State} : ∀ w ∈ ([] : List Cond), w.before args s = true := fun _ h => nomatch h
theorem vx_own {args : Array Value} {s : State} {L : List Cond} (h1 : ∀ w ∈ L.filter vx_no, w.before args s = true)
    (hU : (Cond.isRef (.static Bundle.tN "UNASSIGNED_STACK" Bundle.steD)).before args s = true) (hN : (Cond.isRef (.static Bundle.tN "SUPPRESSED_SENTINEL" Bundle.listD)).before args s = true)
    (lU : (Cond.laysStatic Bundle.tN "UNASSIGNED_STACK" Bundle.steD).before args s = true) (lN : (Cond.laysStatic Bundle.tN "SUPPRESSED_SENTINEL" Bundle.listD).before args s = true) : ∀ w ∈ L, w.before args s = true := by
  intro w hw
  by_cases e1 : w = .isRef (.static Bundle.tN "UNASSIGNED_STACK" Bundle.steD)
  · rw [e1]; exact hU
  · by_cases e2 : w = .isRef (.static Bundle.tN "SUPPRESSED_SENTINEL" Bundle.listD)
    · rw [e2]; exact hN
    · by_cases e3 : w = .laysStatic Bundle.tN "UNASSIGNED_STACK" Bundle.steD
      · rw [e3]; exact lU
      · by_cases e4 : w = .laysStatic Bundle.tN "SUPPRESSED_SENTINEL" Bundle.listD
        · rw [e4]; exact lN
        · exact h1 w (List.mem_filter.mpr ⟨hw, by unfold vx_no; rw [decide_eq_true e1, decide_eq_true e2, decide_eq_true e3, decide_eq_true e4]; rfl⟩)
/-- where a static field lies, its class's statics cell in H -/
def vx_L (C n d : String) (A : Nat → Prop) (U : State) (H : Heap) : Prop := ∃ (c : ClassId) (k : Class) (i : Nat) (f : Field) (a : Nat) (cell : Cell), U.vm.findClass C = some c ∧ U.fieldFound? C n d = some (c, k, i, f) ∧ f.isStatic = true ∧ k.statics = some a ∧ H[a]? = some cell ∧ cell.vm.isStatics = true ∧ cell.cls = c ∧ f.slot < cell.slots.size ∧ k.staticTypes[f.slot]? = some f.type ∧ ¬ A a
theorem vx_L.moved {C n d : String} {A : Nat → Prop} {u U : State} {H : Heap} (hvm : u.vm.Alike U.vm) (h : vx_L C n d A u H) : vx_L C n d A U H := by
  obtain ⟨c, k, i, f, a, cell, h1, h2, h3, h4, h5, h6, h7, h8, h9, h10⟩ := h
  obtain ⟨k', hi', he⟩ := State.fieldFound?_setVm hvm h2
  exact ⟨c, k', i, f, a, cell, by rw [hvm.findClass]; exact h1, hi', h3, by rw [he]; exact h4, h5, h6, h7, h8, by rw [he]; exact h9, h10⟩
theorem vx_L.kept {C n d : String} {A : Nat → Prop} {U : State} {H H1 : Heap} (h : vx_L C n d A U H) (hq : ∀ a : Nat, a < H.size → ¬ A a → H1[a]? = H[a]?) : vx_L C n d A U H1 := by
  obtain ⟨c, k, i, f, a, cell, h1, h2, h3, h4, h5, h6, h7, h8, h9, h10⟩ := h
  exact ⟨c, k, i, f, a, cell, h1, h2, h3, h4, by rw [hq a (Array.getElem?_eq_some_iff.mp h5).1 h10]; exact h5, h6, h7, h8, h9, h10⟩
theorem vx_L.narrow {C n d : String} {A B : Nat → Prop} {U : State} {H : Heap} (h : vx_L C n d A U H) (hAB : ∀ q, B q → A q) : vx_L C n d B U H := by
  obtain ⟨c, k, i, f, a, cell, h1, h2, h3, h4, h5, h6, h7, h8, h9, h10⟩ := h
  exact ⟨c, k, i, f, a, cell, h1, h2, h3, h4, h5, h6, h7, h8, h9, fun z => h10 (hAB _ z)⟩
theorem vx_L.word {C n d : String} {A : Nat → Prop} {s : State} {args : Array Value} (h : vx_L C n d A s s.heap) : (Cond.laysStatic C n d).before args s = true := by
  obtain ⟨c, k, i, f, a, cell, h1, h2, h3, h4, h5, h6, h7, h8, h9, -⟩ := h
  show (Cond.laysStatic C n d).holds args s none s [] = true
  exact Cond.laysStatic_of h1 h2 h3 h4 h5 h6 h7 h8 h9
/-- .. and what it holds: null or some reference -/
def vx_Zq (C n d : String) (A : Nat → Prop) (U : State) (H : Heap) : Prop := va_Zq C n d A U H ∧ vx_L C n d A U H
theorem vx_Zq.moved {C n d : String} {A : Nat → Prop} {u U : State} {H : Heap} (hvm : u.vm.Alike U.vm) (h : vx_Zq C n d A u H) : vx_Zq C n d A U H := ⟨va_Zq.moved hvm h.1, vx_L.moved hvm h.2⟩
theorem vx_Zq.kept {C n d : String} {A : Nat → Prop} {U : State} {H H1 : Heap} (h : vx_Zq C n d A U H) (hq : ∀ a : Nat, a < H.size → ¬ A a → H1[a]? = H[a]?) : vx_Zq C n d A U H1 := ⟨va_Zq.kept h.1 hq, vx_L.kept h.2 hq⟩
theorem vx_Zq.narrow {C n d : String} {A B : Nat → Prop} {U : State} {H : Heap} (h : vx_Zq C n d A U H) (hAB : ∀ q, B q → A q) : vx_Zq C n d B U H := ⟨va_Zq.narrow h.1 hAB, vx_L.narrow h.2 hAB⟩
theorem vx_Zqof {args : Array Value} {s : State} {C n d : String} {A : Nat → Prop} (hl : (Cond.laysStatic C n d).before args s = true) (hini : (Cond.initialized C).before args s = true) (h : (Cond.isRef (.static C n d)).before args s = true) (hA : ∀ a : Nat, a < s.heap.size → ¬ A a) : vx_Zq C n d A s s.heap := by
  refine ⟨va_Zqof hl hini h hA, ?_⟩
  obtain ⟨c, k, i, f, a, cell, h1, h2, h3, h4, h5, h6, h7, h8, h9⟩ := Cond.laysStatic_spec hl
  exact ⟨c, k, i, f, a, cell, h1, h2, h3, h4, h5, h6, h7, h8, h9, hA a (Array.getElem?_eq_some_iff.mp h5).1⟩
theorem vx_isRef {C n d : String} {v : Value} {A : Nat → Prop} {s : State} {args : Array Value} (h : va_Z C n d v A s s.heap) (hv : v.isRef = true) : (Cond.isRef (.static C n d)).before args s = true := by
  obtain ⟨cf, kf, fi, f, a, cell, h1, h2, h3, h4, h5, h6, h7, -⟩ := h
  have he : (Term.static C n d).eval args s none [] s = some v := by
    simp [Term.eval, State.fieldNamed?, h1, h2, h4, h5, h6, h7]
  simp only [Cond.before, Cond.holds, Cond.value, he]
  cases v <;> simp_all [Value.isRef]
theorem vx_isRefq {C n d : String} {A : Nat → Prop} {s : State} {args : Array Value} (h : va_Zq C n d A s s.heap) : (Cond.isRef (.static C n d)).before args s = true := by
  rcases h with h | ⟨t, h⟩
  · exact vx_isRef h rfl
  · exact vx_isRef h rfl
/-- the same frame, seen from here: as if the method were called anew in this heap -/
theorem vx_rebase {T : State} (X : Stand p l e R s m args below meth c T locs cells slots) {R' : Room} (hf : R'.frames ≤ R.frames) (hl : R'.locals ≤ R.locals) (hc : cells + R'.cells ≤ R.cells) (hs : slots + R'.slots ≤ R.slots) :
    Stand p l e R' ((T.setVm s.vm).setFrames (.invoking m args :: below)) m args below meth c T [] 0 0 := by
  have htop : (T.setVm s.vm).topJava?.isSome := X.here.top
  have hF : ((T.setVm s.vm).setFrames (.invoking m args :: below)).frames = .invoking m args :: below := State.frames_setFrames _ (State.cur_lt_of_top htop)
  obtain ⟨g₀, hg0⟩ := Option.isSome_iff_exists.mp htop
  obtain ⟨r, hr⟩ := State.topJava?_eq_some.mp hg0
  have hl9 : e.platform.stackLimits (T.setVm s.vm).me = e.platform.stackLimits s.me := X.limits
  have hb9 : (T.setVm s.vm).me.stackBytes = s.me.stackBytes := X.bytes
  refine ⟨X.admits, X.cas, X.clock, hF, ?_, X.hears, X.method, X.code, X.here, X.tail, X.warmed, ?_, ?_, ?_⟩
  · have h := X.room
    have hU : ((T.setVm s.vm).setFrames (.invoking m args :: below)).localsInUse = s.localsInUse := by
      rw [State.localsInUse_invoking hF (meth := meth) (c := c) X.method X.code, State.localsInUse_invoking X.frames X.method X.code]
    simp only [State.hasRoom, Bool.and_eq_true, decide_eq_true_eq] at h ⊢
    obtain ⟨⟨⟨⟨h1, h2, h3, h4, h5, h6⟩, h7⟩, h8⟩, h9⟩ := h
    rw [X.frames, List.length_cons] at h2 h3
    have q1 := X.heapSize
    have q2 := X.used
    simp only [hF, hU, List.length_cons, State.stackLimits_setFrames, State.stackBytes_setFrames, hl9, hb9]
    refine ⟨⟨⟨⟨by omega, by omega, by omega, by omega, by omega, h6⟩, ?_⟩, ?_⟩, X.book⟩
    · show T.heap.size + R'.cells ≤ e.platform.maxCells
      omega
    · show T.slotsUsed + R'.slots ≤ e.platform.maxSlots
      omega
  · rw [State.stackLimits_setFrames]; rfl
  · rw [State.stackBytes_setFrames]; rfl
  · refine ⟨?_, Nat.le_refl _, Nat.le_refl _, ?_, ?_, fun a c9 h9 => ⟨c9, h9, rfl, rfl, fun _ _ => rfl⟩⟩
    · obtain ⟨t, ht, -⟩ := State.frames_cons hr
      show T.setVm s.vm = { ((T.setVm s.vm).setFrames (.invoking m args :: below)).setFrames (T.setVm s.vm).frames with heap := T.heap, slotsUsed := T.slotsUsed }
      rw [State.setFrames_setFrames, State.setFrames_self ht]
      rfl
    · show T.slotsUsed = T.slotsUsed + ((T.heap.toList.drop T.heap.size).map (·.slots.size)).sum
      rw [List.drop_eq_nil_of_le (Nat.le_of_eq Array.length_toList)]
      rfl
    · show ((T.heap.toList.drop T.heap.size).map (·.slots.size)).sum ≤ 0
      rw [List.drop_eq_nil_of_le (Nat.le_of_eq Array.length_toList)]
      exact Nat.le_refl _
/-- 'throw new E()': new; dup; invokespecial; athrow -/
theorem vx_throw0 {cc : ByteArray} {pc : Nat} (hexec : p.tables.exec = Jvm.exec) (hb : c.code = cc) (hl : l.stackTraces = false) {own cls : String} {names : List String} {ik ic mc ms : Nat} {A : Nat → Prop}
    (hown : s.vm.findClass own = some m.cls) (hcls : Bundle.fit cls = true) (hnames : ∀ n ∈ names, Bundle.fit n = true)
    (hk : (Cond.classLink own ik cls).before args s = true) (hini : (Cond.initialized cls).before args s = true) (hat : ∀ w ∈ vx_at0 own ic cls names, w.before args s = true)
    (hgood : ∀ w ∈ Cond.classLink own ik cls :: Cond.initialized cls :: vx_at0 own ic cls names, vx_ot w = true)
    (hU : vx_Zq Bundle.tN "UNASSIGNED_STACK" Bundle.steD A s s.heap) (hN : vx_Zq Bundle.tN "SUPPRESSED_SENTINEL" Bundle.listD A s s.heap) (hS : va_S A s.heap H locs) (hsize : ls.size = c.maxLocals)
    (d0 : decode cc pc = .ok (.new ik, 3)) (d3 : decode cc (pc + 3) = .ok (.dup, 1)) (d4 : decode cc (pc + 4) = .ok (.invokespecial ic, 3)) (d7 : decode cc (pc + 7) = .ok (.athrow, 1))
    (hout : ∀ x ∈ c.exceptionTable.toList, covers x (pc + 7) = false)
    (hRframes : names.length + 3 < R.frames) (hRlocals : (rest.map fun v => v.category).sum + (13 * (names.length + 1) + 42) ≤ R.locals) (hRcells : cells + 1 ≤ R.cells) (hRslots : slots + 6 ≤ R.slots) (hlocks : meth.locks = false)
    (hx : ∀ t : State, s.vm.Alike t.vm → H.size ≤ t.heap.size → (∀ q : Nat, q < H.size → t.heap[q]? = H[q]?) → XC cls s t)
    (hf : ∀ z ∈ locs, free z.base) (hc : cells + 1 ≤ mc) (hs : slots + 6 ≤ ms) :
    W p l e R s m args below meth c H locs cells slots (vx_MQ below Qc XC args s mc ms free) (F0 m pc ls rest) := by
  intro T hT X
  have htr : e.platform.stackTraces = false := (show e.platform.stackTraces = l.stackTraces by rw [X.admits.platform]).trans hl
  have Y := vx_rebase X (R' := { frames := R.frames, locals := R.locals, cells := 1, slots := 6 }) (Nat.le_refl _) (Nat.le_refl _) hRcells hRslots
  obtain ⟨s', hA⟩ : ∃ z, z = (T.setVm s.vm).setFrames (.invoking m args :: below) := ⟨_, rfl⟩
  rw [← hA] at Y
  have hvm : s'.vm = s.vm := by rw [hA]; rfl
  have hhp : s'.heap = H := by rw [hA]; exact hT
  have hW0 : s.WarmedH s'.vm := by rw [hvm]; exact State.WarmedH.refl s
  have hat' : ∀ w ∈ vx_at0 own ic cls names, w.before args s' = true := fun w hw => vx_ot_at hW0 hvm.symm (hgood w (List.mem_cons_of_mem _ (List.mem_cons_of_mem _ hw))) (hat w hw)
  have hk' : (Cond.classLink own ik cls).before args s' = true := vx_ot_at hW0 hvm.symm (hgood _ List.mem_cons_self) hk
  have hini' : (Cond.initialized cls).before args s' = true := vx_ot_at hW0 hvm.symm (hgood _ (List.mem_cons_of_mem _ List.mem_cons_self)) hini
  have hU' : vx_Zq Bundle.tN "UNASSIGNED_STACK" Bundle.steD A s' s'.heap := by rw [hhp]; exact vx_Zq.moved hW0.alike (hU.kept hS.2.1)
  have hN' : vx_Zq Bundle.tN "SUPPRESSED_SENTINEL" Bundle.listD A s' s'.heap := by rw [hhp]; exact vx_Zq.moved hW0.alike (hN.kept hS.2.1)
  have h : ∀ w ∈ Bundle.ownAtoms0 own ic cls names, w.before args s' = true := vx_own hat' (vx_isRefq hU'.1) (vx_isRefq hN'.1) hU'.2.word hN'.2.word
  have hown' : s'.vm.findClass own = some m.cls := by rw [hvm]; exact hown
  have hins : (Cond.instantiable cls 6).before args s' = true := h _ (by simp [Bundle.ownAtoms0])
  obtain ⟨vm₁, cX, kX, hfX, hkX, -, -, X₁, st1⟩ := Y.newCold hexec (own := own) (C := cls) (index := ik) (n := 6) hown' hk' hins hini'
    (g := F0 m pc ls rest) rfl (by rw [hb]; exact d0) (Nat.le_refl _) (Nat.le_refl _)
  generalize hT1 : (T.setVm vm₁).pushCell { cls := cX, slots := kX.instanceTypes.map defaultValue, vm := .none } = T1 at X₁ st1
  have hcat : (Value.ref T.heap.size).category = 1 := rfl
  have hcellA : T1.heap[T.heap.size]? = some (freshCell cX kX) := by rw [← hT1]; exact State.heap_pushCell_size _ _
  have d3' : decode c.code (pc + 3) = .ok (.dup, 1) := by rw [hb]; exact d3
  obtain ⟨U, hsteps, hrun, hend, hW, hsame, ce, hce, hO⟩ := X₁.ctorThrow0 hexec htr (own := own) (cls := cls) (names := names) (ic := ic) hown' hcls hnames h (fun x hx => nomatch hx) hfX hkX hcellA (by rw [hhp, hT]; exact Nat.le_refl _)
    (g := { method := m, pc := pc + 4, locals := ls, stack := .ref T.heap.size :: .ref T.heap.size :: rest, locked := none }) rfl hsize rfl rfl (rest := rest) rfl
    (by rw [hb]; exact d4) (by rw [hb]; exact d7) hout hRframes (by simp only [List.map_cons, List.sum_cons, hcat]; omega) hlocks
  obtain ⟨f1, f2⟩ := vx_frame hsame
  rw [hhp] at f1 f2
  have hWs : s.WarmedH U.vm := State.WarmedH.trans hW0 hW
  have hcl : s.vm.findClass cls = some ce.cls := by
    have h9 := hO.cls
    rw [hvm] at h9
    exact h9
  have hall : s.sameButNew ({ U with vm := s.vm } : State) locs mc ms := by
    subst hA
    obtain ⟨e1, e2⟩ := hsame
    rw [State.setFrames_setFrames] at e1
    have h2 : (T.setVm s.vm).sameButNew ({ U with vm := s.vm } : State) [] (0 + 1) (0 + 6) := ⟨e1, e2⟩
    have h3 := X.same.trans h2
    rw [List.append_nil] at h3
    exact h3.mono hc hs
  refine ⟨U, ?_, .threw T.heap.size, hrun, hend, Or.inr ⟨T.heap.size, rfl, cls, ce, locs, hx U hWs.alike f1 (fun q hq => f2 q hq (fun z hz => nomatch hz)), hce, hO.vm, hcl, hWs, hall, hf⟩⟩
  refine st1 _ ?_
  show Steps p.tables e below (T1.setTop { method := m, pc := pc + 3, locals := ls, stack := .ref T.heap.size :: rest, locked := none }) _
  jvm_step X₁.here [X₁.here.top, hexec, d3', Value.category]
  exact hsteps
/-- 'throw new E("text")': new; dup; ldc; invokespecial; athrow -/
theorem vx_throwS {cc : ByteArray} {pc : Nat} (hexec : p.tables.exec = Jvm.exec) (hb : c.code = cc) (hl : l.stackTraces = false) {own cls text : String} {names : List String} {ik is ic mc ms sa : Nat} {A : Nat → Prop}
    (hown : s.vm.findClass own = some m.cls) (hcls : Bundle.fit cls = true) (hnames : ∀ n ∈ names, Bundle.fit n = true)
    (hk : (Cond.classLink own ik cls).before args s = true) (hini : (Cond.initialized cls).before args s = true) (hstr : vk_R own is text sa s) (hat : ∀ w ∈ vx_atS own ic cls names, w.before args s = true)
    (hgood : ∀ w ∈ Cond.classLink own ik cls :: Cond.initialized cls :: vx_atS own ic cls names, vx_ot w = true)
    (hU : vx_Zq Bundle.tN "UNASSIGNED_STACK" Bundle.steD A s s.heap) (hN : vx_Zq Bundle.tN "SUPPRESSED_SENTINEL" Bundle.listD A s s.heap) (hS : va_S A s.heap H locs) (hsize : ls.size = c.maxLocals)
    (d0 : decode cc pc = .ok (.new ik, 3)) (d3 : decode cc (pc + 3) = .ok (.dup, 1)) (d4 : decode cc (pc + 4) = .ok (.ldc is, 2)) (d6 : decode cc (pc + 6) = .ok (.invokespecial ic, 3)) (d9 : decode cc (pc + 9) = .ok (.athrow, 1))
    (hout : ∀ x ∈ c.exceptionTable.toList, covers x (pc + 9) = false)
    (hRframes : names.length + 3 < R.frames) (hRlocals : (rest.map fun v => v.category).sum + (13 * (names.length + 1) + 43) ≤ R.locals) (hRcells : cells + 1 ≤ R.cells) (hRslots : slots + 6 ≤ R.slots) (hlocks : meth.locks = false)
    (hx : ∀ t : State, s.vm.Alike t.vm → H.size ≤ t.heap.size → (∀ q : Nat, q < H.size → t.heap[q]? = H[q]?) → XC cls s t)
    (hf : ∀ z ∈ locs, free z.base) (hc : cells + 1 ≤ mc) (hs : slots + 6 ≤ ms) :
    W p l e R s m args below meth c H locs cells slots (vx_MQ below Qc XC args s mc ms free) (F0 m pc ls rest) := by
  intro T hT X
  have htr : e.platform.stackTraces = false := (show e.platform.stackTraces = l.stackTraces by rw [X.admits.platform]).trans hl
  have Y := vx_rebase X (R' := { frames := R.frames, locals := R.locals, cells := 1, slots := 6 }) (Nat.le_refl _) (Nat.le_refl _) hRcells hRslots
  obtain ⟨s', hA⟩ : ∃ z, z = (T.setVm s.vm).setFrames (.invoking m args :: below) := ⟨_, rfl⟩
  rw [← hA] at Y
  have hvm : s'.vm = s.vm := by rw [hA]; rfl
  have hhp : s'.heap = H := by rw [hA]; exact hT
  have hW0 : s.WarmedH s'.vm := by rw [hvm]; exact State.WarmedH.refl s
  have hat' : ∀ w ∈ vx_atS own ic cls names, w.before args s' = true := fun w hw => vx_ot_at hW0 hvm.symm (hgood w (List.mem_cons_of_mem _ (List.mem_cons_of_mem _ hw))) (hat w hw)
  have hk' : (Cond.classLink own ik cls).before args s' = true := vx_ot_at hW0 hvm.symm (hgood _ List.mem_cons_self) hk
  have hini' : (Cond.initialized cls).before args s' = true := vx_ot_at hW0 hvm.symm (hgood _ (List.mem_cons_of_mem _ List.mem_cons_self)) hini
  have hU' : vx_Zq Bundle.tN "UNASSIGNED_STACK" Bundle.steD A s' s'.heap := by rw [hhp]; exact vx_Zq.moved hW0.alike (hU.kept hS.2.1)
  have hN' : vx_Zq Bundle.tN "SUPPRESSED_SENTINEL" Bundle.listD A s' s'.heap := by rw [hhp]; exact vx_Zq.moved hW0.alike (hN.kept hS.2.1)
  have h : ∀ w ∈ Bundle.ownAtoms own ic cls names, w.before args s' = true := vx_own hat' (vx_isRefq hU'.1) (vx_isRefq hN'.1) hU'.2.word hN'.2.word
  have hown' : s'.vm.findClass own = some m.cls := by rw [hvm]; exact hown
  have hins : (Cond.instantiable cls 6).before args s' = true := h _ (by simp [Bundle.ownAtoms])
  obtain ⟨vm₁, cX, kX, hfX, hkX, -, -, X₁, st1⟩ := Y.newCold hexec (own := own) (C := cls) (index := ik) (n := 6) hown' hk' hins hini'
    (g := F0 m pc ls rest) rfl (by rw [hb]; exact d0) (Nat.le_refl _) (Nat.le_refl _)
  generalize hT1 : (T.setVm vm₁).pushCell { cls := cX, slots := kX.instanceTypes.map defaultValue, vm := .none } = T1 at X₁ st1
  have hcat : (Value.ref T.heap.size).category = 1 := rfl
  have hcellA : T1.heap[T.heap.size]? = some (freshCell cX kX) := by rw [← hT1]; exact State.heap_pushCell_size _ _
  have d3' : decode c.code (pc + 3) = .ok (.dup, 1) := by rw [hb]; exact d3
  have d4' : decode c.code (pc + 4) = .ok (.ldc is, 2) := by rw [hb]; exact d4
  have hstr' : vk_R own is text sa s' := vk_R.warm hW0 hstr
  obtain ⟨U, hsteps, hrun, hend, hW, hsame, ce, hce, hO⟩ := X₁.ctorThrowS hexec htr (own := own) (cls := cls) (names := names) (ic := ic) hown' hcls hnames h (fun x hx => nomatch hx) hfX hkX hcellA (by rw [hhp, hT]; exact Nat.le_refl _) (msg := .ref sa) rfl
    (g := { method := m, pc := pc + 6, locals := ls, stack := .ref sa :: .ref T.heap.size :: .ref T.heap.size :: rest, locked := none }) rfl hsize rfl rfl (rest := rest) rfl
    (by rw [hb]; exact d6) (by rw [hb]; exact d9) hout hRframes (by simp only [List.map_cons, List.sum_cons, hcat]; omega) hlocks
  obtain ⟨f1, f2⟩ := vx_frame hsame
  rw [hhp] at f1 f2
  have hWs : s.WarmedH U.vm := State.WarmedH.trans hW0 hW
  have hcl : s.vm.findClass cls = some ce.cls := by
    have h9 := hO.cls
    rw [hvm] at h9
    exact h9
  have hall : s.sameButNew ({ U with vm := s.vm } : State) locs mc ms := by
    subst hA
    obtain ⟨e1, e2⟩ := hsame
    rw [State.setFrames_setFrames] at e1
    have h2 : (T.setVm s.vm).sameButNew ({ U with vm := s.vm } : State) [] (0 + 1) (0 + 6) := ⟨e1, e2⟩
    have h3 := X.same.trans h2
    rw [List.append_nil] at h3
    exact h3.mono hc hs
  refine ⟨U, ?_, .threw T.heap.size, hrun, hend, Or.inr ⟨T.heap.size, rfl, cls, ce, locs, hx U hWs.alike f1 (fun q hq => f2 q hq (fun z hz => nomatch hz)), hce, hO.vm, hcl, hWs, hall, hf⟩⟩
  refine st1 _ ?_
  show Steps p.tables e below (T1.setTop { method := m, pc := pc + 3, locals := ls, stack := .ref T.heap.size :: rest, locked := none }) _
  jvm_step X₁.here [X₁.here.top, hexec, d3', Value.category]
  exact X₁.ldcString hexec (own := own) (text := text) (index := is) (a := sa) hown' hstr'.1 hstr'.2
    (g := { method := m, pc := pc + 4, locals := ls, stack := .ref T.heap.size :: .ref T.heap.size :: rest, locked := none }) rfl d4' _ hsteps
/-- 'throw new E("text")', the text by a wide index -/
theorem vx_throwSW {cc : ByteArray} {pc : Nat} (hexec : p.tables.exec = Jvm.exec) (hb : c.code = cc) (hl : l.stackTraces = false) {own cls text : String} {names : List String} {ik is ic mc ms sa : Nat} {A : Nat → Prop}
    (hown : s.vm.findClass own = some m.cls) (hcls : Bundle.fit cls = true) (hnames : ∀ n ∈ names, Bundle.fit n = true)
    (hk : (Cond.classLink own ik cls).before args s = true) (hini : (Cond.initialized cls).before args s = true) (hstr : vk_R own is text sa s) (hat : ∀ w ∈ vx_atS own ic cls names, w.before args s = true)
    (hgood : ∀ w ∈ Cond.classLink own ik cls :: Cond.initialized cls :: vx_atS own ic cls names, vx_ot w = true)
    (hU : vx_Zq Bundle.tN "UNASSIGNED_STACK" Bundle.steD A s s.heap) (hN : vx_Zq Bundle.tN "SUPPRESSED_SENTINEL" Bundle.listD A s s.heap) (hS : va_S A s.heap H locs) (hsize : ls.size = c.maxLocals)
    (d0 : decode cc pc = .ok (.new ik, 3)) (d3 : decode cc (pc + 3) = .ok (.dup, 1)) (d4 : decode cc (pc + 4) = .ok (.ldc_w is, 3)) (d7 : decode cc (pc + 7) = .ok (.invokespecial ic, 3)) (d10 : decode cc (pc + 10) = .ok (.athrow, 1))
    (hout : ∀ x ∈ c.exceptionTable.toList, covers x (pc + 10) = false)
    (hRframes : names.length + 3 < R.frames) (hRlocals : (rest.map fun v => v.category).sum + (13 * (names.length + 1) + 43) ≤ R.locals) (hRcells : cells + 1 ≤ R.cells) (hRslots : slots + 6 ≤ R.slots) (hlocks : meth.locks = false)
    (hx : ∀ t : State, s.vm.Alike t.vm → H.size ≤ t.heap.size → (∀ q : Nat, q < H.size → t.heap[q]? = H[q]?) → XC cls s t)
    (hf : ∀ z ∈ locs, free z.base) (hc : cells + 1 ≤ mc) (hs : slots + 6 ≤ ms) :
    W p l e R s m args below meth c H locs cells slots (vx_MQ below Qc XC args s mc ms free) (F0 m pc ls rest) := by
  intro T hT X
  have htr : e.platform.stackTraces = false := (show e.platform.stackTraces = l.stackTraces by rw [X.admits.platform]).trans hl
  have Y := vx_rebase X (R' := { frames := R.frames, locals := R.locals, cells := 1, slots := 6 }) (Nat.le_refl _) (Nat.le_refl _) hRcells hRslots
  obtain ⟨s', hA⟩ : ∃ z, z = (T.setVm s.vm).setFrames (.invoking m args :: below) := ⟨_, rfl⟩
  rw [← hA] at Y
  have hvm : s'.vm = s.vm := by rw [hA]; rfl
  have hhp : s'.heap = H := by rw [hA]; exact hT
  have hW0 : s.WarmedH s'.vm := by rw [hvm]; exact State.WarmedH.refl s
  have hat' : ∀ w ∈ vx_atS own ic cls names, w.before args s' = true := fun w hw => vx_ot_at hW0 hvm.symm (hgood w (List.mem_cons_of_mem _ (List.mem_cons_of_mem _ hw))) (hat w hw)
  have hk' : (Cond.classLink own ik cls).before args s' = true := vx_ot_at hW0 hvm.symm (hgood _ List.mem_cons_self) hk
  have hini' : (Cond.initialized cls).before args s' = true := vx_ot_at hW0 hvm.symm (hgood _ (List.mem_cons_of_mem _ List.mem_cons_self)) hini
  have hU' : vx_Zq Bundle.tN "UNASSIGNED_STACK" Bundle.steD A s' s'.heap := by rw [hhp]; exact vx_Zq.moved hW0.alike (hU.kept hS.2.1)
  have hN' : vx_Zq Bundle.tN "SUPPRESSED_SENTINEL" Bundle.listD A s' s'.heap := by rw [hhp]; exact vx_Zq.moved hW0.alike (hN.kept hS.2.1)
  have h : ∀ w ∈ Bundle.ownAtoms own ic cls names, w.before args s' = true := vx_own hat' (vx_isRefq hU'.1) (vx_isRefq hN'.1) hU'.2.word hN'.2.word
  have hown' : s'.vm.findClass own = some m.cls := by rw [hvm]; exact hown
  have hins : (Cond.instantiable cls 6).before args s' = true := h _ (by simp [Bundle.ownAtoms])
  obtain ⟨vm₁, cX, kX, hfX, hkX, -, -, X₁, st1⟩ := Y.newCold hexec (own := own) (C := cls) (index := ik) (n := 6) hown' hk' hins hini'
    (g := F0 m pc ls rest) rfl (by rw [hb]; exact d0) (Nat.le_refl _) (Nat.le_refl _)
  generalize hT1 : (T.setVm vm₁).pushCell { cls := cX, slots := kX.instanceTypes.map defaultValue, vm := .none } = T1 at X₁ st1
  have hcat : (Value.ref T.heap.size).category = 1 := rfl
  have hcellA : T1.heap[T.heap.size]? = some (freshCell cX kX) := by rw [← hT1]; exact State.heap_pushCell_size _ _
  have d3' : decode c.code (pc + 3) = .ok (.dup, 1) := by rw [hb]; exact d3
  have d4' : decode c.code (pc + 4) = .ok (.ldc_w is, 3) := by rw [hb]; exact d4
  have hstr' : vk_R own is text sa s' := vk_R.warm hW0 hstr
  obtain ⟨U, hsteps, hrun, hend, hW, hsame, ce, hce, hO⟩ := X₁.ctorThrowS hexec htr (own := own) (cls := cls) (names := names) (ic := ic) hown' hcls hnames h (fun x hx => nomatch hx) hfX hkX hcellA (by rw [hhp, hT]; exact Nat.le_refl _) (msg := .ref sa) rfl
    (g := { method := m, pc := pc + 7, locals := ls, stack := .ref sa :: .ref T.heap.size :: .ref T.heap.size :: rest, locked := none }) rfl hsize rfl rfl (rest := rest) rfl
    (by rw [hb]; exact d7) (by rw [hb]; exact d10) hout hRframes (by simp only [List.map_cons, List.sum_cons, hcat]; omega) hlocks
  obtain ⟨f1, f2⟩ := vx_frame hsame
  rw [hhp] at f1 f2
  have hWs : s.WarmedH U.vm := State.WarmedH.trans hW0 hW
  have hcl : s.vm.findClass cls = some ce.cls := by
    have h9 := hO.cls
    rw [hvm] at h9
    exact h9
  have hall : s.sameButNew ({ U with vm := s.vm } : State) locs mc ms := by
    subst hA
    obtain ⟨e1, e2⟩ := hsame
    rw [State.setFrames_setFrames] at e1
    have h2 : (T.setVm s.vm).sameButNew ({ U with vm := s.vm } : State) [] (0 + 1) (0 + 6) := ⟨e1, e2⟩
    have h3 := X.same.trans h2
    rw [List.append_nil] at h3
    exact h3.mono hc hs
  refine ⟨U, ?_, .threw T.heap.size, hrun, hend, Or.inr ⟨T.heap.size, rfl, cls, ce, locs, hx U hWs.alike f1 (fun q hq => f2 q hq (fun z hz => nomatch hz)), hce, hO.vm, hcl, hWs, hall, hf⟩⟩
  refine st1 _ ?_
  show Steps p.tables e below (T1.setTop { method := m, pc := pc + 3, locals := ls, stack := .ref T.heap.size :: rest, locked := none }) _
  jvm_step X₁.here [X₁.here.top, hexec, d3', Value.category]
  exact X₁.ldcStringW hexec (own := own) (text := text) (index := is) (a := sa) hown' hstr'.1 hstr'.2
    (g := { method := m, pc := pc + 4, locals := ls, stack := .ref T.heap.size :: .ref T.heap.size :: rest, locked := none }) rfl d4' _ hsteps
end Ends
section Bodies
variable {l : Launch}
theorem vx_ofW {y : MethodName} {ws ws' : List Cond} {rm : Room} {Pc : Array Value → State → Prop} {Qc : Array Value → State → Outcome → State → Prop} {XC : String → State → State → Prop} {mc ms : Nat} {free : Addr → Prop} {cc : ByteArray} {maxL : Nat} {ret : Option FieldType}
    (hy : plainName y.cls = true) (hw : ws = Cond.code y cc maxL ret :: ws')
    (body : ∀ p e s m args below meth c s₁, BodyLoose p l y (headSpec ws rm) cc maxL ret e s m args below meth c s₁ → c.maxLocals = maxL → (∀ x ∈ c.exceptionTable.toList, False) → Pc args s →
      W p l e (headSpec ws rm).room s m args below meth c s.heap [] 0 0 (vx_MQ below Qc XC args s mc ms free) (entryFrame m args maxL)) : vx_Met l y ws rm Pc Qc XC mc ms free := by
  refine MetFree.of_bodyS (code := cc) (maxLocals := maxL) (ret := ret) hy ?_ ?_
  · intro args s m h hn
    obtain ⟨meth, c, h1, h2, h3, h4, h5, h6, -, -⟩ := Cond.code_spec hn (atoms_spec (ws := ws) h _ (by rw [hw]; exact List.mem_cons_self))
    exact ⟨meth, c, h1, h2, h3, h4, h5, h6⟩
  · intro p e s m args below meth c s₁ B hml hP _
    have hh0 : s₁.heap = s.heap := by rw [B.state]; rfl
    have ht : ∀ x ∈ c.exceptionTable.toList, False := by
      obtain ⟨meth9, c9, h1, h2, -, -, -, -, h7, -⟩ := Cond.code_spec B.named (atoms_spec (ws := ws) B.pre _ (by rw [hw]; exact List.mem_cons_self))
      cases Option.some.inj (h1.symm.trans B.method)
      cases Option.some.inj (h2.symm.trans (Stand.of_body B).code)
      intro x hx
      rw [Array.isEmpty_iff.mp h7] at hx
      cases hx
    obtain ⟨t, a1, o, b1, b2, b3⟩ := body p e s m args below meth c s₁ B hml ht hP s₁ hh0 (Stand.of_body B)
    exact ⟨t, o, a1, b1, b2, b3⟩
/-- the table of a body with handlers -/
theorem vx_table {p : Program} {x y : MethodName} {S : Spec} {cc bytes : ByteArray} {maxL maxL' : Nat} {ret ret' : Option FieldType} {e : Env} {s s₁ : State} {m : MethodId} {args : Array Value} {below : List Frame} {meth : Method} {c : Code} {hh : List (Nat × Nat × Nat × Nat)}
    (B : BodyLoose p l y S cc maxL ret e s m args below meth c s₁) (h : (Cond.codeWith y bytes maxL' ret' hh).before args s = true) : c.exceptionTable.toList = tableOf hh := by
  obtain ⟨m9, meth9, c9, hn9, h1, h2, -, -, h6, -⟩ := Cond.codeWith_spec h
  cases Option.some.inj (hn9.symm.trans B.named)
  cases Option.some.inj (h1.symm.trans B.method)
  cases Option.some.inj (h2.symm.trans (Stand.of_body B).code)
  rw [← h6, table_eq]
end Bodies
end VXA
/-! ===== END ===== -/
/-! ===== BEGIN a static call of a method with an exception table ===== -/
section VXS
variable {p : Program} {l : Launch} {e : Env} {R : Room} {s : State} {m : MethodId} {args : Array Value} {below : List Frame} {meth : Method} {c : Code} {T : State} {H : Heap} {locs : List Loc} {cells slots : Nat}
abbrev vx_CSW (R : Room) (s : State) (args : Array Value) (own : String) (index : Nat) (y : MethodName) (bytes : ByteArray) (maxL : Nat) (ret : Option FieldType) (hh : List (Nat × Nat × Nat × Nat)) (ws : List Cond) (rm : Room) (mc ms n : Nat) : Prop :=
  (rm.cells = mc ∧ rm.slots = ms ∧ rm.frames + 1 ≤ R.frames ∧ 8 + (maxL + 11) + rm.locals ≤ R.locals ∧ (∀ w ∈ ws, ∀ (a' : Array Value) (U : State), s.WarmedH U.vm → w.before a' U = true) ∧ Cond.codeWith y bytes maxL ret hh ∈ ws) ∧
  (Cond.codeWith y bytes maxL ret hh).before args s = true ∧ (Cond.initialized y.cls).before args s = true ∧ (y.cls ≠ "java/lang/invoke/MethodHandle" ∧ y.cls ≠ "java/lang/invoke/VarHandle") ∧
  (∀ sig, parseMethodDescriptor y.desc = some sig → n = sig.parameters.length) ∧ (Cond.methodLink own index y).before args s = true ∧ (Cond.static y).before args s = true
theorem vx_cwSW {own : String} {index maxL mc ms : Nat} {y : MethodName} {bytes : ByteArray} {ret : Option FieldType} {hh : List (Nat × Nat × Nat × Nat)} {Ts ws ws' : List Cond} {rm : Room} (n : Nat) (ht : ∀ w ∈ Ts, w.before args s = true) (hT : GoodIn Ts (va_wsS own index y ws)) (hw : ws = Cond.codeWith y bytes maxL ret hh :: ws') (hrc : rm.cells = mc) (hrs : rm.slots = ms)
    (hd : y.cls ≠ "java/lang/invoke/MethodHandle" ∧ y.cls ≠ "java/lang/invoke/VarHandle" ∧ (parseMethodDescriptor y.desc).map (fun d => d.parameters.length) = some n) (hR : rm.frames + 1 ≤ R.frames ∧ 8 + (maxL + 11) + rm.locals ≤ R.locals) :
    vx_CSW R s args own index y bytes maxL ret hh ws rm mc ms n := by
  have ok : ∀ w ∈ va_wsS own index y ws, w.before args s = true := fun w h => ht w (hT w h).1
  have hG : GoodIn Ts ws := fun w h => hT w (by unfold va_wsS; exact List.mem_append_right _ h)
  have hc : Cond.codeWith y bytes maxL ret hh ∈ ws := by rw [hw]; exact List.mem_cons_self
  refine ⟨⟨hrc, hrs, hR.1, hR.2, pay_in ht hG, hc⟩, ht _ (hG _ hc).1, ok _ (by simp [va_wsS]), ⟨hd.1, hd.2.1⟩, fun sig h => ?_, ok _ (by simp [va_wsS]), ok _ (by simp [va_wsS])⟩
  have h2 := hd.2.2
  rw [h] at h2
  exact (Option.some.inj h2).symm
theorem vx_callSW (X : Stand p l e R s m args below meth c T locs cells slots) (hexec : p.tables.exec = Jvm.exec) {own : String} {index : Nat} {y : MethodName} {bytes : ByteArray} {maxL : Nat} {ret : Option FieldType} {hh : List (Nat × Nat × Nat × Nat)}
    (hown : s.vm.findClass own = some m.cls) (hlink : (Cond.methodLink own index y).before args s = true) (hstat : (Cond.static y).before args s = true) (hinit : (Cond.initialized y.cls).before args s = true)
    (hcode : (Cond.codeWith y bytes maxL ret hh).before args s = true) (hy : y.cls ≠ "java/lang/invoke/MethodHandle" ∧ y.cls ≠ "java/lang/invoke/VarHandle")
    {W9 : Nat} {Pre : Pt → Array Value → Prop} {Post : Pt → Array Value → Option Value → Pt → Prop} (hK : Back l R p e below s args y 3 W9 Pre Post)
    {g : JFrame} (hg : g.method = m) (hsize : g.locals.size = c.maxLocals) {argsL rest : List Value} (hlen : ∀ sig, parseMethodDescriptor y.desc = some sig → argsL.length = sig.parameters.length)
    (hstack : g.stack = argsL.reverse ++ rest) (hW : 2 * g.monitorRoom + (rest.map fun v => v.category).sum ≤ W9) (hdg : decode c.code g.pc = .ok (.invokestatic index, 3))
    (hpre : ∀ vm₁, s.WarmedH vm₁ → Pre ⟨T.setVm vm₁, locs, cells, slots⟩ argsL.toArray) :
    ∃ (v : Option Value) (vm₁ : Vm) (B : Pt), s.WarmedH vm₁ ∧ Stand p l e R s m args below meth c B.U B.locs B.cells B.slots ∧ Post ⟨T.setVm vm₁, locs, cells, slots⟩ argsL.toArray v B ∧
      ∀ target, Steps p.tables e below (B.U.setTop { g with pc := g.pc + 3, stack := v.toList ++ rest }) target → Steps p.tables e below (T.setTop g) target := by
  obtain ⟨mk, methM, cM, hnamed, hmethM, -, -, -, -, -, -, hsigM⟩ := Cond.codeWith_spec hcode
  have hstatic : methM.isStatic = true := Cond.static_spec hnamed hmethM hstat
  obtain ⟨kP, hkP, -⟩ := className_of_methodNamed hnamed
  have hinitP : kP.init = .initialized := Cond.initialized_spec (findClass_of_methodNamed hnamed) hkP hinit
  obtain ⟨vm₁, X₁, hstep₁⟩ := X.invokestatic hexec hown hlink hnamed hmethM hstatic hkP hinitP hy (g := g) hg (argsL := argsL) (rest := rest) (hlen _ hsigM) hstack hdg
  obtain ⟨v, B, X', hpost, hsteps⟩ := hK m meth c ⟨T.setVm vm₁, locs, cells, slots⟩ { g with stack := rest } (.invokestatic index) mk argsL.toArray X₁ hg hsize hdg hW (X₁.named hnamed) (hpre vm₁ X₁.warmed)
  exact ⟨v, vm₁, B, X₁.warmed, X', hpost, fun target h => hstep₁ _ fun acts => by rw [doInvoke_state]; exact hsteps.trans h⟩
theorem vx_runSW {y : MethodName} {bytes cc : ByteArray} {maxL nL mc ms n index : Nat} {ret : Option FieldType} {hh : List (Nat × Nat × Nat × Nat)} {ws : List Cond} {rm : Room} {Pc : Array Value → State → Prop} {Qc : Array Value → State → Outcome → State → Prop} {free : Addr → Prop} {Ts : List Cond} {own : String} {As rest : List Value} {g : JFrame}
    (S : CallFix p m c cc nL s args Ts own) (hM : Met l y ws rm Pc Qc mc ms free) (cw : vx_CSW R s args own index y bytes maxL ret hh ws rm mc ms n) (hp : PreS s H Pc As)
    (hg : g.method = m) (hn : As.length = n) (hsize : g.locals.size = nL) (hstack : g.stack = As.reverse ++ rest) (hW : 2 * g.monitorRoom + (rest.map fun v => v.category).sum ≤ 8) (hdg : decode cc g.pc = .ok (.invokestatic index, 3)) (hf : cells + mc ≤ R.cells ∧ slots + ms ≤ R.slots) :
    va_Run p l e R s m args below meth c H locs cells slots mc ms g rest (Qc As.toArray) (free) := by
  obtain ⟨⟨hrc, hrs, hfr, hlo, hws, hcw⟩, hcode, hini, hy, hlen, hl, hstt⟩ := cw
  have hK : Back l R p e below s args y 3 8 (PreOf R mc ms Pc) (PostOf Qc mc ms free) := va_backW (hh := hh) (bytes := bytes) (maxL := maxL) (ret := ret) hM hp.1 hrc hrs hfr hlo hws hcw (fun a' U hW => word_at hW (Or.inl (by first | rfl | simp [Cond.onTables, Cond.keeps, Cond.steady])) hini)
  obtain ⟨hx, hb, hml, ho, -⟩ := S
  intro T hT X
  obtain ⟨v, vm₁, ⟨U', l2, c2, s2⟩, hW₁, X', ⟨g', mk, t, L, e1, e2, hq, h1, hL, h2, h3⟩, st⟩ := vx_callSW X hx (hh := hh) (bytes := bytes) (maxL := maxL) (ret := ret) ho hl hstt hini hcode hy hK hg (hsize.trans hml.symm) (argsL := As) (rest := rest) (fun sig h => hn.trans (hlen sig h)) hstack hW (by rw [hb]; exact hdg)
    (fun vm₁ hW₁ => ⟨hf.1, hf.2, hp.2 (T.setVm vm₁) hT hW₁⟩)
  dsimp only [Pt.U, Pt.locs, Pt.cells, Pt.slots] at X' e1 e2 h1 h2 h3 st
  subst h1; subst h2; subst h3
  exact ⟨v, (T.setVm vm₁).calling g' mk As.toArray, t, U', L, hT, X', hL, e1, e2, hq, st⟩
/-- not caught here, past rows that name other classes: it goes on to the caller -/
theorem vx_outP {p : Program} {l : Launch} {e : Env} {R : Room} {s : State} {m : MethodId} {args : Array Value} {below : List Frame} {meth : Method} {c : Code} {H : Heap} {locs : List Loc} {cells slots : Nat} {free : Addr → Prop} {ls : Array Slot} {rest : List Value} {Qc : Array Value → State → Outcome → State → Prop} {XC : String → State → State → Prop}
    {pc : Nat} {own E : String} {ce : Cell} {q : Addr} {mc ms : Nat} (hown : s.vm.findClass own = some m.cls) (hlocks : meth.locks = false)
    (hpass : ∀ z ∈ c.exceptionTable.toList, covers z pc = false ∨ (z.catchType ≠ 0 ∧ ∃ nm : String, (Cond.classLink own z.catchType nm).before args s = true ∧ va_Nc E nm s)) (hcell : H[q]? = some ce) (hv : ce.vm = .none) (hcl : s.vm.findClass E = some ce.cls)
    (hx : ∀ t : State, t.heap = H → s.vm.Alike t.vm → XC E s t) (hf : ∀ z ∈ locs, free z.base) (hc : cells ≤ mc) (hs : slots ≤ ms) :
    vx_W p l e R s m args below meth c H locs cells slots (vx_MQ below Qc XC args s mc ms free) (F0 m pc ls rest) q := by
  intro T hT X
  have hpl : e.platform.magicAccessors = ({} : Platform).magicAccessors := by rw [X.admits.platform]
  obtain ⟨vm', hW', X', st⟩ := X.outThrough hlocks q (g := F0 m pc ls rest) rfl rfl rfl (cell := ce) (by rw [hT]; exact hcell) (by rw [hv]; rfl)
    (by obtain ⟨k9, h9, -⟩ := Vm.findClass_spec hcl; exact ⟨k9, h9⟩) (fun z hz => by
      rcases hpass z hz with h | ⟨hz0, nm, hl1, hn1⟩
      · exact Or.inl h
      · obtain ⟨c6, hc6, hcl6⟩ := Cond.classLink_spec hown hl1 e.platform hpl
        obtain ⟨a8, b8, h1, h2, h3⟩ := hn1
        cases Option.some.inj (h1.symm.trans hcl)
        cases Option.some.inj (h2.symm.trans hc6)
        exact Or.inr ⟨hz0, _, hcl6, h3⟩)
  obtain ⟨g₀, hfr⟩ := X'.frames_eq
  have hcell9 : ((T.setVm vm').setFrames (.throwing q :: below)).heap[q]? = some ce := by
    show T.heap[q]? = some ce
    rw [hT]; exact hcell
  have hend : Ended ((T.setVm vm').setFrames (.throwing q :: below)) below (.threw q) := State.frames_setFrames _ (State.cur_lt_of_frames hfr)
  refine ⟨(T.setVm vm').setFrames (.throwing q :: below), ?_, .threw q, X'.here.running, hend, Or.inr ⟨q, rfl, E, ce, locs, hx _ hT (X'.ends _).1.alike, hcell9, hv, hcl, (X'.ends _).1, (X'.ends _).2.mono hc hs, hf⟩⟩
  rw [X.pushThrowing_eq]
  exact st
/-- a thing of a world lies in the heap -/
theorem vx_lt {D : va_G} {cl : List vw_C} {ws : va_W} {H1 : Heap} (h : va_P D cl ws H1) {k : Nat} {q : Nat × va_E} (hk : ws[k]? = some q) : q.1 < H1.size := (h k q hk).lt
end VXS
/-! ===== END ===== -/
/-! ===== BEGIN methods with a table of their own: called by a name, returning or throwing ===== -/
section VXH
/-! vx_backW, vx_callVX, vx_callSX, vx_callVW, vx_runVW, vx_runVX, vx_runSX, vx_ofWH follow the same proofs as their sisters above (Free/Laws.lean, Shelf42/LK1.lean); vx_outP calls Shelf42/NT130.lean (outThrough). -/
section
variable {l : Launch} {R : Room} {p : Program} {e : Env} {below : List Frame} {s : State} {sargs : Array Value} {y : MethodName} {len W9 : Nat}
theorem vx_backW {ws : List Cond} {rm : Room} {Pc : Array Value → State → Prop} {Qc : Array Value → State → Outcome → State → Prop} {XC : String → State → State → Prop} {mc ms : Nat} {free : Addr → Prop} {bytes : ByteArray} {maxL : Nat} {ret : Option FieldType} {hh : List (Nat × Nat × Nat × Nat)}
    (hM : vx_Met l y ws rm Pc Qc XC mc ms free) (hblind : FrameBlind Pc) (hrc : rm.cells = mc) (hrs : rm.slots = ms)
    (hframes : rm.frames + 1 ≤ R.frames) (hlocals : W9 + (maxL + 11) + rm.locals ≤ R.locals)
    (hws : ∀ w ∈ ws, ∀ a' U, s.WarmedH U.vm → w.before a' U = true) (hcode : Cond.codeWith y bytes maxL ret hh ∈ ws) (hinit : ∀ a' U, s.WarmedH U.vm → (Cond.initialized y.cls).before a' U = true) :
    vx_Back l R p e below s sargs y len W9 (PreOf R mc ms Pc) (PostOf Qc mc ms free) (vx_Post XC mc ms free) := by
  intro m meth c A g ig mk a X hg hsize hdg hW hn hp
  have h1 : (headSpec ws rm).pre.before a A.U = true := atoms_intro fun w hw => hws w hw _ _ X.warmed
  have h2 : (Cond.codeWith y bytes maxL ret hh).before a A.U = true := hws _ hcode _ _ X.warmed
  have h3 : (Cond.initialized y.cls).before a A.U = true := hinit _ _ X.warmed
  have h4 : A.cells + (headSpec ws rm).room.cells ≤ R.cells := by rw [show (headSpec ws rm).room.cells = mc from hrc]; exact hp.1
  have h5 : A.slots + (headSpec ws rm).room.slots ≤ R.slots := by rw [show (headSpec ws rm).room.slots = ms from hrs]; exact hp.2.1
  have hPc : Pc a (A.U.calling g mk a) := hblind _ _ _ _ hp.2.2
  obtain ⟨U, Ls, c0, s0⟩ := A
  dsimp only [Pt.U, Pt.locs, Pt.cells, Pt.slots] at h1 h2 h3 h4 h5 X hn hPc ⊢
  obtain ⟨m9, methY, cY, hn9, hmY, hcY, -, hlY, -⟩ := Cond.codeWith_spec h2
  cases Option.some.inj (hn9.symm.trans hn)
  obtain ⟨kY, hkY, -⟩ := className_of_methodNamed hn
  have hinitY : kY.init = .initialized := Cond.initialized_spec (findClass_of_methodNamed hn) hkY h3
  have h : At U g.method c below := by rw [hg]; exact X.here
  have hlocals9 : W9 + (maxL + 11) + (headSpec ws rm).room.locals ≤ R.locals := hlocals
  have happ : (headSpec ws rm).appliesLoose y e.platform (U.calling g mk a) = true :=
    Spec.appliesLoose_calling (g := g) h hdg hn hkY hinitY
      (X.room_calling (g := g) (R' := (headSpec ws rm).room) hsize hmY hcY hframes (by rw [hlY]; omega) h4 h5) h1
  obtain ⟨mid, hmid⟩ := h.above
  have hfr : (U.setTop g).frames = (.java g :: mid) ++ below := by rw [State.frames_setTop' g h.top, hmid]; rfl
  obtain ⟨o, s₂, hsteps, -, hend, hq⟩ := Steps.callFree hM p X.admits X.cas X.clock (acts := []) hfr happ hPc trivial
  have hq' : vx_Q Qc XC mc ms free a (U.calling g mk a) o s₂ := hq
  rw [State.frames_setTop' g h.top] at hend
  obtain ⟨g₀, hg0⟩ := Option.isSome_iff_exists.mp h.top
  obtain ⟨r, hr⟩ := State.topJava?_eq_some.mp hg0
  have hr' : (({ U with heap := s₂.heap, slotsUsed := s₂.slotsUsed } : State).setVm s₂.vm).frames = .java g₀ :: r := hr
  rcases hq' with ⟨hqc, L, hfe, hL⟩ | ⟨q, rfl, E, ce, L, hx, hce, hcv, hcl, hW₂, hsm, hL⟩
  · obtain ⟨⟨v, rfl⟩, hW₂, e2, q2, q3, q4, q5, q6⟩ := id hfe
    have e3 : s₂ = ({ (U.calling g mk a).setFrames s₂.frames with heap := s₂.heap, slotsUsed := s₂.slotsUsed } : State).setVm s₂.vm := by
      have : s₂ = ({ s₂ with vm := (U.calling g mk a).vm } : State).setVm s₂.vm := rfl
      rw [e2] at this
      exact this
    obtain ⟨c₂, i₂, len₂, hc₂, hd₂, hf₂⟩ := hend
    have hW' : U.WarmedH s₂.vm := hW₂
    have hcc : c₂ = c := by
      have h1 : s₂.code? g.method = U.code? g.method := by
        rw [State.code?_eq, State.code?_eq, hW'.alike.method?]
      exact Option.some.inj (hc₂.symm.trans (h1.trans h.code))
    subst hcc
    have hlen : len₂ = len := by rw [hdg] at hd₂; cases hd₂; rfl
    subst hlen
    have hs₂ : s₂ = (({ U with heap := s₂.heap, slotsUsed := s₂.slotsUsed } : State).setVm s₂.vm).setTop { g with pc := g.pc + len₂, stack := v.toList ++ g.stack } := by
      refine e3.trans ?_
      rw [hf₂, State.calling_eq h.top, State.setFrames_setFrames, State.setTop_of_frames _ hr', hr]
      rfl
    have hsame : U.sameButNew ({ U with heap := s₂.heap, slotsUsed := s₂.slotsUsed } : State) L mc ms := by
      refine ⟨?_, q2, q3, q4, q5, q6⟩
      obtain ⟨t, ht, -⟩ := State.frames_cons hr
      show ({ U with heap := s₂.heap, slotsUsed := s₂.slotsUsed } : State) = { U.setFrames U.frames with heap := s₂.heap, slotsUsed := s₂.slotsUsed }
      rw [State.setFrames_self ht]
    subst hg
    refine Or.inl ⟨v, ⟨(({ U with heap := s₂.heap, slotsUsed := s₂.slotsUsed } : State).setVm s₂.vm), Ls ++ L, c0 + mc, s0 + ms⟩,
      ⟨X.admits, X.cas, X.clock, X.frames, X.room, X.hears, X.method, X.code, (X.here.setHeapUsed s₂.heap s₂.slotsUsed).setVm hW'.alike, X.tail, State.WarmedH.trans X.warmed hW', X.limits, X.bytes, X.same.trans (hsame.setVm s.vm)⟩,
      ⟨g, mk, s₂, L, rfl, rfl, hqc, rfl, hL, rfl, rfl⟩, ?_⟩
    show Steps p.tables e below _ ((({ U with heap := s₂.heap, slotsUsed := s₂.slotsUsed } : State).setVm s₂.vm).setTop { g with pc := g.pc + len₂, stack := v.toList ++ g.stack })
    rw [← hs₂]
    exact hsteps
  · obtain ⟨e2, q2, q3, q4, q5, q6⟩ := id hsm
    have e3 : s₂ = ({ (U.calling g mk a).setFrames s₂.frames with heap := s₂.heap, slotsUsed := s₂.slotsUsed } : State).setVm s₂.vm := by
      have : s₂ = ({ s₂ with vm := (U.calling g mk a).vm } : State).setVm s₂.vm := rfl
      rw [e2] at this
      exact this
    have hf₂ : s₂.frames = .throwing q :: .java g :: U.frames.tail := hend
    have hW' : U.WarmedH s₂.vm := hW₂
    have hs₂ : s₂ = ((({ U with heap := s₂.heap, slotsUsed := s₂.slotsUsed } : State).setVm s₂.vm).setTop g).pushFrame (.throwing q) := by
      refine e3.trans ?_
      rw [hf₂, State.calling_eq h.top, State.setFrames_setFrames, State.pushFrame, State.frames_setTop _ hr', State.setTop_of_frames _ hr', State.setFrames_setFrames, hr]
      rfl
    have hsame : U.sameButNew ({ U with heap := s₂.heap, slotsUsed := s₂.slotsUsed } : State) L mc ms := by
      refine ⟨?_, q2, q3, q4, q5, q6⟩
      obtain ⟨t, ht, -⟩ := State.frames_cons hr
      show ({ U with heap := s₂.heap, slotsUsed := s₂.slotsUsed } : State) = { U.setFrames U.frames with heap := s₂.heap, slotsUsed := s₂.slotsUsed }
      rw [State.setFrames_self ht]
    subst hg
    refine Or.inr ⟨q, ⟨(({ U with heap := s₂.heap, slotsUsed := s₂.slotsUsed } : State).setVm s₂.vm), Ls ++ L, c0 + mc, s0 + ms⟩,
      ⟨X.admits, X.cas, X.clock, X.frames, X.room, X.hears, X.method, X.code, (X.here.setHeapUsed s₂.heap s₂.slotsUsed).setVm hW'.alike, X.tail, State.WarmedH.trans X.warmed hW', X.limits, X.bytes, X.same.trans (hsame.setVm s.vm)⟩,
      ⟨g, mk, s₂, L, E, ce, rfl, rfl, hx, hce, hcv, hcl, rfl, hL, rfl, rfl⟩, ?_⟩
    show Steps p.tables e below _ (((({ U with heap := s₂.heap, slotsUsed := s₂.slotsUsed } : State).setVm s₂.vm).setTop g).pushFrame (.throwing q))
    rw [← hs₂]
    exact hsteps
end
variable {p : Program} {l : Launch} {e : Env} {R : Room} {s : State} {m : MethodId} {args : Array Value} {below : List Frame} {meth : Method} {c : Code} {T : State} {H : Heap} {locs : List Loc} {cells slots : Nat}
theorem vx_callVX (X : Stand p l e R s m args below meth c T locs cells slots) (hexec : p.tables.exec = Jvm.exec) {own C : String} {index : Nat} {y : MethodName} {bytes : ByteArray} {maxL : Nat} {ret : Option FieldType} {hh : List (Nat × Nat × Nat × Nat)}
    (hown : s.vm.findClass own = some m.cls) (hlink : (Cond.methodLink own index y).before args s = true) (hinst : (Cond.instanceMethod y).before args s = true) (hsel : (Cond.selects C y y).before args s = true)
    (hcode : (Cond.codeWith y bytes maxL ret hh).before args s = true) (hy : y.cls ≠ "java/lang/invoke/MethodHandle" ∧ y.cls ≠ "java/lang/invoke/VarHandle")
    {W9 : Nat} {Pre : Pt → Array Value → Prop} {Post : Pt → Array Value → Option Value → Pt → Prop} {PostX : Pt → Array Value → Addr → Pt → Prop} (hK : vx_Back l R p e below s args y 3 W9 Pre Post PostX)
    {b : Addr} {cellB : Cell} (hcell : T.heap[b]? = some cellB) (hobj : cellB.vm.isStatics = false) (hcls : s.vm.findClass C = some cellB.cls)
    {g : JFrame} (hg : g.method = m) (hsize : g.locals.size = c.maxLocals) {argsL rest : List Value} (hlen : ∀ sig, parseMethodDescriptor y.desc = some sig → argsL.length = sig.parameters.length)
    (hstack : g.stack = argsL.reverse ++ .ref b :: rest) (hW : 2 * g.monitorRoom + (rest.map fun v => v.category).sum ≤ W9) (hdg : decode c.code g.pc = .ok (.invokevirtual index, 3))
    (hpre : ∀ vm₁, s.WarmedH vm₁ → Pre ⟨T.setVm vm₁, locs, cells, slots⟩ (Value.ref b :: argsL).toArray) :
    (∃ (v : Option Value) (vm₁ : Vm) (B : Pt), s.WarmedH vm₁ ∧ Stand p l e R s m args below meth c B.U B.locs B.cells B.slots ∧ Post ⟨T.setVm vm₁, locs, cells, slots⟩ (Value.ref b :: argsL).toArray v B ∧
      ∀ target, Steps p.tables e below (B.U.setTop { g with pc := g.pc + 3, stack := v.toList ++ rest }) target → Steps p.tables e below (T.setTop g) target) ∨
    (∃ (q : Addr) (vm₁ : Vm) (B : Pt), s.WarmedH vm₁ ∧ Stand p l e R s m args below meth c B.U B.locs B.cells B.slots ∧ PostX ⟨T.setVm vm₁, locs, cells, slots⟩ (Value.ref b :: argsL).toArray q B ∧
      Steps p.tables e below (T.setTop g) ((B.U.setTop { g with stack := rest }).pushFrame (.throwing q))) := by
  obtain ⟨mk, methM, hnamed, hmethM, hstM, habM⟩ := Cond.instanceMethod_spec hinst
  obtain ⟨m8, methM', cM, hn8, hmethM', -, -, -, -, -, -, hsigM⟩ := Cond.codeWith_spec hcode
  cases Option.some.inj (hn8.symm.trans hnamed)
  cases hmethM.symm.trans hmethM'
  obtain ⟨c2, r2, m2, q1, q2, q3, q4, kP, hkP, hkPi⟩ := Cond.selects_spec hsel
  cases hcls.symm.trans q1
  cases (State.methodFound?_of_named hnamed hy).symm.trans q2
  cases hnamed.symm.trans q3
  have hselP : selectMethod e.platform s.vm cellB.cls mk = .method mk := by rw [Launch.admits_selectMethod X.admits]; exact q4
  obtain ⟨vm₁, X₁, hstep₁⟩ := X.invokevirtual hexec hown hlink hnamed hmethM hstM hkP hkPi hy (a := b) (cell := cellB) hcell
    (fun z h => by rw [h] at hobj; cases hobj) hselP hmethM habM hkP hkPi (g := g) hg (argsL := argsL) (rest := rest) (hlen _ hsigM) hstack hdg
  rcases hK m meth c ⟨T.setVm vm₁, locs, cells, slots⟩ { g with stack := rest } (.invokevirtual index) mk (Value.ref b :: argsL).toArray X₁ hg hsize hdg hW (X₁.named hnamed) (hpre vm₁ X₁.warmed) with ⟨v, B, X', hpost, hsteps⟩ | ⟨q, B, X', hpost, hsteps⟩
  · exact Or.inl ⟨v, vm₁, B, X₁.warmed, X', hpost, fun target h => hstep₁ _ fun acts => by rw [doInvoke_state]; exact hsteps.trans h⟩
  · exact Or.inr ⟨q, vm₁, B, X₁.warmed, X', hpost, hstep₁ _ fun acts => by rw [doInvoke_state]; exact hsteps⟩
theorem vx_callSX (X : Stand p l e R s m args below meth c T locs cells slots) (hexec : p.tables.exec = Jvm.exec) {own : String} {index : Nat} {y : MethodName} {bytes : ByteArray} {maxL : Nat} {ret : Option FieldType} {hh : List (Nat × Nat × Nat × Nat)}
    (hown : s.vm.findClass own = some m.cls) (hlink : (Cond.methodLink own index y).before args s = true) (hstat : (Cond.static y).before args s = true) (hinit : (Cond.initialized y.cls).before args s = true)
    (hcode : (Cond.codeWith y bytes maxL ret hh).before args s = true) (hy : y.cls ≠ "java/lang/invoke/MethodHandle" ∧ y.cls ≠ "java/lang/invoke/VarHandle")
    {W9 : Nat} {Pre : Pt → Array Value → Prop} {Post : Pt → Array Value → Option Value → Pt → Prop} {PostX : Pt → Array Value → Addr → Pt → Prop} (hK : vx_Back l R p e below s args y 3 W9 Pre Post PostX)
    {g : JFrame} (hg : g.method = m) (hsize : g.locals.size = c.maxLocals) {argsL rest : List Value} (hlen : ∀ sig, parseMethodDescriptor y.desc = some sig → argsL.length = sig.parameters.length)
    (hstack : g.stack = argsL.reverse ++ rest) (hW : 2 * g.monitorRoom + (rest.map fun v => v.category).sum ≤ W9) (hdg : decode c.code g.pc = .ok (.invokestatic index, 3))
    (hpre : ∀ vm₁, s.WarmedH vm₁ → Pre ⟨T.setVm vm₁, locs, cells, slots⟩ argsL.toArray) :
    (∃ (v : Option Value) (vm₁ : Vm) (B : Pt), s.WarmedH vm₁ ∧ Stand p l e R s m args below meth c B.U B.locs B.cells B.slots ∧ Post ⟨T.setVm vm₁, locs, cells, slots⟩ argsL.toArray v B ∧
      ∀ target, Steps p.tables e below (B.U.setTop { g with pc := g.pc + 3, stack := v.toList ++ rest }) target → Steps p.tables e below (T.setTop g) target) ∨
    (∃ (q : Addr) (vm₁ : Vm) (B : Pt), s.WarmedH vm₁ ∧ Stand p l e R s m args below meth c B.U B.locs B.cells B.slots ∧ PostX ⟨T.setVm vm₁, locs, cells, slots⟩ argsL.toArray q B ∧
      Steps p.tables e below (T.setTop g) ((B.U.setTop { g with stack := rest }).pushFrame (.throwing q))) := by
  obtain ⟨mk, methM, cM, hnamed, hmethM, -, -, -, -, -, -, hsigM⟩ := Cond.codeWith_spec hcode
  have hstatic : methM.isStatic = true := Cond.static_spec hnamed hmethM hstat
  obtain ⟨kP, hkP, -⟩ := className_of_methodNamed hnamed
  have hinitP : kP.init = .initialized := Cond.initialized_spec (findClass_of_methodNamed hnamed) hkP hinit
  obtain ⟨vm₁, X₁, hstep₁⟩ := X.invokestatic hexec hown hlink hnamed hmethM hstatic hkP hinitP hy (g := g) hg (argsL := argsL) (rest := rest) (hlen _ hsigM) hstack hdg
  rcases hK m meth c ⟨T.setVm vm₁, locs, cells, slots⟩ { g with stack := rest } (.invokestatic index) mk argsL.toArray X₁ hg hsize hdg hW (X₁.named hnamed) (hpre vm₁ X₁.warmed) with ⟨v, B, X', hpost, hsteps⟩ | ⟨q, B, X', hpost, hsteps⟩
  · exact Or.inl ⟨v, vm₁, B, X₁.warmed, X', hpost, fun target h => hstep₁ _ fun acts => by rw [doInvoke_state]; exact hsteps.trans h⟩
  · exact Or.inr ⟨q, vm₁, B, X₁.warmed, X', hpost, hstep₁ _ fun acts => by rw [doInvoke_state]; exact hsteps⟩
theorem vx_callVW (X : Stand p l e R s m args below meth c T locs cells slots) (hexec : p.tables.exec = Jvm.exec) {own C : String} {index : Nat} {y : MethodName} {bytes : ByteArray} {maxL : Nat} {ret : Option FieldType} {hh : List (Nat × Nat × Nat × Nat)}
    (hown : s.vm.findClass own = some m.cls) (hlink : (Cond.methodLink own index y).before args s = true) (hinst : (Cond.instanceMethod y).before args s = true) (hsel : (Cond.selects C y y).before args s = true)
    (hcode : (Cond.codeWith y bytes maxL ret hh).before args s = true) (hy : y.cls ≠ "java/lang/invoke/MethodHandle" ∧ y.cls ≠ "java/lang/invoke/VarHandle")
    {W9 : Nat} {Pre : Pt → Array Value → Prop} {Post : Pt → Array Value → Option Value → Pt → Prop} (hK : Back l R p e below s args y 3 W9 Pre Post)
    {b : Addr} {cellB : Cell} (hcell : T.heap[b]? = some cellB) (hobj : cellB.vm.isStatics = false) (hcls : s.vm.findClass C = some cellB.cls)
    {g : JFrame} (hg : g.method = m) (hsize : g.locals.size = c.maxLocals) {argsL rest : List Value} (hlen : ∀ sig, parseMethodDescriptor y.desc = some sig → argsL.length = sig.parameters.length)
    (hstack : g.stack = argsL.reverse ++ .ref b :: rest) (hW : 2 * g.monitorRoom + (rest.map fun v => v.category).sum ≤ W9) (hdg : decode c.code g.pc = .ok (.invokevirtual index, 3))
    (hpre : ∀ vm₁, s.WarmedH vm₁ → Pre ⟨T.setVm vm₁, locs, cells, slots⟩ (Value.ref b :: argsL).toArray) :
    ∃ (v : Option Value) (vm₁ : Vm) (B : Pt), s.WarmedH vm₁ ∧ Stand p l e R s m args below meth c B.U B.locs B.cells B.slots ∧ Post ⟨T.setVm vm₁, locs, cells, slots⟩ (Value.ref b :: argsL).toArray v B ∧
      ∀ target, Steps p.tables e below (B.U.setTop { g with pc := g.pc + 3, stack := v.toList ++ rest }) target → Steps p.tables e below (T.setTop g) target := by
  obtain ⟨mk, methM, hnamed, hmethM, hstM, habM⟩ := Cond.instanceMethod_spec hinst
  obtain ⟨m8, methM', cM, hn8, hmethM', -, -, -, -, -, -, hsigM⟩ := Cond.codeWith_spec hcode
  cases Option.some.inj (hn8.symm.trans hnamed)
  cases hmethM.symm.trans hmethM'
  obtain ⟨c2, r2, m2, q1, q2, q3, q4, kP, hkP, hkPi⟩ := Cond.selects_spec hsel
  cases hcls.symm.trans q1
  cases (State.methodFound?_of_named hnamed hy).symm.trans q2
  cases hnamed.symm.trans q3
  have hselP : selectMethod e.platform s.vm cellB.cls mk = .method mk := by rw [Launch.admits_selectMethod X.admits]; exact q4
  obtain ⟨vm₁, X₁, hstep₁⟩ := X.invokevirtual hexec hown hlink hnamed hmethM hstM hkP hkPi hy (a := b) (cell := cellB) hcell
    (fun z h => by rw [h] at hobj; cases hobj) hselP hmethM habM hkP hkPi (g := g) hg (argsL := argsL) (rest := rest) (hlen _ hsigM) hstack hdg
  obtain ⟨v, B, X', hpost, hsteps⟩ := hK m meth c ⟨T.setVm vm₁, locs, cells, slots⟩ { g with stack := rest } (.invokevirtual index) mk (Value.ref b :: argsL).toArray X₁ hg hsize hdg hW (X₁.named hnamed) (hpre vm₁ X₁.warmed)
  exact ⟨v, vm₁, B, X₁.warmed, X', hpost, fun target h => hstep₁ _ fun acts => by rw [doInvoke_state]; exact hsteps.trans h⟩
abbrev vx_CVW (R : Room) (s : State) (args : Array Value) (own C : String) (index : Nat) (y : MethodName) (bytes : ByteArray) (maxL : Nat) (ret : Option FieldType) (hh : List (Nat × Nat × Nat × Nat)) (ws : List Cond) (rm : Room) (mc ms n : Nat) : Prop :=
  (rm.cells = mc ∧ rm.slots = ms ∧ rm.frames + 1 ≤ R.frames ∧ 8 + (maxL + 11) + rm.locals ≤ R.locals ∧ (∀ w ∈ ws, ∀ (a' : Array Value) (U : State), s.WarmedH U.vm → w.before a' U = true) ∧ Cond.codeWith y bytes maxL ret hh ∈ ws) ∧
  (Cond.codeWith y bytes maxL ret hh).before args s = true ∧ (Cond.initialized y.cls).before args s = true ∧ (y.cls ≠ "java/lang/invoke/MethodHandle" ∧ y.cls ≠ "java/lang/invoke/VarHandle") ∧
  (∀ sig, parseMethodDescriptor y.desc = some sig → n = sig.parameters.length) ∧ (Cond.methodLink own index y).before args s = true ∧ (Cond.instanceMethod y).before args s = true ∧ (Cond.selects C y y).before args s = true
theorem vx_cwVW {own C : String} {index maxL mc ms : Nat} {y : MethodName} {bytes : ByteArray} {ret : Option FieldType} {hh : List (Nat × Nat × Nat × Nat)} {Ts ws ws' : List Cond} {rm : Room} (n : Nat) (ht : ∀ w ∈ Ts, w.before args s = true) (hT : GoodIn Ts (wsV own index C y ws)) (hw : ws = Cond.codeWith y bytes maxL ret hh :: ws') (hrc : rm.cells = mc) (hrs : rm.slots = ms)
    (hd : y.cls = C ∧ y.cls ≠ "java/lang/invoke/MethodHandle" ∧ y.cls ≠ "java/lang/invoke/VarHandle" ∧ (parseMethodDescriptor y.desc).map (fun d => d.parameters.length) = some n) (hR : rm.frames + 1 ≤ R.frames ∧ 8 + (maxL + 11) + rm.locals ≤ R.locals) :
    vx_CVW R s args own C index y bytes maxL ret hh ws rm mc ms n := by
  obtain ⟨hC, hd⟩ := hd
  subst hC
  have ok : ∀ w ∈ wsV own index y.cls y ws, w.before args s = true := fun w h => ht w (hT w h).1
  have hG : GoodIn Ts ws := fun w h => hT w (by unfold wsV; exact List.mem_append_right _ h)
  have hc : Cond.codeWith y bytes maxL ret hh ∈ ws := by rw [hw]; exact List.mem_cons_self
  refine ⟨⟨hrc, hrs, hR.1, hR.2, pay_in ht hG, hc⟩, ht _ (hG _ hc).1, ok _ (by simp [wsV]), ⟨hd.1, hd.2.1⟩, fun sig h => ?_, ok _ (by simp [wsV]), ok _ (by simp [wsV]), ok _ (by simp [wsV])⟩
  have h2 := hd.2.2
  rw [h] at h2
  exact (Option.some.inj h2).symm
theorem vx_runVW {y : MethodName} {bytes cc : ByteArray} {maxL nL mc ms n index : Nat} {ret : Option FieldType} {hh : List (Nat × Nat × Nat × Nat)} {ws : List Cond} {rm : Room} {Pc : Array Value → State → Prop} {Qc : Array Value → State → Outcome → State → Prop} {free : Addr → Prop} {Ts : List Cond} {own C : String} {b : Addr} {As rest : List Value} {g : JFrame}
    (S : CallFix p m c cc nL s args Ts own) (hM : Met l y ws rm Pc Qc mc ms free) (cw : vx_CVW R s args own C index y bytes maxL ret hh ws rm mc ms n) (hp : PreV s H C b Pc As)
    (hg : g.method = m) (hn : As.length = n) (hsize : g.locals.size = nL) (hstack : g.stack = As.reverse ++ .ref b :: rest) (hW : 2 * g.monitorRoom + (rest.map fun v => v.category).sum ≤ 8) (hdg : decode cc g.pc = .ok (.invokevirtual index, 3)) (hf : cells + mc ≤ R.cells ∧ slots + ms ≤ R.slots) :
    va_Run p l e R s m args below meth c H locs cells slots mc ms g rest (Qc (Value.ref b :: As).toArray) free := by
  obtain ⟨⟨hrc, hrs, hfr, hlo, hws, hcw⟩, hcode, hini, hy, hlen, hl, hin, hse⟩ := cw
  have hK : Back l R p e below s args y 3 8 (PreOf R mc ms Pc) (PostOf Qc mc ms free) := va_backW (hh := hh) (bytes := bytes) (maxL := maxL) (ret := ret) hM hp.1 hrc hrs hfr hlo hws hcw (fun a' U hW => word_at hW (Or.inl (by first | rfl | simp [Cond.onTables, Cond.keeps, Cond.steady])) hini)
  obtain ⟨hx, hb, hml, ho, -⟩ := S
  obtain ⟨-, ⟨cellB, hcB, hoB, hclB⟩, hPc⟩ := hp
  intro T hT X
  obtain ⟨v, vm₁, ⟨U', l2, c2, s2⟩, hW₁, X', ⟨g', mk, t, L, e1, e2, hq, h1, hL, h2, h3⟩, st⟩ := vx_callVW X hx (C := C) (hh := hh) (bytes := bytes) (maxL := maxL) (ret := ret) ho hl hin hse hcode hy hK (by rw [hT]; exact hcB) hoB hclB hg (hsize.trans hml.symm) (argsL := As) (rest := rest) (fun sig h => hn.trans (hlen sig h)) hstack hW (by rw [hb]; exact hdg)
    (fun vm₁ hW₁ => ⟨hf.1, hf.2, hPc (T.setVm vm₁) hT hW₁⟩)
  dsimp only [Pt.U, Pt.locs, Pt.cells, Pt.slots] at X' e1 e2 h1 h2 h3 st
  subst h1; subst h2; subst h3
  exact ⟨v, (T.setVm vm₁).calling g' mk (Value.ref b :: As).toArray, t, U', L, hT, X', hL, e1, e2, hq, st⟩
section
variable {y : MethodName} {bytes cc : ByteArray} {maxL nL mc ms n index : Nat} {ret : Option FieldType} {ws : List Cond} {rm : Room} {Pc : Array Value → State → Prop} {Qc : Array Value → State → Outcome → State → Prop} {XC : String → State → State → Prop} {free : Addr → Prop} {Ts : List Cond} {own C : String} {b : Addr} {As rest : List Value} {g : JFrame}
theorem vx_runVX {hh : List (Nat × Nat × Nat × Nat)} (S : CallFix p m c cc nL s args Ts own) (hM : vx_Met l y ws rm Pc Qc XC mc ms free) (cw : vx_CVW R s args own C index y bytes maxL ret hh ws rm mc ms n) (hp : PreV s H C b Pc As)
    (hg : g.method = m) (hn : As.length = n) (hsize : g.locals.size = nL) (hstack : g.stack = As.reverse ++ .ref b :: rest) (hW : 2 * g.monitorRoom + (rest.map fun v => v.category).sum ≤ 8) (hdg : decode cc g.pc = .ok (.invokevirtual index, 3)) (hf : cells + mc ≤ R.cells ∧ slots + ms ≤ R.slots) :
    vx_Run p l e R s m args below meth c H locs cells slots mc ms g rest (Qc (Value.ref b :: As).toArray) XC free := by
  obtain ⟨⟨hrc, hrs, hfr, hlo, hws, hcw⟩, hcode, hini, hy, hlen, hl, hin, hse⟩ := cw
  have hK : vx_Back l R p e below s args y 3 8 (PreOf R mc ms Pc) (PostOf Qc mc ms free) (vx_Post XC mc ms free) := vx_backW (hh := hh) (bytes := bytes) (maxL := maxL) (ret := ret) hM hp.1 hrc hrs hfr hlo hws hcw (fun a' U hW => word_at hW (Or.inl (by first | rfl | simp [Cond.onTables, Cond.keeps, Cond.steady])) hini)
  obtain ⟨hx, hb, hml, ho, -⟩ := S
  obtain ⟨-, ⟨cellB, hcB, hoB, hclB⟩, hPc⟩ := hp
  intro T hT X
  rcases vx_callVX X hx (C := C) (hh := hh) (bytes := bytes) (maxL := maxL) (ret := ret) ho hl hin hse hcode hy hK (by rw [hT]; exact hcB) hoB hclB hg (hsize.trans hml.symm) (argsL := As) (rest := rest) (fun sig h => hn.trans (hlen sig h)) hstack hW (by rw [hb]; exact hdg)
    (fun vm₁ hW₁ => ⟨hf.1, hf.2, hPc (T.setVm vm₁) hT hW₁⟩) with ⟨v, vm₁, ⟨U', l2, c2, s2⟩, hW₁, X', ⟨g', mk, t, L, e1, e2, hq, h1, hL, h2, h3⟩, st⟩ | ⟨q, vm₁, ⟨U', l2, c2, s2⟩, hW₁, X', ⟨g', mk, t, L, E, ce, e1, e2, hq, hce, hcv, hcl, h1, hL, h2, h3⟩, st⟩
  · dsimp only [Pt.U, Pt.locs, Pt.cells, Pt.slots] at X' e1 e2 h1 h2 h3 st
    subst h1; subst h2; subst h3
    exact Or.inl ⟨v, (T.setVm vm₁).calling g' mk (Value.ref b :: As).toArray, t, U', L, hT, X', hL, e1, e2, hq, st⟩
  · dsimp only [Pt.U, Pt.locs, Pt.cells, Pt.slots] at X' e1 e2 h1 h2 h3 st hcl
    subst h1; subst h2; subst h3
    exact Or.inr ⟨q, (T.setVm vm₁).calling g' mk (Value.ref b :: As).toArray, t, U', L, E, ce, hT, X', hL, e1, e2, hq, hce, hcv, vx_cls hW₁ hcl, st⟩
theorem vx_runSX {hh : List (Nat × Nat × Nat × Nat)} (S : CallFix p m c cc nL s args Ts own) (hM : vx_Met l y ws rm Pc Qc XC mc ms free) (cw : vx_CSW R s args own index y bytes maxL ret hh ws rm mc ms n) (hp : PreS s H Pc As)
    (hg : g.method = m) (hn : As.length = n) (hsize : g.locals.size = nL) (hstack : g.stack = As.reverse ++ rest) (hW : 2 * g.monitorRoom + (rest.map fun v => v.category).sum ≤ 8) (hdg : decode cc g.pc = .ok (.invokestatic index, 3)) (hf : cells + mc ≤ R.cells ∧ slots + ms ≤ R.slots) :
    vx_Run p l e R s m args below meth c H locs cells slots mc ms g rest (Qc As.toArray) XC free := by
  obtain ⟨⟨hrc, hrs, hfr, hlo, hws, hcw⟩, hcode, hini, hy, hlen, hl, hstt⟩ := cw
  have hK : vx_Back l R p e below s args y 3 8 (PreOf R mc ms Pc) (PostOf Qc mc ms free) (vx_Post XC mc ms free) := vx_backW (hh := hh) (bytes := bytes) (maxL := maxL) (ret := ret) hM hp.1 hrc hrs hfr hlo hws hcw (fun a' U hW => word_at hW (Or.inl (by first | rfl | simp [Cond.onTables, Cond.keeps, Cond.steady])) hini)
  obtain ⟨hx, hb, hml, ho, -⟩ := S
  intro T hT X
  rcases vx_callSX X hx (hh := hh) (bytes := bytes) (maxL := maxL) (ret := ret) ho hl hstt hini hcode hy hK hg (hsize.trans hml.symm) (argsL := As) (rest := rest) (fun sig h => hn.trans (hlen sig h)) hstack hW (by rw [hb]; exact hdg)
    (fun vm₁ hW₁ => ⟨hf.1, hf.2, hp.2 (T.setVm vm₁) hT hW₁⟩) with ⟨v, vm₁, ⟨U', l2, c2, s2⟩, hW₁, X', ⟨g', mk, t, L, e1, e2, hq, h1, hL, h2, h3⟩, st⟩ | ⟨q, vm₁, ⟨U', l2, c2, s2⟩, hW₁, X', ⟨g', mk, t, L, E, ce, e1, e2, hq, hce, hcv, hcl, h1, hL, h2, h3⟩, st⟩
  · dsimp only [Pt.U, Pt.locs, Pt.cells, Pt.slots] at X' e1 e2 h1 h2 h3 st
    subst h1; subst h2; subst h3
    exact Or.inl ⟨v, (T.setVm vm₁).calling g' mk As.toArray, t, U', L, hT, X', hL, e1, e2, hq, st⟩
  · dsimp only [Pt.U, Pt.locs, Pt.cells, Pt.slots] at X' e1 e2 h1 h2 h3 st hcl
    subst h1; subst h2; subst h3
    exact Or.inr ⟨q, (T.setVm vm₁).calling g' mk As.toArray, t, U', L, E, ce, hT, X', hL, e1, e2, hq, hce, hcv, vx_cls hW₁ hcl, st⟩
end
end VXH
theorem vx_ofWH {l : Launch} {y : MethodName} {ws ws' : List Cond} {rm : Room} {Pc : Array Value → State → Prop} {Qc : Array Value → State → Outcome → State → Prop} {XC : String → State → State → Prop} {mc ms : Nat} {free : Addr → Prop} {cc : ByteArray} {maxL : Nat} {ret : Option FieldType} {hh : List (Nat × Nat × Nat × Nat)}
    (hy : plainName y.cls = true) (hw : ws = Cond.codeWith y cc maxL ret hh :: ws')
    (body : ∀ p e s m args below meth c s₁, BodyLoose p l y (headSpec ws rm) cc maxL ret e s m args below meth c s₁ → c.maxLocals = maxL → Pc args s →
      W p l e (headSpec ws rm).room s m args below meth c s.heap [] 0 0 (vx_MQ below Qc XC args s mc ms free) (entryFrame m args maxL)) : vx_Met l y ws rm Pc Qc XC mc ms free := by
  refine MetFree.of_bodyS (code := cc) (maxLocals := maxL) (ret := ret) hy ?_ ?_
  · intro args s m h hn
    obtain ⟨m9, meth, c, hn9, h1, h2, h3, h4, -, h5, h6, -⟩ := Cond.codeWith_spec (atoms_spec (ws := ws) h _ (by rw [hw]; exact List.mem_cons_self))
    cases hn.symm.trans hn9
    exact ⟨meth, c, h1, h2, h3, h4, h5, h6⟩
  · intro p e s m args below meth c s₁ B hml hP _
    have hh0 : s₁.heap = s.heap := by rw [B.state]; rfl
    obtain ⟨t, a1, o, b1, b2, b3⟩ := body p e s m args below meth c s₁ B hml hP s₁ hh0 (Stand.of_body B)
    exact ⟨t, o, a1, b1, b2, b3⟩
/-! ===== END ===== -/
end
section
def RX0 : String := "JoinRuntime$Channel"
def TX0 : u_T := fun k => match k with
  | 0 => ("JoinRuntime$Channel", "values", "[I", true)
  | 1 => ("JoinRuntime$Channel", "stamps", "[I", true)
  | 2 => ("JoinRuntime$Channel", "tickets", "[I", true)
  | 3 => ("JoinRuntime$Channel", "length", "I", false)
  | 4 => ("JoinRuntime$Channel", "takenCount", "I", false)
  | _ => ("JoinRuntime$Channel", "waitSum", "J", false)
def tyX0 : Nat → FieldType := fun k => match k with
  | 0 => .array .int
  | 1 => .array .int
  | 2 => .array .int
  | 3 => .int
  | 4 => .int
  | _ => .long
abbrev wsX00 : List Cond := u_ws RX0 TX0 6
theorem nmX0 : ∀ a, a < 6 → ∀ b, b < 6 → a ≠ b → (TX0 a).2.1 ≠ (TX0 b).2.1 := by decide +kernel
theorem tyX0_ok : ∀ k, k < 6 → parseFieldDescriptor (TX0 k).2.2.1 = some (tyX0 k) := by decide +kernel
abbrev cX0_init : ByteArray := prog_2_method_1_code
def yX0_init : MethodName := ⟨RX0, "<init>", "()V"⟩
abbrev cX0_isFull : ByteArray := prog_2_method_2_code
def yX0_isFull : MethodName := ⟨RX0, "isFull", "()Z"⟩
abbrev cX0_has : ByteArray := prog_2_method_3_code
def yX0_has : MethodName := ⟨RX0, "has", "(I)Z"⟩
abbrev cX0_valueAt : ByteArray := prog_2_method_4_code
def yX0_valueAt : MethodName := ⟨RX0, "valueAt", "(I)I"⟩
abbrev cX0_ticketAt : ByteArray := prog_2_method_5_code
def yX0_ticketAt : MethodName := ⟨RX0, "ticketAt", "(I)I"⟩
abbrev cX0_put : ByteArray := prog_2_method_6_code
def yX0_put : MethodName := ⟨RX0, "put", "(III)V"⟩
abbrev cX0_take : ByteArray := prog_2_method_7_code
def yX0_take : MethodName := ⟨RX0, "take", "(II)V"⟩
abbrev cX0_copyFrom : ByteArray := prog_2_method_8_code
def yX0_copyFrom : MethodName := ⟨RX0, "copyFrom", "(LJoinRuntime$Channel;)V"⟩
abbrev cX0_mixMessages : ByteArray := prog_2_method_9_code
def yX0_mixMessages : MethodName := ⟨RX0, "mixMessages", "(J)J"⟩
def RX1 : String := "JoinRuntime$Rule"
def TX1 : u_T := fun k => match k with
  | 0 => ("JoinRuntime$Rule", "pattern", "I", false)
  | 1 => ("JoinRuntime$Rule", "guardLeft", "I", false)
  | 2 => ("JoinRuntime$Rule", "guardSign", "I", false)
  | 3 => ("JoinRuntime$Rule", "guardRight", "I", false)
  | 4 => ("JoinRuntime$Rule", "replies", "I", false)
  | 5 => ("JoinRuntime$Rule", "outputCount", "I", false)
  | 6 => ("JoinRuntime$Rule", "targets", "[I", true)
  | 7 => ("JoinRuntime$Rule", "isReply", "[Z", true)
  | 8 => ("JoinRuntime$Rule", "operandCounts", "[I", true)
  | 9 => ("JoinRuntime$Rule", "signs", "[I", true)
  | _ => ("JoinRuntime$Rule", "operands", "[I", true)
def tyX1 : Nat → FieldType := fun k => match k with
  | 0 => .int
  | 1 => .int
  | 2 => .int
  | 3 => .int
  | 4 => .int
  | 5 => .int
  | 6 => .array .int
  | 7 => .array .boolean
  | 8 => .array .int
  | 9 => .array .int
  | _ => .array .int
abbrev wsX10 : List Cond := u_ws RX1 TX1 11
theorem nmX1 : ∀ a, a < 11 → ∀ b, b < 11 → a ≠ b → (TX1 a).2.1 ≠ (TX1 b).2.1 := by decide +kernel
theorem tyX1_ok : ∀ k, k < 11 → parseFieldDescriptor (TX1 k).2.2.1 = some (tyX1 k) := by decide +kernel
abbrev cX1_init : ByteArray := prog_3_method_1_code
def yX1_init : MethodName := ⟨RX1, "<init>", "()V"⟩
abbrev cX1_clear : ByteArray := prog_3_method_2_code
def yX1_clear : MethodName := ⟨RX1, "clear", "()V"⟩
abbrev cX1_uses : ByteArray := prog_3_method_3_code
def yX1_uses : MethodName := ⟨RX1, "uses", "(I)Z"⟩
abbrev cX1_repliesTo : ByteArray := prog_3_method_4_code
def yX1_repliesTo : MethodName := ⟨RX1, "repliesTo", "(I)Z"⟩
abbrev cX1_isReady : ByteArray := prog_3_method_5_code
def yX1_isReady : MethodName := ⟨RX1, "isReady", "(I)Z"⟩
abbrev cX1_addChannel : ByteArray := prog_3_method_6_code
def yX1_addChannel : MethodName := ⟨RX1, "addChannel", "(I)V"⟩
abbrev cX1_setGuard : ByteArray := prog_3_method_7_code
def yX1_setGuard : MethodName := ⟨RX1, "setGuard", "(III)V"⟩
abbrev cX1_mirrored : ByteArray := prog_3_method_8_code
def yX1_mirrored : MethodName := ⟨RX1, "mirrored", "(I)I"⟩
abbrev cX1_guardHolds : ByteArray := prog_3_method_9_code
def yX1_guardHolds : MethodName := ⟨RX1, "guardHolds", "(II)Z"⟩
abbrev cX1_addOutput : ByteArray := prog_3_method_10_code
def yX1_addOutput : MethodName := ⟨RX1, "addOutput", "(IZ)V"⟩
abbrev cX1_addOperand : ByteArray := prog_3_method_11_code
def yX1_addOperand : MethodName := ⟨RX1, "addOperand", "(II)V"⟩
abbrev cX1_lastOperandCount : ByteArray := prog_3_method_12_code
def yX1_lastOperandCount : MethodName := ⟨RX1, "lastOperandCount", "()I"⟩
abbrev cX1_sentTo : ByteArray := prog_3_method_13_code
def yX1_sentTo : MethodName := ⟨RX1, "sentTo", "(I)I"⟩
abbrev cX1_outputValue : ByteArray := prog_3_method_14_code
def yX1_outputValue : MethodName := ⟨RX1, "outputValue", "(I[I)I"⟩
def RX2 : String := "JoinRuntime$RuleReader"
def TX2 : u_T := fun k => match k with
  | 0 => ("JoinRuntime$RuleReader", "rule", "LJoinRuntime$Rule;", false)
  | 1 => ("JoinRuntime$RuleReader", "place", "I", false)
  | 2 => ("JoinRuntime$RuleReader", "guardLeft", "I", false)
  | _ => ("JoinRuntime$RuleReader", "sign", "I", false)
def tyX2 : Nat → FieldType := fun k => match k with
  | 0 => .object "JoinRuntime$Rule"
  | 1 => .int
  | 2 => .int
  | _ => .int
abbrev wsX20 : List Cond := u_ws RX2 TX2 4
theorem nmX2 : ∀ a, a < 4 → ∀ b, b < 4 → a ≠ b → (TX2 a).2.1 ≠ (TX2 b).2.1 := by decide +kernel
theorem tyX2_ok : ∀ k, k < 4 → parseFieldDescriptor (TX2 k).2.2.1 = some (tyX2 k) := by decide +kernel
abbrev cX2_init : ByteArray := prog_4_method_1_code
def yX2_init : MethodName := ⟨RX2, "<init>", "()V"⟩
abbrev cX2_begin : ByteArray := prog_4_method_2_code
def yX2_begin : MethodName := ⟨RX2, "begin", "()V"⟩
abbrev cX2_isComplete : ByteArray := prog_4_method_3_code
def yX2_isComplete : MethodName := ⟨RX2, "isComplete", "()Z"⟩
abbrev cX2_exchange : ByteArray := prog_4_method_4_code
def yX2_exchange : MethodName := ⟨RX2, "exchange", "(LJoinRuntime$Rule;)LJoinRuntime$Rule;"⟩
abbrev cX2_accept : ByteArray := prog_4_method_5_code
def yX2_accept : MethodName := ⟨RX2, "accept", "(I)Z"⟩
abbrev cX2_goTo : ByteArray := prog_4_method_6_code
def yX2_goTo : MethodName := ⟨RX2, "goTo", "(I)Z"⟩
abbrev cX2_goToOperand : ByteArray := prog_4_method_7_code
def yX2_goToOperand : MethodName := ⟨RX2, "goToOperand", "(I)Z"⟩
abbrev cX2_acceptInPattern : ByteArray := prog_4_method_8_code
def yX2_acceptInPattern : MethodName := ⟨RX2, "acceptInPattern", "(I)Z"⟩
abbrev cX2_acceptGuardSign : ByteArray := prog_4_method_9_code
def yX2_acceptGuardSign : MethodName := ⟨RX2, "acceptGuardSign", "(I)Z"⟩
abbrev cX2_acceptOperand : ByteArray := prog_4_method_10_code
def yX2_acceptOperand : MethodName := ⟨RX2, "acceptOperand", "(I)Z"⟩
abbrev cX2_acceptTarget : ByteArray := prog_4_method_11_code
def yX2_acceptTarget : MethodName := ⟨RX2, "acceptTarget", "(I)Z"⟩
abbrev cX2_acceptReplyChannel : ByteArray := prog_4_method_12_code
def yX2_acceptReplyChannel : MethodName := ⟨RX2, "acceptReplyChannel", "(I)Z"⟩
abbrev cX2_acceptBehindOperand : ByteArray := prog_4_method_13_code
def yX2_acceptBehindOperand : MethodName := ⟨RX2, "acceptBehindOperand", "(I)Z"⟩
abbrev cX2_operandOf : ByteArray := prog_4_method_14_code
def yX2_operandOf : MethodName := ⟨RX2, "operandOf", "(I)I"⟩
abbrev cX2_isLetter : ByteArray := prog_4_method_15_code
def yX2_isLetter : MethodName := ⟨RX2, "isLetter", "(I)Z"⟩
def RX3 : String := "JoinRuntime$State"
def TX3 : u_T := fun k => match k with
  | 0 => ("JoinRuntime$State", "channels", "[LJoinRuntime$Channel;", true)
  | 1 => ("JoinRuntime$State", "tickets", "LJoinRuntime$Tickets;", true)
  | 2 => ("JoinRuntime$State", "firingCounts", "[I", true)
  | 3 => ("JoinRuntime$State", "time", "I", false)
  | _ => ("JoinRuntime$State", "lastFired", "I", false)
def tyX3 : Nat → FieldType := fun k => match k with
  | 0 => .array (.object "JoinRuntime$Channel")
  | 1 => .object "JoinRuntime$Tickets"
  | 2 => .array .int
  | 3 => .int
  | _ => .int
abbrev wsX30 : List Cond := u_ws RX3 TX3 5
theorem nmX3 : ∀ a, a < 5 → ∀ b, b < 5 → a ≠ b → (TX3 a).2.1 ≠ (TX3 b).2.1 := by decide +kernel
theorem tyX3_ok : ∀ k, k < 5 → parseFieldDescriptor (TX3 k).2.2.1 = some (tyX3 k) := by decide +kernel
abbrev cX3_init : ByteArray := prog_5_method_1_code
def yX3_init : MethodName := ⟨RX3, "<init>", "()V"⟩
abbrev cX3_copyFrom : ByteArray := prog_5_method_2_code
def yX3_copyFrom : MethodName := ⟨RX3, "copyFrom", "(LJoinRuntime$State;)V"⟩
abbrev cX3_messageCount : ByteArray := prog_5_method_3_code
def yX3_messageCount : MethodName := ⟨RX3, "messageCount", "()I"⟩
def RX4 : String := "JoinRuntime$Tickets"
def TX4 : u_T := fun k => match k with
  | 0 => ("JoinRuntime$Tickets", "states", "[I", true)
  | 1 => ("JoinRuntime$Tickets", "replies", "[I", true)
  | _ => ("JoinRuntime$Tickets", "given", "I", false)
def tyX4 : Nat → FieldType := fun k => match k with
  | 0 => .array .int
  | 1 => .array .int
  | _ => .int
abbrev wsX40 : List Cond := u_ws RX4 TX4 3
theorem nmX4 : ∀ a, a < 3 → ∀ b, b < 3 → a ≠ b → (TX4 a).2.1 ≠ (TX4 b).2.1 := by decide +kernel
theorem tyX4_ok : ∀ k, k < 3 → parseFieldDescriptor (TX4 k).2.2.1 = some (tyX4 k) := by decide +kernel
abbrev cX4_init : ByteArray := prog_6_method_1_code
def yX4_init : MethodName := ⟨RX4, "<init>", "()V"⟩
abbrev cX4_give : ByteArray := prog_6_method_2_code
def yX4_give : MethodName := ⟨RX4, "give", "()I"⟩
abbrev cX4_knows : ByteArray := prog_6_method_3_code
def yX4_knows : MethodName := ⟨RX4, "knows", "(I)Z"⟩
abbrev cX4_stateOf : ByteArray := prog_6_method_4_code
def yX4_stateOf : MethodName := ⟨RX4, "stateOf", "(I)I"⟩
abbrev cX4_answerTo : ByteArray := prog_6_method_5_code
def yX4_answerTo : MethodName := ⟨RX4, "answerTo", "(I)I"⟩
abbrev cX4_settle : ByteArray := prog_6_method_6_code
def yX4_settle : MethodName := ⟨RX4, "settle", "(III)V"⟩
abbrev cX4_copyFrom : ByteArray := prog_6_method_7_code
def yX4_copyFrom : MethodName := ⟨RX4, "copyFrom", "(LJoinRuntime$Tickets;)V"⟩
abbrev cX4_mixTickets : ByteArray := prog_6_method_8_code
def yX4_mixTickets : MethodName := ⟨RX4, "mixTickets", "(J)J"⟩
abbrev cX4_firstKnown : ByteArray := prog_6_method_9_code
def yX4_firstKnown : MethodName := ⟨RX4, "firstKnown", "()I"⟩
def RX5 : String := "JoinRuntime"
def TX5 : u_T := fun k => match k with
  | 0 => ("JoinRuntime", "codes", "[I", true)
  | 1 => ("JoinRuntime", "codeCount", "I", false)
  | 2 => ("JoinRuntime", "reader", "LJoinRuntime$RuleReader;", true)
  | 3 => ("JoinRuntime", "rules", "[LJoinRuntime$Rule;", true)
  | 4 => ("JoinRuntime", "ruleTotal", "I", false)
  | 5 => ("JoinRuntime", "policy", "I", false)
  | 6 => ("JoinRuntime", "now", "LJoinRuntime$State;", true)
  | 7 => ("JoinRuntime", "kept", "LJoinRuntime$State;", true)
  | 8 => ("JoinRuntime", "hasKept", "Z", false)
  | 9 => ("JoinRuntime", "chosen", "[I", true)
  | 10 => ("JoinRuntime", "takenValues", "[I", true)
  | _ => ("JoinRuntime", "takenTickets", "[I", true)
def tyX5 : Nat → FieldType := fun k => match k with
  | 0 => .array .int
  | 1 => .int
  | 2 => .object "JoinRuntime$RuleReader"
  | 3 => .array (.object "JoinRuntime$Rule")
  | 4 => .int
  | 5 => .int
  | 6 => .object "JoinRuntime$State"
  | 7 => .object "JoinRuntime$State"
  | 8 => .boolean
  | 9 => .array .int
  | 10 => .array .int
  | _ => .array .int
abbrev wsX50 : List Cond := u_ws RX5 TX5 12
theorem nmX5 : ∀ a, a < 12 → ∀ b, b < 12 → a ≠ b → (TX5 a).2.1 ≠ (TX5 b).2.1 := by decide +kernel
theorem tyX5_ok : ∀ k, k < 12 → parseFieldDescriptor (TX5 k).2.2.1 = some (tyX5 k) := by decide +kernel
abbrev cX5_init : ByteArray := prog_1_method_1_code
def yX5_init : MethodName := ⟨RX5, "<init>", "()V"⟩
abbrev cX5_append : ByteArray := prog_1_method_2_code
def yX5_append : MethodName := ⟨RX5, "append", "(I)I"⟩
abbrev cX5_clearBuffer : ByteArray := prog_1_method_3_code
def yX5_clearBuffer : MethodName := ⟨RX5, "clearBuffer", "()I"⟩
abbrev cX5_firstError : ByteArray := prog_1_method_4_code
def yX5_firstError : MethodName := ⟨RX5, "firstError", "()I"⟩
abbrev cX5_addRule : ByteArray := prog_1_method_5_code
def yX5_addRule : MethodName := ⟨RX5, "addRule", "()I"⟩
abbrev cX5_removeRule : ByteArray := prog_1_method_6_code
def yX5_removeRule : MethodName := ⟨RX5, "removeRule", "(I)I"⟩
abbrev cX5_ruleCount : ByteArray := prog_1_method_7_code
def yX5_ruleCount : MethodName := ⟨RX5, "ruleCount", "()I"⟩
abbrev cX5_patternOf : ByteArray := prog_1_method_8_code
def yX5_patternOf : MethodName := ⟨RX5, "patternOf", "(I)I"⟩
abbrev cX5_setPolicy : ByteArray := prog_1_method_9_code
def yX5_setPolicy : MethodName := ⟨RX5, "setPolicy", "(I)I"⟩
abbrev cX5_send : ByteArray := prog_1_method_10_code
def yX5_send : MethodName := ⟨RX5, "send", "(II)I"⟩
abbrev cX5_queueLength : ByteArray := prog_1_method_11_code
def yX5_queueLength : MethodName := ⟨RX5, "queueLength", "(I)I"⟩
abbrev cX5_messageAt : ByteArray := prog_1_method_12_code
def yX5_messageAt : MethodName := ⟨RX5, "messageAt", "(II)I"⟩
abbrev cX5_waitingChannels : ByteArray := prog_1_method_13_code
def yX5_waitingChannels : MethodName := ⟨RX5, "waitingChannels", "()I"⟩
abbrev cX5_readyRules : ByteArray := prog_1_method_14_code
def yX5_readyRules : MethodName := ⟨RX5, "readyRules", "()I"⟩
abbrev cX5_enabledRules : ByteArray := prog_1_method_15_code
def yX5_enabledRules : MethodName := ⟨RX5, "enabledRules", "()I"⟩
abbrev cX5_matchOf : ByteArray := prog_1_method_16_code
def yX5_matchOf : MethodName := ⟨RX5, "matchOf", "(II)I"⟩
abbrev cX5_nextRule : ByteArray := prog_1_method_17_code
def yX5_nextRule : MethodName := ⟨RX5, "nextRule", "()I"⟩
abbrev cX5_fire : ByteArray := prog_1_method_18_code
def yX5_fire : MethodName := ⟨RX5, "fire", "()I"⟩
abbrev cX5_fireRule : ByteArray := prog_1_method_19_code
def yX5_fireRule : MethodName := ⟨RX5, "fireRule", "(I)I"⟩
abbrev cX5_run : ByteArray := prog_1_method_20_code
def yX5_run : MethodName := ⟨RX5, "run", "(I)I"⟩
abbrev cX5_isStuck : ByteArray := prog_1_method_21_code
def yX5_isStuck : MethodName := ⟨RX5, "isStuck", "()Z"⟩
abbrev cX5_ticketState : ByteArray := prog_1_method_22_code
def yX5_ticketState : MethodName := ⟨RX5, "ticketState", "(I)I"⟩
abbrev cX5_replyOf : ByteArray := prog_1_method_23_code
def yX5_replyOf : MethodName := ⟨RX5, "replyOf", "(I)I"⟩
abbrev cX5_firings : ByteArray := prog_1_method_24_code
def yX5_firings : MethodName := ⟨RX5, "firings", "(I)I"⟩
abbrev cX5_consumed : ByteArray := prog_1_method_25_code
def yX5_consumed : MethodName := ⟨RX5, "consumed", "(I)I"⟩
abbrev cX5_meanWait : ByteArray := prog_1_method_26_code
def yX5_meanWait : MethodName := ⟨RX5, "meanWait", "(I)D"⟩
abbrev cX5_shareOf : ByteArray := prog_1_method_27_code
def yX5_shareOf : MethodName := ⟨RX5, "shareOf", "(I)F"⟩
abbrev cX5_clock : ByteArray := prog_1_method_28_code
def yX5_clock : MethodName := ⟨RX5, "clock", "()I"⟩
abbrev cX5_save : ByteArray := prog_1_method_29_code
def yX5_save : MethodName := ⟨RX5, "save", "()I"⟩
abbrev cX5_restore : ByteArray := prog_1_method_30_code
def yX5_restore : MethodName := ⟨RX5, "restore", "()I"⟩
abbrev cX5_digest : ByteArray := prog_1_method_31_code
def yX5_digest : MethodName := ⟨RX5, "digest", "()J"⟩
abbrev cX5_requireRule : ByteArray := prog_1_method_32_code
def yX5_requireRule : MethodName := ⟨RX5, "requireRule", "(I)V"⟩
abbrev cX5_requireTicket : ByteArray := prog_1_method_33_code
def yX5_requireTicket : MethodName := ⟨RX5, "requireTicket", "(I)V"⟩
abbrev cX5_requireChannel : ByteArray := prog_1_method_34_code
def yX5_requireChannel : MethodName := ⟨RX5, "requireChannel", "(I)V"⟩
abbrev cX5_isChannel : ByteArray := prog_1_method_35_code
def yX5_isChannel : MethodName := ⟨RX5, "isChannel", "(I)Z"⟩
abbrev cX5_readBuffer : ByteArray := prog_1_method_36_code
def yX5_readBuffer : MethodName := ⟨RX5, "readBuffer", "()I"⟩
abbrev cX5_isEnabled : ByteArray := prog_1_method_37_code
def yX5_isEnabled : MethodName := ⟨RX5, "isEnabled", "(LJoinRuntime$Rule;)Z"⟩
abbrev cX5_hasRoom : ByteArray := prog_1_method_38_code
def yX5_hasRoom : MethodName := ⟨RX5, "hasRoom", "(LJoinRuntime$Rule;)Z"⟩
abbrev cX5_findMatch : ByteArray := prog_1_method_39_code
def yX5_findMatch : MethodName := ⟨RX5, "findMatch", "(LJoinRuntime$Rule;)Z"⟩
abbrev cX5_choicesOf : ByteArray := prog_1_method_40_code
def yX5_choicesOf : MethodName := ⟨RX5, "choicesOf", "(I)I"⟩
abbrev cX5_valueOf : ByteArray := prog_1_method_41_code
def yX5_valueOf : MethodName := ⟨RX5, "valueOf", "(II)I"⟩
abbrev cX5_choose : ByteArray := prog_1_method_42_code
def yX5_choose : MethodName := ⟨RX5, "choose", "(II)V"⟩
abbrev cX5_fireEnabled : ByteArray := prog_1_method_43_code
def yX5_fireEnabled : MethodName := ⟨RX5, "fireEnabled", "(I)V"⟩
abbrev cX5_takeMessages : ByteArray := prog_1_method_44_code
def yX5_takeMessages : MethodName := ⟨RX5, "takeMessages", "(LJoinRuntime$Rule;)V"⟩
abbrev cX5_carryOut : ByteArray := prog_1_method_45_code
def yX5_carryOut : MethodName := ⟨RX5, "carryOut", "(LJoinRuntime$Rule;I)V"⟩
abbrev cX5_mix : ByteArray := prog_1_method_46_code
def yX5_mix : MethodName := ⟨RX5, "mix", "(JJ)J"⟩
abbrev cX5_mixRules : ByteArray := prog_1_method_47_code
def yX5_mixRules : MethodName := ⟨RX5, "mixRules", "(J)J"⟩
abbrev cX5_mixBuffer : ByteArray := prog_1_method_48_code
def yX5_mixBuffer : MethodName := ⟨RX5, "mixBuffer", "(J)J"⟩
def RX6 : String := "JoinRuntimeModel"
def TX6 : u_T := fun k => match k with
  | 0 => ("JoinRuntimeModel", "thrown", "I", false)
  | 1 => ("JoinRuntimeModel", "length", "I", false)
  | 2 => ("JoinRuntimeModel", "buffer", "[I", true)
  | 3 => ("JoinRuntimeModel", "rules", "I", false)
  | 4 => ("JoinRuntimeModel", "patterns", "[I", true)
  | 5 => ("JoinRuntimeModel", "guards", "[I", true)
  | 6 => ("JoinRuntimeModel", "outputs", "[I", true)
  | 7 => ("JoinRuntimeModel", "targets", "[I", true)
  | 8 => ("JoinRuntimeModel", "sizes", "[I", true)
  | 9 => ("JoinRuntimeModel", "operands", "[I", true)
  | 10 => ("JoinRuntimeModel", "operators", "[I", true)
  | 11 => ("JoinRuntimeModel", "fired", "[I", true)
  | 12 => ("JoinRuntimeModel", "last", "I", false)
  | 13 => ("JoinRuntimeModel", "policy", "I", false)
  | 14 => ("JoinRuntimeModel", "lengths", "[I", true)
  | 15 => ("JoinRuntimeModel", "values", "[I", true)
  | 16 => ("JoinRuntimeModel", "stamps", "[I", true)
  | 17 => ("JoinRuntimeModel", "tickets", "[I", true)
  | 18 => ("JoinRuntimeModel", "clock", "I", false)
  | 19 => ("JoinRuntimeModel", "given", "I", false)
  | 20 => ("JoinRuntimeModel", "states", "[I", true)
  | 21 => ("JoinRuntimeModel", "replies", "[I", true)
  | 22 => ("JoinRuntimeModel", "gone", "[I", true)
  | 23 => ("JoinRuntimeModel", "waits", "[J", true)
  | 24 => ("JoinRuntimeModel", "stage", "I", false)
  | 25 => ("JoinRuntimeModel", "readPattern", "I", false)
  | 26 => ("JoinRuntimeModel", "readLetters", "I", false)
  | 27 => ("JoinRuntimeModel", "readLast", "I", false)
  | 28 => ("JoinRuntimeModel", "readGuard", "[I", true)
  | 29 => ("JoinRuntimeModel", "readOutputs", "I", false)
  | 30 => ("JoinRuntimeModel", "readReplies", "I", false)
  | 31 => ("JoinRuntimeModel", "isBehindComma", "Z", false)
  | 32 => ("JoinRuntimeModel", "readTargets", "[I", true)
  | 33 => ("JoinRuntimeModel", "readSizes", "[I", true)
  | 34 => ("JoinRuntimeModel", "readOperands", "[I", true)
  | 35 => ("JoinRuntimeModel", "readOperators", "[I", true)
  | 36 => ("JoinRuntimeModel", "chosen", "[I", true)
  | 37 => ("JoinRuntimeModel", "taken", "[I", true)
  | 38 => ("JoinRuntimeModel", "takenTickets", "[I", true)
  | 39 => ("JoinRuntimeModel", "isSaved", "Z", false)
  | 40 => ("JoinRuntimeModel", "savedClock", "I", false)
  | 41 => ("JoinRuntimeModel", "savedGiven", "I", false)
  | 42 => ("JoinRuntimeModel", "savedLast", "I", false)
  | 43 => ("JoinRuntimeModel", "savedLengths", "[I", true)
  | 44 => ("JoinRuntimeModel", "savedValues", "[I", true)
  | 45 => ("JoinRuntimeModel", "savedStamps", "[I", true)
  | 46 => ("JoinRuntimeModel", "savedTickets", "[I", true)
  | 47 => ("JoinRuntimeModel", "savedStates", "[I", true)
  | 48 => ("JoinRuntimeModel", "savedReplies", "[I", true)
  | 49 => ("JoinRuntimeModel", "savedFired", "[I", true)
  | 50 => ("JoinRuntimeModel", "savedGone", "[I", true)
  | 51 => ("JoinRuntimeModel", "savedWaits", "[J", true)
  | _ => ("JoinRuntimeModel", "hash", "J", false)
def tyX6 : Nat → FieldType := fun k => match k with
  | 0 => .int
  | 1 => .int
  | 2 => .array .int
  | 3 => .int
  | 4 => .array .int
  | 5 => .array .int
  | 6 => .array .int
  | 7 => .array .int
  | 8 => .array .int
  | 9 => .array .int
  | 10 => .array .int
  | 11 => .array .int
  | 12 => .int
  | 13 => .int
  | 14 => .array .int
  | 15 => .array .int
  | 16 => .array .int
  | 17 => .array .int
  | 18 => .int
  | 19 => .int
  | 20 => .array .int
  | 21 => .array .int
  | 22 => .array .int
  | 23 => .array .long
  | 24 => .int
  | 25 => .int
  | 26 => .int
  | 27 => .int
  | 28 => .array .int
  | 29 => .int
  | 30 => .int
  | 31 => .boolean
  | 32 => .array .int
  | 33 => .array .int
  | 34 => .array .int
  | 35 => .array .int
  | 36 => .array .int
  | 37 => .array .int
  | 38 => .array .int
  | 39 => .boolean
  | 40 => .int
  | 41 => .int
  | 42 => .int
  | 43 => .array .int
  | 44 => .array .int
  | 45 => .array .int
  | 46 => .array .int
  | 47 => .array .int
  | 48 => .array .int
  | 49 => .array .int
  | 50 => .array .int
  | 51 => .array .long
  | _ => .long
abbrev wsX60 : List Cond := u_ws RX6 TX6 53
theorem nmX6 : ∀ a, a < 53 → ∀ b, b < 53 → a ≠ b → (TX6 a).2.1 ≠ (TX6 b).2.1 := by decide +kernel
theorem tyX6_ok : ∀ k, k < 53 → parseFieldDescriptor (TX6 k).2.2.1 = some (tyX6 k) := by decide +kernel
abbrev cX6_init : ByteArray := prog_8_method_1_code
def yX6_init : MethodName := ⟨RX6, "<init>", "()V"⟩
abbrev cX6_thrown : ByteArray := prog_8_method_2_code
def yX6_thrown : MethodName := ⟨RX6, "thrown", "()I"⟩
abbrev cX6_within : ByteArray := prog_8_method_3_code
def yX6_within : MethodName := ⟨RX6, "within", "(III)Z"⟩
abbrev cX6_append : ByteArray := prog_8_method_4_code
def yX6_append : MethodName := ⟨RX6, "append", "(I)I"⟩
abbrev cX6_clearBuffer : ByteArray := prog_8_method_5_code
def yX6_clearBuffer : MethodName := ⟨RX6, "clearBuffer", "()I"⟩
abbrev cX6_isOfPattern : ByteArray := prog_8_method_6_code
def yX6_isOfPattern : MethodName := ⟨RX6, "isOfPattern", "(I)Z"⟩
abbrev cX6_isOperand : ByteArray := prog_8_method_7_code
def yX6_isOperand : MethodName := ⟨RX6, "isOperand", "(I)Z"⟩
abbrev cX6_operandOf : ByteArray := prog_8_method_8_code
def yX6_operandOf : MethodName := ⟨RX6, "operandOf", "(I)I"⟩
abbrev cX6_takesPattern : ByteArray := prog_8_method_9_code
def yX6_takesPattern : MethodName := ⟨RX6, "takesPattern", "(I)Z"⟩
abbrev cX6_takesOutput : ByteArray := prog_8_method_10_code
def yX6_takesOutput : MethodName := ⟨RX6, "takesOutput", "(I)Z"⟩
abbrev cX6_takesReply : ByteArray := prog_8_method_11_code
def yX6_takesReply : MethodName := ⟨RX6, "takesReply", "(I)Z"⟩
abbrev cX6_takesOperand : ByteArray := prog_8_method_12_code
def yX6_takesOperand : MethodName := ⟨RX6, "takesOperand", "(I)Z"⟩
abbrev cX6_takesBehind : ByteArray := prog_8_method_13_code
def yX6_takesBehind : MethodName := ⟨RX6, "takesBehind", "(I)Z"⟩
abbrev cX6_takesGuard : ByteArray := prog_8_method_14_code
def yX6_takesGuard : MethodName := ⟨RX6, "takesGuard", "(I)Z"⟩
abbrev cX6_takes : ByteArray := prog_8_method_15_code
def yX6_takes : MethodName := ⟨RX6, "takes", "(I)Z"⟩
abbrev cX6_rightLength : ByteArray := prog_8_method_16_code
def yX6_rightLength : MethodName := ⟨RX6, "rightLength", "()I"⟩
abbrev cX6_firstError : ByteArray := prog_8_method_17_code
def yX6_firstError : MethodName := ⟨RX6, "firstError", "()I"⟩
abbrev cX6_wholeOutputs : ByteArray := prog_8_method_18_code
def yX6_wholeOutputs : MethodName := ⟨RX6, "wholeOutputs", "()I"⟩
abbrev cX6_addRule : ByteArray := prog_8_method_19_code
def yX6_addRule : MethodName := ⟨RX6, "addRule", "()I"⟩
abbrev cX6_isRule : ByteArray := prog_8_method_20_code
def yX6_isRule : MethodName := ⟨RX6, "isRule", "(I)Z"⟩
abbrev cX6_copyRule : ByteArray := prog_8_method_21_code
def yX6_copyRule : MethodName := ⟨RX6, "copyRule", "(II)V"⟩
abbrev cX6_removeRule : ByteArray := prog_8_method_22_code
def yX6_removeRule : MethodName := ⟨RX6, "removeRule", "(I)I"⟩
abbrev cX6_ruleCount : ByteArray := prog_8_method_23_code
def yX6_ruleCount : MethodName := ⟨RX6, "ruleCount", "()I"⟩
abbrev cX6_patternOf : ByteArray := prog_8_method_24_code
def yX6_patternOf : MethodName := ⟨RX6, "patternOf", "(I)I"⟩
abbrev cX6_setPolicy : ByteArray := prog_8_method_25_code
def yX6_setPolicy : MethodName := ⟨RX6, "setPolicy", "(I)I"⟩
abbrev cX6_isChannel : ByteArray := prog_8_method_26_code
def yX6_isChannel : MethodName := ⟨RX6, "isChannel", "(I)Z"⟩
abbrev cX6_put : ByteArray := prog_8_method_27_code
def yX6_put : MethodName := ⟨RX6, "put", "(III)V"⟩
abbrev cX6_send : ByteArray := prog_8_method_28_code
def yX6_send : MethodName := ⟨RX6, "send", "(II)I"⟩
abbrev cX6_queueLength : ByteArray := prog_8_method_29_code
def yX6_queueLength : MethodName := ⟨RX6, "queueLength", "(I)I"⟩
abbrev cX6_messageAt : ByteArray := prog_8_method_30_code
def yX6_messageAt : MethodName := ⟨RX6, "messageAt", "(II)I"⟩
abbrev cX6_waitingNow : ByteArray := prog_8_method_31_code
def yX6_waitingNow : MethodName := ⟨RX6, "waitingNow", "()I"⟩
abbrev cX6_waitingChannels : ByteArray := prog_8_method_32_code
def yX6_waitingChannels : MethodName := ⟨RX6, "waitingChannels", "()I"⟩
abbrev cX6_readyNow : ByteArray := prog_8_method_33_code
def yX6_readyNow : MethodName := ⟨RX6, "readyNow", "()I"⟩
abbrev cX6_readyRules : ByteArray := prog_8_method_34_code
def yX6_readyRules : MethodName := ⟨RX6, "readyRules", "()I"⟩
abbrev cX6_operand : ByteArray := prog_8_method_35_code
def yX6_operand : MethodName := ⟨RX6, "operand", "(I)J"⟩
abbrev cX6_isGuarded : ByteArray := prog_8_method_36_code
def yX6_isGuarded : MethodName := ⟨RX6, "isGuarded", "(I)Z"⟩
abbrev cX6_goOn : ByteArray := prog_8_method_37_code
def yX6_goOn : MethodName := ⟨RX6, "goOn", "(I)Z"⟩
abbrev cX6_matches : ByteArray := prog_8_method_38_code
def yX6_matches : MethodName := ⟨RX6, "matches", "(I)Z"⟩
abbrev cX6_hasRoom : ByteArray := prog_8_method_39_code
def yX6_hasRoom : MethodName := ⟨RX6, "hasRoom", "(I)Z"⟩
abbrev cX6_isEnabled : ByteArray := prog_8_method_40_code
def yX6_isEnabled : MethodName := ⟨RX6, "isEnabled", "(I)Z"⟩
abbrev cX6_enabledNow : ByteArray := prog_8_method_41_code
def yX6_enabledNow : MethodName := ⟨RX6, "enabledNow", "()I"⟩
abbrev cX6_enabledRules : ByteArray := prog_8_method_42_code
def yX6_enabledRules : MethodName := ⟨RX6, "enabledRules", "()I"⟩
abbrev cX6_matchOf : ByteArray := prog_8_method_43_code
def yX6_matchOf : MethodName := ⟨RX6, "matchOf", "(II)I"⟩
abbrev cX6_nextNow : ByteArray := prog_8_method_44_code
def yX6_nextNow : MethodName := ⟨RX6, "nextNow", "()I"⟩
abbrev cX6_nextRule : ByteArray := prog_8_method_45_code
def yX6_nextRule : MethodName := ⟨RX6, "nextRule", "()I"⟩
abbrev cX6_consume : ByteArray := prog_8_method_46_code
def yX6_consume : MethodName := ⟨RX6, "consume", "(I)V"⟩
abbrev cX6_computed : ByteArray := prog_8_method_47_code
def yX6_computed : MethodName := ⟨RX6, "computed", "(II)I"⟩
abbrev cX6_isKnown : ByteArray := prog_8_method_48_code
def yX6_isKnown : MethodName := ⟨RX6, "isKnown", "(I)Z"⟩
abbrev cX6_settle : ByteArray := prog_8_method_49_code
def yX6_settle : MethodName := ⟨RX6, "settle", "(III)V"⟩
abbrev cX6_fireNow : ByteArray := prog_8_method_50_code
def yX6_fireNow : MethodName := ⟨RX6, "fireNow", "(I)V"⟩
abbrev cX6_fire : ByteArray := prog_8_method_51_code
def yX6_fire : MethodName := ⟨RX6, "fire", "()I"⟩
abbrev cX6_fireRule : ByteArray := prog_8_method_52_code
def yX6_fireRule : MethodName := ⟨RX6, "fireRule", "(I)I"⟩
abbrev cX6_run : ByteArray := prog_8_method_53_code
def yX6_run : MethodName := ⟨RX6, "run", "(I)I"⟩
abbrev cX6_isStuck : ByteArray := prog_8_method_54_code
def yX6_isStuck : MethodName := ⟨RX6, "isStuck", "()Z"⟩
abbrev cX6_ticketState : ByteArray := prog_8_method_55_code
def yX6_ticketState : MethodName := ⟨RX6, "ticketState", "(I)I"⟩
abbrev cX6_replyOf : ByteArray := prog_8_method_56_code
def yX6_replyOf : MethodName := ⟨RX6, "replyOf", "(I)I"⟩
abbrev cX6_firings : ByteArray := prog_8_method_57_code
def yX6_firings : MethodName := ⟨RX6, "firings", "(I)I"⟩
abbrev cX6_consumed : ByteArray := prog_8_method_58_code
def yX6_consumed : MethodName := ⟨RX6, "consumed", "(I)I"⟩
abbrev cX6_meanWait : ByteArray := prog_8_method_59_code
def yX6_meanWait : MethodName := ⟨RX6, "meanWait", "(I)D"⟩
abbrev cX6_shareOf : ByteArray := prog_8_method_60_code
def yX6_shareOf : MethodName := ⟨RX6, "shareOf", "(I)F"⟩
abbrev cX6_clock : ByteArray := prog_8_method_61_code
def yX6_clock : MethodName := ⟨RX6, "clock", "()I"⟩
abbrev cX6_copy : ByteArray := prog_8_method_62_code
def yX6_copy : MethodName := ⟨RX6, "copy", "([I[I)V"⟩
abbrev cX6_copyLongs : ByteArray := prog_8_method_63_code
def yX6_copyLongs : MethodName := ⟨RX6, "copyLongs", "([J[J)V"⟩
abbrev cX6_messages : ByteArray := prog_8_method_64_code
def yX6_messages : MethodName := ⟨RX6, "messages", "()I"⟩
abbrev cX6_save : ByteArray := prog_8_method_65_code
def yX6_save : MethodName := ⟨RX6, "save", "()I"⟩
abbrev cX6_restore : ByteArray := prog_8_method_66_code
def yX6_restore : MethodName := ⟨RX6, "restore", "()I"⟩
abbrev cX6_mix : ByteArray := prog_8_method_67_code
def yX6_mix : MethodName := ⟨RX6, "mix", "(J)V"⟩
abbrev cX6_mixMessages : ByteArray := prog_8_method_68_code
def yX6_mixMessages : MethodName := ⟨RX6, "mixMessages", "()V"⟩
abbrev cX6_mixTickets : ByteArray := prog_8_method_69_code
def yX6_mixTickets : MethodName := ⟨RX6, "mixTickets", "()V"⟩
abbrev cX6_digest : ByteArray := prog_8_method_70_code
def yX6_digest : MethodName := ⟨RX6, "digest", "()J"⟩
def RJx145de : String := "java/io/Serializable"
def TJx145de : u_T := fun k => match k with
  | _ => ("", "", "", false)
def tyJx145de : Nat → FieldType := fun k => match k with
  | _ => .int
abbrev wsJx145de0 : List Cond := u_ws RJx145de TJx145de 0
theorem nmJx145de : ∀ a, a < 0 → ∀ b, b < 0 → a ≠ b → (TJx145de a).2.1 ≠ (TJx145de b).2.1 := by decide +kernel
theorem tyJx145de_ok : ∀ k, k < 0 → parseFieldDescriptor (TJx145de k).2.2.1 = some (tyJx145de k) := by decide +kernel
def RJ6 : String := "java/lang/Integer"
def TJ6 : u_T := fun k => match k with
  | _ => ("", "", "", false)
def tyJ6 : Nat → FieldType := fun k => match k with
  | _ => .int
abbrev wsJ60 : List Cond := u_ws RJ6 TJ6 0
theorem nmJ6 : ∀ a, a < 0 → ∀ b, b < 0 → a ≠ b → (TJ6 a).2.1 ≠ (TJ6 b).2.1 := by decide +kernel
theorem tyJ6_ok : ∀ k, k < 0 → parseFieldDescriptor (TJ6 k).2.2.1 = some (tyJ6 k) := by decide +kernel
abbrev cJ6_bitCount_0f7a4 : ByteArray := prog_13_method_49_code
def yJ6_bitCount_0f7a4 : MethodName := ⟨RJ6, "bitCount", "(I)I"⟩
def RJ9 : String := "java/lang/Math"
def TJ9 : u_T := fun k => match k with
  | _ => ("", "", "", false)
def tyJ9 : Nat → FieldType := fun k => match k with
  | _ => .int
abbrev wsJ90 : List Cond := u_ws RJ9 TJ9 0
theorem nmJ9 : ∀ a, a < 0 → ∀ b, b < 0 → a ≠ b → (TJ9 a).2.1 ≠ (TJ9 b).2.1 := by decide +kernel
theorem tyJ9_ok : ∀ k, k < 0 → parseFieldDescriptor (TJ9 k).2.2.1 = some (tyJ9 k) := by decide +kernel
abbrev cJ9_max_f86c9 : ByteArray := prog_14_method_66_code
def yJ9_max_f86c9 : MethodName := ⟨RJ9, "max", "(JJ)J"⟩
abbrev cJ9_min_f86c9 : ByteArray := prog_14_method_70_code
def yJ9_min_f86c9 : MethodName := ⟨RJ9, "min", "(JJ)J"⟩
def RJ0 : String := "java/lang/String"
def TJ0 : u_T := fun k => match k with
  | _ => ("", "", "", false)
def tyJ0 : Nat → FieldType := fun k => match k with
  | _ => .int
abbrev wsJ00 : List Cond := u_ws RJ0 TJ0 0
theorem nmJ0 : ∀ a, a < 0 → ∀ b, b < 0 → a ≠ b → (TJ0 a).2.1 ≠ (TJ0 b).2.1 := by decide +kernel
theorem tyJ0_ok : ∀ k, k < 0 → parseFieldDescriptor (TJ0 k).2.2.1 = some (tyJ0 k) := by decide +kernel
def RJ10 : String := "java/lang/System"
def TJ10 : u_T := fun k => match k with
  | _ => ("", "", "", false)
def tyJ10 : Nat → FieldType := fun k => match k with
  | _ => .int
abbrev wsJ100 : List Cond := u_ws RJ10 TJ10 0
theorem nmJ10 : ∀ a, a < 0 → ∀ b, b < 0 → a ≠ b → (TJ10 a).2.1 ≠ (TJ10 b).2.1 := by decide +kernel
theorem tyJ10_ok : ∀ k, k < 0 → parseFieldDescriptor (TJ10 k).2.2.1 = some (tyJ10 k) := by decide +kernel
def RJ7 : String := "java/util/Arrays"
def TJ7 : u_T := fun k => match k with
  | _ => ("", "", "", false)
def tyJ7 : Nat → FieldType := fun k => match k with
  | _ => .int
abbrev wsJ70 : List Cond := u_ws RJ7 TJ7 0
theorem nmJ7 : ∀ a, a < 0 → ∀ b, b < 0 → a ≠ b → (TJ7 a).2.1 ≠ (TJ7 b).2.1 := by decide +kernel
theorem tyJ7_ok : ∀ k, k < 0 → parseFieldDescriptor (TJ7 k).2.2.1 = some (tyJ7 k) := by decide +kernel
abbrev cJ7_fill_53178 : ByteArray := prog_19_method_103_code
def yJ7_fill_53178 : MethodName := ⟨RJ7, "fill", "([II)V"⟩
def RL : String := "JoinRuntimeLaw"
abbrev cL_append : ByteArray := method_3_code
def yL_append : MethodName := ⟨RL, "append", "(LJoinRuntime;I[J)I"⟩
abbrev cL_addRule : ByteArray := method_4_code
def yL_addRule : MethodName := ⟨RL, "addRule", "(LJoinRuntime;[J)I"⟩
abbrev cL_removeRule : ByteArray := method_5_code
def yL_removeRule : MethodName := ⟨RL, "removeRule", "(LJoinRuntime;I[J)I"⟩
abbrev cL_patternOf : ByteArray := method_6_code
def yL_patternOf : MethodName := ⟨RL, "patternOf", "(LJoinRuntime;I[J)I"⟩
abbrev cL_setPolicy : ByteArray := method_7_code
def yL_setPolicy : MethodName := ⟨RL, "setPolicy", "(LJoinRuntime;I[J)I"⟩
abbrev cL_send : ByteArray := method_8_code
def yL_send : MethodName := ⟨RL, "send", "(LJoinRuntime;II[J)I"⟩
abbrev cL_queueLength : ByteArray := method_9_code
def yL_queueLength : MethodName := ⟨RL, "queueLength", "(LJoinRuntime;I[J)I"⟩
abbrev cL_messageAt : ByteArray := method_10_code
def yL_messageAt : MethodName := ⟨RL, "messageAt", "(LJoinRuntime;II[J)I"⟩
abbrev cL_matchOf : ByteArray := method_11_code
def yL_matchOf : MethodName := ⟨RL, "matchOf", "(LJoinRuntime;II[J)I"⟩
abbrev cL_fireRule : ByteArray := method_12_code
def yL_fireRule : MethodName := ⟨RL, "fireRule", "(LJoinRuntime;I[J)I"⟩
abbrev cL_run : ByteArray := method_13_code
def yL_run : MethodName := ⟨RL, "run", "(LJoinRuntime;I[J)I"⟩
abbrev cL_ticketState : ByteArray := method_14_code
def yL_ticketState : MethodName := ⟨RL, "ticketState", "(LJoinRuntime;I[J)I"⟩
abbrev cL_replyOf : ByteArray := method_15_code
def yL_replyOf : MethodName := ⟨RL, "replyOf", "(LJoinRuntime;I[J)I"⟩
abbrev cL_firings : ByteArray := method_16_code
def yL_firings : MethodName := ⟨RL, "firings", "(LJoinRuntime;I[J)I"⟩
abbrev cL_consumed : ByteArray := method_17_code
def yL_consumed : MethodName := ⟨RL, "consumed", "(LJoinRuntime;I[J)I"⟩
abbrev cL_meanWait : ByteArray := method_18_code
def yL_meanWait : MethodName := ⟨RL, "meanWait", "(LJoinRuntime;I[D)I"⟩
abbrev cL_shareOf : ByteArray := method_19_code
def yL_shareOf : MethodName := ⟨RL, "shareOf", "(LJoinRuntime;I[D)I"⟩
abbrev cL_restore : ByteArray := method_20_code
def yL_restore : MethodName := ⟨RL, "restore", "(LJoinRuntime;[J)I"⟩
abbrev cL_law : ByteArray := code
def yL_law : MethodName := ⟨RL, "law", "([I)Z"⟩
abbrev vwCl : List vw_C := [(RX0, TX0, 6), (RX1, TX1, 11), (RX2, TX2, 4), (RX3, TX3, 5), (RX4, TX4, 3), (RX5, TX5, 12), (RX6, TX6, 53)]
end
section
theorem dX0_init_0 : decode cX0_init 0 = .ok (.aload_n 0, 1) := by decide +kernel
theorem dX0_init_1 : decode cX0_init 1 = .ok (.invokespecial 3, 3) := by decide +kernel
theorem dX0_init_4 : decode cX0_init 4 = .ok (.aload_n 0, 1) := by decide +kernel
theorem dX0_init_5 : decode cX0_init 5 = .ok (.bipush 8, 2) := by decide +kernel
theorem dX0_init_7 : decode cX0_init 7 = .ok (.newarray .int, 2) := by decide +kernel
theorem dX0_init_9 : decode cX0_init 9 = .ok (.putfield 9, 3) := by decide +kernel
theorem dX0_init_12 : decode cX0_init 12 = .ok (.aload_n 0, 1) := by decide +kernel
theorem dX0_init_13 : decode cX0_init 13 = .ok (.bipush 8, 2) := by decide +kernel
theorem dX0_init_15 : decode cX0_init 15 = .ok (.newarray .int, 2) := by decide +kernel
theorem dX0_init_17 : decode cX0_init 17 = .ok (.putfield 15, 3) := by decide +kernel
theorem dX0_init_20 : decode cX0_init 20 = .ok (.aload_n 0, 1) := by decide +kernel
theorem dX0_init_21 : decode cX0_init 21 = .ok (.bipush 8, 2) := by decide +kernel
theorem dX0_init_23 : decode cX0_init 23 = .ok (.newarray .int, 2) := by decide +kernel
theorem dX0_init_25 : decode cX0_init 25 = .ok (.putfield 18, 3) := by decide +kernel
theorem dX0_init_28 : decode cX0_init 28 = .ok (.return_, 1) := by decide +kernel
theorem dX0_isFull_0 : decode cX0_isFull 0 = .ok (.aload_n 0, 1) := by decide +kernel
theorem dX0_isFull_1 : decode cX0_isFull 1 = .ok (.getfield 21, 3) := by decide +kernel
theorem dX0_isFull_4 : decode cX0_isFull 4 = .ok (.bipush 8, 2) := by decide +kernel
theorem dX0_isFull_6 : decode cX0_isFull 6 = .ok (.if_icmp .lt 7, 3) := by decide +kernel
theorem dX0_isFull_9 : decode cX0_isFull 9 = .ok (.iconst 1, 1) := by decide +kernel
theorem dX0_isFull_10 : decode cX0_isFull 10 = .ok (.goto 4, 3) := by decide +kernel
theorem dX0_isFull_13 : decode cX0_isFull 13 = .ok (.iconst 0, 1) := by decide +kernel
theorem dX0_isFull_14 : decode cX0_isFull 14 = .ok (.ireturn, 1) := by decide +kernel
theorem dX0_has_0 : decode cX0_has 0 = .ok (.iload_n 1, 1) := by decide +kernel
theorem dX0_has_1 : decode cX0_has 1 = .ok (.ifCond .lt 15, 3) := by decide +kernel
theorem dX0_has_4 : decode cX0_has 4 = .ok (.iload_n 1, 1) := by decide +kernel
theorem dX0_has_5 : decode cX0_has 5 = .ok (.aload_n 0, 1) := by decide +kernel
theorem dX0_has_6 : decode cX0_has 6 = .ok (.getfield 21, 3) := by decide +kernel
theorem dX0_has_9 : decode cX0_has 9 = .ok (.if_icmp .ge 7, 3) := by decide +kernel
theorem dX0_has_12 : decode cX0_has 12 = .ok (.iconst 1, 1) := by decide +kernel
theorem dX0_has_13 : decode cX0_has 13 = .ok (.goto 4, 3) := by decide +kernel
theorem dX0_has_16 : decode cX0_has 16 = .ok (.iconst 0, 1) := by decide +kernel
theorem dX0_has_17 : decode cX0_has 17 = .ok (.ireturn, 1) := by decide +kernel
theorem dX0_valueAt_0 : decode cX0_valueAt 0 = .ok (.iload_n 1, 1) := by decide +kernel
theorem dX0_valueAt_1 : decode cX0_valueAt 1 = .ok (.ifCond .lt 20, 3) := by decide +kernel
theorem dX0_valueAt_4 : decode cX0_valueAt 4 = .ok (.iload_n 1, 1) := by decide +kernel
theorem dX0_valueAt_5 : decode cX0_valueAt 5 = .ok (.aload_n 0, 1) := by decide +kernel
theorem dX0_valueAt_6 : decode cX0_valueAt 6 = .ok (.getfield 21, 3) := by decide +kernel
theorem dX0_valueAt_9 : decode cX0_valueAt 9 = .ok (.if_icmp .ge 12, 3) := by decide +kernel
theorem dX0_valueAt_12 : decode cX0_valueAt 12 = .ok (.aload_n 0, 1) := by decide +kernel
theorem dX0_valueAt_13 : decode cX0_valueAt 13 = .ok (.getfield 9, 3) := by decide +kernel
theorem dX0_valueAt_16 : decode cX0_valueAt 16 = .ok (.iload_n 1, 1) := by decide +kernel
theorem dX0_valueAt_17 : decode cX0_valueAt 17 = .ok (.iaload, 1) := by decide +kernel
theorem dX0_valueAt_18 : decode cX0_valueAt 18 = .ok (.goto 4, 3) := by decide +kernel
theorem dX0_valueAt_21 : decode cX0_valueAt 21 = .ok (.iconst 0, 1) := by decide +kernel
theorem dX0_valueAt_22 : decode cX0_valueAt 22 = .ok (.ireturn, 1) := by decide +kernel
theorem dX0_ticketAt_0 : decode cX0_ticketAt 0 = .ok (.aload_n 0, 1) := by decide +kernel
theorem dX0_ticketAt_1 : decode cX0_ticketAt 1 = .ok (.iload_n 1, 1) := by decide +kernel
theorem dX0_ticketAt_2 : decode cX0_ticketAt 2 = .ok (.invokevirtual 25, 3) := by decide +kernel
theorem dX0_ticketAt_5 : decode cX0_ticketAt 5 = .ok (.ifCond .eq 12, 3) := by decide +kernel
theorem dX0_ticketAt_8 : decode cX0_ticketAt 8 = .ok (.aload_n 0, 1) := by decide +kernel
theorem dX0_ticketAt_9 : decode cX0_ticketAt 9 = .ok (.getfield 18, 3) := by decide +kernel
theorem dX0_ticketAt_12 : decode cX0_ticketAt 12 = .ok (.iload_n 1, 1) := by decide +kernel
theorem dX0_ticketAt_13 : decode cX0_ticketAt 13 = .ok (.iaload, 1) := by decide +kernel
theorem dX0_ticketAt_14 : decode cX0_ticketAt 14 = .ok (.goto 4, 3) := by decide +kernel
theorem dX0_ticketAt_17 : decode cX0_ticketAt 17 = .ok (.iconst (-1), 1) := by decide +kernel
theorem dX0_ticketAt_18 : decode cX0_ticketAt 18 = .ok (.ireturn, 1) := by decide +kernel
theorem dX0_put_0 : decode cX0_put 0 = .ok (.aload_n 0, 1) := by decide +kernel
theorem dX0_put_1 : decode cX0_put 1 = .ok (.invokevirtual 29, 3) := by decide +kernel
theorem dX0_put_4 : decode cX0_put 4 = .ok (.ifCond .eq 4, 3) := by decide +kernel
theorem dX0_put_7 : decode cX0_put 7 = .ok (.return_, 1) := by decide +kernel
theorem dX0_put_8 : decode cX0_put 8 = .ok (.aload_n 0, 1) := by decide +kernel
theorem dX0_put_9 : decode cX0_put 9 = .ok (.getfield 9, 3) := by decide +kernel
theorem dX0_put_12 : decode cX0_put 12 = .ok (.aload_n 0, 1) := by decide +kernel
theorem dX0_put_13 : decode cX0_put 13 = .ok (.getfield 21, 3) := by decide +kernel
theorem dX0_put_16 : decode cX0_put 16 = .ok (.iload_n 1, 1) := by decide +kernel
theorem dX0_put_17 : decode cX0_put 17 = .ok (.iastore, 1) := by decide +kernel
theorem dX0_put_18 : decode cX0_put 18 = .ok (.aload_n 0, 1) := by decide +kernel
theorem dX0_put_19 : decode cX0_put 19 = .ok (.getfield 15, 3) := by decide +kernel
theorem dX0_put_22 : decode cX0_put 22 = .ok (.aload_n 0, 1) := by decide +kernel
theorem dX0_put_23 : decode cX0_put 23 = .ok (.getfield 21, 3) := by decide +kernel
theorem dX0_put_26 : decode cX0_put 26 = .ok (.iload_n 2, 1) := by decide +kernel
theorem dX0_put_27 : decode cX0_put 27 = .ok (.iastore, 1) := by decide +kernel
theorem dX0_put_28 : decode cX0_put 28 = .ok (.aload_n 0, 1) := by decide +kernel
theorem dX0_put_29 : decode cX0_put 29 = .ok (.getfield 18, 3) := by decide +kernel
theorem dX0_put_32 : decode cX0_put 32 = .ok (.aload_n 0, 1) := by decide +kernel
theorem dX0_put_33 : decode cX0_put 33 = .ok (.getfield 21, 3) := by decide +kernel
theorem dX0_put_36 : decode cX0_put 36 = .ok (.iload_n 3, 1) := by decide +kernel
theorem dX0_put_37 : decode cX0_put 37 = .ok (.iastore, 1) := by decide +kernel
theorem dX0_put_38 : decode cX0_put 38 = .ok (.aload_n 0, 1) := by decide +kernel
theorem dX0_put_39 : decode cX0_put 39 = .ok (.dup, 1) := by decide +kernel
theorem dX0_put_40 : decode cX0_put 40 = .ok (.getfield 21, 3) := by decide +kernel
theorem dX0_put_43 : decode cX0_put 43 = .ok (.iconst 1, 1) := by decide +kernel
theorem dX0_put_44 : decode cX0_put 44 = .ok (.iadd, 1) := by decide +kernel
theorem dX0_put_45 : decode cX0_put 45 = .ok (.putfield 21, 3) := by decide +kernel
theorem dX0_put_48 : decode cX0_put 48 = .ok (.return_, 1) := by decide +kernel
theorem dX0_take_0 : decode cX0_take 0 = .ok (.aload_n 0, 1) := by decide +kernel
theorem dX0_take_1 : decode cX0_take 1 = .ok (.iload_n 1, 1) := by decide +kernel
theorem dX0_take_2 : decode cX0_take 2 = .ok (.invokevirtual 25, 3) := by decide +kernel
theorem dX0_take_5 : decode cX0_take 5 = .ok (.ifCond .ne 4, 3) := by decide +kernel
theorem dX0_take_8 : decode cX0_take 8 = .ok (.return_, 1) := by decide +kernel
theorem dX0_take_9 : decode cX0_take 9 = .ok (.aload_n 0, 1) := by decide +kernel
theorem dX0_take_10 : decode cX0_take 10 = .ok (.dup, 1) := by decide +kernel
theorem dX0_take_11 : decode cX0_take 11 = .ok (.getfield 33, 3) := by decide +kernel
theorem dX0_take_14 : decode cX0_take 14 = .ok (.iconst 1, 1) := by decide +kernel
theorem dX0_take_15 : decode cX0_take 15 = .ok (.iadd, 1) := by decide +kernel
theorem dX0_take_16 : decode cX0_take 16 = .ok (.putfield 33, 3) := by decide +kernel
theorem dX0_take_19 : decode cX0_take 19 = .ok (.aload_n 0, 1) := by decide +kernel
theorem dX0_take_20 : decode cX0_take 20 = .ok (.dup, 1) := by decide +kernel
theorem dX0_take_21 : decode cX0_take 21 = .ok (.getfield 36, 3) := by decide +kernel
theorem dX0_take_24 : decode cX0_take 24 = .ok (.iload_n 2, 1) := by decide +kernel
theorem dX0_take_25 : decode cX0_take 25 = .ok (.aload_n 0, 1) := by decide +kernel
theorem dX0_take_26 : decode cX0_take 26 = .ok (.getfield 15, 3) := by decide +kernel
theorem dX0_take_29 : decode cX0_take 29 = .ok (.iload_n 1, 1) := by decide +kernel
theorem dX0_take_30 : decode cX0_take 30 = .ok (.iaload, 1) := by decide +kernel
theorem dX0_take_31 : decode cX0_take 31 = .ok (.isub, 1) := by decide +kernel
theorem dX0_take_32 : decode cX0_take 32 = .ok (.i2l, 1) := by decide +kernel
theorem dX0_take_33 : decode cX0_take 33 = .ok (.ladd, 1) := by decide +kernel
theorem dX0_take_34 : decode cX0_take 34 = .ok (.putfield 36, 3) := by decide +kernel
theorem dX0_take_37 : decode cX0_take 37 = .ok (.aload_n 0, 1) := by decide +kernel
theorem dX0_take_38 : decode cX0_take 38 = .ok (.dup, 1) := by decide +kernel
theorem dX0_take_39 : decode cX0_take 39 = .ok (.getfield 21, 3) := by decide +kernel
theorem dX0_take_42 : decode cX0_take 42 = .ok (.iconst 1, 1) := by decide +kernel
theorem dX0_take_43 : decode cX0_take 43 = .ok (.isub, 1) := by decide +kernel
theorem dX0_take_44 : decode cX0_take 44 = .ok (.putfield 21, 3) := by decide +kernel
theorem dX0_take_47 : decode cX0_take 47 = .ok (.iload_n 1, 1) := by decide +kernel
theorem dX0_take_48 : decode cX0_take 48 = .ok (.istore_n 3, 1) := by decide +kernel
theorem dX0_take_49 : decode cX0_take 49 = .ok (.iload_n 3, 1) := by decide +kernel
theorem dX0_take_50 : decode cX0_take 50 = .ok (.aload_n 0, 1) := by decide +kernel
theorem dX0_take_51 : decode cX0_take 51 = .ok (.getfield 21, 3) := by decide +kernel
theorem dX0_take_54 : decode cX0_take 54 = .ok (.if_icmp .ge 51, 3) := by decide +kernel
theorem dX0_take_57 : decode cX0_take 57 = .ok (.aload_n 0, 1) := by decide +kernel
theorem dX0_take_58 : decode cX0_take 58 = .ok (.getfield 9, 3) := by decide +kernel
theorem dX0_take_61 : decode cX0_take 61 = .ok (.iload_n 3, 1) := by decide +kernel
theorem dX0_take_62 : decode cX0_take 62 = .ok (.aload_n 0, 1) := by decide +kernel
theorem dX0_take_63 : decode cX0_take 63 = .ok (.getfield 9, 3) := by decide +kernel
theorem dX0_take_66 : decode cX0_take 66 = .ok (.iload_n 3, 1) := by decide +kernel
theorem dX0_take_67 : decode cX0_take 67 = .ok (.iconst 1, 1) := by decide +kernel
theorem dX0_take_68 : decode cX0_take 68 = .ok (.iadd, 1) := by decide +kernel
theorem dX0_take_69 : decode cX0_take 69 = .ok (.iaload, 1) := by decide +kernel
theorem dX0_take_70 : decode cX0_take 70 = .ok (.iastore, 1) := by decide +kernel
theorem dX0_take_71 : decode cX0_take 71 = .ok (.aload_n 0, 1) := by decide +kernel
theorem dX0_take_72 : decode cX0_take 72 = .ok (.getfield 15, 3) := by decide +kernel
theorem dX0_take_75 : decode cX0_take 75 = .ok (.iload_n 3, 1) := by decide +kernel
theorem dX0_take_76 : decode cX0_take 76 = .ok (.aload_n 0, 1) := by decide +kernel
theorem dX0_take_77 : decode cX0_take 77 = .ok (.getfield 15, 3) := by decide +kernel
theorem dX0_take_80 : decode cX0_take 80 = .ok (.iload_n 3, 1) := by decide +kernel
theorem dX0_take_81 : decode cX0_take 81 = .ok (.iconst 1, 1) := by decide +kernel
theorem dX0_take_82 : decode cX0_take 82 = .ok (.iadd, 1) := by decide +kernel
theorem dX0_take_83 : decode cX0_take 83 = .ok (.iaload, 1) := by decide +kernel
theorem dX0_take_84 : decode cX0_take 84 = .ok (.iastore, 1) := by decide +kernel
theorem dX0_take_85 : decode cX0_take 85 = .ok (.aload_n 0, 1) := by decide +kernel
theorem dX0_take_86 : decode cX0_take 86 = .ok (.getfield 18, 3) := by decide +kernel
theorem dX0_take_89 : decode cX0_take 89 = .ok (.iload_n 3, 1) := by decide +kernel
theorem dX0_take_90 : decode cX0_take 90 = .ok (.aload_n 0, 1) := by decide +kernel
theorem dX0_take_91 : decode cX0_take 91 = .ok (.getfield 18, 3) := by decide +kernel
theorem dX0_take_94 : decode cX0_take 94 = .ok (.iload_n 3, 1) := by decide +kernel
theorem dX0_take_95 : decode cX0_take 95 = .ok (.iconst 1, 1) := by decide +kernel
theorem dX0_take_96 : decode cX0_take 96 = .ok (.iadd, 1) := by decide +kernel
theorem dX0_take_97 : decode cX0_take 97 = .ok (.iaload, 1) := by decide +kernel
theorem dX0_take_98 : decode cX0_take 98 = .ok (.iastore, 1) := by decide +kernel
theorem dX0_take_99 : decode cX0_take 99 = .ok (.iinc 3 1, 3) := by decide +kernel
theorem dX0_take_102 : decode cX0_take 102 = .ok (.goto (-53), 3) := by decide +kernel
theorem dX0_take_105 : decode cX0_take 105 = .ok (.return_, 1) := by decide +kernel
theorem dX0_copyFrom_0 : decode cX0_copyFrom 0 = .ok (.aload_n 1, 1) := by decide +kernel
theorem dX0_copyFrom_1 : decode cX0_copyFrom 1 = .ok (.getfield 9, 3) := by decide +kernel
theorem dX0_copyFrom_4 : decode cX0_copyFrom 4 = .ok (.iconst 0, 1) := by decide +kernel
theorem dX0_copyFrom_5 : decode cX0_copyFrom 5 = .ok (.aload_n 0, 1) := by decide +kernel
theorem dX0_copyFrom_6 : decode cX0_copyFrom 6 = .ok (.getfield 9, 3) := by decide +kernel
theorem dX0_copyFrom_9 : decode cX0_copyFrom 9 = .ok (.iconst 0, 1) := by decide +kernel
theorem dX0_copyFrom_10 : decode cX0_copyFrom 10 = .ok (.bipush 8, 2) := by decide +kernel
theorem dX0_copyFrom_12 : decode cX0_copyFrom 12 = .ok (.invokestatic 40, 3) := by decide +kernel
theorem dX0_copyFrom_15 : decode cX0_copyFrom 15 = .ok (.aload_n 1, 1) := by decide +kernel
theorem dX0_copyFrom_16 : decode cX0_copyFrom 16 = .ok (.getfield 15, 3) := by decide +kernel
theorem dX0_copyFrom_19 : decode cX0_copyFrom 19 = .ok (.iconst 0, 1) := by decide +kernel
theorem dX0_copyFrom_20 : decode cX0_copyFrom 20 = .ok (.aload_n 0, 1) := by decide +kernel
theorem dX0_copyFrom_21 : decode cX0_copyFrom 21 = .ok (.getfield 15, 3) := by decide +kernel
theorem dX0_copyFrom_24 : decode cX0_copyFrom 24 = .ok (.iconst 0, 1) := by decide +kernel
theorem dX0_copyFrom_25 : decode cX0_copyFrom 25 = .ok (.bipush 8, 2) := by decide +kernel
theorem dX0_copyFrom_27 : decode cX0_copyFrom 27 = .ok (.invokestatic 40, 3) := by decide +kernel
theorem dX0_copyFrom_30 : decode cX0_copyFrom 30 = .ok (.aload_n 1, 1) := by decide +kernel
theorem dX0_copyFrom_31 : decode cX0_copyFrom 31 = .ok (.getfield 18, 3) := by decide +kernel
theorem dX0_copyFrom_34 : decode cX0_copyFrom 34 = .ok (.iconst 0, 1) := by decide +kernel
theorem dX0_copyFrom_35 : decode cX0_copyFrom 35 = .ok (.aload_n 0, 1) := by decide +kernel
theorem dX0_copyFrom_36 : decode cX0_copyFrom 36 = .ok (.getfield 18, 3) := by decide +kernel
theorem dX0_copyFrom_39 : decode cX0_copyFrom 39 = .ok (.iconst 0, 1) := by decide +kernel
theorem dX0_copyFrom_40 : decode cX0_copyFrom 40 = .ok (.bipush 8, 2) := by decide +kernel
theorem dX0_copyFrom_42 : decode cX0_copyFrom 42 = .ok (.invokestatic 40, 3) := by decide +kernel
theorem dX0_copyFrom_45 : decode cX0_copyFrom 45 = .ok (.aload_n 0, 1) := by decide +kernel
theorem dX0_copyFrom_46 : decode cX0_copyFrom 46 = .ok (.aload_n 1, 1) := by decide +kernel
theorem dX0_copyFrom_47 : decode cX0_copyFrom 47 = .ok (.getfield 21, 3) := by decide +kernel
theorem dX0_copyFrom_50 : decode cX0_copyFrom 50 = .ok (.putfield 21, 3) := by decide +kernel
theorem dX0_copyFrom_53 : decode cX0_copyFrom 53 = .ok (.aload_n 0, 1) := by decide +kernel
theorem dX0_copyFrom_54 : decode cX0_copyFrom 54 = .ok (.aload_n 1, 1) := by decide +kernel
theorem dX0_copyFrom_55 : decode cX0_copyFrom 55 = .ok (.getfield 33, 3) := by decide +kernel
theorem dX0_copyFrom_58 : decode cX0_copyFrom 58 = .ok (.putfield 33, 3) := by decide +kernel
theorem dX0_copyFrom_61 : decode cX0_copyFrom 61 = .ok (.aload_n 0, 1) := by decide +kernel
theorem dX0_copyFrom_62 : decode cX0_copyFrom 62 = .ok (.aload_n 1, 1) := by decide +kernel
theorem dX0_copyFrom_63 : decode cX0_copyFrom 63 = .ok (.getfield 36, 3) := by decide +kernel
theorem dX0_copyFrom_66 : decode cX0_copyFrom 66 = .ok (.putfield 36, 3) := by decide +kernel
theorem dX0_copyFrom_69 : decode cX0_copyFrom 69 = .ok (.return_, 1) := by decide +kernel
theorem dX0_mixMessages_0 : decode cX0_mixMessages 0 = .ok (.lload_n 1, 1) := by decide +kernel
theorem dX0_mixMessages_1 : decode cX0_mixMessages 1 = .ok (.aload_n 0, 1) := by decide +kernel
theorem dX0_mixMessages_2 : decode cX0_mixMessages 2 = .ok (.getfield 21, 3) := by decide +kernel
theorem dX0_mixMessages_5 : decode cX0_mixMessages 5 = .ok (.i2l, 1) := by decide +kernel
theorem dX0_mixMessages_6 : decode cX0_mixMessages 6 = .ok (.invokestatic 46, 3) := by decide +kernel
theorem dX0_mixMessages_9 : decode cX0_mixMessages 9 = .ok (.lstore_n 3, 1) := by decide +kernel
theorem dX0_mixMessages_10 : decode cX0_mixMessages 10 = .ok (.iconst 0, 1) := by decide +kernel
theorem dX0_mixMessages_11 : decode cX0_mixMessages 11 = .ok (.istore 5, 2) := by decide +kernel
theorem dX0_mixMessages_13 : decode cX0_mixMessages 13 = .ok (.iload 5, 2) := by decide +kernel
theorem dX0_mixMessages_15 : decode cX0_mixMessages 15 = .ok (.aload_n 0, 1) := by decide +kernel
theorem dX0_mixMessages_16 : decode cX0_mixMessages 16 = .ok (.getfield 21, 3) := by decide +kernel
theorem dX0_mixMessages_19 : decode cX0_mixMessages 19 = .ok (.if_icmp .ge 48, 3) := by decide +kernel
theorem dX0_mixMessages_22 : decode cX0_mixMessages 22 = .ok (.lload_n 3, 1) := by decide +kernel
theorem dX0_mixMessages_23 : decode cX0_mixMessages 23 = .ok (.aload_n 0, 1) := by decide +kernel
theorem dX0_mixMessages_24 : decode cX0_mixMessages 24 = .ok (.getfield 9, 3) := by decide +kernel
theorem dX0_mixMessages_27 : decode cX0_mixMessages 27 = .ok (.iload 5, 2) := by decide +kernel
theorem dX0_mixMessages_29 : decode cX0_mixMessages 29 = .ok (.iaload, 1) := by decide +kernel
theorem dX0_mixMessages_30 : decode cX0_mixMessages 30 = .ok (.i2l, 1) := by decide +kernel
theorem dX0_mixMessages_31 : decode cX0_mixMessages 31 = .ok (.invokestatic 46, 3) := by decide +kernel
theorem dX0_mixMessages_34 : decode cX0_mixMessages 34 = .ok (.lstore_n 3, 1) := by decide +kernel
theorem dX0_mixMessages_35 : decode cX0_mixMessages 35 = .ok (.lload_n 3, 1) := by decide +kernel
theorem dX0_mixMessages_36 : decode cX0_mixMessages 36 = .ok (.aload_n 0, 1) := by decide +kernel
theorem dX0_mixMessages_37 : decode cX0_mixMessages 37 = .ok (.getfield 15, 3) := by decide +kernel
theorem dX0_mixMessages_40 : decode cX0_mixMessages 40 = .ok (.iload 5, 2) := by decide +kernel
theorem dX0_mixMessages_42 : decode cX0_mixMessages 42 = .ok (.iaload, 1) := by decide +kernel
theorem dX0_mixMessages_43 : decode cX0_mixMessages 43 = .ok (.i2l, 1) := by decide +kernel
theorem dX0_mixMessages_44 : decode cX0_mixMessages 44 = .ok (.invokestatic 46, 3) := by decide +kernel
theorem dX0_mixMessages_47 : decode cX0_mixMessages 47 = .ok (.lstore_n 3, 1) := by decide +kernel
theorem dX0_mixMessages_48 : decode cX0_mixMessages 48 = .ok (.lload_n 3, 1) := by decide +kernel
theorem dX0_mixMessages_49 : decode cX0_mixMessages 49 = .ok (.aload_n 0, 1) := by decide +kernel
theorem dX0_mixMessages_50 : decode cX0_mixMessages 50 = .ok (.getfield 18, 3) := by decide +kernel
theorem dX0_mixMessages_53 : decode cX0_mixMessages 53 = .ok (.iload 5, 2) := by decide +kernel
theorem dX0_mixMessages_55 : decode cX0_mixMessages 55 = .ok (.iaload, 1) := by decide +kernel
theorem dX0_mixMessages_56 : decode cX0_mixMessages 56 = .ok (.i2l, 1) := by decide +kernel
theorem dX0_mixMessages_57 : decode cX0_mixMessages 57 = .ok (.invokestatic 46, 3) := by decide +kernel
theorem dX0_mixMessages_60 : decode cX0_mixMessages 60 = .ok (.lstore_n 3, 1) := by decide +kernel
theorem dX0_mixMessages_61 : decode cX0_mixMessages 61 = .ok (.iinc 5 1, 3) := by decide +kernel
theorem dX0_mixMessages_64 : decode cX0_mixMessages 64 = .ok (.goto (-51), 3) := by decide +kernel
theorem dX0_mixMessages_67 : decode cX0_mixMessages 67 = .ok (.lload_n 3, 1) := by decide +kernel
theorem dX0_mixMessages_68 : decode cX0_mixMessages 68 = .ok (.lreturn, 1) := by decide +kernel
theorem dX1_init_0 : decode cX1_init 0 = .ok (.aload_n 0, 1) := by decide +kernel
theorem dX1_init_1 : decode cX1_init 1 = .ok (.invokespecial 3, 3) := by decide +kernel
theorem dX1_init_4 : decode cX1_init 4 = .ok (.aload_n 0, 1) := by decide +kernel
theorem dX1_init_5 : decode cX1_init 5 = .ok (.iconst 4, 1) := by decide +kernel
theorem dX1_init_6 : decode cX1_init 6 = .ok (.newarray .int, 2) := by decide +kernel
theorem dX1_init_8 : decode cX1_init 8 = .ok (.putfield 9, 3) := by decide +kernel
theorem dX1_init_11 : decode cX1_init 11 = .ok (.aload_n 0, 1) := by decide +kernel
theorem dX1_init_12 : decode cX1_init 12 = .ok (.iconst 4, 1) := by decide +kernel
theorem dX1_init_13 : decode cX1_init 13 = .ok (.newarray .boolean, 2) := by decide +kernel
theorem dX1_init_15 : decode cX1_init 15 = .ok (.putfield 15, 3) := by decide +kernel
theorem dX1_init_18 : decode cX1_init 18 = .ok (.aload_n 0, 1) := by decide +kernel
theorem dX1_init_19 : decode cX1_init 19 = .ok (.iconst 4, 1) := by decide +kernel
theorem dX1_init_20 : decode cX1_init 20 = .ok (.newarray .int, 2) := by decide +kernel
theorem dX1_init_22 : decode cX1_init 22 = .ok (.putfield 19, 3) := by decide +kernel
theorem dX1_init_25 : decode cX1_init 25 = .ok (.aload_n 0, 1) := by decide +kernel
theorem dX1_init_26 : decode cX1_init 26 = .ok (.bipush 12, 2) := by decide +kernel
theorem dX1_init_28 : decode cX1_init 28 = .ok (.newarray .int, 2) := by decide +kernel
theorem dX1_init_30 : decode cX1_init 30 = .ok (.putfield 22, 3) := by decide +kernel
theorem dX1_init_33 : decode cX1_init 33 = .ok (.aload_n 0, 1) := by decide +kernel
theorem dX1_init_34 : decode cX1_init 34 = .ok (.bipush 12, 2) := by decide +kernel
theorem dX1_init_36 : decode cX1_init 36 = .ok (.newarray .int, 2) := by decide +kernel
theorem dX1_init_38 : decode cX1_init 38 = .ok (.putfield 25, 3) := by decide +kernel
theorem dX1_init_41 : decode cX1_init 41 = .ok (.return_, 1) := by decide +kernel
theorem dX1_clear_0 : decode cX1_clear 0 = .ok (.aload_n 0, 1) := by decide +kernel
theorem dX1_clear_1 : decode cX1_clear 1 = .ok (.iconst 0, 1) := by decide +kernel
theorem dX1_clear_2 : decode cX1_clear 2 = .ok (.putfield 28, 3) := by decide +kernel
theorem dX1_clear_5 : decode cX1_clear 5 = .ok (.aload_n 0, 1) := by decide +kernel
theorem dX1_clear_6 : decode cX1_clear 6 = .ok (.iconst 0, 1) := by decide +kernel
theorem dX1_clear_7 : decode cX1_clear 7 = .ok (.putfield 32, 3) := by decide +kernel
theorem dX1_clear_10 : decode cX1_clear 10 = .ok (.aload_n 0, 1) := by decide +kernel
theorem dX1_clear_11 : decode cX1_clear 11 = .ok (.iconst 0, 1) := by decide +kernel
theorem dX1_clear_12 : decode cX1_clear 12 = .ok (.putfield 35, 3) := by decide +kernel
theorem dX1_clear_15 : decode cX1_clear 15 = .ok (.aload_n 0, 1) := by decide +kernel
theorem dX1_clear_16 : decode cX1_clear 16 = .ok (.bipush 8, 2) := by decide +kernel
theorem dX1_clear_18 : decode cX1_clear 18 = .ok (.bipush 61, 2) := by decide +kernel
theorem dX1_clear_20 : decode cX1_clear 20 = .ok (.bipush 8, 2) := by decide +kernel
theorem dX1_clear_22 : decode cX1_clear 22 = .ok (.invokevirtual 38, 3) := by decide +kernel
theorem dX1_clear_25 : decode cX1_clear 25 = .ok (.return_, 1) := by decide +kernel
theorem dX1_uses_0 : decode cX1_uses 0 = .ok (.aload_n 0, 1) := by decide +kernel
theorem dX1_uses_1 : decode cX1_uses 1 = .ok (.getfield 28, 3) := by decide +kernel
theorem dX1_uses_4 : decode cX1_uses 4 = .ok (.iload_n 1, 1) := by decide +kernel
theorem dX1_uses_5 : decode cX1_uses 5 = .ok (.ishr, 1) := by decide +kernel
theorem dX1_uses_6 : decode cX1_uses 6 = .ok (.iconst 1, 1) := by decide +kernel
theorem dX1_uses_7 : decode cX1_uses 7 = .ok (.iand, 1) := by decide +kernel
theorem dX1_uses_8 : decode cX1_uses 8 = .ok (.ifCond .eq 7, 3) := by decide +kernel
theorem dX1_uses_11 : decode cX1_uses 11 = .ok (.iconst 1, 1) := by decide +kernel
theorem dX1_uses_12 : decode cX1_uses 12 = .ok (.goto 4, 3) := by decide +kernel
theorem dX1_uses_15 : decode cX1_uses 15 = .ok (.iconst 0, 1) := by decide +kernel
theorem dX1_uses_16 : decode cX1_uses 16 = .ok (.ireturn, 1) := by decide +kernel
theorem dX1_repliesTo_0 : decode cX1_repliesTo 0 = .ok (.aload_n 0, 1) := by decide +kernel
theorem dX1_repliesTo_1 : decode cX1_repliesTo 1 = .ok (.getfield 32, 3) := by decide +kernel
theorem dX1_repliesTo_4 : decode cX1_repliesTo 4 = .ok (.iload_n 1, 1) := by decide +kernel
theorem dX1_repliesTo_5 : decode cX1_repliesTo 5 = .ok (.ishr, 1) := by decide +kernel
theorem dX1_repliesTo_6 : decode cX1_repliesTo 6 = .ok (.iconst 1, 1) := by decide +kernel
theorem dX1_repliesTo_7 : decode cX1_repliesTo 7 = .ok (.iand, 1) := by decide +kernel
theorem dX1_repliesTo_8 : decode cX1_repliesTo 8 = .ok (.ifCond .eq 7, 3) := by decide +kernel
theorem dX1_repliesTo_11 : decode cX1_repliesTo 11 = .ok (.iconst 1, 1) := by decide +kernel
theorem dX1_repliesTo_12 : decode cX1_repliesTo 12 = .ok (.goto 4, 3) := by decide +kernel
theorem dX1_repliesTo_15 : decode cX1_repliesTo 15 = .ok (.iconst 0, 1) := by decide +kernel
theorem dX1_repliesTo_16 : decode cX1_repliesTo 16 = .ok (.ireturn, 1) := by decide +kernel
theorem dX1_isReady_0 : decode cX1_isReady 0 = .ok (.aload_n 0, 1) := by decide +kernel
theorem dX1_isReady_1 : decode cX1_isReady 1 = .ok (.getfield 28, 3) := by decide +kernel
theorem dX1_isReady_4 : decode cX1_isReady 4 = .ok (.iload_n 1, 1) := by decide +kernel
theorem dX1_isReady_5 : decode cX1_isReady 5 = .ok (.iand, 1) := by decide +kernel
theorem dX1_isReady_6 : decode cX1_isReady 6 = .ok (.aload_n 0, 1) := by decide +kernel
theorem dX1_isReady_7 : decode cX1_isReady 7 = .ok (.getfield 28, 3) := by decide +kernel
theorem dX1_isReady_10 : decode cX1_isReady 10 = .ok (.if_icmp .ne 7, 3) := by decide +kernel
theorem dX1_isReady_13 : decode cX1_isReady 13 = .ok (.iconst 1, 1) := by decide +kernel
theorem dX1_isReady_14 : decode cX1_isReady 14 = .ok (.goto 4, 3) := by decide +kernel
theorem dX1_isReady_17 : decode cX1_isReady 17 = .ok (.iconst 0, 1) := by decide +kernel
theorem dX1_isReady_18 : decode cX1_isReady 18 = .ok (.ireturn, 1) := by decide +kernel
theorem dX1_addChannel_0 : decode cX1_addChannel 0 = .ok (.aload_n 0, 1) := by decide +kernel
theorem dX1_addChannel_1 : decode cX1_addChannel 1 = .ok (.dup, 1) := by decide +kernel
theorem dX1_addChannel_2 : decode cX1_addChannel 2 = .ok (.getfield 28, 3) := by decide +kernel
theorem dX1_addChannel_5 : decode cX1_addChannel 5 = .ok (.iconst 1, 1) := by decide +kernel
theorem dX1_addChannel_6 : decode cX1_addChannel 6 = .ok (.iload_n 1, 1) := by decide +kernel
theorem dX1_addChannel_7 : decode cX1_addChannel 7 = .ok (.ishl, 1) := by decide +kernel
theorem dX1_addChannel_8 : decode cX1_addChannel 8 = .ok (.ior, 1) := by decide +kernel
theorem dX1_addChannel_9 : decode cX1_addChannel 9 = .ok (.putfield 28, 3) := by decide +kernel
theorem dX1_addChannel_12 : decode cX1_addChannel 12 = .ok (.return_, 1) := by decide +kernel
theorem dX1_setGuard_0 : decode cX1_setGuard 0 = .ok (.iload_n 1, 1) := by decide +kernel
theorem dX1_setGuard_1 : decode cX1_setGuard 1 = .ok (.iload_n 3, 1) := by decide +kernel
theorem dX1_setGuard_2 : decode cX1_setGuard 2 = .ok (.if_icmp .le 7, 3) := by decide +kernel
theorem dX1_setGuard_5 : decode cX1_setGuard 5 = .ok (.iconst 1, 1) := by decide +kernel
theorem dX1_setGuard_6 : decode cX1_setGuard 6 = .ok (.goto 4, 3) := by decide +kernel
theorem dX1_setGuard_9 : decode cX1_setGuard 9 = .ok (.iconst 0, 1) := by decide +kernel
theorem dX1_setGuard_10 : decode cX1_setGuard 10 = .ok (.istore 4, 2) := by decide +kernel
theorem dX1_setGuard_12 : decode cX1_setGuard 12 = .ok (.aload_n 0, 1) := by decide +kernel
theorem dX1_setGuard_13 : decode cX1_setGuard 13 = .ok (.iload 4, 2) := by decide +kernel
theorem dX1_setGuard_15 : decode cX1_setGuard 15 = .ok (.ifCond .eq 7, 3) := by decide +kernel
theorem dX1_setGuard_18 : decode cX1_setGuard 18 = .ok (.iload_n 3, 1) := by decide +kernel
theorem dX1_setGuard_19 : decode cX1_setGuard 19 = .ok (.goto 4, 3) := by decide +kernel
theorem dX1_setGuard_22 : decode cX1_setGuard 22 = .ok (.iload_n 1, 1) := by decide +kernel
theorem dX1_setGuard_23 : decode cX1_setGuard 23 = .ok (.putfield 42, 3) := by decide +kernel
theorem dX1_setGuard_26 : decode cX1_setGuard 26 = .ok (.aload_n 0, 1) := by decide +kernel
theorem dX1_setGuard_27 : decode cX1_setGuard 27 = .ok (.iload 4, 2) := by decide +kernel
theorem dX1_setGuard_29 : decode cX1_setGuard 29 = .ok (.ifCond .eq 7, 3) := by decide +kernel
theorem dX1_setGuard_32 : decode cX1_setGuard 32 = .ok (.iload_n 1, 1) := by decide +kernel
theorem dX1_setGuard_33 : decode cX1_setGuard 33 = .ok (.goto 4, 3) := by decide +kernel
theorem dX1_setGuard_36 : decode cX1_setGuard 36 = .ok (.iload_n 3, 1) := by decide +kernel
theorem dX1_setGuard_37 : decode cX1_setGuard 37 = .ok (.putfield 45, 3) := by decide +kernel
theorem dX1_setGuard_40 : decode cX1_setGuard 40 = .ok (.aload_n 0, 1) := by decide +kernel
theorem dX1_setGuard_41 : decode cX1_setGuard 41 = .ok (.iload 4, 2) := by decide +kernel
theorem dX1_setGuard_43 : decode cX1_setGuard 43 = .ok (.ifCond .eq 10, 3) := by decide +kernel
theorem dX1_setGuard_46 : decode cX1_setGuard 46 = .ok (.iload_n 2, 1) := by decide +kernel
theorem dX1_setGuard_47 : decode cX1_setGuard 47 = .ok (.invokestatic 48, 3) := by decide +kernel
theorem dX1_setGuard_50 : decode cX1_setGuard 50 = .ok (.goto 4, 3) := by decide +kernel
theorem dX1_setGuard_53 : decode cX1_setGuard 53 = .ok (.iload_n 2, 1) := by decide +kernel
theorem dX1_setGuard_54 : decode cX1_setGuard 54 = .ok (.putfield 52, 3) := by decide +kernel
theorem dX1_setGuard_57 : decode cX1_setGuard 57 = .ok (.return_, 1) := by decide +kernel
theorem dX1_mirrored_0 : decode cX1_mirrored 0 = .ok (.iload_n 0, 1) := by decide +kernel
theorem dX1_mirrored_1 : decode cX1_mirrored 1 = .ok (.bipush 60, 2) := by decide +kernel
theorem dX1_mirrored_3 : decode cX1_mirrored 3 = .ok (.if_icmp .ne 6, 3) := by decide +kernel
theorem dX1_mirrored_6 : decode cX1_mirrored 6 = .ok (.bipush 62, 2) := by decide +kernel
theorem dX1_mirrored_8 : decode cX1_mirrored 8 = .ok (.ireturn, 1) := by decide +kernel
theorem dX1_mirrored_9 : decode cX1_mirrored 9 = .ok (.iload_n 0, 1) := by decide +kernel
theorem dX1_mirrored_10 : decode cX1_mirrored 10 = .ok (.bipush 62, 2) := by decide +kernel
theorem dX1_mirrored_12 : decode cX1_mirrored 12 = .ok (.if_icmp .ne 8, 3) := by decide +kernel
theorem dX1_mirrored_15 : decode cX1_mirrored 15 = .ok (.bipush 60, 2) := by decide +kernel
theorem dX1_mirrored_17 : decode cX1_mirrored 17 = .ok (.goto 4, 3) := by decide +kernel
theorem dX1_mirrored_20 : decode cX1_mirrored 20 = .ok (.iload_n 0, 1) := by decide +kernel
theorem dX1_mirrored_21 : decode cX1_mirrored 21 = .ok (.ireturn, 1) := by decide +kernel
theorem dX1_guardHolds_0 : decode cX1_guardHolds 0 = .ok (.aload_n 0, 1) := by decide +kernel
theorem dX1_guardHolds_1 : decode cX1_guardHolds 1 = .ok (.getfield 52, 3) := by decide +kernel
theorem dX1_guardHolds_4 : decode cX1_guardHolds 4 = .ok (.bipush 60, 2) := by decide +kernel
theorem dX1_guardHolds_6 : decode cX1_guardHolds 6 = .ok (.if_icmp .ne 14, 3) := by decide +kernel
theorem dX1_guardHolds_9 : decode cX1_guardHolds 9 = .ok (.iload_n 1, 1) := by decide +kernel
theorem dX1_guardHolds_10 : decode cX1_guardHolds 10 = .ok (.iload_n 2, 1) := by decide +kernel
theorem dX1_guardHolds_11 : decode cX1_guardHolds 11 = .ok (.if_icmp .ge 7, 3) := by decide +kernel
theorem dX1_guardHolds_14 : decode cX1_guardHolds 14 = .ok (.iconst 1, 1) := by decide +kernel
theorem dX1_guardHolds_15 : decode cX1_guardHolds 15 = .ok (.goto 4, 3) := by decide +kernel
theorem dX1_guardHolds_18 : decode cX1_guardHolds 18 = .ok (.iconst 0, 1) := by decide +kernel
theorem dX1_guardHolds_19 : decode cX1_guardHolds 19 = .ok (.ireturn, 1) := by decide +kernel
theorem dX1_guardHolds_20 : decode cX1_guardHolds 20 = .ok (.aload_n 0, 1) := by decide +kernel
theorem dX1_guardHolds_21 : decode cX1_guardHolds 21 = .ok (.getfield 52, 3) := by decide +kernel
theorem dX1_guardHolds_24 : decode cX1_guardHolds 24 = .ok (.bipush 62, 2) := by decide +kernel
theorem dX1_guardHolds_26 : decode cX1_guardHolds 26 = .ok (.if_icmp .ne 16, 3) := by decide +kernel
theorem dX1_guardHolds_29 : decode cX1_guardHolds 29 = .ok (.iload_n 1, 1) := by decide +kernel
theorem dX1_guardHolds_30 : decode cX1_guardHolds 30 = .ok (.iload_n 2, 1) := by decide +kernel
theorem dX1_guardHolds_31 : decode cX1_guardHolds 31 = .ok (.if_icmp .le 7, 3) := by decide +kernel
theorem dX1_guardHolds_34 : decode cX1_guardHolds 34 = .ok (.iconst 1, 1) := by decide +kernel
theorem dX1_guardHolds_35 : decode cX1_guardHolds 35 = .ok (.goto 17, 3) := by decide +kernel
theorem dX1_guardHolds_38 : decode cX1_guardHolds 38 = .ok (.iconst 0, 1) := by decide +kernel
theorem dX1_guardHolds_39 : decode cX1_guardHolds 39 = .ok (.goto 13, 3) := by decide +kernel
theorem dX1_guardHolds_42 : decode cX1_guardHolds 42 = .ok (.iload_n 1, 1) := by decide +kernel
theorem dX1_guardHolds_43 : decode cX1_guardHolds 43 = .ok (.iload_n 2, 1) := by decide +kernel
theorem dX1_guardHolds_44 : decode cX1_guardHolds 44 = .ok (.if_icmp .ne 7, 3) := by decide +kernel
theorem dX1_guardHolds_47 : decode cX1_guardHolds 47 = .ok (.iconst 1, 1) := by decide +kernel
theorem dX1_guardHolds_48 : decode cX1_guardHolds 48 = .ok (.goto 4, 3) := by decide +kernel
theorem dX1_guardHolds_51 : decode cX1_guardHolds 51 = .ok (.iconst 0, 1) := by decide +kernel
theorem dX1_guardHolds_52 : decode cX1_guardHolds 52 = .ok (.ireturn, 1) := by decide +kernel
theorem dX1_addOutput_0 : decode cX1_addOutput 0 = .ok (.aload_n 0, 1) := by decide +kernel
theorem dX1_addOutput_1 : decode cX1_addOutput 1 = .ok (.getfield 35, 3) := by decide +kernel
theorem dX1_addOutput_4 : decode cX1_addOutput 4 = .ok (.iconst 4, 1) := by decide +kernel
theorem dX1_addOutput_5 : decode cX1_addOutput 5 = .ok (.if_icmp .lt 4, 3) := by decide +kernel
theorem dX1_addOutput_8 : decode cX1_addOutput 8 = .ok (.return_, 1) := by decide +kernel
theorem dX1_addOutput_9 : decode cX1_addOutput 9 = .ok (.aload_n 0, 1) := by decide +kernel
theorem dX1_addOutput_10 : decode cX1_addOutput 10 = .ok (.getfield 9, 3) := by decide +kernel
theorem dX1_addOutput_13 : decode cX1_addOutput 13 = .ok (.aload_n 0, 1) := by decide +kernel
theorem dX1_addOutput_14 : decode cX1_addOutput 14 = .ok (.getfield 35, 3) := by decide +kernel
theorem dX1_addOutput_17 : decode cX1_addOutput 17 = .ok (.iload_n 1, 1) := by decide +kernel
theorem dX1_addOutput_18 : decode cX1_addOutput 18 = .ok (.iastore, 1) := by decide +kernel
theorem dX1_addOutput_19 : decode cX1_addOutput 19 = .ok (.aload_n 0, 1) := by decide +kernel
theorem dX1_addOutput_20 : decode cX1_addOutput 20 = .ok (.getfield 15, 3) := by decide +kernel
theorem dX1_addOutput_23 : decode cX1_addOutput 23 = .ok (.aload_n 0, 1) := by decide +kernel
theorem dX1_addOutput_24 : decode cX1_addOutput 24 = .ok (.getfield 35, 3) := by decide +kernel
theorem dX1_addOutput_27 : decode cX1_addOutput 27 = .ok (.iload_n 2, 1) := by decide +kernel
theorem dX1_addOutput_28 : decode cX1_addOutput 28 = .ok (.bastore, 1) := by decide +kernel
theorem dX1_addOutput_29 : decode cX1_addOutput 29 = .ok (.aload_n 0, 1) := by decide +kernel
theorem dX1_addOutput_30 : decode cX1_addOutput 30 = .ok (.getfield 19, 3) := by decide +kernel
theorem dX1_addOutput_33 : decode cX1_addOutput 33 = .ok (.aload_n 0, 1) := by decide +kernel
theorem dX1_addOutput_34 : decode cX1_addOutput 34 = .ok (.getfield 35, 3) := by decide +kernel
theorem dX1_addOutput_37 : decode cX1_addOutput 37 = .ok (.iconst 0, 1) := by decide +kernel
theorem dX1_addOutput_38 : decode cX1_addOutput 38 = .ok (.iastore, 1) := by decide +kernel
theorem dX1_addOutput_39 : decode cX1_addOutput 39 = .ok (.iload_n 2, 1) := by decide +kernel
theorem dX1_addOutput_40 : decode cX1_addOutput 40 = .ok (.ifCond .eq 15, 3) := by decide +kernel
theorem dX1_addOutput_43 : decode cX1_addOutput 43 = .ok (.aload_n 0, 1) := by decide +kernel
theorem dX1_addOutput_44 : decode cX1_addOutput 44 = .ok (.dup, 1) := by decide +kernel
theorem dX1_addOutput_45 : decode cX1_addOutput 45 = .ok (.getfield 32, 3) := by decide +kernel
theorem dX1_addOutput_48 : decode cX1_addOutput 48 = .ok (.iconst 1, 1) := by decide +kernel
theorem dX1_addOutput_49 : decode cX1_addOutput 49 = .ok (.iload_n 1, 1) := by decide +kernel
theorem dX1_addOutput_50 : decode cX1_addOutput 50 = .ok (.ishl, 1) := by decide +kernel
theorem dX1_addOutput_51 : decode cX1_addOutput 51 = .ok (.ior, 1) := by decide +kernel
theorem dX1_addOutput_52 : decode cX1_addOutput 52 = .ok (.putfield 32, 3) := by decide +kernel
theorem dX1_addOutput_55 : decode cX1_addOutput 55 = .ok (.aload_n 0, 1) := by decide +kernel
theorem dX1_addOutput_56 : decode cX1_addOutput 56 = .ok (.dup, 1) := by decide +kernel
theorem dX1_addOutput_57 : decode cX1_addOutput 57 = .ok (.getfield 35, 3) := by decide +kernel
theorem dX1_addOutput_60 : decode cX1_addOutput 60 = .ok (.iconst 1, 1) := by decide +kernel
theorem dX1_addOutput_61 : decode cX1_addOutput 61 = .ok (.iadd, 1) := by decide +kernel
theorem dX1_addOutput_62 : decode cX1_addOutput 62 = .ok (.putfield 35, 3) := by decide +kernel
theorem dX1_addOutput_65 : decode cX1_addOutput 65 = .ok (.return_, 1) := by decide +kernel
theorem dX1_addOperand_0 : decode cX1_addOperand 0 = .ok (.aload_n 0, 1) := by decide +kernel
theorem dX1_addOperand_1 : decode cX1_addOperand 1 = .ok (.getfield 35, 3) := by decide +kernel
theorem dX1_addOperand_4 : decode cX1_addOperand 4 = .ok (.iconst 1, 1) := by decide +kernel
theorem dX1_addOperand_5 : decode cX1_addOperand 5 = .ok (.isub, 1) := by decide +kernel
theorem dX1_addOperand_6 : decode cX1_addOperand 6 = .ok (.istore_n 3, 1) := by decide +kernel
theorem dX1_addOperand_7 : decode cX1_addOperand 7 = .ok (.iload_n 3, 1) := by decide +kernel
theorem dX1_addOperand_8 : decode cX1_addOperand 8 = .ok (.ifCond .lt 11, 3) := by decide +kernel
theorem dX1_addOperand_11 : decode cX1_addOperand 11 = .ok (.aload_n 0, 1) := by decide +kernel
theorem dX1_addOperand_12 : decode cX1_addOperand 12 = .ok (.invokevirtual 55, 3) := by decide +kernel
theorem dX1_addOperand_15 : decode cX1_addOperand 15 = .ok (.iconst 3, 1) := by decide +kernel
theorem dX1_addOperand_16 : decode cX1_addOperand 16 = .ok (.if_icmp .lt 4, 3) := by decide +kernel
theorem dX1_addOperand_19 : decode cX1_addOperand 19 = .ok (.return_, 1) := by decide +kernel
theorem dX1_addOperand_20 : decode cX1_addOperand 20 = .ok (.iload_n 3, 1) := by decide +kernel
theorem dX1_addOperand_21 : decode cX1_addOperand 21 = .ok (.iconst 3, 1) := by decide +kernel
theorem dX1_addOperand_22 : decode cX1_addOperand 22 = .ok (.imul, 1) := by decide +kernel
theorem dX1_addOperand_23 : decode cX1_addOperand 23 = .ok (.aload_n 0, 1) := by decide +kernel
theorem dX1_addOperand_24 : decode cX1_addOperand 24 = .ok (.getfield 19, 3) := by decide +kernel
theorem dX1_addOperand_27 : decode cX1_addOperand 27 = .ok (.iload_n 3, 1) := by decide +kernel
theorem dX1_addOperand_28 : decode cX1_addOperand 28 = .ok (.iaload, 1) := by decide +kernel
theorem dX1_addOperand_29 : decode cX1_addOperand 29 = .ok (.iadd, 1) := by decide +kernel
theorem dX1_addOperand_30 : decode cX1_addOperand 30 = .ok (.istore 4, 2) := by decide +kernel
theorem dX1_addOperand_32 : decode cX1_addOperand 32 = .ok (.aload_n 0, 1) := by decide +kernel
theorem dX1_addOperand_33 : decode cX1_addOperand 33 = .ok (.getfield 22, 3) := by decide +kernel
theorem dX1_addOperand_36 : decode cX1_addOperand 36 = .ok (.iload 4, 2) := by decide +kernel
theorem dX1_addOperand_38 : decode cX1_addOperand 38 = .ok (.iload_n 1, 1) := by decide +kernel
theorem dX1_addOperand_39 : decode cX1_addOperand 39 = .ok (.iastore, 1) := by decide +kernel
theorem dX1_addOperand_40 : decode cX1_addOperand 40 = .ok (.aload_n 0, 1) := by decide +kernel
theorem dX1_addOperand_41 : decode cX1_addOperand 41 = .ok (.getfield 25, 3) := by decide +kernel
theorem dX1_addOperand_44 : decode cX1_addOperand 44 = .ok (.iload 4, 2) := by decide +kernel
theorem dX1_addOperand_46 : decode cX1_addOperand 46 = .ok (.iload_n 2, 1) := by decide +kernel
theorem dX1_addOperand_47 : decode cX1_addOperand 47 = .ok (.iastore, 1) := by decide +kernel
theorem dX1_addOperand_48 : decode cX1_addOperand 48 = .ok (.aload_n 0, 1) := by decide +kernel
theorem dX1_addOperand_49 : decode cX1_addOperand 49 = .ok (.getfield 19, 3) := by decide +kernel
theorem dX1_addOperand_52 : decode cX1_addOperand 52 = .ok (.iload_n 3, 1) := by decide +kernel
theorem dX1_addOperand_53 : decode cX1_addOperand 53 = .ok (.dup2, 1) := by decide +kernel
theorem dX1_addOperand_54 : decode cX1_addOperand 54 = .ok (.iaload, 1) := by decide +kernel
theorem dX1_addOperand_55 : decode cX1_addOperand 55 = .ok (.iconst 1, 1) := by decide +kernel
theorem dX1_addOperand_56 : decode cX1_addOperand 56 = .ok (.iadd, 1) := by decide +kernel
theorem dX1_addOperand_57 : decode cX1_addOperand 57 = .ok (.iastore, 1) := by decide +kernel
theorem dX1_addOperand_58 : decode cX1_addOperand 58 = .ok (.return_, 1) := by decide +kernel
theorem dX1_lastOperandCount_0 : decode cX1_lastOperandCount 0 = .ok (.aload_n 0, 1) := by decide +kernel
theorem dX1_lastOperandCount_1 : decode cX1_lastOperandCount 1 = .ok (.getfield 35, 3) := by decide +kernel
theorem dX1_lastOperandCount_4 : decode cX1_lastOperandCount 4 = .ok (.ifCond .ne 7, 3) := by decide +kernel
theorem dX1_lastOperandCount_7 : decode cX1_lastOperandCount 7 = .ok (.iconst 0, 1) := by decide +kernel
theorem dX1_lastOperandCount_8 : decode cX1_lastOperandCount 8 = .ok (.goto 14, 3) := by decide +kernel
theorem dX1_lastOperandCount_11 : decode cX1_lastOperandCount 11 = .ok (.aload_n 0, 1) := by decide +kernel
theorem dX1_lastOperandCount_12 : decode cX1_lastOperandCount 12 = .ok (.getfield 19, 3) := by decide +kernel
theorem dX1_lastOperandCount_15 : decode cX1_lastOperandCount 15 = .ok (.aload_n 0, 1) := by decide +kernel
theorem dX1_lastOperandCount_16 : decode cX1_lastOperandCount 16 = .ok (.getfield 35, 3) := by decide +kernel
theorem dX1_lastOperandCount_19 : decode cX1_lastOperandCount 19 = .ok (.iconst 1, 1) := by decide +kernel
theorem dX1_lastOperandCount_20 : decode cX1_lastOperandCount 20 = .ok (.isub, 1) := by decide +kernel
theorem dX1_lastOperandCount_21 : decode cX1_lastOperandCount 21 = .ok (.iaload, 1) := by decide +kernel
theorem dX1_lastOperandCount_22 : decode cX1_lastOperandCount 22 = .ok (.ireturn, 1) := by decide +kernel
theorem dX1_sentTo_0 : decode cX1_sentTo 0 = .ok (.iconst 0, 1) := by decide +kernel
theorem dX1_sentTo_1 : decode cX1_sentTo 1 = .ok (.istore_n 2, 1) := by decide +kernel
theorem dX1_sentTo_2 : decode cX1_sentTo 2 = .ok (.iconst 0, 1) := by decide +kernel
theorem dX1_sentTo_3 : decode cX1_sentTo 3 = .ok (.istore_n 3, 1) := by decide +kernel
theorem dX1_sentTo_4 : decode cX1_sentTo 4 = .ok (.iload_n 3, 1) := by decide +kernel
theorem dX1_sentTo_5 : decode cX1_sentTo 5 = .ok (.aload_n 0, 1) := by decide +kernel
theorem dX1_sentTo_6 : decode cX1_sentTo 6 = .ok (.getfield 35, 3) := by decide +kernel
theorem dX1_sentTo_9 : decode cX1_sentTo 9 = .ok (.if_icmp .ge 31, 3) := by decide +kernel
theorem dX1_sentTo_12 : decode cX1_sentTo 12 = .ok (.aload_n 0, 1) := by decide +kernel
theorem dX1_sentTo_13 : decode cX1_sentTo 13 = .ok (.getfield 15, 3) := by decide +kernel
theorem dX1_sentTo_16 : decode cX1_sentTo 16 = .ok (.iload_n 3, 1) := by decide +kernel
theorem dX1_sentTo_17 : decode cX1_sentTo 17 = .ok (.baload, 1) := by decide +kernel
theorem dX1_sentTo_18 : decode cX1_sentTo 18 = .ok (.ifCond .ne 16, 3) := by decide +kernel
theorem dX1_sentTo_21 : decode cX1_sentTo 21 = .ok (.aload_n 0, 1) := by decide +kernel
theorem dX1_sentTo_22 : decode cX1_sentTo 22 = .ok (.getfield 9, 3) := by decide +kernel
theorem dX1_sentTo_25 : decode cX1_sentTo 25 = .ok (.iload_n 3, 1) := by decide +kernel
theorem dX1_sentTo_26 : decode cX1_sentTo 26 = .ok (.iaload, 1) := by decide +kernel
theorem dX1_sentTo_27 : decode cX1_sentTo 27 = .ok (.iload_n 1, 1) := by decide +kernel
theorem dX1_sentTo_28 : decode cX1_sentTo 28 = .ok (.if_icmp .ne 6, 3) := by decide +kernel
theorem dX1_sentTo_31 : decode cX1_sentTo 31 = .ok (.iinc 2 1, 3) := by decide +kernel
theorem dX1_sentTo_34 : decode cX1_sentTo 34 = .ok (.iinc 3 1, 3) := by decide +kernel
theorem dX1_sentTo_37 : decode cX1_sentTo 37 = .ok (.goto (-33), 3) := by decide +kernel
theorem dX1_sentTo_40 : decode cX1_sentTo 40 = .ok (.iload_n 2, 1) := by decide +kernel
theorem dX1_sentTo_41 : decode cX1_sentTo 41 = .ok (.ireturn, 1) := by decide +kernel
theorem dX1_outputValue_0 : decode cX1_outputValue 0 = .ok (.lconst 0, 1) := by decide +kernel
theorem dX1_outputValue_1 : decode cX1_outputValue 1 = .ok (.lstore_n 3, 1) := by decide +kernel
theorem dX1_outputValue_2 : decode cX1_outputValue 2 = .ok (.iload_n 1, 1) := by decide +kernel
theorem dX1_outputValue_3 : decode cX1_outputValue 3 = .ok (.iconst 3, 1) := by decide +kernel
theorem dX1_outputValue_4 : decode cX1_outputValue 4 = .ok (.imul, 1) := by decide +kernel
theorem dX1_outputValue_5 : decode cX1_outputValue 5 = .ok (.istore 5, 2) := by decide +kernel
theorem dX1_outputValue_7 : decode cX1_outputValue 7 = .ok (.iload 5, 2) := by decide +kernel
theorem dX1_outputValue_9 : decode cX1_outputValue 9 = .ok (.istore 6, 2) := by decide +kernel
theorem dX1_outputValue_11 : decode cX1_outputValue 11 = .ok (.iload 6, 2) := by decide +kernel
theorem dX1_outputValue_13 : decode cX1_outputValue 13 = .ok (.iload 5, 2) := by decide +kernel
theorem dX1_outputValue_15 : decode cX1_outputValue 15 = .ok (.aload_n 0, 1) := by decide +kernel
theorem dX1_outputValue_16 : decode cX1_outputValue 16 = .ok (.getfield 19, 3) := by decide +kernel
theorem dX1_outputValue_19 : decode cX1_outputValue 19 = .ok (.iload_n 1, 1) := by decide +kernel
theorem dX1_outputValue_20 : decode cX1_outputValue 20 = .ok (.iaload, 1) := by decide +kernel
theorem dX1_outputValue_21 : decode cX1_outputValue 21 = .ok (.iadd, 1) := by decide +kernel
theorem dX1_outputValue_22 : decode cX1_outputValue 22 = .ok (.if_icmp .ge 86, 3) := by decide +kernel
theorem dX1_outputValue_25 : decode cX1_outputValue 25 = .ok (.aload_n 0, 1) := by decide +kernel
theorem dX1_outputValue_26 : decode cX1_outputValue 26 = .ok (.getfield 25, 3) := by decide +kernel
theorem dX1_outputValue_29 : decode cX1_outputValue 29 = .ok (.iload 6, 2) := by decide +kernel
theorem dX1_outputValue_31 : decode cX1_outputValue 31 = .ok (.iaload, 1) := by decide +kernel
theorem dX1_outputValue_32 : decode cX1_outputValue 32 = .ok (.istore 7, 2) := by decide +kernel
theorem dX1_outputValue_34 : decode cX1_outputValue 34 = .ok (.iload 7, 2) := by decide +kernel
theorem dX1_outputValue_36 : decode cX1_outputValue 36 = .ok (.invokestatic 59, 3) := by decide +kernel
theorem dX1_outputValue_39 : decode cX1_outputValue 39 = .ok (.ifCond .eq 10, 3) := by decide +kernel
theorem dX1_outputValue_42 : decode cX1_outputValue 42 = .ok (.aload_n 2, 1) := by decide +kernel
theorem dX1_outputValue_43 : decode cX1_outputValue 43 = .ok (.iload 7, 2) := by decide +kernel
theorem dX1_outputValue_45 : decode cX1_outputValue 45 = .ok (.iaload, 1) := by decide +kernel
theorem dX1_outputValue_46 : decode cX1_outputValue 46 = .ok (.goto 8, 3) := by decide +kernel
theorem dX1_outputValue_49 : decode cX1_outputValue 49 = .ok (.iload 7, 2) := by decide +kernel
theorem dX1_outputValue_51 : decode cX1_outputValue 51 = .ok (.bipush 8, 2) := by decide +kernel
theorem dX1_outputValue_53 : decode cX1_outputValue 53 = .ok (.isub, 1) := by decide +kernel
theorem dX1_outputValue_54 : decode cX1_outputValue 54 = .ok (.istore 8, 2) := by decide +kernel
theorem dX1_outputValue_56 : decode cX1_outputValue 56 = .ok (.aload_n 0, 1) := by decide +kernel
theorem dX1_outputValue_57 : decode cX1_outputValue 57 = .ok (.getfield 22, 3) := by decide +kernel
theorem dX1_outputValue_60 : decode cX1_outputValue 60 = .ok (.iload 6, 2) := by decide +kernel
theorem dX1_outputValue_62 : decode cX1_outputValue 62 = .ok (.iaload, 1) := by decide +kernel
theorem dX1_outputValue_63 : decode cX1_outputValue 63 = .ok (.bipush 42, 2) := by decide +kernel
theorem dX1_outputValue_65 : decode cX1_outputValue 65 = .ok (.if_icmp .ne 12, 3) := by decide +kernel
theorem dX1_outputValue_68 : decode cX1_outputValue 68 = .ok (.lload_n 3, 1) := by decide +kernel
theorem dX1_outputValue_69 : decode cX1_outputValue 69 = .ok (.iload 8, 2) := by decide +kernel
theorem dX1_outputValue_71 : decode cX1_outputValue 71 = .ok (.i2l, 1) := by decide +kernel
theorem dX1_outputValue_72 : decode cX1_outputValue 72 = .ok (.lmul, 1) := by decide +kernel
theorem dX1_outputValue_73 : decode cX1_outputValue 73 = .ok (.lstore_n 3, 1) := by decide +kernel
theorem dX1_outputValue_74 : decode cX1_outputValue 74 = .ok (.goto 28, 3) := by decide +kernel
theorem dX1_outputValue_77 : decode cX1_outputValue 77 = .ok (.lload_n 3, 1) := by decide +kernel
theorem dX1_outputValue_78 : decode cX1_outputValue 78 = .ok (.aload_n 0, 1) := by decide +kernel
theorem dX1_outputValue_79 : decode cX1_outputValue 79 = .ok (.getfield 22, 3) := by decide +kernel
theorem dX1_outputValue_82 : decode cX1_outputValue 82 = .ok (.iload 6, 2) := by decide +kernel
theorem dX1_outputValue_84 : decode cX1_outputValue 84 = .ok (.iaload, 1) := by decide +kernel
theorem dX1_outputValue_85 : decode cX1_outputValue 85 = .ok (.bipush 45, 2) := by decide +kernel
theorem dX1_outputValue_87 : decode cX1_outputValue 87 = .ok (.if_icmp .ne 10, 3) := by decide +kernel
theorem dX1_outputValue_90 : decode cX1_outputValue 90 = .ok (.iload 8, 2) := by decide +kernel
theorem dX1_outputValue_92 : decode cX1_outputValue 92 = .ok (.ineg, 1) := by decide +kernel
theorem dX1_outputValue_93 : decode cX1_outputValue 93 = .ok (.i2l, 1) := by decide +kernel
theorem dX1_outputValue_94 : decode cX1_outputValue 94 = .ok (.goto 6, 3) := by decide +kernel
theorem dX1_outputValue_97 : decode cX1_outputValue 97 = .ok (.iload 8, 2) := by decide +kernel
theorem dX1_outputValue_99 : decode cX1_outputValue 99 = .ok (.i2l, 1) := by decide +kernel
theorem dX1_outputValue_100 : decode cX1_outputValue 100 = .ok (.ladd, 1) := by decide +kernel
theorem dX1_outputValue_101 : decode cX1_outputValue 101 = .ok (.lstore_n 3, 1) := by decide +kernel
theorem dX1_outputValue_102 : decode cX1_outputValue 102 = .ok (.iinc 6 1, 3) := by decide +kernel
theorem dX1_outputValue_105 : decode cX1_outputValue 105 = .ok (.goto (-94), 3) := by decide +kernel
theorem dX1_outputValue_108 : decode cX1_outputValue 108 = .ok (.ldc2_w 63, 3) := by decide +kernel
theorem dX1_outputValue_111 : decode cX1_outputValue 111 = .ok (.ldc2_w 65, 3) := by decide +kernel
theorem dX1_outputValue_114 : decode cX1_outputValue 114 = .ok (.lload_n 3, 1) := by decide +kernel
theorem dX1_outputValue_115 : decode cX1_outputValue 115 = .ok (.invokestatic 67, 3) := by decide +kernel
theorem dX1_outputValue_118 : decode cX1_outputValue 118 = .ok (.invokestatic 73, 3) := by decide +kernel
theorem dX1_outputValue_121 : decode cX1_outputValue 121 = .ok (.l2i, 1) := by decide +kernel
theorem dX1_outputValue_122 : decode cX1_outputValue 122 = .ok (.ireturn, 1) := by decide +kernel
theorem dX2_init_0 : decode cX2_init 0 = .ok (.aload_n 0, 1) := by decide +kernel
theorem dX2_init_1 : decode cX2_init 1 = .ok (.invokespecial 3, 3) := by decide +kernel
theorem dX2_init_4 : decode cX2_init 4 = .ok (.aload_n 0, 1) := by decide +kernel
theorem dX2_init_5 : decode cX2_init 5 = .ok (.new 9, 3) := by decide +kernel
theorem dX2_init_8 : decode cX2_init 8 = .ok (.dup, 1) := by decide +kernel
theorem dX2_init_9 : decode cX2_init 9 = .ok (.invokespecial 11, 3) := by decide +kernel
theorem dX2_init_12 : decode cX2_init 12 = .ok (.putfield 12, 3) := by decide +kernel
theorem dX2_init_15 : decode cX2_init 15 = .ok (.return_, 1) := by decide +kernel
theorem dX2_begin_0 : decode cX2_begin 0 = .ok (.aload_n 0, 1) := by decide +kernel
theorem dX2_begin_1 : decode cX2_begin 1 = .ok (.getfield 12, 3) := by decide +kernel
theorem dX2_begin_4 : decode cX2_begin 4 = .ok (.invokevirtual 18, 3) := by decide +kernel
theorem dX2_begin_7 : decode cX2_begin 7 = .ok (.aload_n 0, 1) := by decide +kernel
theorem dX2_begin_8 : decode cX2_begin 8 = .ok (.iconst 0, 1) := by decide +kernel
theorem dX2_begin_9 : decode cX2_begin 9 = .ok (.putfield 21, 3) := by decide +kernel
theorem dX2_begin_12 : decode cX2_begin 12 = .ok (.return_, 1) := by decide +kernel
theorem dX2_isComplete_0 : decode cX2_isComplete 0 = .ok (.aload_n 0, 1) := by decide +kernel
theorem dX2_isComplete_1 : decode cX2_isComplete 1 = .ok (.getfield 21, 3) := by decide +kernel
theorem dX2_isComplete_4 : decode cX2_isComplete 4 = .ok (.iconst 5, 1) := by decide +kernel
theorem dX2_isComplete_5 : decode cX2_isComplete 5 = .ok (.if_icmp .eq 12, 3) := by decide +kernel
theorem dX2_isComplete_8 : decode cX2_isComplete 8 = .ok (.aload_n 0, 1) := by decide +kernel
theorem dX2_isComplete_9 : decode cX2_isComplete 9 = .ok (.getfield 21, 3) := by decide +kernel
theorem dX2_isComplete_12 : decode cX2_isComplete 12 = .ok (.bipush 10, 2) := by decide +kernel
theorem dX2_isComplete_14 : decode cX2_isComplete 14 = .ok (.if_icmp .ne 7, 3) := by decide +kernel
theorem dX2_isComplete_17 : decode cX2_isComplete 17 = .ok (.iconst 1, 1) := by decide +kernel
theorem dX2_isComplete_18 : decode cX2_isComplete 18 = .ok (.goto 4, 3) := by decide +kernel
theorem dX2_isComplete_21 : decode cX2_isComplete 21 = .ok (.iconst 0, 1) := by decide +kernel
theorem dX2_isComplete_22 : decode cX2_isComplete 22 = .ok (.ireturn, 1) := by decide +kernel
theorem dX2_exchange_0 : decode cX2_exchange 0 = .ok (.aload_n 0, 1) := by decide +kernel
theorem dX2_exchange_1 : decode cX2_exchange 1 = .ok (.getfield 12, 3) := by decide +kernel
theorem dX2_exchange_4 : decode cX2_exchange 4 = .ok (.astore_n 2, 1) := by decide +kernel
theorem dX2_exchange_5 : decode cX2_exchange 5 = .ok (.aload_n 0, 1) := by decide +kernel
theorem dX2_exchange_6 : decode cX2_exchange 6 = .ok (.aload_n 1, 1) := by decide +kernel
theorem dX2_exchange_7 : decode cX2_exchange 7 = .ok (.putfield 12, 3) := by decide +kernel
theorem dX2_exchange_10 : decode cX2_exchange 10 = .ok (.aload_n 2, 1) := by decide +kernel
theorem dX2_exchange_11 : decode cX2_exchange 11 = .ok (.areturn, 1) := by decide +kernel
theorem dX2_accept_0 : decode cX2_accept 0 = .ok (.aload_n 0, 1) := by decide +kernel
theorem dX2_accept_1 : decode cX2_accept 1 = .ok (.getfield 21, 3) := by decide +kernel
theorem dX2_accept_4 : decode cX2_accept 4 = .ok (.tableswitch 131 0 9 #[56, 62, 72, 62, 78, 98, 98, 104, 110, 62], 56) := by decide +kernel
theorem dX2_accept_60 : decode cX2_accept 60 = .ok (.aload_n 0, 1) := by decide +kernel
theorem dX2_accept_61 : decode cX2_accept 61 = .ok (.iload_n 1, 1) := by decide +kernel
theorem dX2_accept_62 : decode cX2_accept 62 = .ok (.invokevirtual 25, 3) := by decide +kernel
theorem dX2_accept_65 : decode cX2_accept 65 = .ok (.ireturn, 1) := by decide +kernel
theorem dX2_accept_66 : decode cX2_accept 66 = .ok (.aload_n 0, 1) := by decide +kernel
theorem dX2_accept_67 : decode cX2_accept 67 = .ok (.aload_n 0, 1) := by decide +kernel
theorem dX2_accept_68 : decode cX2_accept 68 = .ok (.iload_n 1, 1) := by decide +kernel
theorem dX2_accept_69 : decode cX2_accept 69 = .ok (.invokevirtual 29, 3) := by decide +kernel
theorem dX2_accept_72 : decode cX2_accept 72 = .ok (.invokevirtual 33, 3) := by decide +kernel
theorem dX2_accept_75 : decode cX2_accept 75 = .ok (.ireturn, 1) := by decide +kernel
theorem dX2_accept_76 : decode cX2_accept 76 = .ok (.aload_n 0, 1) := by decide +kernel
theorem dX2_accept_77 : decode cX2_accept 77 = .ok (.iload_n 1, 1) := by decide +kernel
theorem dX2_accept_78 : decode cX2_accept 78 = .ok (.invokevirtual 36, 3) := by decide +kernel
theorem dX2_accept_81 : decode cX2_accept 81 = .ok (.ireturn, 1) := by decide +kernel
theorem dX2_accept_82 : decode cX2_accept 82 = .ok (.iload_n 1, 1) := by decide +kernel
theorem dX2_accept_83 : decode cX2_accept 83 = .ok (.bipush 58, 2) := by decide +kernel
theorem dX2_accept_85 : decode cX2_accept 85 = .ok (.if_icmp .ne 15, 3) := by decide +kernel
theorem dX2_accept_88 : decode cX2_accept 88 = .ok (.aload_n 0, 1) := by decide +kernel
theorem dX2_accept_89 : decode cX2_accept 89 = .ok (.iconst 5, 1) := by decide +kernel
theorem dX2_accept_90 : decode cX2_accept 90 = .ok (.invokevirtual 39, 3) := by decide +kernel
theorem dX2_accept_93 : decode cX2_accept 93 = .ok (.ifCond .eq 7, 3) := by decide +kernel
theorem dX2_accept_96 : decode cX2_accept 96 = .ok (.iconst 1, 1) := by decide +kernel
theorem dX2_accept_97 : decode cX2_accept 97 = .ok (.goto 4, 3) := by decide +kernel
theorem dX2_accept_100 : decode cX2_accept 100 = .ok (.iconst 0, 1) := by decide +kernel
theorem dX2_accept_101 : decode cX2_accept 101 = .ok (.ireturn, 1) := by decide +kernel
theorem dX2_accept_102 : decode cX2_accept 102 = .ok (.aload_n 0, 1) := by decide +kernel
theorem dX2_accept_103 : decode cX2_accept 103 = .ok (.iload_n 1, 1) := by decide +kernel
theorem dX2_accept_104 : decode cX2_accept 104 = .ok (.invokevirtual 42, 3) := by decide +kernel
theorem dX2_accept_107 : decode cX2_accept 107 = .ok (.ireturn, 1) := by decide +kernel
theorem dX2_accept_108 : decode cX2_accept 108 = .ok (.aload_n 0, 1) := by decide +kernel
theorem dX2_accept_109 : decode cX2_accept 109 = .ok (.iload_n 1, 1) := by decide +kernel
theorem dX2_accept_110 : decode cX2_accept 110 = .ok (.invokevirtual 45, 3) := by decide +kernel
theorem dX2_accept_113 : decode cX2_accept 113 = .ok (.ireturn, 1) := by decide +kernel
theorem dX2_accept_114 : decode cX2_accept 114 = .ok (.iload_n 1, 1) := by decide +kernel
theorem dX2_accept_115 : decode cX2_accept 115 = .ok (.bipush 61, 2) := by decide +kernel
theorem dX2_accept_117 : decode cX2_accept 117 = .ok (.if_icmp .ne 16, 3) := by decide +kernel
theorem dX2_accept_120 : decode cX2_accept 120 = .ok (.aload_n 0, 1) := by decide +kernel
theorem dX2_accept_121 : decode cX2_accept 121 = .ok (.bipush 43, 2) := by decide +kernel
theorem dX2_accept_123 : decode cX2_accept 123 = .ok (.invokevirtual 48, 3) := by decide +kernel
theorem dX2_accept_126 : decode cX2_accept 126 = .ok (.ifCond .eq 7, 3) := by decide +kernel
theorem dX2_accept_129 : decode cX2_accept 129 = .ok (.iconst 1, 1) := by decide +kernel
theorem dX2_accept_130 : decode cX2_accept 130 = .ok (.goto 4, 3) := by decide +kernel
theorem dX2_accept_133 : decode cX2_accept 133 = .ok (.iconst 0, 1) := by decide +kernel
theorem dX2_accept_134 : decode cX2_accept 134 = .ok (.ireturn, 1) := by decide +kernel
theorem dX2_accept_135 : decode cX2_accept 135 = .ok (.aload_n 0, 1) := by decide +kernel
theorem dX2_accept_136 : decode cX2_accept 136 = .ok (.iload_n 1, 1) := by decide +kernel
theorem dX2_accept_137 : decode cX2_accept 137 = .ok (.invokevirtual 51, 3) := by decide +kernel
theorem dX2_accept_140 : decode cX2_accept 140 = .ok (.ireturn, 1) := by decide +kernel
theorem dX2_goTo_0 : decode cX2_goTo 0 = .ok (.aload_n 0, 1) := by decide +kernel
theorem dX2_goTo_1 : decode cX2_goTo 1 = .ok (.iload_n 1, 1) := by decide +kernel
theorem dX2_goTo_2 : decode cX2_goTo 2 = .ok (.putfield 21, 3) := by decide +kernel
theorem dX2_goTo_5 : decode cX2_goTo 5 = .ok (.iconst 1, 1) := by decide +kernel
theorem dX2_goTo_6 : decode cX2_goTo 6 = .ok (.ireturn, 1) := by decide +kernel
theorem dX2_goToOperand_0 : decode cX2_goToOperand 0 = .ok (.aload_n 0, 1) := by decide +kernel
theorem dX2_goToOperand_1 : decode cX2_goToOperand 1 = .ok (.iload_n 1, 1) := by decide +kernel
theorem dX2_goToOperand_2 : decode cX2_goToOperand 2 = .ok (.putfield 54, 3) := by decide +kernel
theorem dX2_goToOperand_5 : decode cX2_goToOperand 5 = .ok (.aload_n 0, 1) := by decide +kernel
theorem dX2_goToOperand_6 : decode cX2_goToOperand 6 = .ok (.bipush 9, 2) := by decide +kernel
theorem dX2_goToOperand_8 : decode cX2_goToOperand 8 = .ok (.invokevirtual 39, 3) := by decide +kernel
theorem dX2_goToOperand_11 : decode cX2_goToOperand 11 = .ok (.ireturn, 1) := by decide +kernel
theorem dX2_acceptInPattern_0 : decode cX2_acceptInPattern 0 = .ok (.iload_n 1, 1) := by decide +kernel
theorem dX2_acceptInPattern_1 : decode cX2_acceptInPattern 1 = .ok (.invokestatic 57, 3) := by decide +kernel
theorem dX2_acceptInPattern_4 : decode cX2_acceptInPattern 4 = .ok (.ifCond .eq 46, 3) := by decide +kernel
theorem dX2_acceptInPattern_7 : decode cX2_acceptInPattern 7 = .ok (.iload_n 1, 1) := by decide +kernel
theorem dX2_acceptInPattern_8 : decode cX2_acceptInPattern 8 = .ok (.bipush 97, 2) := by decide +kernel
theorem dX2_acceptInPattern_10 : decode cX2_acceptInPattern 10 = .ok (.isub, 1) := by decide +kernel
theorem dX2_acceptInPattern_11 : decode cX2_acceptInPattern 11 = .ok (.istore_n 2, 1) := by decide +kernel
theorem dX2_acceptInPattern_12 : decode cX2_acceptInPattern 12 = .ok (.aload_n 0, 1) := by decide +kernel
theorem dX2_acceptInPattern_13 : decode cX2_acceptInPattern 13 = .ok (.getfield 12, 3) := by decide +kernel
theorem dX2_acceptInPattern_16 : decode cX2_acceptInPattern 16 = .ok (.getfield 60, 3) := by decide +kernel
theorem dX2_acceptInPattern_19 : decode cX2_acceptInPattern 19 = .ok (.iload_n 2, 1) := by decide +kernel
theorem dX2_acceptInPattern_20 : decode cX2_acceptInPattern 20 = .ok (.ishr, 1) := by decide +kernel
theorem dX2_acceptInPattern_21 : decode cX2_acceptInPattern 21 = .ok (.ifCond .ne 17, 3) := by decide +kernel
theorem dX2_acceptInPattern_24 : decode cX2_acceptInPattern 24 = .ok (.aload_n 0, 1) := by decide +kernel
theorem dX2_acceptInPattern_25 : decode cX2_acceptInPattern 25 = .ok (.getfield 12, 3) := by decide +kernel
theorem dX2_acceptInPattern_28 : decode cX2_acceptInPattern 28 = .ok (.getfield 60, 3) := by decide +kernel
theorem dX2_acceptInPattern_31 : decode cX2_acceptInPattern 31 = .ok (.invokestatic 63, 3) := by decide +kernel
theorem dX2_acceptInPattern_34 : decode cX2_acceptInPattern 34 = .ok (.iconst 4, 1) := by decide +kernel
theorem dX2_acceptInPattern_35 : decode cX2_acceptInPattern 35 = .ok (.if_icmp .lt 5, 3) := by decide +kernel
theorem dX2_acceptInPattern_38 : decode cX2_acceptInPattern 38 = .ok (.iconst 0, 1) := by decide +kernel
theorem dX2_acceptInPattern_39 : decode cX2_acceptInPattern 39 = .ok (.ireturn, 1) := by decide +kernel
theorem dX2_acceptInPattern_40 : decode cX2_acceptInPattern 40 = .ok (.aload_n 0, 1) := by decide +kernel
theorem dX2_acceptInPattern_41 : decode cX2_acceptInPattern 41 = .ok (.getfield 12, 3) := by decide +kernel
theorem dX2_acceptInPattern_44 : decode cX2_acceptInPattern 44 = .ok (.iload_n 2, 1) := by decide +kernel
theorem dX2_acceptInPattern_45 : decode cX2_acceptInPattern 45 = .ok (.invokevirtual 68, 3) := by decide +kernel
theorem dX2_acceptInPattern_48 : decode cX2_acceptInPattern 48 = .ok (.iconst 1, 1) := by decide +kernel
theorem dX2_acceptInPattern_49 : decode cX2_acceptInPattern 49 = .ok (.ireturn, 1) := by decide +kernel
theorem dX2_acceptInPattern_50 : decode cX2_acceptInPattern 50 = .ok (.aload_n 0, 1) := by decide +kernel
theorem dX2_acceptInPattern_51 : decode cX2_acceptInPattern 51 = .ok (.getfield 12, 3) := by decide +kernel
theorem dX2_acceptInPattern_54 : decode cX2_acceptInPattern 54 = .ok (.getfield 60, 3) := by decide +kernel
theorem dX2_acceptInPattern_57 : decode cX2_acceptInPattern 57 = .ok (.ifCond .ne 5, 3) := by decide +kernel
theorem dX2_acceptInPattern_60 : decode cX2_acceptInPattern 60 = .ok (.iconst 0, 1) := by decide +kernel
theorem dX2_acceptInPattern_61 : decode cX2_acceptInPattern 61 = .ok (.ireturn, 1) := by decide +kernel
theorem dX2_acceptInPattern_62 : decode cX2_acceptInPattern 62 = .ok (.iload_n 1, 1) := by decide +kernel
theorem dX2_acceptInPattern_63 : decode cX2_acceptInPattern 63 = .ok (.bipush 63, 2) := by decide +kernel
theorem dX2_acceptInPattern_65 : decode cX2_acceptInPattern 65 = .ok (.if_icmp .ne 9, 3) := by decide +kernel
theorem dX2_acceptInPattern_68 : decode cX2_acceptInPattern 68 = .ok (.aload_n 0, 1) := by decide +kernel
theorem dX2_acceptInPattern_69 : decode cX2_acceptInPattern 69 = .ok (.iconst 1, 1) := by decide +kernel
theorem dX2_acceptInPattern_70 : decode cX2_acceptInPattern 70 = .ok (.invokevirtual 39, 3) := by decide +kernel
theorem dX2_acceptInPattern_73 : decode cX2_acceptInPattern 73 = .ok (.ireturn, 1) := by decide +kernel
theorem dX2_acceptInPattern_74 : decode cX2_acceptInPattern 74 = .ok (.iload_n 1, 1) := by decide +kernel
theorem dX2_acceptInPattern_75 : decode cX2_acceptInPattern 75 = .ok (.bipush 58, 2) := by decide +kernel
theorem dX2_acceptInPattern_77 : decode cX2_acceptInPattern 77 = .ok (.if_icmp .ne 15, 3) := by decide +kernel
theorem dX2_acceptInPattern_80 : decode cX2_acceptInPattern 80 = .ok (.aload_n 0, 1) := by decide +kernel
theorem dX2_acceptInPattern_81 : decode cX2_acceptInPattern 81 = .ok (.iconst 5, 1) := by decide +kernel
theorem dX2_acceptInPattern_82 : decode cX2_acceptInPattern 82 = .ok (.invokevirtual 39, 3) := by decide +kernel
theorem dX2_acceptInPattern_85 : decode cX2_acceptInPattern 85 = .ok (.ifCond .eq 7, 3) := by decide +kernel
theorem dX2_acceptInPattern_88 : decode cX2_acceptInPattern 88 = .ok (.iconst 1, 1) := by decide +kernel
theorem dX2_acceptInPattern_89 : decode cX2_acceptInPattern 89 = .ok (.goto 4, 3) := by decide +kernel
theorem dX2_acceptInPattern_92 : decode cX2_acceptInPattern 92 = .ok (.iconst 0, 1) := by decide +kernel
theorem dX2_acceptInPattern_93 : decode cX2_acceptInPattern 93 = .ok (.ireturn, 1) := by decide +kernel
theorem dX2_acceptGuardSign_0 : decode cX2_acceptGuardSign 0 = .ok (.iload_n 1, 1) := by decide +kernel
theorem dX2_acceptGuardSign_1 : decode cX2_acceptGuardSign 1 = .ok (.bipush 60, 2) := by decide +kernel
theorem dX2_acceptGuardSign_3 : decode cX2_acceptGuardSign 3 = .ok (.if_icmp .eq 17, 3) := by decide +kernel
theorem dX2_acceptGuardSign_6 : decode cX2_acceptGuardSign 6 = .ok (.iload_n 1, 1) := by decide +kernel
theorem dX2_acceptGuardSign_7 : decode cX2_acceptGuardSign 7 = .ok (.bipush 61, 2) := by decide +kernel
theorem dX2_acceptGuardSign_9 : decode cX2_acceptGuardSign 9 = .ok (.if_icmp .eq 11, 3) := by decide +kernel
theorem dX2_acceptGuardSign_12 : decode cX2_acceptGuardSign 12 = .ok (.iload_n 1, 1) := by decide +kernel
theorem dX2_acceptGuardSign_13 : decode cX2_acceptGuardSign 13 = .ok (.bipush 62, 2) := by decide +kernel
theorem dX2_acceptGuardSign_15 : decode cX2_acceptGuardSign 15 = .ok (.if_icmp .eq 5, 3) := by decide +kernel
theorem dX2_acceptGuardSign_18 : decode cX2_acceptGuardSign 18 = .ok (.iconst 0, 1) := by decide +kernel
theorem dX2_acceptGuardSign_19 : decode cX2_acceptGuardSign 19 = .ok (.ireturn, 1) := by decide +kernel
theorem dX2_acceptGuardSign_20 : decode cX2_acceptGuardSign 20 = .ok (.aload_n 0, 1) := by decide +kernel
theorem dX2_acceptGuardSign_21 : decode cX2_acceptGuardSign 21 = .ok (.iload_n 1, 1) := by decide +kernel
theorem dX2_acceptGuardSign_22 : decode cX2_acceptGuardSign 22 = .ok (.putfield 54, 3) := by decide +kernel
theorem dX2_acceptGuardSign_25 : decode cX2_acceptGuardSign 25 = .ok (.aload_n 0, 1) := by decide +kernel
theorem dX2_acceptGuardSign_26 : decode cX2_acceptGuardSign 26 = .ok (.iconst 3, 1) := by decide +kernel
theorem dX2_acceptGuardSign_27 : decode cX2_acceptGuardSign 27 = .ok (.invokevirtual 39, 3) := by decide +kernel
theorem dX2_acceptGuardSign_30 : decode cX2_acceptGuardSign 30 = .ok (.ireturn, 1) := by decide +kernel
theorem dX2_acceptOperand_0 : decode cX2_acceptOperand 0 = .ok (.iload_n 1, 1) := by decide +kernel
theorem dX2_acceptOperand_1 : decode cX2_acceptOperand 1 = .ok (.iconst (-1), 1) := by decide +kernel
theorem dX2_acceptOperand_2 : decode cX2_acceptOperand 2 = .ok (.if_icmp .ne 5, 3) := by decide +kernel
theorem dX2_acceptOperand_5 : decode cX2_acceptOperand 5 = .ok (.iconst 0, 1) := by decide +kernel
theorem dX2_acceptOperand_6 : decode cX2_acceptOperand 6 = .ok (.ireturn, 1) := by decide +kernel
theorem dX2_acceptOperand_7 : decode cX2_acceptOperand 7 = .ok (.aload_n 0, 1) := by decide +kernel
theorem dX2_acceptOperand_8 : decode cX2_acceptOperand 8 = .ok (.getfield 21, 3) := by decide +kernel
theorem dX2_acceptOperand_11 : decode cX2_acceptOperand 11 = .ok (.iconst 1, 1) := by decide +kernel
theorem dX2_acceptOperand_12 : decode cX2_acceptOperand 12 = .ok (.if_icmp .ne 14, 3) := by decide +kernel
theorem dX2_acceptOperand_15 : decode cX2_acceptOperand 15 = .ok (.aload_n 0, 1) := by decide +kernel
theorem dX2_acceptOperand_16 : decode cX2_acceptOperand 16 = .ok (.iload_n 1, 1) := by decide +kernel
theorem dX2_acceptOperand_17 : decode cX2_acceptOperand 17 = .ok (.putfield 72, 3) := by decide +kernel
theorem dX2_acceptOperand_20 : decode cX2_acceptOperand 20 = .ok (.aload_n 0, 1) := by decide +kernel
theorem dX2_acceptOperand_21 : decode cX2_acceptOperand 21 = .ok (.iconst 2, 1) := by decide +kernel
theorem dX2_acceptOperand_22 : decode cX2_acceptOperand 22 = .ok (.invokevirtual 39, 3) := by decide +kernel
theorem dX2_acceptOperand_25 : decode cX2_acceptOperand 25 = .ok (.ireturn, 1) := by decide +kernel
theorem dX2_acceptOperand_26 : decode cX2_acceptOperand 26 = .ok (.aload_n 0, 1) := by decide +kernel
theorem dX2_acceptOperand_27 : decode cX2_acceptOperand 27 = .ok (.getfield 21, 3) := by decide +kernel
theorem dX2_acceptOperand_30 : decode cX2_acceptOperand 30 = .ok (.iconst 3, 1) := by decide +kernel
theorem dX2_acceptOperand_31 : decode cX2_acceptOperand 31 = .ok (.if_icmp .ne 25, 3) := by decide +kernel
theorem dX2_acceptOperand_34 : decode cX2_acceptOperand 34 = .ok (.aload_n 0, 1) := by decide +kernel
theorem dX2_acceptOperand_35 : decode cX2_acceptOperand 35 = .ok (.getfield 12, 3) := by decide +kernel
theorem dX2_acceptOperand_38 : decode cX2_acceptOperand 38 = .ok (.aload_n 0, 1) := by decide +kernel
theorem dX2_acceptOperand_39 : decode cX2_acceptOperand 39 = .ok (.getfield 72, 3) := by decide +kernel
theorem dX2_acceptOperand_42 : decode cX2_acceptOperand 42 = .ok (.aload_n 0, 1) := by decide +kernel
theorem dX2_acceptOperand_43 : decode cX2_acceptOperand 43 = .ok (.getfield 54, 3) := by decide +kernel
theorem dX2_acceptOperand_46 : decode cX2_acceptOperand 46 = .ok (.iload_n 1, 1) := by decide +kernel
theorem dX2_acceptOperand_47 : decode cX2_acceptOperand 47 = .ok (.invokevirtual 75, 3) := by decide +kernel
theorem dX2_acceptOperand_50 : decode cX2_acceptOperand 50 = .ok (.aload_n 0, 1) := by decide +kernel
theorem dX2_acceptOperand_51 : decode cX2_acceptOperand 51 = .ok (.iconst 4, 1) := by decide +kernel
theorem dX2_acceptOperand_52 : decode cX2_acceptOperand 52 = .ok (.invokevirtual 39, 3) := by decide +kernel
theorem dX2_acceptOperand_55 : decode cX2_acceptOperand 55 = .ok (.ireturn, 1) := by decide +kernel
theorem dX2_acceptOperand_56 : decode cX2_acceptOperand 56 = .ok (.aload_n 0, 1) := by decide +kernel
theorem dX2_acceptOperand_57 : decode cX2_acceptOperand 57 = .ok (.getfield 12, 3) := by decide +kernel
theorem dX2_acceptOperand_60 : decode cX2_acceptOperand 60 = .ok (.aload_n 0, 1) := by decide +kernel
theorem dX2_acceptOperand_61 : decode cX2_acceptOperand 61 = .ok (.getfield 54, 3) := by decide +kernel
theorem dX2_acceptOperand_64 : decode cX2_acceptOperand 64 = .ok (.iload_n 1, 1) := by decide +kernel
theorem dX2_acceptOperand_65 : decode cX2_acceptOperand 65 = .ok (.invokevirtual 79, 3) := by decide +kernel
theorem dX2_acceptOperand_68 : decode cX2_acceptOperand 68 = .ok (.aload_n 0, 1) := by decide +kernel
theorem dX2_acceptOperand_69 : decode cX2_acceptOperand 69 = .ok (.bipush 10, 2) := by decide +kernel
theorem dX2_acceptOperand_71 : decode cX2_acceptOperand 71 = .ok (.invokevirtual 39, 3) := by decide +kernel
theorem dX2_acceptOperand_74 : decode cX2_acceptOperand 74 = .ok (.ireturn, 1) := by decide +kernel
theorem dX2_acceptTarget_0 : decode cX2_acceptTarget 0 = .ok (.iload_n 1, 1) := by decide +kernel
theorem dX2_acceptTarget_1 : decode cX2_acceptTarget 1 = .ok (.bipush 33, 2) := by decide +kernel
theorem dX2_acceptTarget_3 : decode cX2_acceptTarget 3 = .ok (.if_icmp .ne 10, 3) := by decide +kernel
theorem dX2_acceptTarget_6 : decode cX2_acceptTarget 6 = .ok (.aload_n 0, 1) := by decide +kernel
theorem dX2_acceptTarget_7 : decode cX2_acceptTarget 7 = .ok (.bipush 7, 2) := by decide +kernel
theorem dX2_acceptTarget_9 : decode cX2_acceptTarget 9 = .ok (.invokevirtual 39, 3) := by decide +kernel
theorem dX2_acceptTarget_12 : decode cX2_acceptTarget 12 = .ok (.ireturn, 1) := by decide +kernel
theorem dX2_acceptTarget_13 : decode cX2_acceptTarget 13 = .ok (.iload_n 1, 1) := by decide +kernel
theorem dX2_acceptTarget_14 : decode cX2_acceptTarget 14 = .ok (.invokestatic 57, 3) := by decide +kernel
theorem dX2_acceptTarget_17 : decode cX2_acceptTarget 17 = .ok (.ifCond .ne 5, 3) := by decide +kernel
theorem dX2_acceptTarget_20 : decode cX2_acceptTarget 20 = .ok (.iconst 0, 1) := by decide +kernel
theorem dX2_acceptTarget_21 : decode cX2_acceptTarget 21 = .ok (.ireturn, 1) := by decide +kernel
theorem dX2_acceptTarget_22 : decode cX2_acceptTarget 22 = .ok (.aload_n 0, 1) := by decide +kernel
theorem dX2_acceptTarget_23 : decode cX2_acceptTarget 23 = .ok (.getfield 12, 3) := by decide +kernel
theorem dX2_acceptTarget_26 : decode cX2_acceptTarget 26 = .ok (.iload_n 1, 1) := by decide +kernel
theorem dX2_acceptTarget_27 : decode cX2_acceptTarget 27 = .ok (.bipush 97, 2) := by decide +kernel
theorem dX2_acceptTarget_29 : decode cX2_acceptTarget 29 = .ok (.isub, 1) := by decide +kernel
theorem dX2_acceptTarget_30 : decode cX2_acceptTarget 30 = .ok (.iconst 0, 1) := by decide +kernel
theorem dX2_acceptTarget_31 : decode cX2_acceptTarget 31 = .ok (.invokevirtual 83, 3) := by decide +kernel
theorem dX2_acceptTarget_34 : decode cX2_acceptTarget 34 = .ok (.aload_n 0, 1) := by decide +kernel
theorem dX2_acceptTarget_35 : decode cX2_acceptTarget 35 = .ok (.bipush 8, 2) := by decide +kernel
theorem dX2_acceptTarget_37 : decode cX2_acceptTarget 37 = .ok (.invokevirtual 39, 3) := by decide +kernel
theorem dX2_acceptTarget_40 : decode cX2_acceptTarget 40 = .ok (.ireturn, 1) := by decide +kernel
theorem dX2_acceptReplyChannel_0 : decode cX2_acceptReplyChannel 0 = .ok (.iload_n 1, 1) := by decide +kernel
theorem dX2_acceptReplyChannel_1 : decode cX2_acceptReplyChannel 1 = .ok (.bipush 97, 2) := by decide +kernel
theorem dX2_acceptReplyChannel_3 : decode cX2_acceptReplyChannel 3 = .ok (.isub, 1) := by decide +kernel
theorem dX2_acceptReplyChannel_4 : decode cX2_acceptReplyChannel 4 = .ok (.istore_n 2, 1) := by decide +kernel
theorem dX2_acceptReplyChannel_5 : decode cX2_acceptReplyChannel 5 = .ok (.iload_n 1, 1) := by decide +kernel
theorem dX2_acceptReplyChannel_6 : decode cX2_acceptReplyChannel 6 = .ok (.invokestatic 57, 3) := by decide +kernel
theorem dX2_acceptReplyChannel_9 : decode cX2_acceptReplyChannel 9 = .ok (.ifCond .eq 30, 3) := by decide +kernel
theorem dX2_acceptReplyChannel_12 : decode cX2_acceptReplyChannel 12 = .ok (.iload_n 2, 1) := by decide +kernel
theorem dX2_acceptReplyChannel_13 : decode cX2_acceptReplyChannel 13 = .ok (.iconst 4, 1) := by decide +kernel
theorem dX2_acceptReplyChannel_14 : decode cX2_acceptReplyChannel 14 = .ok (.if_icmp .ge 25, 3) := by decide +kernel
theorem dX2_acceptReplyChannel_17 : decode cX2_acceptReplyChannel 17 = .ok (.aload_n 0, 1) := by decide +kernel
theorem dX2_acceptReplyChannel_18 : decode cX2_acceptReplyChannel 18 = .ok (.getfield 12, 3) := by decide +kernel
theorem dX2_acceptReplyChannel_21 : decode cX2_acceptReplyChannel 21 = .ok (.iload_n 2, 1) := by decide +kernel
theorem dX2_acceptReplyChannel_22 : decode cX2_acceptReplyChannel 22 = .ok (.invokevirtual 87, 3) := by decide +kernel
theorem dX2_acceptReplyChannel_25 : decode cX2_acceptReplyChannel 25 = .ok (.ifCond .eq 14, 3) := by decide +kernel
theorem dX2_acceptReplyChannel_28 : decode cX2_acceptReplyChannel 28 = .ok (.aload_n 0, 1) := by decide +kernel
theorem dX2_acceptReplyChannel_29 : decode cX2_acceptReplyChannel 29 = .ok (.getfield 12, 3) := by decide +kernel
theorem dX2_acceptReplyChannel_32 : decode cX2_acceptReplyChannel 32 = .ok (.iload_n 2, 1) := by decide +kernel
theorem dX2_acceptReplyChannel_33 : decode cX2_acceptReplyChannel 33 = .ok (.invokevirtual 90, 3) := by decide +kernel
theorem dX2_acceptReplyChannel_36 : decode cX2_acceptReplyChannel 36 = .ok (.ifCond .eq 5, 3) := by decide +kernel
theorem dX2_acceptReplyChannel_39 : decode cX2_acceptReplyChannel 39 = .ok (.iconst 0, 1) := by decide +kernel
theorem dX2_acceptReplyChannel_40 : decode cX2_acceptReplyChannel 40 = .ok (.ireturn, 1) := by decide +kernel
theorem dX2_acceptReplyChannel_41 : decode cX2_acceptReplyChannel 41 = .ok (.aload_n 0, 1) := by decide +kernel
theorem dX2_acceptReplyChannel_42 : decode cX2_acceptReplyChannel 42 = .ok (.getfield 12, 3) := by decide +kernel
theorem dX2_acceptReplyChannel_45 : decode cX2_acceptReplyChannel 45 = .ok (.iload_n 2, 1) := by decide +kernel
theorem dX2_acceptReplyChannel_46 : decode cX2_acceptReplyChannel 46 = .ok (.iconst 1, 1) := by decide +kernel
theorem dX2_acceptReplyChannel_47 : decode cX2_acceptReplyChannel 47 = .ok (.invokevirtual 83, 3) := by decide +kernel
theorem dX2_acceptReplyChannel_50 : decode cX2_acceptReplyChannel 50 = .ok (.aload_n 0, 1) := by decide +kernel
theorem dX2_acceptReplyChannel_51 : decode cX2_acceptReplyChannel 51 = .ok (.bipush 8, 2) := by decide +kernel
theorem dX2_acceptReplyChannel_53 : decode cX2_acceptReplyChannel 53 = .ok (.invokevirtual 39, 3) := by decide +kernel
theorem dX2_acceptReplyChannel_56 : decode cX2_acceptReplyChannel 56 = .ok (.ireturn, 1) := by decide +kernel
theorem dX2_acceptBehindOperand_0 : decode cX2_acceptBehindOperand 0 = .ok (.iload_n 1, 1) := by decide +kernel
theorem dX2_acceptBehindOperand_1 : decode cX2_acceptBehindOperand 1 = .ok (.bipush 44, 2) := by decide +kernel
theorem dX2_acceptBehindOperand_3 : decode cX2_acceptBehindOperand 3 = .ok (.if_icmp .ne 29, 3) := by decide +kernel
theorem dX2_acceptBehindOperand_6 : decode cX2_acceptBehindOperand 6 = .ok (.aload_n 0, 1) := by decide +kernel
theorem dX2_acceptBehindOperand_7 : decode cX2_acceptBehindOperand 7 = .ok (.getfield 12, 3) := by decide +kernel
theorem dX2_acceptBehindOperand_10 : decode cX2_acceptBehindOperand 10 = .ok (.getfield 93, 3) := by decide +kernel
theorem dX2_acceptBehindOperand_13 : decode cX2_acceptBehindOperand 13 = .ok (.iconst 4, 1) := by decide +kernel
theorem dX2_acceptBehindOperand_14 : decode cX2_acceptBehindOperand 14 = .ok (.if_icmp .ge 16, 3) := by decide +kernel
theorem dX2_acceptBehindOperand_17 : decode cX2_acceptBehindOperand 17 = .ok (.aload_n 0, 1) := by decide +kernel
theorem dX2_acceptBehindOperand_18 : decode cX2_acceptBehindOperand 18 = .ok (.bipush 6, 2) := by decide +kernel
theorem dX2_acceptBehindOperand_20 : decode cX2_acceptBehindOperand 20 = .ok (.invokevirtual 39, 3) := by decide +kernel
theorem dX2_acceptBehindOperand_23 : decode cX2_acceptBehindOperand 23 = .ok (.ifCond .eq 7, 3) := by decide +kernel
theorem dX2_acceptBehindOperand_26 : decode cX2_acceptBehindOperand 26 = .ok (.iconst 1, 1) := by decide +kernel
theorem dX2_acceptBehindOperand_27 : decode cX2_acceptBehindOperand 27 = .ok (.goto 4, 3) := by decide +kernel
theorem dX2_acceptBehindOperand_30 : decode cX2_acceptBehindOperand 30 = .ok (.iconst 0, 1) := by decide +kernel
theorem dX2_acceptBehindOperand_31 : decode cX2_acceptBehindOperand 31 = .ok (.ireturn, 1) := by decide +kernel
theorem dX2_acceptBehindOperand_32 : decode cX2_acceptBehindOperand 32 = .ok (.iload_n 1, 1) := by decide +kernel
theorem dX2_acceptBehindOperand_33 : decode cX2_acceptBehindOperand 33 = .ok (.bipush 43, 2) := by decide +kernel
theorem dX2_acceptBehindOperand_35 : decode cX2_acceptBehindOperand 35 = .ok (.if_icmp .eq 15, 3) := by decide +kernel
theorem dX2_acceptBehindOperand_38 : decode cX2_acceptBehindOperand 38 = .ok (.iload_n 1, 1) := by decide +kernel
theorem dX2_acceptBehindOperand_39 : decode cX2_acceptBehindOperand 39 = .ok (.bipush 45, 2) := by decide +kernel
theorem dX2_acceptBehindOperand_41 : decode cX2_acceptBehindOperand 41 = .ok (.if_icmp .eq 9, 3) := by decide +kernel
theorem dX2_acceptBehindOperand_44 : decode cX2_acceptBehindOperand 44 = .ok (.iload_n 1, 1) := by decide +kernel
theorem dX2_acceptBehindOperand_45 : decode cX2_acceptBehindOperand 45 = .ok (.bipush 42, 2) := by decide +kernel
theorem dX2_acceptBehindOperand_47 : decode cX2_acceptBehindOperand 47 = .ok (.if_icmp .ne 7, 3) := by decide +kernel
theorem dX2_acceptBehindOperand_50 : decode cX2_acceptBehindOperand 50 = .ok (.iconst 1, 1) := by decide +kernel
theorem dX2_acceptBehindOperand_51 : decode cX2_acceptBehindOperand 51 = .ok (.goto 4, 3) := by decide +kernel
theorem dX2_acceptBehindOperand_54 : decode cX2_acceptBehindOperand 54 = .ok (.iconst 0, 1) := by decide +kernel
theorem dX2_acceptBehindOperand_55 : decode cX2_acceptBehindOperand 55 = .ok (.istore_n 2, 1) := by decide +kernel
theorem dX2_acceptBehindOperand_56 : decode cX2_acceptBehindOperand 56 = .ok (.iload_n 2, 1) := by decide +kernel
theorem dX2_acceptBehindOperand_57 : decode cX2_acceptBehindOperand 57 = .ok (.ifCond .eq 26, 3) := by decide +kernel
theorem dX2_acceptBehindOperand_60 : decode cX2_acceptBehindOperand 60 = .ok (.aload_n 0, 1) := by decide +kernel
theorem dX2_acceptBehindOperand_61 : decode cX2_acceptBehindOperand 61 = .ok (.getfield 12, 3) := by decide +kernel
theorem dX2_acceptBehindOperand_64 : decode cX2_acceptBehindOperand 64 = .ok (.invokevirtual 96, 3) := by decide +kernel
theorem dX2_acceptBehindOperand_67 : decode cX2_acceptBehindOperand 67 = .ok (.iconst 3, 1) := by decide +kernel
theorem dX2_acceptBehindOperand_68 : decode cX2_acceptBehindOperand 68 = .ok (.if_icmp .ge 15, 3) := by decide +kernel
theorem dX2_acceptBehindOperand_71 : decode cX2_acceptBehindOperand 71 = .ok (.aload_n 0, 1) := by decide +kernel
theorem dX2_acceptBehindOperand_72 : decode cX2_acceptBehindOperand 72 = .ok (.iload_n 1, 1) := by decide +kernel
theorem dX2_acceptBehindOperand_73 : decode cX2_acceptBehindOperand 73 = .ok (.invokevirtual 48, 3) := by decide +kernel
theorem dX2_acceptBehindOperand_76 : decode cX2_acceptBehindOperand 76 = .ok (.ifCond .eq 7, 3) := by decide +kernel
theorem dX2_acceptBehindOperand_79 : decode cX2_acceptBehindOperand 79 = .ok (.iconst 1, 1) := by decide +kernel
theorem dX2_acceptBehindOperand_80 : decode cX2_acceptBehindOperand 80 = .ok (.goto 4, 3) := by decide +kernel
theorem dX2_acceptBehindOperand_83 : decode cX2_acceptBehindOperand 83 = .ok (.iconst 0, 1) := by decide +kernel
theorem dX2_acceptBehindOperand_84 : decode cX2_acceptBehindOperand 84 = .ok (.ireturn, 1) := by decide +kernel
theorem dX2_operandOf_0 : decode cX2_operandOf 0 = .ok (.iload_n 1, 1) := by decide +kernel
theorem dX2_operandOf_1 : decode cX2_operandOf 1 = .ok (.bipush 48, 2) := by decide +kernel
theorem dX2_operandOf_3 : decode cX2_operandOf 3 = .ok (.if_icmp .lt 17, 3) := by decide +kernel
theorem dX2_operandOf_6 : decode cX2_operandOf 6 = .ok (.iload_n 1, 1) := by decide +kernel
theorem dX2_operandOf_7 : decode cX2_operandOf 7 = .ok (.bipush 57, 2) := by decide +kernel
theorem dX2_operandOf_9 : decode cX2_operandOf 9 = .ok (.if_icmp .gt 11, 3) := by decide +kernel
theorem dX2_operandOf_12 : decode cX2_operandOf 12 = .ok (.bipush 8, 2) := by decide +kernel
theorem dX2_operandOf_14 : decode cX2_operandOf 14 = .ok (.iload_n 1, 1) := by decide +kernel
theorem dX2_operandOf_15 : decode cX2_operandOf 15 = .ok (.iadd, 1) := by decide +kernel
theorem dX2_operandOf_16 : decode cX2_operandOf 16 = .ok (.bipush 48, 2) := by decide +kernel
theorem dX2_operandOf_18 : decode cX2_operandOf 18 = .ok (.isub, 1) := by decide +kernel
theorem dX2_operandOf_19 : decode cX2_operandOf 19 = .ok (.ireturn, 1) := by decide +kernel
theorem dX2_operandOf_20 : decode cX2_operandOf 20 = .ok (.iload_n 1, 1) := by decide +kernel
theorem dX2_operandOf_21 : decode cX2_operandOf 21 = .ok (.invokestatic 57, 3) := by decide +kernel
theorem dX2_operandOf_24 : decode cX2_operandOf 24 = .ok (.ifCond .eq 24, 3) := by decide +kernel
theorem dX2_operandOf_27 : decode cX2_operandOf 27 = .ok (.aload_n 0, 1) := by decide +kernel
theorem dX2_operandOf_28 : decode cX2_operandOf 28 = .ok (.getfield 12, 3) := by decide +kernel
theorem dX2_operandOf_31 : decode cX2_operandOf 31 = .ok (.iload_n 1, 1) := by decide +kernel
theorem dX2_operandOf_32 : decode cX2_operandOf 32 = .ok (.bipush 97, 2) := by decide +kernel
theorem dX2_operandOf_34 : decode cX2_operandOf 34 = .ok (.isub, 1) := by decide +kernel
theorem dX2_operandOf_35 : decode cX2_operandOf 35 = .ok (.invokevirtual 87, 3) := by decide +kernel
theorem dX2_operandOf_38 : decode cX2_operandOf 38 = .ok (.ifCond .eq 10, 3) := by decide +kernel
theorem dX2_operandOf_41 : decode cX2_operandOf 41 = .ok (.iload_n 1, 1) := by decide +kernel
theorem dX2_operandOf_42 : decode cX2_operandOf 42 = .ok (.bipush 97, 2) := by decide +kernel
theorem dX2_operandOf_44 : decode cX2_operandOf 44 = .ok (.isub, 1) := by decide +kernel
theorem dX2_operandOf_45 : decode cX2_operandOf 45 = .ok (.goto 4, 3) := by decide +kernel
theorem dX2_operandOf_48 : decode cX2_operandOf 48 = .ok (.iconst (-1), 1) := by decide +kernel
theorem dX2_operandOf_49 : decode cX2_operandOf 49 = .ok (.ireturn, 1) := by decide +kernel
theorem dX2_isLetter_0 : decode cX2_isLetter 0 = .ok (.iload_n 0, 1) := by decide +kernel
theorem dX2_isLetter_1 : decode cX2_isLetter 1 = .ok (.bipush 97, 2) := by decide +kernel
theorem dX2_isLetter_3 : decode cX2_isLetter 3 = .ok (.isub, 1) := by decide +kernel
theorem dX2_isLetter_4 : decode cX2_isLetter 4 = .ok (.invokestatic 100, 3) := by decide +kernel
theorem dX2_isLetter_7 : decode cX2_isLetter 7 = .ok (.ireturn, 1) := by decide +kernel
theorem dX3_init_0 : decode cX3_init 0 = .ok (.aload_n 0, 1) := by decide +kernel
theorem dX3_init_1 : decode cX3_init 1 = .ok (.invokespecial 3, 3) := by decide +kernel
theorem dX3_init_4 : decode cX3_init 4 = .ok (.aload_n 0, 1) := by decide +kernel
theorem dX3_init_5 : decode cX3_init 5 = .ok (.bipush 8, 2) := by decide +kernel
theorem dX3_init_7 : decode cX3_init 7 = .ok (.anewarray 9, 3) := by decide +kernel
theorem dX3_init_10 : decode cX3_init 10 = .ok (.putfield 11, 3) := by decide +kernel
theorem dX3_init_13 : decode cX3_init 13 = .ok (.aload_n 0, 1) := by decide +kernel
theorem dX3_init_14 : decode cX3_init 14 = .ok (.new 17, 3) := by decide +kernel
theorem dX3_init_17 : decode cX3_init 17 = .ok (.dup, 1) := by decide +kernel
theorem dX3_init_18 : decode cX3_init 18 = .ok (.invokespecial 19, 3) := by decide +kernel
theorem dX3_init_21 : decode cX3_init 21 = .ok (.putfield 20, 3) := by decide +kernel
theorem dX3_init_24 : decode cX3_init 24 = .ok (.aload_n 0, 1) := by decide +kernel
theorem dX3_init_25 : decode cX3_init 25 = .ok (.bipush 8, 2) := by decide +kernel
theorem dX3_init_27 : decode cX3_init 27 = .ok (.newarray .int, 2) := by decide +kernel
theorem dX3_init_29 : decode cX3_init 29 = .ok (.putfield 24, 3) := by decide +kernel
theorem dX3_init_32 : decode cX3_init 32 = .ok (.aload_n 0, 1) := by decide +kernel
theorem dX3_init_33 : decode cX3_init 33 = .ok (.iconst (-1), 1) := by decide +kernel
theorem dX3_init_34 : decode cX3_init 34 = .ok (.putfield 28, 3) := by decide +kernel
theorem dX3_init_37 : decode cX3_init 37 = .ok (.iconst 0, 1) := by decide +kernel
theorem dX3_init_38 : decode cX3_init 38 = .ok (.istore_n 1, 1) := by decide +kernel
theorem dX3_init_39 : decode cX3_init 39 = .ok (.iload_n 1, 1) := by decide +kernel
theorem dX3_init_40 : decode cX3_init 40 = .ok (.bipush 8, 2) := by decide +kernel
theorem dX3_init_42 : decode cX3_init 42 = .ok (.if_icmp .ge 22, 3) := by decide +kernel
theorem dX3_init_45 : decode cX3_init 45 = .ok (.aload_n 0, 1) := by decide +kernel
theorem dX3_init_46 : decode cX3_init 46 = .ok (.getfield 11, 3) := by decide +kernel
theorem dX3_init_49 : decode cX3_init 49 = .ok (.iload_n 1, 1) := by decide +kernel
theorem dX3_init_50 : decode cX3_init 50 = .ok (.new 9, 3) := by decide +kernel
theorem dX3_init_53 : decode cX3_init 53 = .ok (.dup, 1) := by decide +kernel
theorem dX3_init_54 : decode cX3_init 54 = .ok (.invokespecial 32, 3) := by decide +kernel
theorem dX3_init_57 : decode cX3_init 57 = .ok (.aastore, 1) := by decide +kernel
theorem dX3_init_58 : decode cX3_init 58 = .ok (.iinc 1 1, 3) := by decide +kernel
theorem dX3_init_61 : decode cX3_init 61 = .ok (.goto (-22), 3) := by decide +kernel
theorem dX3_init_64 : decode cX3_init 64 = .ok (.return_, 1) := by decide +kernel
theorem dX3_copyFrom_0 : decode cX3_copyFrom 0 = .ok (.iconst 0, 1) := by decide +kernel
theorem dX3_copyFrom_1 : decode cX3_copyFrom 1 = .ok (.istore_n 2, 1) := by decide +kernel
theorem dX3_copyFrom_2 : decode cX3_copyFrom 2 = .ok (.iload_n 2, 1) := by decide +kernel
theorem dX3_copyFrom_3 : decode cX3_copyFrom 3 = .ok (.bipush 8, 2) := by decide +kernel
theorem dX3_copyFrom_5 : decode cX3_copyFrom 5 = .ok (.if_icmp .ge 24, 3) := by decide +kernel
theorem dX3_copyFrom_8 : decode cX3_copyFrom 8 = .ok (.aload_n 0, 1) := by decide +kernel
theorem dX3_copyFrom_9 : decode cX3_copyFrom 9 = .ok (.getfield 11, 3) := by decide +kernel
theorem dX3_copyFrom_12 : decode cX3_copyFrom 12 = .ok (.iload_n 2, 1) := by decide +kernel
theorem dX3_copyFrom_13 : decode cX3_copyFrom 13 = .ok (.aaload, 1) := by decide +kernel
theorem dX3_copyFrom_14 : decode cX3_copyFrom 14 = .ok (.aload_n 1, 1) := by decide +kernel
theorem dX3_copyFrom_15 : decode cX3_copyFrom 15 = .ok (.getfield 11, 3) := by decide +kernel
theorem dX3_copyFrom_18 : decode cX3_copyFrom 18 = .ok (.iload_n 2, 1) := by decide +kernel
theorem dX3_copyFrom_19 : decode cX3_copyFrom 19 = .ok (.aaload, 1) := by decide +kernel
theorem dX3_copyFrom_20 : decode cX3_copyFrom 20 = .ok (.invokevirtual 33, 3) := by decide +kernel
theorem dX3_copyFrom_23 : decode cX3_copyFrom 23 = .ok (.iinc 2 1, 3) := by decide +kernel
theorem dX3_copyFrom_26 : decode cX3_copyFrom 26 = .ok (.goto (-24), 3) := by decide +kernel
theorem dX3_copyFrom_29 : decode cX3_copyFrom 29 = .ok (.aload_n 0, 1) := by decide +kernel
theorem dX3_copyFrom_30 : decode cX3_copyFrom 30 = .ok (.getfield 20, 3) := by decide +kernel
theorem dX3_copyFrom_33 : decode cX3_copyFrom 33 = .ok (.aload_n 1, 1) := by decide +kernel
theorem dX3_copyFrom_34 : decode cX3_copyFrom 34 = .ok (.getfield 20, 3) := by decide +kernel
theorem dX3_copyFrom_37 : decode cX3_copyFrom 37 = .ok (.invokevirtual 37, 3) := by decide +kernel
theorem dX3_copyFrom_40 : decode cX3_copyFrom 40 = .ok (.aload_n 1, 1) := by decide +kernel
theorem dX3_copyFrom_41 : decode cX3_copyFrom 41 = .ok (.getfield 24, 3) := by decide +kernel
theorem dX3_copyFrom_44 : decode cX3_copyFrom 44 = .ok (.iconst 0, 1) := by decide +kernel
theorem dX3_copyFrom_45 : decode cX3_copyFrom 45 = .ok (.aload_n 0, 1) := by decide +kernel
theorem dX3_copyFrom_46 : decode cX3_copyFrom 46 = .ok (.getfield 24, 3) := by decide +kernel
theorem dX3_copyFrom_49 : decode cX3_copyFrom 49 = .ok (.iconst 0, 1) := by decide +kernel
theorem dX3_copyFrom_50 : decode cX3_copyFrom 50 = .ok (.bipush 8, 2) := by decide +kernel
theorem dX3_copyFrom_52 : decode cX3_copyFrom 52 = .ok (.invokestatic 40, 3) := by decide +kernel
theorem dX3_copyFrom_55 : decode cX3_copyFrom 55 = .ok (.aload_n 0, 1) := by decide +kernel
theorem dX3_copyFrom_56 : decode cX3_copyFrom 56 = .ok (.aload_n 1, 1) := by decide +kernel
theorem dX3_copyFrom_57 : decode cX3_copyFrom 57 = .ok (.getfield 46, 3) := by decide +kernel
theorem dX3_copyFrom_60 : decode cX3_copyFrom 60 = .ok (.putfield 46, 3) := by decide +kernel
theorem dX3_copyFrom_63 : decode cX3_copyFrom 63 = .ok (.aload_n 0, 1) := by decide +kernel
theorem dX3_copyFrom_64 : decode cX3_copyFrom 64 = .ok (.aload_n 1, 1) := by decide +kernel
theorem dX3_copyFrom_65 : decode cX3_copyFrom 65 = .ok (.getfield 28, 3) := by decide +kernel
theorem dX3_copyFrom_68 : decode cX3_copyFrom 68 = .ok (.putfield 28, 3) := by decide +kernel
theorem dX3_copyFrom_71 : decode cX3_copyFrom 71 = .ok (.return_, 1) := by decide +kernel
theorem dX3_messageCount_0 : decode cX3_messageCount 0 = .ok (.iconst 0, 1) := by decide +kernel
theorem dX3_messageCount_1 : decode cX3_messageCount 1 = .ok (.istore_n 1, 1) := by decide +kernel
theorem dX3_messageCount_2 : decode cX3_messageCount 2 = .ok (.iconst 0, 1) := by decide +kernel
theorem dX3_messageCount_3 : decode cX3_messageCount 3 = .ok (.istore_n 2, 1) := by decide +kernel
theorem dX3_messageCount_4 : decode cX3_messageCount 4 = .ok (.iload_n 2, 1) := by decide +kernel
theorem dX3_messageCount_5 : decode cX3_messageCount 5 = .ok (.bipush 8, 2) := by decide +kernel
theorem dX3_messageCount_7 : decode cX3_messageCount 7 = .ok (.if_icmp .ge 21, 3) := by decide +kernel
theorem dX3_messageCount_10 : decode cX3_messageCount 10 = .ok (.iload_n 1, 1) := by decide +kernel
theorem dX3_messageCount_11 : decode cX3_messageCount 11 = .ok (.aload_n 0, 1) := by decide +kernel
theorem dX3_messageCount_12 : decode cX3_messageCount 12 = .ok (.getfield 11, 3) := by decide +kernel
theorem dX3_messageCount_15 : decode cX3_messageCount 15 = .ok (.iload_n 2, 1) := by decide +kernel
theorem dX3_messageCount_16 : decode cX3_messageCount 16 = .ok (.aaload, 1) := by decide +kernel
theorem dX3_messageCount_17 : decode cX3_messageCount 17 = .ok (.getfield 49, 3) := by decide +kernel
theorem dX3_messageCount_20 : decode cX3_messageCount 20 = .ok (.iadd, 1) := by decide +kernel
theorem dX3_messageCount_21 : decode cX3_messageCount 21 = .ok (.istore_n 1, 1) := by decide +kernel
theorem dX3_messageCount_22 : decode cX3_messageCount 22 = .ok (.iinc 2 1, 3) := by decide +kernel
theorem dX3_messageCount_25 : decode cX3_messageCount 25 = .ok (.goto (-21), 3) := by decide +kernel
theorem dX3_messageCount_28 : decode cX3_messageCount 28 = .ok (.iload_n 1, 1) := by decide +kernel
theorem dX3_messageCount_29 : decode cX3_messageCount 29 = .ok (.ireturn, 1) := by decide +kernel
theorem dX4_init_0 : decode cX4_init 0 = .ok (.aload_n 0, 1) := by decide +kernel
theorem dX4_init_1 : decode cX4_init 1 = .ok (.invokespecial 3, 3) := by decide +kernel
theorem dX4_init_4 : decode cX4_init 4 = .ok (.aload_n 0, 1) := by decide +kernel
theorem dX4_init_5 : decode cX4_init 5 = .ok (.bipush 24, 2) := by decide +kernel
theorem dX4_init_7 : decode cX4_init 7 = .ok (.newarray .int, 2) := by decide +kernel
theorem dX4_init_9 : decode cX4_init 9 = .ok (.putfield 9, 3) := by decide +kernel
theorem dX4_init_12 : decode cX4_init 12 = .ok (.aload_n 0, 1) := by decide +kernel
theorem dX4_init_13 : decode cX4_init 13 = .ok (.bipush 24, 2) := by decide +kernel
theorem dX4_init_15 : decode cX4_init 15 = .ok (.newarray .int, 2) := by decide +kernel
theorem dX4_init_17 : decode cX4_init 17 = .ok (.putfield 15, 3) := by decide +kernel
theorem dX4_init_20 : decode cX4_init 20 = .ok (.return_, 1) := by decide +kernel
theorem dX4_give_0 : decode cX4_give 0 = .ok (.aload_n 0, 1) := by decide +kernel
theorem dX4_give_1 : decode cX4_give 1 = .ok (.getfield 18, 3) := by decide +kernel
theorem dX4_give_4 : decode cX4_give 4 = .ok (.istore_n 1, 1) := by decide +kernel
theorem dX4_give_5 : decode cX4_give 5 = .ok (.aload_n 0, 1) := by decide +kernel
theorem dX4_give_6 : decode cX4_give 6 = .ok (.dup, 1) := by decide +kernel
theorem dX4_give_7 : decode cX4_give 7 = .ok (.getfield 18, 3) := by decide +kernel
theorem dX4_give_10 : decode cX4_give 10 = .ok (.iconst 1, 1) := by decide +kernel
theorem dX4_give_11 : decode cX4_give 11 = .ok (.iadd, 1) := by decide +kernel
theorem dX4_give_12 : decode cX4_give 12 = .ok (.putfield 18, 3) := by decide +kernel
theorem dX4_give_15 : decode cX4_give 15 = .ok (.aload_n 0, 1) := by decide +kernel
theorem dX4_give_16 : decode cX4_give 16 = .ok (.getfield 9, 3) := by decide +kernel
theorem dX4_give_19 : decode cX4_give 19 = .ok (.iload_n 1, 1) := by decide +kernel
theorem dX4_give_20 : decode cX4_give 20 = .ok (.bipush 24, 2) := by decide +kernel
theorem dX4_give_22 : decode cX4_give 22 = .ok (.irem, 1) := by decide +kernel
theorem dX4_give_23 : decode cX4_give 23 = .ok (.iconst 0, 1) := by decide +kernel
theorem dX4_give_24 : decode cX4_give 24 = .ok (.iastore, 1) := by decide +kernel
theorem dX4_give_25 : decode cX4_give 25 = .ok (.aload_n 0, 1) := by decide +kernel
theorem dX4_give_26 : decode cX4_give 26 = .ok (.getfield 15, 3) := by decide +kernel
theorem dX4_give_29 : decode cX4_give 29 = .ok (.iload_n 1, 1) := by decide +kernel
theorem dX4_give_30 : decode cX4_give 30 = .ok (.bipush 24, 2) := by decide +kernel
theorem dX4_give_32 : decode cX4_give 32 = .ok (.irem, 1) := by decide +kernel
theorem dX4_give_33 : decode cX4_give 33 = .ok (.iconst 0, 1) := by decide +kernel
theorem dX4_give_34 : decode cX4_give 34 = .ok (.iastore, 1) := by decide +kernel
theorem dX4_give_35 : decode cX4_give 35 = .ok (.iload_n 1, 1) := by decide +kernel
theorem dX4_give_36 : decode cX4_give 36 = .ok (.ireturn, 1) := by decide +kernel
theorem dX4_knows_0 : decode cX4_knows 0 = .ok (.iload_n 1, 1) := by decide +kernel
theorem dX4_knows_1 : decode cX4_knows 1 = .ok (.aload_n 0, 1) := by decide +kernel
theorem dX4_knows_2 : decode cX4_knows 2 = .ok (.invokevirtual 22, 3) := by decide +kernel
theorem dX4_knows_5 : decode cX4_knows 5 = .ok (.if_icmp .lt 15, 3) := by decide +kernel
theorem dX4_knows_8 : decode cX4_knows 8 = .ok (.iload_n 1, 1) := by decide +kernel
theorem dX4_knows_9 : decode cX4_knows 9 = .ok (.aload_n 0, 1) := by decide +kernel
theorem dX4_knows_10 : decode cX4_knows 10 = .ok (.getfield 18, 3) := by decide +kernel
theorem dX4_knows_13 : decode cX4_knows 13 = .ok (.if_icmp .ge 7, 3) := by decide +kernel
theorem dX4_knows_16 : decode cX4_knows 16 = .ok (.iconst 1, 1) := by decide +kernel
theorem dX4_knows_17 : decode cX4_knows 17 = .ok (.goto 4, 3) := by decide +kernel
theorem dX4_knows_20 : decode cX4_knows 20 = .ok (.iconst 0, 1) := by decide +kernel
theorem dX4_knows_21 : decode cX4_knows 21 = .ok (.ireturn, 1) := by decide +kernel
theorem dX4_stateOf_0 : decode cX4_stateOf 0 = .ok (.aload_n 0, 1) := by decide +kernel
theorem dX4_stateOf_1 : decode cX4_stateOf 1 = .ok (.iload_n 1, 1) := by decide +kernel
theorem dX4_stateOf_2 : decode cX4_stateOf 2 = .ok (.invokevirtual 26, 3) := by decide +kernel
theorem dX4_stateOf_5 : decode cX4_stateOf 5 = .ok (.ifCond .eq 15, 3) := by decide +kernel
theorem dX4_stateOf_8 : decode cX4_stateOf 8 = .ok (.aload_n 0, 1) := by decide +kernel
theorem dX4_stateOf_9 : decode cX4_stateOf 9 = .ok (.getfield 9, 3) := by decide +kernel
theorem dX4_stateOf_12 : decode cX4_stateOf 12 = .ok (.iload_n 1, 1) := by decide +kernel
theorem dX4_stateOf_13 : decode cX4_stateOf 13 = .ok (.bipush 24, 2) := by decide +kernel
theorem dX4_stateOf_15 : decode cX4_stateOf 15 = .ok (.irem, 1) := by decide +kernel
theorem dX4_stateOf_16 : decode cX4_stateOf 16 = .ok (.iaload, 1) := by decide +kernel
theorem dX4_stateOf_17 : decode cX4_stateOf 17 = .ok (.goto 4, 3) := by decide +kernel
theorem dX4_stateOf_20 : decode cX4_stateOf 20 = .ok (.iconst 0, 1) := by decide +kernel
theorem dX4_stateOf_21 : decode cX4_stateOf 21 = .ok (.ireturn, 1) := by decide +kernel
theorem dX4_answerTo_0 : decode cX4_answerTo 0 = .ok (.aload_n 0, 1) := by decide +kernel
theorem dX4_answerTo_1 : decode cX4_answerTo 1 = .ok (.iload_n 1, 1) := by decide +kernel
theorem dX4_answerTo_2 : decode cX4_answerTo 2 = .ok (.invokevirtual 26, 3) := by decide +kernel
theorem dX4_answerTo_5 : decode cX4_answerTo 5 = .ok (.ifCond .eq 15, 3) := by decide +kernel
theorem dX4_answerTo_8 : decode cX4_answerTo 8 = .ok (.aload_n 0, 1) := by decide +kernel
theorem dX4_answerTo_9 : decode cX4_answerTo 9 = .ok (.getfield 15, 3) := by decide +kernel
theorem dX4_answerTo_12 : decode cX4_answerTo 12 = .ok (.iload_n 1, 1) := by decide +kernel
theorem dX4_answerTo_13 : decode cX4_answerTo 13 = .ok (.bipush 24, 2) := by decide +kernel
theorem dX4_answerTo_15 : decode cX4_answerTo 15 = .ok (.irem, 1) := by decide +kernel
theorem dX4_answerTo_16 : decode cX4_answerTo 16 = .ok (.iaload, 1) := by decide +kernel
theorem dX4_answerTo_17 : decode cX4_answerTo 17 = .ok (.goto 4, 3) := by decide +kernel
theorem dX4_answerTo_20 : decode cX4_answerTo 20 = .ok (.iconst 0, 1) := by decide +kernel
theorem dX4_answerTo_21 : decode cX4_answerTo 21 = .ok (.ireturn, 1) := by decide +kernel
theorem dX4_settle_0 : decode cX4_settle 0 = .ok (.aload_n 0, 1) := by decide +kernel
theorem dX4_settle_1 : decode cX4_settle 1 = .ok (.iload_n 1, 1) := by decide +kernel
theorem dX4_settle_2 : decode cX4_settle 2 = .ok (.invokevirtual 26, 3) := by decide +kernel
theorem dX4_settle_5 : decode cX4_settle 5 = .ok (.ifCond .eq 23, 3) := by decide +kernel
theorem dX4_settle_8 : decode cX4_settle 8 = .ok (.aload_n 0, 1) := by decide +kernel
theorem dX4_settle_9 : decode cX4_settle 9 = .ok (.getfield 9, 3) := by decide +kernel
theorem dX4_settle_12 : decode cX4_settle 12 = .ok (.iload_n 1, 1) := by decide +kernel
theorem dX4_settle_13 : decode cX4_settle 13 = .ok (.bipush 24, 2) := by decide +kernel
theorem dX4_settle_15 : decode cX4_settle 15 = .ok (.irem, 1) := by decide +kernel
theorem dX4_settle_16 : decode cX4_settle 16 = .ok (.iload_n 2, 1) := by decide +kernel
theorem dX4_settle_17 : decode cX4_settle 17 = .ok (.iastore, 1) := by decide +kernel
theorem dX4_settle_18 : decode cX4_settle 18 = .ok (.aload_n 0, 1) := by decide +kernel
theorem dX4_settle_19 : decode cX4_settle 19 = .ok (.getfield 15, 3) := by decide +kernel
theorem dX4_settle_22 : decode cX4_settle 22 = .ok (.iload_n 1, 1) := by decide +kernel
theorem dX4_settle_23 : decode cX4_settle 23 = .ok (.bipush 24, 2) := by decide +kernel
theorem dX4_settle_25 : decode cX4_settle 25 = .ok (.irem, 1) := by decide +kernel
theorem dX4_settle_26 : decode cX4_settle 26 = .ok (.iload_n 3, 1) := by decide +kernel
theorem dX4_settle_27 : decode cX4_settle 27 = .ok (.iastore, 1) := by decide +kernel
theorem dX4_settle_28 : decode cX4_settle 28 = .ok (.return_, 1) := by decide +kernel
theorem dX4_copyFrom_0 : decode cX4_copyFrom 0 = .ok (.aload_n 1, 1) := by decide +kernel
theorem dX4_copyFrom_1 : decode cX4_copyFrom 1 = .ok (.getfield 9, 3) := by decide +kernel
theorem dX4_copyFrom_4 : decode cX4_copyFrom 4 = .ok (.iconst 0, 1) := by decide +kernel
theorem dX4_copyFrom_5 : decode cX4_copyFrom 5 = .ok (.aload_n 0, 1) := by decide +kernel
theorem dX4_copyFrom_6 : decode cX4_copyFrom 6 = .ok (.getfield 9, 3) := by decide +kernel
theorem dX4_copyFrom_9 : decode cX4_copyFrom 9 = .ok (.iconst 0, 1) := by decide +kernel
theorem dX4_copyFrom_10 : decode cX4_copyFrom 10 = .ok (.bipush 24, 2) := by decide +kernel
theorem dX4_copyFrom_12 : decode cX4_copyFrom 12 = .ok (.invokestatic 30, 3) := by decide +kernel
theorem dX4_copyFrom_15 : decode cX4_copyFrom 15 = .ok (.aload_n 1, 1) := by decide +kernel
theorem dX4_copyFrom_16 : decode cX4_copyFrom 16 = .ok (.getfield 15, 3) := by decide +kernel
theorem dX4_copyFrom_19 : decode cX4_copyFrom 19 = .ok (.iconst 0, 1) := by decide +kernel
theorem dX4_copyFrom_20 : decode cX4_copyFrom 20 = .ok (.aload_n 0, 1) := by decide +kernel
theorem dX4_copyFrom_21 : decode cX4_copyFrom 21 = .ok (.getfield 15, 3) := by decide +kernel
theorem dX4_copyFrom_24 : decode cX4_copyFrom 24 = .ok (.iconst 0, 1) := by decide +kernel
theorem dX4_copyFrom_25 : decode cX4_copyFrom 25 = .ok (.bipush 24, 2) := by decide +kernel
theorem dX4_copyFrom_27 : decode cX4_copyFrom 27 = .ok (.invokestatic 30, 3) := by decide +kernel
theorem dX4_copyFrom_30 : decode cX4_copyFrom 30 = .ok (.aload_n 0, 1) := by decide +kernel
theorem dX4_copyFrom_31 : decode cX4_copyFrom 31 = .ok (.aload_n 1, 1) := by decide +kernel
theorem dX4_copyFrom_32 : decode cX4_copyFrom 32 = .ok (.getfield 18, 3) := by decide +kernel
theorem dX4_copyFrom_35 : decode cX4_copyFrom 35 = .ok (.putfield 18, 3) := by decide +kernel
theorem dX4_copyFrom_38 : decode cX4_copyFrom 38 = .ok (.return_, 1) := by decide +kernel
theorem dX4_mixTickets_0 : decode cX4_mixTickets 0 = .ok (.lload_n 1, 1) := by decide +kernel
theorem dX4_mixTickets_1 : decode cX4_mixTickets 1 = .ok (.aload_n 0, 1) := by decide +kernel
theorem dX4_mixTickets_2 : decode cX4_mixTickets 2 = .ok (.getfield 18, 3) := by decide +kernel
theorem dX4_mixTickets_5 : decode cX4_mixTickets 5 = .ok (.i2l, 1) := by decide +kernel
theorem dX4_mixTickets_6 : decode cX4_mixTickets 6 = .ok (.invokestatic 36, 3) := by decide +kernel
theorem dX4_mixTickets_9 : decode cX4_mixTickets 9 = .ok (.lstore_n 3, 1) := by decide +kernel
theorem dX4_mixTickets_10 : decode cX4_mixTickets 10 = .ok (.aload_n 0, 1) := by decide +kernel
theorem dX4_mixTickets_11 : decode cX4_mixTickets 11 = .ok (.invokevirtual 22, 3) := by decide +kernel
theorem dX4_mixTickets_14 : decode cX4_mixTickets 14 = .ok (.istore 5, 2) := by decide +kernel
theorem dX4_mixTickets_16 : decode cX4_mixTickets 16 = .ok (.iload 5, 2) := by decide +kernel
theorem dX4_mixTickets_18 : decode cX4_mixTickets 18 = .ok (.aload_n 0, 1) := by decide +kernel
theorem dX4_mixTickets_19 : decode cX4_mixTickets 19 = .ok (.getfield 18, 3) := by decide +kernel
theorem dX4_mixTickets_22 : decode cX4_mixTickets 22 = .ok (.if_icmp .ge 43, 3) := by decide +kernel
theorem dX4_mixTickets_25 : decode cX4_mixTickets 25 = .ok (.lload_n 3, 1) := by decide +kernel
theorem dX4_mixTickets_26 : decode cX4_mixTickets 26 = .ok (.aload_n 0, 1) := by decide +kernel
theorem dX4_mixTickets_27 : decode cX4_mixTickets 27 = .ok (.iload 5, 2) := by decide +kernel
theorem dX4_mixTickets_29 : decode cX4_mixTickets 29 = .ok (.invokevirtual 40, 3) := by decide +kernel
theorem dX4_mixTickets_32 : decode cX4_mixTickets 32 = .ok (.i2l, 1) := by decide +kernel
theorem dX4_mixTickets_33 : decode cX4_mixTickets 33 = .ok (.invokestatic 36, 3) := by decide +kernel
theorem dX4_mixTickets_36 : decode cX4_mixTickets 36 = .ok (.lstore_n 3, 1) := by decide +kernel
theorem dX4_mixTickets_37 : decode cX4_mixTickets 37 = .ok (.aload_n 0, 1) := by decide +kernel
theorem dX4_mixTickets_38 : decode cX4_mixTickets 38 = .ok (.iload 5, 2) := by decide +kernel
theorem dX4_mixTickets_40 : decode cX4_mixTickets 40 = .ok (.invokevirtual 40, 3) := by decide +kernel
theorem dX4_mixTickets_43 : decode cX4_mixTickets 43 = .ok (.iconst 1, 1) := by decide +kernel
theorem dX4_mixTickets_44 : decode cX4_mixTickets 44 = .ok (.if_icmp .ne 15, 3) := by decide +kernel
theorem dX4_mixTickets_47 : decode cX4_mixTickets 47 = .ok (.lload_n 3, 1) := by decide +kernel
theorem dX4_mixTickets_48 : decode cX4_mixTickets 48 = .ok (.aload_n 0, 1) := by decide +kernel
theorem dX4_mixTickets_49 : decode cX4_mixTickets 49 = .ok (.iload 5, 2) := by decide +kernel
theorem dX4_mixTickets_51 : decode cX4_mixTickets 51 = .ok (.invokevirtual 44, 3) := by decide +kernel
theorem dX4_mixTickets_54 : decode cX4_mixTickets 54 = .ok (.i2l, 1) := by decide +kernel
theorem dX4_mixTickets_55 : decode cX4_mixTickets 55 = .ok (.invokestatic 36, 3) := by decide +kernel
theorem dX4_mixTickets_58 : decode cX4_mixTickets 58 = .ok (.lstore_n 3, 1) := by decide +kernel
theorem dX4_mixTickets_59 : decode cX4_mixTickets 59 = .ok (.iinc 5 1, 3) := by decide +kernel
theorem dX4_mixTickets_62 : decode cX4_mixTickets 62 = .ok (.goto (-46), 3) := by decide +kernel
theorem dX4_mixTickets_65 : decode cX4_mixTickets 65 = .ok (.lload_n 3, 1) := by decide +kernel
theorem dX4_mixTickets_66 : decode cX4_mixTickets 66 = .ok (.lreturn, 1) := by decide +kernel
theorem dX4_firstKnown_0 : decode cX4_firstKnown 0 = .ok (.aload_n 0, 1) := by decide +kernel
theorem dX4_firstKnown_1 : decode cX4_firstKnown 1 = .ok (.getfield 18, 3) := by decide +kernel
theorem dX4_firstKnown_4 : decode cX4_firstKnown 4 = .ok (.bipush 24, 2) := by decide +kernel
theorem dX4_firstKnown_6 : decode cX4_firstKnown 6 = .ok (.if_icmp .le 13, 3) := by decide +kernel
theorem dX4_firstKnown_9 : decode cX4_firstKnown 9 = .ok (.aload_n 0, 1) := by decide +kernel
theorem dX4_firstKnown_10 : decode cX4_firstKnown 10 = .ok (.getfield 18, 3) := by decide +kernel
theorem dX4_firstKnown_13 : decode cX4_firstKnown 13 = .ok (.bipush 24, 2) := by decide +kernel
theorem dX4_firstKnown_15 : decode cX4_firstKnown 15 = .ok (.isub, 1) := by decide +kernel
theorem dX4_firstKnown_16 : decode cX4_firstKnown 16 = .ok (.goto 4, 3) := by decide +kernel
theorem dX4_firstKnown_19 : decode cX4_firstKnown 19 = .ok (.iconst 0, 1) := by decide +kernel
theorem dX4_firstKnown_20 : decode cX4_firstKnown 20 = .ok (.ireturn, 1) := by decide +kernel
theorem dX5_init_0 : decode cX5_init 0 = .ok (.aload_n 0, 1) := by decide +kernel
theorem dX5_init_1 : decode cX5_init 1 = .ok (.invokespecial 1, 3) := by decide +kernel
theorem dX5_init_4 : decode cX5_init 4 = .ok (.aload_n 0, 1) := by decide +kernel
theorem dX5_init_5 : decode cX5_init 5 = .ok (.bipush 40, 2) := by decide +kernel
theorem dX5_init_7 : decode cX5_init 7 = .ok (.newarray .int, 2) := by decide +kernel
theorem dX5_init_9 : decode cX5_init 9 = .ok (.putfield 9, 3) := by decide +kernel
theorem dX5_init_12 : decode cX5_init 12 = .ok (.aload_n 0, 1) := by decide +kernel
theorem dX5_init_13 : decode cX5_init 13 = .ok (.new 13, 3) := by decide +kernel
theorem dX5_init_16 : decode cX5_init 16 = .ok (.dup, 1) := by decide +kernel
theorem dX5_init_17 : decode cX5_init 17 = .ok (.invokespecial 15, 3) := by decide +kernel
theorem dX5_init_20 : decode cX5_init 20 = .ok (.putfield 16, 3) := by decide +kernel
theorem dX5_init_23 : decode cX5_init 23 = .ok (.aload_n 0, 1) := by decide +kernel
theorem dX5_init_24 : decode cX5_init 24 = .ok (.bipush 8, 2) := by decide +kernel
theorem dX5_init_26 : decode cX5_init 26 = .ok (.anewarray 20, 3) := by decide +kernel
theorem dX5_init_29 : decode cX5_init 29 = .ok (.putfield 22, 3) := by decide +kernel
theorem dX5_init_32 : decode cX5_init 32 = .ok (.aload_n 0, 1) := by decide +kernel
theorem dX5_init_33 : decode cX5_init 33 = .ok (.new 26, 3) := by decide +kernel
theorem dX5_init_36 : decode cX5_init 36 = .ok (.dup, 1) := by decide +kernel
theorem dX5_init_37 : decode cX5_init 37 = .ok (.invokespecial 28, 3) := by decide +kernel
theorem dX5_init_40 : decode cX5_init 40 = .ok (.putfield 29, 3) := by decide +kernel
theorem dX5_init_43 : decode cX5_init 43 = .ok (.aload_n 0, 1) := by decide +kernel
theorem dX5_init_44 : decode cX5_init 44 = .ok (.new 26, 3) := by decide +kernel
theorem dX5_init_47 : decode cX5_init 47 = .ok (.dup, 1) := by decide +kernel
theorem dX5_init_48 : decode cX5_init 48 = .ok (.invokespecial 28, 3) := by decide +kernel
theorem dX5_init_51 : decode cX5_init 51 = .ok (.putfield 33, 3) := by decide +kernel
theorem dX5_init_54 : decode cX5_init 54 = .ok (.aload_n 0, 1) := by decide +kernel
theorem dX5_init_55 : decode cX5_init 55 = .ok (.bipush 8, 2) := by decide +kernel
theorem dX5_init_57 : decode cX5_init 57 = .ok (.newarray .int, 2) := by decide +kernel
theorem dX5_init_59 : decode cX5_init 59 = .ok (.putfield 36, 3) := by decide +kernel
theorem dX5_init_62 : decode cX5_init 62 = .ok (.aload_n 0, 1) := by decide +kernel
theorem dX5_init_63 : decode cX5_init 63 = .ok (.bipush 8, 2) := by decide +kernel
theorem dX5_init_65 : decode cX5_init 65 = .ok (.newarray .int, 2) := by decide +kernel
theorem dX5_init_67 : decode cX5_init 67 = .ok (.putfield 39, 3) := by decide +kernel
theorem dX5_init_70 : decode cX5_init 70 = .ok (.aload_n 0, 1) := by decide +kernel
theorem dX5_init_71 : decode cX5_init 71 = .ok (.bipush 8, 2) := by decide +kernel
theorem dX5_init_73 : decode cX5_init 73 = .ok (.newarray .int, 2) := by decide +kernel
theorem dX5_init_75 : decode cX5_init 75 = .ok (.putfield 42, 3) := by decide +kernel
theorem dX5_init_78 : decode cX5_init 78 = .ok (.iconst 0, 1) := by decide +kernel
theorem dX5_init_79 : decode cX5_init 79 = .ok (.istore_n 1, 1) := by decide +kernel
theorem dX5_init_80 : decode cX5_init 80 = .ok (.iload_n 1, 1) := by decide +kernel
theorem dX5_init_81 : decode cX5_init 81 = .ok (.bipush 8, 2) := by decide +kernel
theorem dX5_init_83 : decode cX5_init 83 = .ok (.if_icmp .ge 22, 3) := by decide +kernel
theorem dX5_init_86 : decode cX5_init 86 = .ok (.aload_n 0, 1) := by decide +kernel
theorem dX5_init_87 : decode cX5_init 87 = .ok (.getfield 22, 3) := by decide +kernel
theorem dX5_init_90 : decode cX5_init 90 = .ok (.iload_n 1, 1) := by decide +kernel
theorem dX5_init_91 : decode cX5_init 91 = .ok (.new 20, 3) := by decide +kernel
theorem dX5_init_94 : decode cX5_init 94 = .ok (.dup, 1) := by decide +kernel
theorem dX5_init_95 : decode cX5_init 95 = .ok (.invokespecial 45, 3) := by decide +kernel
theorem dX5_init_98 : decode cX5_init 98 = .ok (.aastore, 1) := by decide +kernel
theorem dX5_init_99 : decode cX5_init 99 = .ok (.iinc 1 1, 3) := by decide +kernel
theorem dX5_init_102 : decode cX5_init 102 = .ok (.goto (-22), 3) := by decide +kernel
theorem dX5_init_105 : decode cX5_init 105 = .ok (.return_, 1) := by decide +kernel
theorem dX5_append_0 : decode cX5_append 0 = .ok (.iload_n 1, 1) := by decide +kernel
theorem dX5_append_1 : decode cX5_append 1 = .ok (.bipush 32, 2) := by decide +kernel
theorem dX5_append_3 : decode cX5_append 3 = .ok (.if_icmp .lt 9, 3) := by decide +kernel
theorem dX5_append_6 : decode cX5_append 6 = .ok (.iload_n 1, 1) := by decide +kernel
theorem dX5_append_7 : decode cX5_append 7 = .ok (.bipush 126, 2) := by decide +kernel
theorem dX5_append_9 : decode cX5_append 9 = .ok (.if_icmp .le 13, 3) := by decide +kernel
theorem dX5_append_12 : decode cX5_append 12 = .ok (.new 46, 3) := by decide +kernel
theorem dX5_append_15 : decode cX5_append 15 = .ok (.dup, 1) := by decide +kernel
theorem dX5_append_16 : decode cX5_append 16 = .ok (.ldc 48, 2) := by decide +kernel
theorem dX5_append_18 : decode cX5_append 18 = .ok (.invokespecial 50, 3) := by decide +kernel
theorem dX5_append_21 : decode cX5_append 21 = .ok (.athrow, 1) := by decide +kernel
theorem dX5_append_22 : decode cX5_append 22 = .ok (.aload_n 0, 1) := by decide +kernel
theorem dX5_append_23 : decode cX5_append 23 = .ok (.getfield 53, 3) := by decide +kernel
theorem dX5_append_26 : decode cX5_append 26 = .ok (.bipush 40, 2) := by decide +kernel
theorem dX5_append_28 : decode cX5_append 28 = .ok (.if_icmp .lt 13, 3) := by decide +kernel
theorem dX5_append_31 : decode cX5_append 31 = .ok (.new 57, 3) := by decide +kernel
theorem dX5_append_34 : decode cX5_append 34 = .ok (.dup, 1) := by decide +kernel
theorem dX5_append_35 : decode cX5_append 35 = .ok (.ldc 59, 2) := by decide +kernel
theorem dX5_append_37 : decode cX5_append 37 = .ok (.invokespecial 61, 3) := by decide +kernel
theorem dX5_append_40 : decode cX5_append 40 = .ok (.athrow, 1) := by decide +kernel
theorem dX5_append_41 : decode cX5_append 41 = .ok (.aload_n 0, 1) := by decide +kernel
theorem dX5_append_42 : decode cX5_append 42 = .ok (.getfield 9, 3) := by decide +kernel
theorem dX5_append_45 : decode cX5_append 45 = .ok (.aload_n 0, 1) := by decide +kernel
theorem dX5_append_46 : decode cX5_append 46 = .ok (.getfield 53, 3) := by decide +kernel
theorem dX5_append_49 : decode cX5_append 49 = .ok (.iload_n 1, 1) := by decide +kernel
theorem dX5_append_50 : decode cX5_append 50 = .ok (.iastore, 1) := by decide +kernel
theorem dX5_append_51 : decode cX5_append 51 = .ok (.aload_n 0, 1) := by decide +kernel
theorem dX5_append_52 : decode cX5_append 52 = .ok (.dup, 1) := by decide +kernel
theorem dX5_append_53 : decode cX5_append 53 = .ok (.getfield 53, 3) := by decide +kernel
theorem dX5_append_56 : decode cX5_append 56 = .ok (.iconst 1, 1) := by decide +kernel
theorem dX5_append_57 : decode cX5_append 57 = .ok (.iadd, 1) := by decide +kernel
theorem dX5_append_58 : decode cX5_append 58 = .ok (.putfield 53, 3) := by decide +kernel
theorem dX5_append_61 : decode cX5_append 61 = .ok (.aload_n 0, 1) := by decide +kernel
theorem dX5_append_62 : decode cX5_append 62 = .ok (.getfield 53, 3) := by decide +kernel
theorem dX5_append_65 : decode cX5_append 65 = .ok (.ireturn, 1) := by decide +kernel
theorem dX5_clearBuffer_0 : decode cX5_clearBuffer 0 = .ok (.aload_n 0, 1) := by decide +kernel
theorem dX5_clearBuffer_1 : decode cX5_clearBuffer 1 = .ok (.getfield 53, 3) := by decide +kernel
theorem dX5_clearBuffer_4 : decode cX5_clearBuffer 4 = .ok (.istore_n 1, 1) := by decide +kernel
theorem dX5_clearBuffer_5 : decode cX5_clearBuffer 5 = .ok (.aload_n 0, 1) := by decide +kernel
theorem dX5_clearBuffer_6 : decode cX5_clearBuffer 6 = .ok (.iconst 0, 1) := by decide +kernel
theorem dX5_clearBuffer_7 : decode cX5_clearBuffer 7 = .ok (.putfield 53, 3) := by decide +kernel
theorem dX5_clearBuffer_10 : decode cX5_clearBuffer 10 = .ok (.iload_n 1, 1) := by decide +kernel
theorem dX5_clearBuffer_11 : decode cX5_clearBuffer 11 = .ok (.ireturn, 1) := by decide +kernel
theorem dX5_firstError_0 : decode cX5_firstError 0 = .ok (.aload_n 0, 1) := by decide +kernel
theorem dX5_firstError_1 : decode cX5_firstError 1 = .ok (.invokevirtual 62, 3) := by decide +kernel
theorem dX5_firstError_4 : decode cX5_firstError 4 = .ok (.ireturn, 1) := by decide +kernel
theorem dX5_addRule_0 : decode cX5_addRule 0 = .ok (.aload_n 0, 1) := by decide +kernel
theorem dX5_addRule_1 : decode cX5_addRule 1 = .ok (.invokevirtual 62, 3) := by decide +kernel
theorem dX5_addRule_4 : decode cX5_addRule 4 = .ok (.aload_n 0, 1) := by decide +kernel
theorem dX5_addRule_5 : decode cX5_addRule 5 = .ok (.getfield 53, 3) := by decide +kernel
theorem dX5_addRule_8 : decode cX5_addRule 8 = .ok (.if_icmp .lt 13, 3) := by decide +kernel
theorem dX5_addRule_11 : decode cX5_addRule 11 = .ok (.aload_n 0, 1) := by decide +kernel
theorem dX5_addRule_12 : decode cX5_addRule 12 = .ok (.getfield 16, 3) := by decide +kernel
theorem dX5_addRule_15 : decode cX5_addRule 15 = .ok (.invokevirtual 66, 3) := by decide +kernel
theorem dX5_addRule_18 : decode cX5_addRule 18 = .ok (.ifCond .ne 13, 3) := by decide +kernel
theorem dX5_addRule_21 : decode cX5_addRule 21 = .ok (.new 46, 3) := by decide +kernel
theorem dX5_addRule_24 : decode cX5_addRule 24 = .ok (.dup, 1) := by decide +kernel
theorem dX5_addRule_25 : decode cX5_addRule 25 = .ok (.ldc 70, 2) := by decide +kernel
theorem dX5_addRule_27 : decode cX5_addRule 27 = .ok (.invokespecial 50, 3) := by decide +kernel
theorem dX5_addRule_30 : decode cX5_addRule 30 = .ok (.athrow, 1) := by decide +kernel
theorem dX5_addRule_31 : decode cX5_addRule 31 = .ok (.aload_n 0, 1) := by decide +kernel
theorem dX5_addRule_32 : decode cX5_addRule 32 = .ok (.getfield 72, 3) := by decide +kernel
theorem dX5_addRule_35 : decode cX5_addRule 35 = .ok (.bipush 8, 2) := by decide +kernel
theorem dX5_addRule_37 : decode cX5_addRule 37 = .ok (.if_icmp .lt 13, 3) := by decide +kernel
theorem dX5_addRule_40 : decode cX5_addRule 40 = .ok (.new 57, 3) := by decide +kernel
theorem dX5_addRule_43 : decode cX5_addRule 43 = .ok (.dup, 1) := by decide +kernel
theorem dX5_addRule_44 : decode cX5_addRule 44 = .ok (.ldc 75, 2) := by decide +kernel
theorem dX5_addRule_46 : decode cX5_addRule 46 = .ok (.invokespecial 61, 3) := by decide +kernel
theorem dX5_addRule_49 : decode cX5_addRule 49 = .ok (.athrow, 1) := by decide +kernel
theorem dX5_addRule_50 : decode cX5_addRule 50 = .ok (.aload_n 0, 1) := by decide +kernel
theorem dX5_addRule_51 : decode cX5_addRule 51 = .ok (.getfield 72, 3) := by decide +kernel
theorem dX5_addRule_54 : decode cX5_addRule 54 = .ok (.istore_n 1, 1) := by decide +kernel
theorem dX5_addRule_55 : decode cX5_addRule 55 = .ok (.aload_n 0, 1) := by decide +kernel
theorem dX5_addRule_56 : decode cX5_addRule 56 = .ok (.getfield 22, 3) := by decide +kernel
theorem dX5_addRule_59 : decode cX5_addRule 59 = .ok (.iload_n 1, 1) := by decide +kernel
theorem dX5_addRule_60 : decode cX5_addRule 60 = .ok (.aload_n 0, 1) := by decide +kernel
theorem dX5_addRule_61 : decode cX5_addRule 61 = .ok (.getfield 16, 3) := by decide +kernel
theorem dX5_addRule_64 : decode cX5_addRule 64 = .ok (.aload_n 0, 1) := by decide +kernel
theorem dX5_addRule_65 : decode cX5_addRule 65 = .ok (.getfield 22, 3) := by decide +kernel
theorem dX5_addRule_68 : decode cX5_addRule 68 = .ok (.iload_n 1, 1) := by decide +kernel
theorem dX5_addRule_69 : decode cX5_addRule 69 = .ok (.aaload, 1) := by decide +kernel
theorem dX5_addRule_70 : decode cX5_addRule 70 = .ok (.invokevirtual 77, 3) := by decide +kernel
theorem dX5_addRule_73 : decode cX5_addRule 73 = .ok (.aastore, 1) := by decide +kernel
theorem dX5_addRule_74 : decode cX5_addRule 74 = .ok (.aload_n 0, 1) := by decide +kernel
theorem dX5_addRule_75 : decode cX5_addRule 75 = .ok (.getfield 29, 3) := by decide +kernel
theorem dX5_addRule_78 : decode cX5_addRule 78 = .ok (.getfield 81, 3) := by decide +kernel
theorem dX5_addRule_81 : decode cX5_addRule 81 = .ok (.iload_n 1, 1) := by decide +kernel
theorem dX5_addRule_82 : decode cX5_addRule 82 = .ok (.iconst 0, 1) := by decide +kernel
theorem dX5_addRule_83 : decode cX5_addRule 83 = .ok (.iastore, 1) := by decide +kernel
theorem dX5_addRule_84 : decode cX5_addRule 84 = .ok (.aload_n 0, 1) := by decide +kernel
theorem dX5_addRule_85 : decode cX5_addRule 85 = .ok (.dup, 1) := by decide +kernel
theorem dX5_addRule_86 : decode cX5_addRule 86 = .ok (.getfield 72, 3) := by decide +kernel
theorem dX5_addRule_89 : decode cX5_addRule 89 = .ok (.iconst 1, 1) := by decide +kernel
theorem dX5_addRule_90 : decode cX5_addRule 90 = .ok (.iadd, 1) := by decide +kernel
theorem dX5_addRule_91 : decode cX5_addRule 91 = .ok (.putfield 72, 3) := by decide +kernel
theorem dX5_addRule_94 : decode cX5_addRule 94 = .ok (.aload_n 0, 1) := by decide +kernel
theorem dX5_addRule_95 : decode cX5_addRule 95 = .ok (.iconst 0, 1) := by decide +kernel
theorem dX5_addRule_96 : decode cX5_addRule 96 = .ok (.putfield 53, 3) := by decide +kernel
theorem dX5_addRule_99 : decode cX5_addRule 99 = .ok (.aload_n 0, 1) := by decide +kernel
theorem dX5_addRule_100 : decode cX5_addRule 100 = .ok (.iconst 0, 1) := by decide +kernel
theorem dX5_addRule_101 : decode cX5_addRule 101 = .ok (.putfield 84, 3) := by decide +kernel
theorem dX5_addRule_104 : decode cX5_addRule 104 = .ok (.iload_n 1, 1) := by decide +kernel
theorem dX5_addRule_105 : decode cX5_addRule 105 = .ok (.ireturn, 1) := by decide +kernel
theorem dX5_removeRule_0 : decode cX5_removeRule 0 = .ok (.aload_n 0, 1) := by decide +kernel
theorem dX5_removeRule_1 : decode cX5_removeRule 1 = .ok (.iload_n 1, 1) := by decide +kernel
theorem dX5_removeRule_2 : decode cX5_removeRule 2 = .ok (.invokevirtual 88, 3) := by decide +kernel
theorem dX5_removeRule_5 : decode cX5_removeRule 5 = .ok (.aload_n 0, 1) := by decide +kernel
theorem dX5_removeRule_6 : decode cX5_removeRule 6 = .ok (.getfield 22, 3) := by decide +kernel
theorem dX5_removeRule_9 : decode cX5_removeRule 9 = .ok (.iload_n 1, 1) := by decide +kernel
theorem dX5_removeRule_10 : decode cX5_removeRule 10 = .ok (.aaload, 1) := by decide +kernel
theorem dX5_removeRule_11 : decode cX5_removeRule 11 = .ok (.astore_n 2, 1) := by decide +kernel
theorem dX5_removeRule_12 : decode cX5_removeRule 12 = .ok (.aload_n 0, 1) := by decide +kernel
theorem dX5_removeRule_13 : decode cX5_removeRule 13 = .ok (.dup, 1) := by decide +kernel
theorem dX5_removeRule_14 : decode cX5_removeRule 14 = .ok (.getfield 72, 3) := by decide +kernel
theorem dX5_removeRule_17 : decode cX5_removeRule 17 = .ok (.iconst 1, 1) := by decide +kernel
theorem dX5_removeRule_18 : decode cX5_removeRule 18 = .ok (.isub, 1) := by decide +kernel
theorem dX5_removeRule_19 : decode cX5_removeRule 19 = .ok (.putfield 72, 3) := by decide +kernel
theorem dX5_removeRule_22 : decode cX5_removeRule 22 = .ok (.iload_n 1, 1) := by decide +kernel
theorem dX5_removeRule_23 : decode cX5_removeRule 23 = .ok (.istore_n 3, 1) := by decide +kernel
theorem dX5_removeRule_24 : decode cX5_removeRule 24 = .ok (.iload_n 3, 1) := by decide +kernel
theorem dX5_removeRule_25 : decode cX5_removeRule 25 = .ok (.aload_n 0, 1) := by decide +kernel
theorem dX5_removeRule_26 : decode cX5_removeRule 26 = .ok (.getfield 72, 3) := by decide +kernel
theorem dX5_removeRule_29 : decode cX5_removeRule 29 = .ok (.if_icmp .ge 43, 3) := by decide +kernel
theorem dX5_removeRule_32 : decode cX5_removeRule 32 = .ok (.aload_n 0, 1) := by decide +kernel
theorem dX5_removeRule_33 : decode cX5_removeRule 33 = .ok (.getfield 22, 3) := by decide +kernel
theorem dX5_removeRule_36 : decode cX5_removeRule 36 = .ok (.iload_n 3, 1) := by decide +kernel
theorem dX5_removeRule_37 : decode cX5_removeRule 37 = .ok (.aload_n 0, 1) := by decide +kernel
theorem dX5_removeRule_38 : decode cX5_removeRule 38 = .ok (.getfield 22, 3) := by decide +kernel
theorem dX5_removeRule_41 : decode cX5_removeRule 41 = .ok (.iload_n 3, 1) := by decide +kernel
theorem dX5_removeRule_42 : decode cX5_removeRule 42 = .ok (.iconst 1, 1) := by decide +kernel
theorem dX5_removeRule_43 : decode cX5_removeRule 43 = .ok (.iadd, 1) := by decide +kernel
theorem dX5_removeRule_44 : decode cX5_removeRule 44 = .ok (.aaload, 1) := by decide +kernel
theorem dX5_removeRule_45 : decode cX5_removeRule 45 = .ok (.aastore, 1) := by decide +kernel
theorem dX5_removeRule_46 : decode cX5_removeRule 46 = .ok (.aload_n 0, 1) := by decide +kernel
theorem dX5_removeRule_47 : decode cX5_removeRule 47 = .ok (.getfield 29, 3) := by decide +kernel
theorem dX5_removeRule_50 : decode cX5_removeRule 50 = .ok (.getfield 81, 3) := by decide +kernel
theorem dX5_removeRule_53 : decode cX5_removeRule 53 = .ok (.iload_n 3, 1) := by decide +kernel
theorem dX5_removeRule_54 : decode cX5_removeRule 54 = .ok (.aload_n 0, 1) := by decide +kernel
theorem dX5_removeRule_55 : decode cX5_removeRule 55 = .ok (.getfield 29, 3) := by decide +kernel
theorem dX5_removeRule_58 : decode cX5_removeRule 58 = .ok (.getfield 81, 3) := by decide +kernel
theorem dX5_removeRule_61 : decode cX5_removeRule 61 = .ok (.iload_n 3, 1) := by decide +kernel
theorem dX5_removeRule_62 : decode cX5_removeRule 62 = .ok (.iconst 1, 1) := by decide +kernel
theorem dX5_removeRule_63 : decode cX5_removeRule 63 = .ok (.iadd, 1) := by decide +kernel
theorem dX5_removeRule_64 : decode cX5_removeRule 64 = .ok (.iaload, 1) := by decide +kernel
theorem dX5_removeRule_65 : decode cX5_removeRule 65 = .ok (.iastore, 1) := by decide +kernel
theorem dX5_removeRule_66 : decode cX5_removeRule 66 = .ok (.iinc 3 1, 3) := by decide +kernel
theorem dX5_removeRule_69 : decode cX5_removeRule 69 = .ok (.goto (-45), 3) := by decide +kernel
theorem dX5_removeRule_72 : decode cX5_removeRule 72 = .ok (.aload_n 0, 1) := by decide +kernel
theorem dX5_removeRule_73 : decode cX5_removeRule 73 = .ok (.getfield 22, 3) := by decide +kernel
theorem dX5_removeRule_76 : decode cX5_removeRule 76 = .ok (.aload_n 0, 1) := by decide +kernel
theorem dX5_removeRule_77 : decode cX5_removeRule 77 = .ok (.getfield 72, 3) := by decide +kernel
theorem dX5_removeRule_80 : decode cX5_removeRule 80 = .ok (.aload_n 2, 1) := by decide +kernel
theorem dX5_removeRule_81 : decode cX5_removeRule 81 = .ok (.aastore, 1) := by decide +kernel
theorem dX5_removeRule_82 : decode cX5_removeRule 82 = .ok (.aload_n 0, 1) := by decide +kernel
theorem dX5_removeRule_83 : decode cX5_removeRule 83 = .ok (.getfield 29, 3) := by decide +kernel
theorem dX5_removeRule_86 : decode cX5_removeRule 86 = .ok (.getfield 92, 3) := by decide +kernel
theorem dX5_removeRule_89 : decode cX5_removeRule 89 = .ok (.iload_n 1, 1) := by decide +kernel
theorem dX5_removeRule_90 : decode cX5_removeRule 90 = .ok (.if_icmp .lt 16, 3) := by decide +kernel
theorem dX5_removeRule_93 : decode cX5_removeRule 93 = .ok (.aload_n 0, 1) := by decide +kernel
theorem dX5_removeRule_94 : decode cX5_removeRule 94 = .ok (.getfield 29, 3) := by decide +kernel
theorem dX5_removeRule_97 : decode cX5_removeRule 97 = .ok (.dup, 1) := by decide +kernel
theorem dX5_removeRule_98 : decode cX5_removeRule 98 = .ok (.getfield 92, 3) := by decide +kernel
theorem dX5_removeRule_101 : decode cX5_removeRule 101 = .ok (.iconst 1, 1) := by decide +kernel
theorem dX5_removeRule_102 : decode cX5_removeRule 102 = .ok (.isub, 1) := by decide +kernel
theorem dX5_removeRule_103 : decode cX5_removeRule 103 = .ok (.putfield 92, 3) := by decide +kernel
theorem dX5_removeRule_106 : decode cX5_removeRule 106 = .ok (.aload_n 0, 1) := by decide +kernel
theorem dX5_removeRule_107 : decode cX5_removeRule 107 = .ok (.iconst 0, 1) := by decide +kernel
theorem dX5_removeRule_108 : decode cX5_removeRule 108 = .ok (.putfield 84, 3) := by decide +kernel
theorem dX5_removeRule_111 : decode cX5_removeRule 111 = .ok (.aload_n 0, 1) := by decide +kernel
theorem dX5_removeRule_112 : decode cX5_removeRule 112 = .ok (.getfield 72, 3) := by decide +kernel
theorem dX5_removeRule_115 : decode cX5_removeRule 115 = .ok (.ireturn, 1) := by decide +kernel
theorem dX5_ruleCount_0 : decode cX5_ruleCount 0 = .ok (.aload_n 0, 1) := by decide +kernel
theorem dX5_ruleCount_1 : decode cX5_ruleCount 1 = .ok (.getfield 72, 3) := by decide +kernel
theorem dX5_ruleCount_4 : decode cX5_ruleCount 4 = .ok (.ireturn, 1) := by decide +kernel
theorem dX5_patternOf_0 : decode cX5_patternOf 0 = .ok (.aload_n 0, 1) := by decide +kernel
theorem dX5_patternOf_1 : decode cX5_patternOf 1 = .ok (.iload_n 1, 1) := by decide +kernel
theorem dX5_patternOf_2 : decode cX5_patternOf 2 = .ok (.invokevirtual 88, 3) := by decide +kernel
theorem dX5_patternOf_5 : decode cX5_patternOf 5 = .ok (.aload_n 0, 1) := by decide +kernel
theorem dX5_patternOf_6 : decode cX5_patternOf 6 = .ok (.getfield 22, 3) := by decide +kernel
theorem dX5_patternOf_9 : decode cX5_patternOf 9 = .ok (.iload_n 1, 1) := by decide +kernel
theorem dX5_patternOf_10 : decode cX5_patternOf 10 = .ok (.aaload, 1) := by decide +kernel
theorem dX5_patternOf_11 : decode cX5_patternOf 11 = .ok (.getfield 95, 3) := by decide +kernel
theorem dX5_patternOf_14 : decode cX5_patternOf 14 = .ok (.ireturn, 1) := by decide +kernel
theorem dX5_setPolicy_0 : decode cX5_setPolicy 0 = .ok (.iload_n 1, 1) := by decide +kernel
theorem dX5_setPolicy_1 : decode cX5_setPolicy 1 = .ok (.ifCond .lt 8, 3) := by decide +kernel
theorem dX5_setPolicy_4 : decode cX5_setPolicy 4 = .ok (.iload_n 1, 1) := by decide +kernel
theorem dX5_setPolicy_5 : decode cX5_setPolicy 5 = .ok (.iconst 2, 1) := by decide +kernel
theorem dX5_setPolicy_6 : decode cX5_setPolicy 6 = .ok (.if_icmp .le 13, 3) := by decide +kernel
theorem dX5_setPolicy_9 : decode cX5_setPolicy 9 = .ok (.new 46, 3) := by decide +kernel
theorem dX5_setPolicy_12 : decode cX5_setPolicy 12 = .ok (.dup, 1) := by decide +kernel
theorem dX5_setPolicy_13 : decode cX5_setPolicy 13 = .ok (.ldc 98, 2) := by decide +kernel
theorem dX5_setPolicy_15 : decode cX5_setPolicy 15 = .ok (.invokespecial 50, 3) := by decide +kernel
theorem dX5_setPolicy_18 : decode cX5_setPolicy 18 = .ok (.athrow, 1) := by decide +kernel
theorem dX5_setPolicy_19 : decode cX5_setPolicy 19 = .ok (.aload_n 0, 1) := by decide +kernel
theorem dX5_setPolicy_20 : decode cX5_setPolicy 20 = .ok (.getfield 100, 3) := by decide +kernel
theorem dX5_setPolicy_23 : decode cX5_setPolicy 23 = .ok (.istore_n 2, 1) := by decide +kernel
theorem dX5_setPolicy_24 : decode cX5_setPolicy 24 = .ok (.aload_n 0, 1) := by decide +kernel
theorem dX5_setPolicy_25 : decode cX5_setPolicy 25 = .ok (.iload_n 1, 1) := by decide +kernel
theorem dX5_setPolicy_26 : decode cX5_setPolicy 26 = .ok (.putfield 100, 3) := by decide +kernel
theorem dX5_setPolicy_29 : decode cX5_setPolicy 29 = .ok (.iload_n 2, 1) := by decide +kernel
theorem dX5_setPolicy_30 : decode cX5_setPolicy 30 = .ok (.ireturn, 1) := by decide +kernel
theorem dX5_send_0 : decode cX5_send 0 = .ok (.iload_n 1, 1) := by decide +kernel
theorem dX5_send_1 : decode cX5_send 1 = .ok (.invokestatic 103, 3) := by decide +kernel
theorem dX5_send_4 : decode cX5_send 4 = .ok (.iload_n 2, 1) := by decide +kernel
theorem dX5_send_5 : decode cX5_send 5 = .ok (.sipush (-9999), 3) := by decide +kernel
theorem dX5_send_8 : decode cX5_send 8 = .ok (.if_icmp .lt 10, 3) := by decide +kernel
theorem dX5_send_11 : decode cX5_send 11 = .ok (.iload_n 2, 1) := by decide +kernel
theorem dX5_send_12 : decode cX5_send 12 = .ok (.sipush 9999, 3) := by decide +kernel
theorem dX5_send_15 : decode cX5_send 15 = .ok (.if_icmp .le 13, 3) := by decide +kernel
theorem dX5_send_18 : decode cX5_send 18 = .ok (.new 46, 3) := by decide +kernel
theorem dX5_send_21 : decode cX5_send 21 = .ok (.dup, 1) := by decide +kernel
theorem dX5_send_22 : decode cX5_send 22 = .ok (.ldc 106, 2) := by decide +kernel
theorem dX5_send_24 : decode cX5_send 24 = .ok (.invokespecial 50, 3) := by decide +kernel
theorem dX5_send_27 : decode cX5_send 27 = .ok (.athrow, 1) := by decide +kernel
theorem dX5_send_28 : decode cX5_send 28 = .ok (.aload_n 0, 1) := by decide +kernel
theorem dX5_send_29 : decode cX5_send 29 = .ok (.getfield 29, 3) := by decide +kernel
theorem dX5_send_32 : decode cX5_send 32 = .ok (.getfield 108, 3) := by decide +kernel
theorem dX5_send_35 : decode cX5_send 35 = .ok (.iload_n 1, 1) := by decide +kernel
theorem dX5_send_36 : decode cX5_send 36 = .ok (.aaload, 1) := by decide +kernel
theorem dX5_send_37 : decode cX5_send 37 = .ok (.astore_n 3, 1) := by decide +kernel
theorem dX5_send_38 : decode cX5_send 38 = .ok (.aload_n 3, 1) := by decide +kernel
theorem dX5_send_39 : decode cX5_send 39 = .ok (.invokevirtual 112, 3) := by decide +kernel
theorem dX5_send_42 : decode cX5_send 42 = .ok (.ifCond .eq 13, 3) := by decide +kernel
theorem dX5_send_45 : decode cX5_send 45 = .ok (.new 57, 3) := by decide +kernel
theorem dX5_send_48 : decode cX5_send 48 = .ok (.dup, 1) := by decide +kernel
theorem dX5_send_49 : decode cX5_send 49 = .ok (.ldc 117, 2) := by decide +kernel
theorem dX5_send_51 : decode cX5_send 51 = .ok (.invokespecial 61, 3) := by decide +kernel
theorem dX5_send_54 : decode cX5_send 54 = .ok (.athrow, 1) := by decide +kernel
theorem dX5_send_55 : decode cX5_send 55 = .ok (.aload_n 0, 1) := by decide +kernel
theorem dX5_send_56 : decode cX5_send 56 = .ok (.getfield 29, 3) := by decide +kernel
theorem dX5_send_59 : decode cX5_send 59 = .ok (.dup, 1) := by decide +kernel
theorem dX5_send_60 : decode cX5_send 60 = .ok (.getfield 119, 3) := by decide +kernel
theorem dX5_send_63 : decode cX5_send 63 = .ok (.iconst 1, 1) := by decide +kernel
theorem dX5_send_64 : decode cX5_send 64 = .ok (.iadd, 1) := by decide +kernel
theorem dX5_send_65 : decode cX5_send 65 = .ok (.putfield 119, 3) := by decide +kernel
theorem dX5_send_68 : decode cX5_send 68 = .ok (.iload_n 1, 1) := by decide +kernel
theorem dX5_send_69 : decode cX5_send 69 = .ok (.iconst 4, 1) := by decide +kernel
theorem dX5_send_70 : decode cX5_send 70 = .ok (.if_icmp .ge 16, 3) := by decide +kernel
theorem dX5_send_73 : decode cX5_send 73 = .ok (.aload_n 0, 1) := by decide +kernel
theorem dX5_send_74 : decode cX5_send 74 = .ok (.getfield 29, 3) := by decide +kernel
theorem dX5_send_77 : decode cX5_send 77 = .ok (.getfield 122, 3) := by decide +kernel
theorem dX5_send_80 : decode cX5_send 80 = .ok (.invokevirtual 126, 3) := by decide +kernel
theorem dX5_send_83 : decode cX5_send 83 = .ok (.goto 4, 3) := by decide +kernel
theorem dX5_send_86 : decode cX5_send 86 = .ok (.iconst (-1), 1) := by decide +kernel
theorem dX5_send_87 : decode cX5_send 87 = .ok (.istore 4, 2) := by decide +kernel
theorem dX5_send_89 : decode cX5_send 89 = .ok (.aload_n 3, 1) := by decide +kernel
theorem dX5_send_90 : decode cX5_send 90 = .ok (.iload_n 2, 1) := by decide +kernel
theorem dX5_send_91 : decode cX5_send 91 = .ok (.aload_n 0, 1) := by decide +kernel
theorem dX5_send_92 : decode cX5_send 92 = .ok (.getfield 29, 3) := by decide +kernel
theorem dX5_send_95 : decode cX5_send 95 = .ok (.getfield 119, 3) := by decide +kernel
theorem dX5_send_98 : decode cX5_send 98 = .ok (.iload 4, 2) := by decide +kernel
theorem dX5_send_100 : decode cX5_send 100 = .ok (.invokevirtual 131, 3) := by decide +kernel
theorem dX5_send_103 : decode cX5_send 103 = .ok (.iload 4, 2) := by decide +kernel
theorem dX5_send_105 : decode cX5_send 105 = .ok (.ireturn, 1) := by decide +kernel
theorem dX5_queueLength_0 : decode cX5_queueLength 0 = .ok (.iload_n 1, 1) := by decide +kernel
theorem dX5_queueLength_1 : decode cX5_queueLength 1 = .ok (.invokestatic 103, 3) := by decide +kernel
theorem dX5_queueLength_4 : decode cX5_queueLength 4 = .ok (.aload_n 0, 1) := by decide +kernel
theorem dX5_queueLength_5 : decode cX5_queueLength 5 = .ok (.getfield 29, 3) := by decide +kernel
theorem dX5_queueLength_8 : decode cX5_queueLength 8 = .ok (.getfield 108, 3) := by decide +kernel
theorem dX5_queueLength_11 : decode cX5_queueLength 11 = .ok (.iload_n 1, 1) := by decide +kernel
theorem dX5_queueLength_12 : decode cX5_queueLength 12 = .ok (.aaload, 1) := by decide +kernel
theorem dX5_queueLength_13 : decode cX5_queueLength 13 = .ok (.getfield 135, 3) := by decide +kernel
theorem dX5_queueLength_16 : decode cX5_queueLength 16 = .ok (.ireturn, 1) := by decide +kernel
theorem dX5_messageAt_0 : decode cX5_messageAt 0 = .ok (.iload_n 1, 1) := by decide +kernel
theorem dX5_messageAt_1 : decode cX5_messageAt 1 = .ok (.invokestatic 103, 3) := by decide +kernel
theorem dX5_messageAt_4 : decode cX5_messageAt 4 = .ok (.aload_n 0, 1) := by decide +kernel
theorem dX5_messageAt_5 : decode cX5_messageAt 5 = .ok (.getfield 29, 3) := by decide +kernel
theorem dX5_messageAt_8 : decode cX5_messageAt 8 = .ok (.getfield 108, 3) := by decide +kernel
theorem dX5_messageAt_11 : decode cX5_messageAt 11 = .ok (.iload_n 1, 1) := by decide +kernel
theorem dX5_messageAt_12 : decode cX5_messageAt 12 = .ok (.aaload, 1) := by decide +kernel
theorem dX5_messageAt_13 : decode cX5_messageAt 13 = .ok (.iload_n 2, 1) := by decide +kernel
theorem dX5_messageAt_14 : decode cX5_messageAt 14 = .ok (.invokevirtual 138, 3) := by decide +kernel
theorem dX5_messageAt_17 : decode cX5_messageAt 17 = .ok (.ifCond .ne 13, 3) := by decide +kernel
theorem dX5_messageAt_20 : decode cX5_messageAt 20 = .ok (.new 142, 3) := by decide +kernel
theorem dX5_messageAt_23 : decode cX5_messageAt 23 = .ok (.dup, 1) := by decide +kernel
theorem dX5_messageAt_24 : decode cX5_messageAt 24 = .ok (.ldc 144, 2) := by decide +kernel
theorem dX5_messageAt_26 : decode cX5_messageAt 26 = .ok (.invokespecial 146, 3) := by decide +kernel
theorem dX5_messageAt_29 : decode cX5_messageAt 29 = .ok (.athrow, 1) := by decide +kernel
theorem dX5_messageAt_30 : decode cX5_messageAt 30 = .ok (.aload_n 0, 1) := by decide +kernel
theorem dX5_messageAt_31 : decode cX5_messageAt 31 = .ok (.getfield 29, 3) := by decide +kernel
theorem dX5_messageAt_34 : decode cX5_messageAt 34 = .ok (.getfield 108, 3) := by decide +kernel
theorem dX5_messageAt_37 : decode cX5_messageAt 37 = .ok (.iload_n 1, 1) := by decide +kernel
theorem dX5_messageAt_38 : decode cX5_messageAt 38 = .ok (.aaload, 1) := by decide +kernel
theorem dX5_messageAt_39 : decode cX5_messageAt 39 = .ok (.iload_n 2, 1) := by decide +kernel
theorem dX5_messageAt_40 : decode cX5_messageAt 40 = .ok (.invokevirtual 147, 3) := by decide +kernel
theorem dX5_messageAt_43 : decode cX5_messageAt 43 = .ok (.ireturn, 1) := by decide +kernel
theorem dX5_waitingChannels_0 : decode cX5_waitingChannels 0 = .ok (.iconst 0, 1) := by decide +kernel
theorem dX5_waitingChannels_1 : decode cX5_waitingChannels 1 = .ok (.istore_n 1, 1) := by decide +kernel
theorem dX5_waitingChannels_2 : decode cX5_waitingChannels 2 = .ok (.iconst 0, 1) := by decide +kernel
theorem dX5_waitingChannels_3 : decode cX5_waitingChannels 3 = .ok (.istore_n 2, 1) := by decide +kernel
theorem dX5_waitingChannels_4 : decode cX5_waitingChannels 4 = .ok (.iload_n 2, 1) := by decide +kernel
theorem dX5_waitingChannels_5 : decode cX5_waitingChannels 5 = .ok (.bipush 8, 2) := by decide +kernel
theorem dX5_waitingChannels_7 : decode cX5_waitingChannels 7 = .ok (.if_icmp .ge 30, 3) := by decide +kernel
theorem dX5_waitingChannels_10 : decode cX5_waitingChannels 10 = .ok (.aload_n 0, 1) := by decide +kernel
theorem dX5_waitingChannels_11 : decode cX5_waitingChannels 11 = .ok (.getfield 29, 3) := by decide +kernel
theorem dX5_waitingChannels_14 : decode cX5_waitingChannels 14 = .ok (.getfield 108, 3) := by decide +kernel
theorem dX5_waitingChannels_17 : decode cX5_waitingChannels 17 = .ok (.iload_n 2, 1) := by decide +kernel
theorem dX5_waitingChannels_18 : decode cX5_waitingChannels 18 = .ok (.aaload, 1) := by decide +kernel
theorem dX5_waitingChannels_19 : decode cX5_waitingChannels 19 = .ok (.getfield 135, 3) := by decide +kernel
theorem dX5_waitingChannels_22 : decode cX5_waitingChannels 22 = .ok (.ifCond .le 9, 3) := by decide +kernel
theorem dX5_waitingChannels_25 : decode cX5_waitingChannels 25 = .ok (.iload_n 1, 1) := by decide +kernel
theorem dX5_waitingChannels_26 : decode cX5_waitingChannels 26 = .ok (.iconst 1, 1) := by decide +kernel
theorem dX5_waitingChannels_27 : decode cX5_waitingChannels 27 = .ok (.iload_n 2, 1) := by decide +kernel
theorem dX5_waitingChannels_28 : decode cX5_waitingChannels 28 = .ok (.ishl, 1) := by decide +kernel
theorem dX5_waitingChannels_29 : decode cX5_waitingChannels 29 = .ok (.ior, 1) := by decide +kernel
theorem dX5_waitingChannels_30 : decode cX5_waitingChannels 30 = .ok (.istore_n 1, 1) := by decide +kernel
theorem dX5_waitingChannels_31 : decode cX5_waitingChannels 31 = .ok (.iinc 2 1, 3) := by decide +kernel
theorem dX5_waitingChannels_34 : decode cX5_waitingChannels 34 = .ok (.goto (-30), 3) := by decide +kernel
theorem dX5_waitingChannels_37 : decode cX5_waitingChannels 37 = .ok (.iload_n 1, 1) := by decide +kernel
theorem dX5_waitingChannels_38 : decode cX5_waitingChannels 38 = .ok (.ireturn, 1) := by decide +kernel
theorem dX5_readyRules_0 : decode cX5_readyRules 0 = .ok (.aload_n 0, 1) := by decide +kernel
theorem dX5_readyRules_1 : decode cX5_readyRules 1 = .ok (.invokevirtual 151, 3) := by decide +kernel
theorem dX5_readyRules_4 : decode cX5_readyRules 4 = .ok (.istore_n 1, 1) := by decide +kernel
theorem dX5_readyRules_5 : decode cX5_readyRules 5 = .ok (.iconst 0, 1) := by decide +kernel
theorem dX5_readyRules_6 : decode cX5_readyRules 6 = .ok (.istore_n 2, 1) := by decide +kernel
theorem dX5_readyRules_7 : decode cX5_readyRules 7 = .ok (.iconst 0, 1) := by decide +kernel
theorem dX5_readyRules_8 : decode cX5_readyRules 8 = .ok (.istore_n 3, 1) := by decide +kernel
theorem dX5_readyRules_9 : decode cX5_readyRules 9 = .ok (.iload_n 3, 1) := by decide +kernel
theorem dX5_readyRules_10 : decode cX5_readyRules 10 = .ok (.aload_n 0, 1) := by decide +kernel
theorem dX5_readyRules_11 : decode cX5_readyRules 11 = .ok (.getfield 72, 3) := by decide +kernel
theorem dX5_readyRules_14 : decode cX5_readyRules 14 = .ok (.if_icmp .ge 28, 3) := by decide +kernel
theorem dX5_readyRules_17 : decode cX5_readyRules 17 = .ok (.aload_n 0, 1) := by decide +kernel
theorem dX5_readyRules_18 : decode cX5_readyRules 18 = .ok (.getfield 22, 3) := by decide +kernel
theorem dX5_readyRules_21 : decode cX5_readyRules 21 = .ok (.iload_n 3, 1) := by decide +kernel
theorem dX5_readyRules_22 : decode cX5_readyRules 22 = .ok (.aaload, 1) := by decide +kernel
theorem dX5_readyRules_23 : decode cX5_readyRules 23 = .ok (.iload_n 1, 1) := by decide +kernel
theorem dX5_readyRules_24 : decode cX5_readyRules 24 = .ok (.invokevirtual 154, 3) := by decide +kernel
theorem dX5_readyRules_27 : decode cX5_readyRules 27 = .ok (.ifCond .eq 9, 3) := by decide +kernel
theorem dX5_readyRules_30 : decode cX5_readyRules 30 = .ok (.iload_n 2, 1) := by decide +kernel
theorem dX5_readyRules_31 : decode cX5_readyRules 31 = .ok (.iconst 1, 1) := by decide +kernel
theorem dX5_readyRules_32 : decode cX5_readyRules 32 = .ok (.iload_n 3, 1) := by decide +kernel
theorem dX5_readyRules_33 : decode cX5_readyRules 33 = .ok (.ishl, 1) := by decide +kernel
theorem dX5_readyRules_34 : decode cX5_readyRules 34 = .ok (.ior, 1) := by decide +kernel
theorem dX5_readyRules_35 : decode cX5_readyRules 35 = .ok (.istore_n 2, 1) := by decide +kernel
theorem dX5_readyRules_36 : decode cX5_readyRules 36 = .ok (.iinc 3 1, 3) := by decide +kernel
theorem dX5_readyRules_39 : decode cX5_readyRules 39 = .ok (.goto (-30), 3) := by decide +kernel
theorem dX5_readyRules_42 : decode cX5_readyRules 42 = .ok (.iload_n 2, 1) := by decide +kernel
theorem dX5_readyRules_43 : decode cX5_readyRules 43 = .ok (.ireturn, 1) := by decide +kernel
theorem dX5_enabledRules_0 : decode cX5_enabledRules 0 = .ok (.iconst 0, 1) := by decide +kernel
theorem dX5_enabledRules_1 : decode cX5_enabledRules 1 = .ok (.istore_n 1, 1) := by decide +kernel
theorem dX5_enabledRules_2 : decode cX5_enabledRules 2 = .ok (.iconst 0, 1) := by decide +kernel
theorem dX5_enabledRules_3 : decode cX5_enabledRules 3 = .ok (.istore_n 2, 1) := by decide +kernel
theorem dX5_enabledRules_4 : decode cX5_enabledRules 4 = .ok (.iload_n 2, 1) := by decide +kernel
theorem dX5_enabledRules_5 : decode cX5_enabledRules 5 = .ok (.aload_n 0, 1) := by decide +kernel
theorem dX5_enabledRules_6 : decode cX5_enabledRules 6 = .ok (.getfield 72, 3) := by decide +kernel
theorem dX5_enabledRules_9 : decode cX5_enabledRules 9 = .ok (.if_icmp .ge 28, 3) := by decide +kernel
theorem dX5_enabledRules_12 : decode cX5_enabledRules 12 = .ok (.aload_n 0, 1) := by decide +kernel
theorem dX5_enabledRules_13 : decode cX5_enabledRules 13 = .ok (.aload_n 0, 1) := by decide +kernel
theorem dX5_enabledRules_14 : decode cX5_enabledRules 14 = .ok (.getfield 22, 3) := by decide +kernel
theorem dX5_enabledRules_17 : decode cX5_enabledRules 17 = .ok (.iload_n 2, 1) := by decide +kernel
theorem dX5_enabledRules_18 : decode cX5_enabledRules 18 = .ok (.aaload, 1) := by decide +kernel
theorem dX5_enabledRules_19 : decode cX5_enabledRules 19 = .ok (.invokevirtual 157, 3) := by decide +kernel
theorem dX5_enabledRules_22 : decode cX5_enabledRules 22 = .ok (.ifCond .eq 9, 3) := by decide +kernel
theorem dX5_enabledRules_25 : decode cX5_enabledRules 25 = .ok (.iload_n 1, 1) := by decide +kernel
theorem dX5_enabledRules_26 : decode cX5_enabledRules 26 = .ok (.iconst 1, 1) := by decide +kernel
theorem dX5_enabledRules_27 : decode cX5_enabledRules 27 = .ok (.iload_n 2, 1) := by decide +kernel
theorem dX5_enabledRules_28 : decode cX5_enabledRules 28 = .ok (.ishl, 1) := by decide +kernel
theorem dX5_enabledRules_29 : decode cX5_enabledRules 29 = .ok (.ior, 1) := by decide +kernel
theorem dX5_enabledRules_30 : decode cX5_enabledRules 30 = .ok (.istore_n 1, 1) := by decide +kernel
theorem dX5_enabledRules_31 : decode cX5_enabledRules 31 = .ok (.iinc 2 1, 3) := by decide +kernel
theorem dX5_enabledRules_34 : decode cX5_enabledRules 34 = .ok (.goto (-30), 3) := by decide +kernel
theorem dX5_enabledRules_37 : decode cX5_enabledRules 37 = .ok (.iload_n 1, 1) := by decide +kernel
theorem dX5_enabledRules_38 : decode cX5_enabledRules 38 = .ok (.ireturn, 1) := by decide +kernel
theorem dX5_matchOf_0 : decode cX5_matchOf 0 = .ok (.aload_n 0, 1) := by decide +kernel
theorem dX5_matchOf_1 : decode cX5_matchOf 1 = .ok (.iload_n 1, 1) := by decide +kernel
theorem dX5_matchOf_2 : decode cX5_matchOf 2 = .ok (.invokevirtual 88, 3) := by decide +kernel
theorem dX5_matchOf_5 : decode cX5_matchOf 5 = .ok (.iload_n 2, 1) := by decide +kernel
theorem dX5_matchOf_6 : decode cX5_matchOf 6 = .ok (.invokestatic 161, 3) := by decide +kernel
theorem dX5_matchOf_9 : decode cX5_matchOf 9 = .ok (.ifCond .eq 16, 3) := by decide +kernel
theorem dX5_matchOf_12 : decode cX5_matchOf 12 = .ok (.aload_n 0, 1) := by decide +kernel
theorem dX5_matchOf_13 : decode cX5_matchOf 13 = .ok (.getfield 22, 3) := by decide +kernel
theorem dX5_matchOf_16 : decode cX5_matchOf 16 = .ok (.iload_n 1, 1) := by decide +kernel
theorem dX5_matchOf_17 : decode cX5_matchOf 17 = .ok (.aaload, 1) := by decide +kernel
theorem dX5_matchOf_18 : decode cX5_matchOf 18 = .ok (.iload_n 2, 1) := by decide +kernel
theorem dX5_matchOf_19 : decode cX5_matchOf 19 = .ok (.invokevirtual 164, 3) := by decide +kernel
theorem dX5_matchOf_22 : decode cX5_matchOf 22 = .ok (.ifCond .ne 13, 3) := by decide +kernel
theorem dX5_matchOf_25 : decode cX5_matchOf 25 = .ok (.new 46, 3) := by decide +kernel
theorem dX5_matchOf_28 : decode cX5_matchOf 28 = .ok (.dup, 1) := by decide +kernel
theorem dX5_matchOf_29 : decode cX5_matchOf 29 = .ok (.ldc 167, 2) := by decide +kernel
theorem dX5_matchOf_31 : decode cX5_matchOf 31 = .ok (.invokespecial 50, 3) := by decide +kernel
theorem dX5_matchOf_34 : decode cX5_matchOf 34 = .ok (.athrow, 1) := by decide +kernel
theorem dX5_matchOf_35 : decode cX5_matchOf 35 = .ok (.aload_n 0, 1) := by decide +kernel
theorem dX5_matchOf_36 : decode cX5_matchOf 36 = .ok (.aload_n 0, 1) := by decide +kernel
theorem dX5_matchOf_37 : decode cX5_matchOf 37 = .ok (.getfield 22, 3) := by decide +kernel
theorem dX5_matchOf_40 : decode cX5_matchOf 40 = .ok (.iload_n 1, 1) := by decide +kernel
theorem dX5_matchOf_41 : decode cX5_matchOf 41 = .ok (.aaload, 1) := by decide +kernel
theorem dX5_matchOf_42 : decode cX5_matchOf 42 = .ok (.invokevirtual 169, 3) := by decide +kernel
theorem dX5_matchOf_45 : decode cX5_matchOf 45 = .ok (.ifCond .eq 12, 3) := by decide +kernel
theorem dX5_matchOf_48 : decode cX5_matchOf 48 = .ok (.aload_n 0, 1) := by decide +kernel
theorem dX5_matchOf_49 : decode cX5_matchOf 49 = .ok (.getfield 36, 3) := by decide +kernel
end
section
theorem dX5_matchOf_52 : decode cX5_matchOf 52 = .ok (.iload_n 2, 1) := by decide +kernel
theorem dX5_matchOf_53 : decode cX5_matchOf 53 = .ok (.iaload, 1) := by decide +kernel
theorem dX5_matchOf_54 : decode cX5_matchOf 54 = .ok (.goto 4, 3) := by decide +kernel
theorem dX5_matchOf_57 : decode cX5_matchOf 57 = .ok (.iconst (-1), 1) := by decide +kernel
theorem dX5_matchOf_58 : decode cX5_matchOf 58 = .ok (.ireturn, 1) := by decide +kernel
theorem dX5_nextRule_0 : decode cX5_nextRule 0 = .ok (.aload_n 0, 1) := by decide +kernel
theorem dX5_nextRule_1 : decode cX5_nextRule 1 = .ok (.getfield 100, 3) := by decide +kernel
theorem dX5_nextRule_4 : decode cX5_nextRule 4 = .ok (.iconst 1, 1) := by decide +kernel
theorem dX5_nextRule_5 : decode cX5_nextRule 5 = .ok (.if_icmp .ne 15, 3) := by decide +kernel
theorem dX5_nextRule_8 : decode cX5_nextRule 8 = .ok (.aload_n 0, 1) := by decide +kernel
theorem dX5_nextRule_9 : decode cX5_nextRule 9 = .ok (.getfield 29, 3) := by decide +kernel
theorem dX5_nextRule_12 : decode cX5_nextRule 12 = .ok (.getfield 92, 3) := by decide +kernel
theorem dX5_nextRule_15 : decode cX5_nextRule 15 = .ok (.iconst 1, 1) := by decide +kernel
theorem dX5_nextRule_16 : decode cX5_nextRule 16 = .ok (.iadd, 1) := by decide +kernel
theorem dX5_nextRule_17 : decode cX5_nextRule 17 = .ok (.goto 4, 3) := by decide +kernel
theorem dX5_nextRule_20 : decode cX5_nextRule 20 = .ok (.iconst 0, 1) := by decide +kernel
theorem dX5_nextRule_21 : decode cX5_nextRule 21 = .ok (.istore_n 1, 1) := by decide +kernel
theorem dX5_nextRule_22 : decode cX5_nextRule 22 = .ok (.iconst (-1), 1) := by decide +kernel
theorem dX5_nextRule_23 : decode cX5_nextRule 23 = .ok (.istore_n 2, 1) := by decide +kernel
theorem dX5_nextRule_24 : decode cX5_nextRule 24 = .ok (.iconst 0, 1) := by decide +kernel
theorem dX5_nextRule_25 : decode cX5_nextRule 25 = .ok (.istore_n 3, 1) := by decide +kernel
theorem dX5_nextRule_26 : decode cX5_nextRule 26 = .ok (.iload_n 3, 1) := by decide +kernel
theorem dX5_nextRule_27 : decode cX5_nextRule 27 = .ok (.aload_n 0, 1) := by decide +kernel
theorem dX5_nextRule_28 : decode cX5_nextRule 28 = .ok (.getfield 72, 3) := by decide +kernel
theorem dX5_nextRule_31 : decode cX5_nextRule 31 = .ok (.if_icmp .ge 74, 3) := by decide +kernel
theorem dX5_nextRule_34 : decode cX5_nextRule 34 = .ok (.iload_n 1, 1) := by decide +kernel
theorem dX5_nextRule_35 : decode cX5_nextRule 35 = .ok (.iload_n 3, 1) := by decide +kernel
theorem dX5_nextRule_36 : decode cX5_nextRule 36 = .ok (.iadd, 1) := by decide +kernel
theorem dX5_nextRule_37 : decode cX5_nextRule 37 = .ok (.aload_n 0, 1) := by decide +kernel
theorem dX5_nextRule_38 : decode cX5_nextRule 38 = .ok (.getfield 72, 3) := by decide +kernel
theorem dX5_nextRule_41 : decode cX5_nextRule 41 = .ok (.irem, 1) := by decide +kernel
theorem dX5_nextRule_42 : decode cX5_nextRule 42 = .ok (.istore 4, 2) := by decide +kernel
theorem dX5_nextRule_44 : decode cX5_nextRule 44 = .ok (.aload_n 0, 1) := by decide +kernel
theorem dX5_nextRule_45 : decode cX5_nextRule 45 = .ok (.aload_n 0, 1) := by decide +kernel
theorem dX5_nextRule_46 : decode cX5_nextRule 46 = .ok (.getfield 22, 3) := by decide +kernel
theorem dX5_nextRule_49 : decode cX5_nextRule 49 = .ok (.iload 4, 2) := by decide +kernel
theorem dX5_nextRule_51 : decode cX5_nextRule 51 = .ok (.aaload, 1) := by decide +kernel
theorem dX5_nextRule_52 : decode cX5_nextRule 52 = .ok (.invokevirtual 157, 3) := by decide +kernel
theorem dX5_nextRule_55 : decode cX5_nextRule 55 = .ok (.ifCond .eq 44, 3) := by decide +kernel
theorem dX5_nextRule_58 : decode cX5_nextRule 58 = .ok (.aload_n 0, 1) := by decide +kernel
theorem dX5_nextRule_59 : decode cX5_nextRule 59 = .ok (.getfield 100, 3) := by decide +kernel
theorem dX5_nextRule_62 : decode cX5_nextRule 62 = .ok (.iconst 2, 1) := by decide +kernel
theorem dX5_nextRule_63 : decode cX5_nextRule 63 = .ok (.if_icmp .eq 6, 3) := by decide +kernel
theorem dX5_nextRule_66 : decode cX5_nextRule 66 = .ok (.iload 4, 2) := by decide +kernel
theorem dX5_nextRule_68 : decode cX5_nextRule 68 = .ok (.ireturn, 1) := by decide +kernel
theorem dX5_nextRule_69 : decode cX5_nextRule 69 = .ok (.iload_n 2, 1) := by decide +kernel
theorem dX5_nextRule_70 : decode cX5_nextRule 70 = .ok (.iconst (-1), 1) := by decide +kernel
theorem dX5_nextRule_71 : decode cX5_nextRule 71 = .ok (.if_icmp .eq 25, 3) := by decide +kernel
theorem dX5_nextRule_74 : decode cX5_nextRule 74 = .ok (.aload_n 0, 1) := by decide +kernel
theorem dX5_nextRule_75 : decode cX5_nextRule 75 = .ok (.getfield 29, 3) := by decide +kernel
theorem dX5_nextRule_78 : decode cX5_nextRule 78 = .ok (.getfield 81, 3) := by decide +kernel
theorem dX5_nextRule_81 : decode cX5_nextRule 81 = .ok (.iload 4, 2) := by decide +kernel
theorem dX5_nextRule_83 : decode cX5_nextRule 83 = .ok (.iaload, 1) := by decide +kernel
theorem dX5_nextRule_84 : decode cX5_nextRule 84 = .ok (.aload_n 0, 1) := by decide +kernel
theorem dX5_nextRule_85 : decode cX5_nextRule 85 = .ok (.getfield 29, 3) := by decide +kernel
theorem dX5_nextRule_88 : decode cX5_nextRule 88 = .ok (.getfield 81, 3) := by decide +kernel
theorem dX5_nextRule_91 : decode cX5_nextRule 91 = .ok (.iload_n 2, 1) := by decide +kernel
theorem dX5_nextRule_92 : decode cX5_nextRule 92 = .ok (.iaload, 1) := by decide +kernel
theorem dX5_nextRule_93 : decode cX5_nextRule 93 = .ok (.if_icmp .ge 6, 3) := by decide +kernel
theorem dX5_nextRule_96 : decode cX5_nextRule 96 = .ok (.iload 4, 2) := by decide +kernel
theorem dX5_nextRule_98 : decode cX5_nextRule 98 = .ok (.istore_n 2, 1) := by decide +kernel
theorem dX5_nextRule_99 : decode cX5_nextRule 99 = .ok (.iinc 3 1, 3) := by decide +kernel
theorem dX5_nextRule_102 : decode cX5_nextRule 102 = .ok (.goto (-76), 3) := by decide +kernel
theorem dX5_nextRule_105 : decode cX5_nextRule 105 = .ok (.iload_n 2, 1) := by decide +kernel
theorem dX5_nextRule_106 : decode cX5_nextRule 106 = .ok (.ireturn, 1) := by decide +kernel
theorem dX5_fire_0 : decode cX5_fire 0 = .ok (.aload_n 0, 1) := by decide +kernel
theorem dX5_fire_1 : decode cX5_fire 1 = .ok (.invokevirtual 172, 3) := by decide +kernel
theorem dX5_fire_4 : decode cX5_fire 4 = .ok (.istore_n 1, 1) := by decide +kernel
theorem dX5_fire_5 : decode cX5_fire 5 = .ok (.iload_n 1, 1) := by decide +kernel
theorem dX5_fire_6 : decode cX5_fire 6 = .ok (.iconst (-1), 1) := by decide +kernel
theorem dX5_fire_7 : decode cX5_fire 7 = .ok (.if_icmp .eq 8, 3) := by decide +kernel
theorem dX5_fire_10 : decode cX5_fire 10 = .ok (.aload_n 0, 1) := by decide +kernel
theorem dX5_fire_11 : decode cX5_fire 11 = .ok (.iload_n 1, 1) := by decide +kernel
theorem dX5_fire_12 : decode cX5_fire 12 = .ok (.invokevirtual 175, 3) := by decide +kernel
theorem dX5_fire_15 : decode cX5_fire 15 = .ok (.iload_n 1, 1) := by decide +kernel
theorem dX5_fire_16 : decode cX5_fire 16 = .ok (.ireturn, 1) := by decide +kernel
theorem dX5_fireRule_0 : decode cX5_fireRule 0 = .ok (.aload_n 0, 1) := by decide +kernel
theorem dX5_fireRule_1 : decode cX5_fireRule 1 = .ok (.iload_n 1, 1) := by decide +kernel
theorem dX5_fireRule_2 : decode cX5_fireRule 2 = .ok (.invokevirtual 88, 3) := by decide +kernel
theorem dX5_fireRule_5 : decode cX5_fireRule 5 = .ok (.aload_n 0, 1) := by decide +kernel
theorem dX5_fireRule_6 : decode cX5_fireRule 6 = .ok (.aload_n 0, 1) := by decide +kernel
theorem dX5_fireRule_7 : decode cX5_fireRule 7 = .ok (.getfield 22, 3) := by decide +kernel
theorem dX5_fireRule_10 : decode cX5_fireRule 10 = .ok (.iload_n 1, 1) := by decide +kernel
theorem dX5_fireRule_11 : decode cX5_fireRule 11 = .ok (.aaload, 1) := by decide +kernel
theorem dX5_fireRule_12 : decode cX5_fireRule 12 = .ok (.invokevirtual 157, 3) := by decide +kernel
theorem dX5_fireRule_15 : decode cX5_fireRule 15 = .ok (.ifCond .ne 13, 3) := by decide +kernel
theorem dX5_fireRule_18 : decode cX5_fireRule 18 = .ok (.new 57, 3) := by decide +kernel
theorem dX5_fireRule_21 : decode cX5_fireRule 21 = .ok (.dup, 1) := by decide +kernel
theorem dX5_fireRule_22 : decode cX5_fireRule 22 = .ok (.ldc 178, 2) := by decide +kernel
theorem dX5_fireRule_24 : decode cX5_fireRule 24 = .ok (.invokespecial 61, 3) := by decide +kernel
theorem dX5_fireRule_27 : decode cX5_fireRule 27 = .ok (.athrow, 1) := by decide +kernel
theorem dX5_fireRule_28 : decode cX5_fireRule 28 = .ok (.aload_n 0, 1) := by decide +kernel
theorem dX5_fireRule_29 : decode cX5_fireRule 29 = .ok (.iload_n 1, 1) := by decide +kernel
theorem dX5_fireRule_30 : decode cX5_fireRule 30 = .ok (.invokevirtual 175, 3) := by decide +kernel
theorem dX5_fireRule_33 : decode cX5_fireRule 33 = .ok (.aload_n 0, 1) := by decide +kernel
theorem dX5_fireRule_34 : decode cX5_fireRule 34 = .ok (.getfield 29, 3) := by decide +kernel
theorem dX5_fireRule_37 : decode cX5_fireRule 37 = .ok (.getfield 81, 3) := by decide +kernel
theorem dX5_fireRule_40 : decode cX5_fireRule 40 = .ok (.iload_n 1, 1) := by decide +kernel
theorem dX5_fireRule_41 : decode cX5_fireRule 41 = .ok (.iaload, 1) := by decide +kernel
theorem dX5_fireRule_42 : decode cX5_fireRule 42 = .ok (.ireturn, 1) := by decide +kernel
theorem dX5_run_0 : decode cX5_run 0 = .ok (.iload_n 1, 1) := by decide +kernel
theorem dX5_run_1 : decode cX5_run 1 = .ok (.iconst 1, 1) := by decide +kernel
theorem dX5_run_2 : decode cX5_run 2 = .ok (.if_icmp .lt 9, 3) := by decide +kernel
theorem dX5_run_5 : decode cX5_run 5 = .ok (.iload_n 1, 1) := by decide +kernel
theorem dX5_run_6 : decode cX5_run 6 = .ok (.bipush 100, 2) := by decide +kernel
theorem dX5_run_8 : decode cX5_run 8 = .ok (.if_icmp .le 13, 3) := by decide +kernel
theorem dX5_run_11 : decode cX5_run 11 = .ok (.new 46, 3) := by decide +kernel
theorem dX5_run_14 : decode cX5_run 14 = .ok (.dup, 1) := by decide +kernel
theorem dX5_run_15 : decode cX5_run 15 = .ok (.ldc 180, 2) := by decide +kernel
theorem dX5_run_17 : decode cX5_run 17 = .ok (.invokespecial 50, 3) := by decide +kernel
theorem dX5_run_20 : decode cX5_run 20 = .ok (.athrow, 1) := by decide +kernel
theorem dX5_run_21 : decode cX5_run 21 = .ok (.iconst 0, 1) := by decide +kernel
theorem dX5_run_22 : decode cX5_run 22 = .ok (.istore_n 2, 1) := by decide +kernel
theorem dX5_run_23 : decode cX5_run 23 = .ok (.iload_n 2, 1) := by decide +kernel
theorem dX5_run_24 : decode cX5_run 24 = .ok (.iload_n 1, 1) := by decide +kernel
theorem dX5_run_25 : decode cX5_run 25 = .ok (.if_icmp .ge 17, 3) := by decide +kernel
theorem dX5_run_28 : decode cX5_run 28 = .ok (.aload_n 0, 1) := by decide +kernel
theorem dX5_run_29 : decode cX5_run 29 = .ok (.invokevirtual 182, 3) := by decide +kernel
theorem dX5_run_32 : decode cX5_run 32 = .ok (.iconst (-1), 1) := by decide +kernel
theorem dX5_run_33 : decode cX5_run 33 = .ok (.if_icmp .eq 9, 3) := by decide +kernel
theorem dX5_run_36 : decode cX5_run 36 = .ok (.iinc 2 1, 3) := by decide +kernel
theorem dX5_run_39 : decode cX5_run 39 = .ok (.goto (-16), 3) := by decide +kernel
theorem dX5_run_42 : decode cX5_run 42 = .ok (.iload_n 2, 1) := by decide +kernel
theorem dX5_run_43 : decode cX5_run 43 = .ok (.ireturn, 1) := by decide +kernel
theorem dX5_isStuck_0 : decode cX5_isStuck 0 = .ok (.aload_n 0, 1) := by decide +kernel
theorem dX5_isStuck_1 : decode cX5_isStuck 1 = .ok (.invokevirtual 151, 3) := by decide +kernel
theorem dX5_isStuck_4 : decode cX5_isStuck 4 = .ok (.ifCond .eq 14, 3) := by decide +kernel
theorem dX5_isStuck_7 : decode cX5_isStuck 7 = .ok (.aload_n 0, 1) := by decide +kernel
theorem dX5_isStuck_8 : decode cX5_isStuck 8 = .ok (.invokevirtual 185, 3) := by decide +kernel
theorem dX5_isStuck_11 : decode cX5_isStuck 11 = .ok (.ifCond .ne 7, 3) := by decide +kernel
theorem dX5_isStuck_14 : decode cX5_isStuck 14 = .ok (.iconst 1, 1) := by decide +kernel
theorem dX5_isStuck_15 : decode cX5_isStuck 15 = .ok (.goto 4, 3) := by decide +kernel
theorem dX5_isStuck_18 : decode cX5_isStuck 18 = .ok (.iconst 0, 1) := by decide +kernel
theorem dX5_isStuck_19 : decode cX5_isStuck 19 = .ok (.ireturn, 1) := by decide +kernel
theorem dX5_ticketState_0 : decode cX5_ticketState 0 = .ok (.aload_n 0, 1) := by decide +kernel
theorem dX5_ticketState_1 : decode cX5_ticketState 1 = .ok (.iload_n 1, 1) := by decide +kernel
theorem dX5_ticketState_2 : decode cX5_ticketState 2 = .ok (.invokevirtual 188, 3) := by decide +kernel
theorem dX5_ticketState_5 : decode cX5_ticketState 5 = .ok (.aload_n 0, 1) := by decide +kernel
theorem dX5_ticketState_6 : decode cX5_ticketState 6 = .ok (.getfield 29, 3) := by decide +kernel
theorem dX5_ticketState_9 : decode cX5_ticketState 9 = .ok (.getfield 122, 3) := by decide +kernel
theorem dX5_ticketState_12 : decode cX5_ticketState 12 = .ok (.iload_n 1, 1) := by decide +kernel
theorem dX5_ticketState_13 : decode cX5_ticketState 13 = .ok (.invokevirtual 191, 3) := by decide +kernel
theorem dX5_ticketState_16 : decode cX5_ticketState 16 = .ok (.ireturn, 1) := by decide +kernel
theorem dX5_replyOf_0 : decode cX5_replyOf 0 = .ok (.aload_n 0, 1) := by decide +kernel
theorem dX5_replyOf_1 : decode cX5_replyOf 1 = .ok (.iload_n 1, 1) := by decide +kernel
theorem dX5_replyOf_2 : decode cX5_replyOf 2 = .ok (.invokevirtual 188, 3) := by decide +kernel
theorem dX5_replyOf_5 : decode cX5_replyOf 5 = .ok (.aload_n 0, 1) := by decide +kernel
theorem dX5_replyOf_6 : decode cX5_replyOf 6 = .ok (.getfield 29, 3) := by decide +kernel
theorem dX5_replyOf_9 : decode cX5_replyOf 9 = .ok (.getfield 122, 3) := by decide +kernel
theorem dX5_replyOf_12 : decode cX5_replyOf 12 = .ok (.iload_n 1, 1) := by decide +kernel
theorem dX5_replyOf_13 : decode cX5_replyOf 13 = .ok (.invokevirtual 191, 3) := by decide +kernel
theorem dX5_replyOf_16 : decode cX5_replyOf 16 = .ok (.iconst 1, 1) := by decide +kernel
theorem dX5_replyOf_17 : decode cX5_replyOf 17 = .ok (.if_icmp .eq 13, 3) := by decide +kernel
theorem dX5_replyOf_20 : decode cX5_replyOf 20 = .ok (.new 57, 3) := by decide +kernel
theorem dX5_replyOf_23 : decode cX5_replyOf 23 = .ok (.dup, 1) := by decide +kernel
theorem dX5_replyOf_24 : decode cX5_replyOf 24 = .ok (.ldc 194, 2) := by decide +kernel
theorem dX5_replyOf_26 : decode cX5_replyOf 26 = .ok (.invokespecial 61, 3) := by decide +kernel
theorem dX5_replyOf_29 : decode cX5_replyOf 29 = .ok (.athrow, 1) := by decide +kernel
theorem dX5_replyOf_30 : decode cX5_replyOf 30 = .ok (.aload_n 0, 1) := by decide +kernel
theorem dX5_replyOf_31 : decode cX5_replyOf 31 = .ok (.getfield 29, 3) := by decide +kernel
theorem dX5_replyOf_34 : decode cX5_replyOf 34 = .ok (.getfield 122, 3) := by decide +kernel
theorem dX5_replyOf_37 : decode cX5_replyOf 37 = .ok (.iload_n 1, 1) := by decide +kernel
theorem dX5_replyOf_38 : decode cX5_replyOf 38 = .ok (.invokevirtual 196, 3) := by decide +kernel
theorem dX5_replyOf_41 : decode cX5_replyOf 41 = .ok (.ireturn, 1) := by decide +kernel
theorem dX5_firings_0 : decode cX5_firings 0 = .ok (.aload_n 0, 1) := by decide +kernel
theorem dX5_firings_1 : decode cX5_firings 1 = .ok (.iload_n 1, 1) := by decide +kernel
theorem dX5_firings_2 : decode cX5_firings 2 = .ok (.invokevirtual 88, 3) := by decide +kernel
theorem dX5_firings_5 : decode cX5_firings 5 = .ok (.aload_n 0, 1) := by decide +kernel
theorem dX5_firings_6 : decode cX5_firings 6 = .ok (.getfield 29, 3) := by decide +kernel
theorem dX5_firings_9 : decode cX5_firings 9 = .ok (.getfield 81, 3) := by decide +kernel
theorem dX5_firings_12 : decode cX5_firings 12 = .ok (.iload_n 1, 1) := by decide +kernel
theorem dX5_firings_13 : decode cX5_firings 13 = .ok (.iaload, 1) := by decide +kernel
theorem dX5_firings_14 : decode cX5_firings 14 = .ok (.ireturn, 1) := by decide +kernel
theorem dX5_consumed_0 : decode cX5_consumed 0 = .ok (.iload_n 1, 1) := by decide +kernel
theorem dX5_consumed_1 : decode cX5_consumed 1 = .ok (.invokestatic 103, 3) := by decide +kernel
theorem dX5_consumed_4 : decode cX5_consumed 4 = .ok (.aload_n 0, 1) := by decide +kernel
theorem dX5_consumed_5 : decode cX5_consumed 5 = .ok (.getfield 29, 3) := by decide +kernel
theorem dX5_consumed_8 : decode cX5_consumed 8 = .ok (.getfield 108, 3) := by decide +kernel
theorem dX5_consumed_11 : decode cX5_consumed 11 = .ok (.iload_n 1, 1) := by decide +kernel
theorem dX5_consumed_12 : decode cX5_consumed 12 = .ok (.aaload, 1) := by decide +kernel
theorem dX5_consumed_13 : decode cX5_consumed 13 = .ok (.getfield 199, 3) := by decide +kernel
theorem dX5_consumed_16 : decode cX5_consumed 16 = .ok (.ireturn, 1) := by decide +kernel
theorem dX5_meanWait_0 : decode cX5_meanWait 0 = .ok (.iload_n 1, 1) := by decide +kernel
theorem dX5_meanWait_1 : decode cX5_meanWait 1 = .ok (.invokestatic 103, 3) := by decide +kernel
theorem dX5_meanWait_4 : decode cX5_meanWait 4 = .ok (.aload_n 0, 1) := by decide +kernel
theorem dX5_meanWait_5 : decode cX5_meanWait 5 = .ok (.getfield 29, 3) := by decide +kernel
theorem dX5_meanWait_8 : decode cX5_meanWait 8 = .ok (.getfield 108, 3) := by decide +kernel
theorem dX5_meanWait_11 : decode cX5_meanWait 11 = .ok (.iload_n 1, 1) := by decide +kernel
theorem dX5_meanWait_12 : decode cX5_meanWait 12 = .ok (.aaload, 1) := by decide +kernel
theorem dX5_meanWait_13 : decode cX5_meanWait 13 = .ok (.astore_n 2, 1) := by decide +kernel
theorem dX5_meanWait_14 : decode cX5_meanWait 14 = .ok (.aload_n 2, 1) := by decide +kernel
theorem dX5_meanWait_15 : decode cX5_meanWait 15 = .ok (.getfield 199, 3) := by decide +kernel
theorem dX5_meanWait_18 : decode cX5_meanWait 18 = .ok (.ifCond .ne 5, 3) := by decide +kernel
theorem dX5_meanWait_21 : decode cX5_meanWait 21 = .ok (.dconst 0, 1) := by decide +kernel
theorem dX5_meanWait_22 : decode cX5_meanWait 22 = .ok (.dreturn, 1) := by decide +kernel
theorem dX5_meanWait_23 : decode cX5_meanWait 23 = .ok (.aload_n 2, 1) := by decide +kernel
theorem dX5_meanWait_24 : decode cX5_meanWait 24 = .ok (.getfield 202, 3) := by decide +kernel
theorem dX5_meanWait_27 : decode cX5_meanWait 27 = .ok (.l2d, 1) := by decide +kernel
theorem dX5_meanWait_28 : decode cX5_meanWait 28 = .ok (.aload_n 2, 1) := by decide +kernel
theorem dX5_meanWait_29 : decode cX5_meanWait 29 = .ok (.getfield 199, 3) := by decide +kernel
theorem dX5_meanWait_32 : decode cX5_meanWait 32 = .ok (.i2d, 1) := by decide +kernel
theorem dX5_meanWait_33 : decode cX5_meanWait 33 = .ok (.ddiv, 1) := by decide +kernel
theorem dX5_meanWait_34 : decode cX5_meanWait 34 = .ok (.dreturn, 1) := by decide +kernel
theorem dX5_shareOf_0 : decode cX5_shareOf 0 = .ok (.aload_n 0, 1) := by decide +kernel
theorem dX5_shareOf_1 : decode cX5_shareOf 1 = .ok (.iload_n 1, 1) := by decide +kernel
theorem dX5_shareOf_2 : decode cX5_shareOf 2 = .ok (.invokevirtual 88, 3) := by decide +kernel
theorem dX5_shareOf_5 : decode cX5_shareOf 5 = .ok (.iconst 0, 1) := by decide +kernel
theorem dX5_shareOf_6 : decode cX5_shareOf 6 = .ok (.istore_n 2, 1) := by decide +kernel
theorem dX5_shareOf_7 : decode cX5_shareOf 7 = .ok (.iconst 0, 1) := by decide +kernel
theorem dX5_shareOf_8 : decode cX5_shareOf 8 = .ok (.istore_n 3, 1) := by decide +kernel
theorem dX5_shareOf_9 : decode cX5_shareOf 9 = .ok (.iload_n 3, 1) := by decide +kernel
theorem dX5_shareOf_10 : decode cX5_shareOf 10 = .ok (.aload_n 0, 1) := by decide +kernel
theorem dX5_shareOf_11 : decode cX5_shareOf 11 = .ok (.getfield 72, 3) := by decide +kernel
theorem dX5_shareOf_14 : decode cX5_shareOf 14 = .ok (.if_icmp .ge 21, 3) := by decide +kernel
theorem dX5_shareOf_17 : decode cX5_shareOf 17 = .ok (.iload_n 2, 1) := by decide +kernel
theorem dX5_shareOf_18 : decode cX5_shareOf 18 = .ok (.aload_n 0, 1) := by decide +kernel
theorem dX5_shareOf_19 : decode cX5_shareOf 19 = .ok (.getfield 29, 3) := by decide +kernel
theorem dX5_shareOf_22 : decode cX5_shareOf 22 = .ok (.getfield 81, 3) := by decide +kernel
theorem dX5_shareOf_25 : decode cX5_shareOf 25 = .ok (.iload_n 3, 1) := by decide +kernel
theorem dX5_shareOf_26 : decode cX5_shareOf 26 = .ok (.iaload, 1) := by decide +kernel
theorem dX5_shareOf_27 : decode cX5_shareOf 27 = .ok (.iadd, 1) := by decide +kernel
theorem dX5_shareOf_28 : decode cX5_shareOf 28 = .ok (.istore_n 2, 1) := by decide +kernel
theorem dX5_shareOf_29 : decode cX5_shareOf 29 = .ok (.iinc 3 1, 3) := by decide +kernel
theorem dX5_shareOf_32 : decode cX5_shareOf 32 = .ok (.goto (-23), 3) := by decide +kernel
theorem dX5_shareOf_35 : decode cX5_shareOf 35 = .ok (.iload_n 2, 1) := by decide +kernel
theorem dX5_shareOf_36 : decode cX5_shareOf 36 = .ok (.ifCond .ne 5, 3) := by decide +kernel
theorem dX5_shareOf_39 : decode cX5_shareOf 39 = .ok (.fconst 0, 1) := by decide +kernel
theorem dX5_shareOf_40 : decode cX5_shareOf 40 = .ok (.freturn, 1) := by decide +kernel
theorem dX5_shareOf_41 : decode cX5_shareOf 41 = .ok (.aload_n 0, 1) := by decide +kernel
theorem dX5_shareOf_42 : decode cX5_shareOf 42 = .ok (.getfield 29, 3) := by decide +kernel
theorem dX5_shareOf_45 : decode cX5_shareOf 45 = .ok (.getfield 81, 3) := by decide +kernel
theorem dX5_shareOf_48 : decode cX5_shareOf 48 = .ok (.iload_n 1, 1) := by decide +kernel
theorem dX5_shareOf_49 : decode cX5_shareOf 49 = .ok (.iaload, 1) := by decide +kernel
theorem dX5_shareOf_50 : decode cX5_shareOf 50 = .ok (.i2f, 1) := by decide +kernel
theorem dX5_shareOf_51 : decode cX5_shareOf 51 = .ok (.iload_n 2, 1) := by decide +kernel
theorem dX5_shareOf_52 : decode cX5_shareOf 52 = .ok (.i2f, 1) := by decide +kernel
theorem dX5_shareOf_53 : decode cX5_shareOf 53 = .ok (.fdiv, 1) := by decide +kernel
theorem dX5_shareOf_54 : decode cX5_shareOf 54 = .ok (.freturn, 1) := by decide +kernel
theorem dX5_clock_0 : decode cX5_clock 0 = .ok (.aload_n 0, 1) := by decide +kernel
theorem dX5_clock_1 : decode cX5_clock 1 = .ok (.getfield 29, 3) := by decide +kernel
theorem dX5_clock_4 : decode cX5_clock 4 = .ok (.getfield 119, 3) := by decide +kernel
theorem dX5_clock_7 : decode cX5_clock 7 = .ok (.ireturn, 1) := by decide +kernel
theorem dX5_save_0 : decode cX5_save 0 = .ok (.aload_n 0, 1) := by decide +kernel
theorem dX5_save_1 : decode cX5_save 1 = .ok (.getfield 33, 3) := by decide +kernel
theorem dX5_save_4 : decode cX5_save 4 = .ok (.aload_n 0, 1) := by decide +kernel
theorem dX5_save_5 : decode cX5_save 5 = .ok (.getfield 29, 3) := by decide +kernel
theorem dX5_save_8 : decode cX5_save 8 = .ok (.invokevirtual 206, 3) := by decide +kernel
theorem dX5_save_11 : decode cX5_save 11 = .ok (.aload_n 0, 1) := by decide +kernel
theorem dX5_save_12 : decode cX5_save 12 = .ok (.iconst 1, 1) := by decide +kernel
theorem dX5_save_13 : decode cX5_save 13 = .ok (.putfield 84, 3) := by decide +kernel
theorem dX5_save_16 : decode cX5_save 16 = .ok (.aload_n 0, 1) := by decide +kernel
theorem dX5_save_17 : decode cX5_save 17 = .ok (.getfield 29, 3) := by decide +kernel
theorem dX5_save_20 : decode cX5_save 20 = .ok (.invokevirtual 210, 3) := by decide +kernel
theorem dX5_save_23 : decode cX5_save 23 = .ok (.ireturn, 1) := by decide +kernel
theorem dX5_restore_0 : decode cX5_restore 0 = .ok (.aload_n 0, 1) := by decide +kernel
theorem dX5_restore_1 : decode cX5_restore 1 = .ok (.getfield 84, 3) := by decide +kernel
theorem dX5_restore_4 : decode cX5_restore 4 = .ok (.ifCond .ne 13, 3) := by decide +kernel
theorem dX5_restore_7 : decode cX5_restore 7 = .ok (.new 57, 3) := by decide +kernel
theorem dX5_restore_10 : decode cX5_restore 10 = .ok (.dup, 1) := by decide +kernel
theorem dX5_restore_11 : decode cX5_restore 11 = .ok (.ldc 213, 2) := by decide +kernel
theorem dX5_restore_13 : decode cX5_restore 13 = .ok (.invokespecial 61, 3) := by decide +kernel
theorem dX5_restore_16 : decode cX5_restore 16 = .ok (.athrow, 1) := by decide +kernel
theorem dX5_restore_17 : decode cX5_restore 17 = .ok (.aload_n 0, 1) := by decide +kernel
theorem dX5_restore_18 : decode cX5_restore 18 = .ok (.getfield 29, 3) := by decide +kernel
theorem dX5_restore_21 : decode cX5_restore 21 = .ok (.aload_n 0, 1) := by decide +kernel
theorem dX5_restore_22 : decode cX5_restore 22 = .ok (.getfield 33, 3) := by decide +kernel
theorem dX5_restore_25 : decode cX5_restore 25 = .ok (.invokevirtual 206, 3) := by decide +kernel
theorem dX5_restore_28 : decode cX5_restore 28 = .ok (.aload_n 0, 1) := by decide +kernel
theorem dX5_restore_29 : decode cX5_restore 29 = .ok (.getfield 29, 3) := by decide +kernel
theorem dX5_restore_32 : decode cX5_restore 32 = .ok (.invokevirtual 210, 3) := by decide +kernel
theorem dX5_restore_35 : decode cX5_restore 35 = .ok (.ireturn, 1) := by decide +kernel
theorem dX5_digest_0 : decode cX5_digest 0 = .ok (.aload_n 0, 1) := by decide +kernel
theorem dX5_digest_1 : decode cX5_digest 1 = .ok (.ldc2_w 215, 3) := by decide +kernel
theorem dX5_digest_4 : decode cX5_digest 4 = .ok (.invokevirtual 217, 3) := by decide +kernel
theorem dX5_digest_7 : decode cX5_digest 7 = .ok (.lstore_n 1, 1) := by decide +kernel
theorem dX5_digest_8 : decode cX5_digest 8 = .ok (.iconst 0, 1) := by decide +kernel
theorem dX5_digest_9 : decode cX5_digest 9 = .ok (.istore_n 3, 1) := by decide +kernel
theorem dX5_digest_10 : decode cX5_digest 10 = .ok (.iload_n 3, 1) := by decide +kernel
theorem dX5_digest_11 : decode cX5_digest 11 = .ok (.bipush 8, 2) := by decide +kernel
theorem dX5_digest_13 : decode cX5_digest 13 = .ok (.if_icmp .ge 23, 3) := by decide +kernel
theorem dX5_digest_16 : decode cX5_digest 16 = .ok (.aload_n 0, 1) := by decide +kernel
theorem dX5_digest_17 : decode cX5_digest 17 = .ok (.getfield 29, 3) := by decide +kernel
theorem dX5_digest_20 : decode cX5_digest 20 = .ok (.getfield 108, 3) := by decide +kernel
theorem dX5_digest_23 : decode cX5_digest 23 = .ok (.iload_n 3, 1) := by decide +kernel
theorem dX5_digest_24 : decode cX5_digest 24 = .ok (.aaload, 1) := by decide +kernel
theorem dX5_digest_25 : decode cX5_digest 25 = .ok (.lload_n 1, 1) := by decide +kernel
theorem dX5_digest_26 : decode cX5_digest 26 = .ok (.invokevirtual 221, 3) := by decide +kernel
theorem dX5_digest_29 : decode cX5_digest 29 = .ok (.lstore_n 1, 1) := by decide +kernel
theorem dX5_digest_30 : decode cX5_digest 30 = .ok (.iinc 3 1, 3) := by decide +kernel
theorem dX5_digest_33 : decode cX5_digest 33 = .ok (.goto (-23), 3) := by decide +kernel
theorem dX5_digest_36 : decode cX5_digest 36 = .ok (.iconst 0, 1) := by decide +kernel
theorem dX5_digest_37 : decode cX5_digest 37 = .ok (.istore_n 3, 1) := by decide +kernel
theorem dX5_digest_38 : decode cX5_digest 38 = .ok (.iload_n 3, 1) := by decide +kernel
theorem dX5_digest_39 : decode cX5_digest 39 = .ok (.bipush 8, 2) := by decide +kernel
theorem dX5_digest_41 : decode cX5_digest 41 = .ok (.if_icmp .ge 44, 3) := by decide +kernel
theorem dX5_digest_44 : decode cX5_digest 44 = .ok (.lload_n 1, 1) := by decide +kernel
theorem dX5_digest_45 : decode cX5_digest 45 = .ok (.aload_n 0, 1) := by decide +kernel
theorem dX5_digest_46 : decode cX5_digest 46 = .ok (.getfield 29, 3) := by decide +kernel
theorem dX5_digest_49 : decode cX5_digest 49 = .ok (.getfield 108, 3) := by decide +kernel
theorem dX5_digest_52 : decode cX5_digest 52 = .ok (.iload_n 3, 1) := by decide +kernel
theorem dX5_digest_53 : decode cX5_digest 53 = .ok (.aaload, 1) := by decide +kernel
theorem dX5_digest_54 : decode cX5_digest 54 = .ok (.getfield 199, 3) := by decide +kernel
theorem dX5_digest_57 : decode cX5_digest 57 = .ok (.i2l, 1) := by decide +kernel
theorem dX5_digest_58 : decode cX5_digest 58 = .ok (.invokestatic 224, 3) := by decide +kernel
theorem dX5_digest_61 : decode cX5_digest 61 = .ok (.lstore_n 1, 1) := by decide +kernel
theorem dX5_digest_62 : decode cX5_digest 62 = .ok (.lload_n 1, 1) := by decide +kernel
theorem dX5_digest_63 : decode cX5_digest 63 = .ok (.aload_n 0, 1) := by decide +kernel
theorem dX5_digest_64 : decode cX5_digest 64 = .ok (.getfield 29, 3) := by decide +kernel
theorem dX5_digest_67 : decode cX5_digest 67 = .ok (.getfield 108, 3) := by decide +kernel
theorem dX5_digest_70 : decode cX5_digest 70 = .ok (.iload_n 3, 1) := by decide +kernel
theorem dX5_digest_71 : decode cX5_digest 71 = .ok (.aaload, 1) := by decide +kernel
theorem dX5_digest_72 : decode cX5_digest 72 = .ok (.getfield 202, 3) := by decide +kernel
theorem dX5_digest_75 : decode cX5_digest 75 = .ok (.invokestatic 224, 3) := by decide +kernel
theorem dX5_digest_78 : decode cX5_digest 78 = .ok (.lstore_n 1, 1) := by decide +kernel
theorem dX5_digest_79 : decode cX5_digest 79 = .ok (.iinc 3 1, 3) := by decide +kernel
theorem dX5_digest_82 : decode cX5_digest 82 = .ok (.goto (-44), 3) := by decide +kernel
theorem dX5_digest_85 : decode cX5_digest 85 = .ok (.aload_n 0, 1) := by decide +kernel
theorem dX5_digest_86 : decode cX5_digest 86 = .ok (.getfield 29, 3) := by decide +kernel
theorem dX5_digest_89 : decode cX5_digest 89 = .ok (.getfield 122, 3) := by decide +kernel
theorem dX5_digest_92 : decode cX5_digest 92 = .ok (.lload_n 1, 1) := by decide +kernel
theorem dX5_digest_93 : decode cX5_digest 93 = .ok (.invokevirtual 228, 3) := by decide +kernel
theorem dX5_digest_96 : decode cX5_digest 96 = .ok (.lstore_n 1, 1) := by decide +kernel
theorem dX5_digest_97 : decode cX5_digest 97 = .ok (.lload_n 1, 1) := by decide +kernel
theorem dX5_digest_98 : decode cX5_digest 98 = .ok (.aload_n 0, 1) := by decide +kernel
theorem dX5_digest_99 : decode cX5_digest 99 = .ok (.getfield 29, 3) := by decide +kernel
theorem dX5_digest_102 : decode cX5_digest 102 = .ok (.getfield 119, 3) := by decide +kernel
theorem dX5_digest_105 : decode cX5_digest 105 = .ok (.i2l, 1) := by decide +kernel
theorem dX5_digest_106 : decode cX5_digest 106 = .ok (.invokestatic 224, 3) := by decide +kernel
theorem dX5_digest_109 : decode cX5_digest 109 = .ok (.lstore_n 1, 1) := by decide +kernel
theorem dX5_digest_110 : decode cX5_digest 110 = .ok (.lload_n 1, 1) := by decide +kernel
theorem dX5_digest_111 : decode cX5_digest 111 = .ok (.aload_n 0, 1) := by decide +kernel
theorem dX5_digest_112 : decode cX5_digest 112 = .ok (.getfield 100, 3) := by decide +kernel
theorem dX5_digest_115 : decode cX5_digest 115 = .ok (.i2l, 1) := by decide +kernel
theorem dX5_digest_116 : decode cX5_digest 116 = .ok (.invokestatic 224, 3) := by decide +kernel
theorem dX5_digest_119 : decode cX5_digest 119 = .ok (.lstore_n 1, 1) := by decide +kernel
theorem dX5_digest_120 : decode cX5_digest 120 = .ok (.lload_n 1, 1) := by decide +kernel
theorem dX5_digest_121 : decode cX5_digest 121 = .ok (.aload_n 0, 1) := by decide +kernel
theorem dX5_digest_122 : decode cX5_digest 122 = .ok (.invokevirtual 231, 3) := by decide +kernel
theorem dX5_digest_125 : decode cX5_digest 125 = .ok (.i2l, 1) := by decide +kernel
theorem dX5_digest_126 : decode cX5_digest 126 = .ok (.invokestatic 224, 3) := by decide +kernel
theorem dX5_digest_129 : decode cX5_digest 129 = .ok (.lstore_n 1, 1) := by decide +kernel
theorem dX5_digest_130 : decode cX5_digest 130 = .ok (.lload_n 1, 1) := by decide +kernel
theorem dX5_digest_131 : decode cX5_digest 131 = .ok (.aload_n 0, 1) := by decide +kernel
theorem dX5_digest_132 : decode cX5_digest 132 = .ok (.invokevirtual 185, 3) := by decide +kernel
theorem dX5_digest_135 : decode cX5_digest 135 = .ok (.i2l, 1) := by decide +kernel
theorem dX5_digest_136 : decode cX5_digest 136 = .ok (.invokestatic 224, 3) := by decide +kernel
theorem dX5_digest_139 : decode cX5_digest 139 = .ok (.lstore_n 1, 1) := by decide +kernel
theorem dX5_digest_140 : decode cX5_digest 140 = .ok (.lload_n 1, 1) := by decide +kernel
theorem dX5_digest_141 : decode cX5_digest 141 = .ok (.aload_n 0, 1) := by decide +kernel
theorem dX5_digest_142 : decode cX5_digest 142 = .ok (.invokevirtual 172, 3) := by decide +kernel
theorem dX5_digest_145 : decode cX5_digest 145 = .ok (.i2l, 1) := by decide +kernel
theorem dX5_digest_146 : decode cX5_digest 146 = .ok (.invokestatic 224, 3) := by decide +kernel
theorem dX5_digest_149 : decode cX5_digest 149 = .ok (.lstore_n 1, 1) := by decide +kernel
theorem dX5_digest_150 : decode cX5_digest 150 = .ok (.lload_n 1, 1) := by decide +kernel
theorem dX5_digest_151 : decode cX5_digest 151 = .ok (.aload_n 0, 1) := by decide +kernel
theorem dX5_digest_152 : decode cX5_digest 152 = .ok (.getfield 84, 3) := by decide +kernel
theorem dX5_digest_155 : decode cX5_digest 155 = .ok (.ifCond .eq 7, 3) := by decide +kernel
theorem dX5_digest_158 : decode cX5_digest 158 = .ok (.lconst 1, 1) := by decide +kernel
theorem dX5_digest_159 : decode cX5_digest 159 = .ok (.goto 4, 3) := by decide +kernel
theorem dX5_digest_162 : decode cX5_digest 162 = .ok (.lconst 0, 1) := by decide +kernel
theorem dX5_digest_163 : decode cX5_digest 163 = .ok (.invokestatic 224, 3) := by decide +kernel
theorem dX5_digest_166 : decode cX5_digest 166 = .ok (.lstore_n 1, 1) := by decide +kernel
theorem dX5_digest_167 : decode cX5_digest 167 = .ok (.aload_n 0, 1) := by decide +kernel
theorem dX5_digest_168 : decode cX5_digest 168 = .ok (.lload_n 1, 1) := by decide +kernel
theorem dX5_digest_169 : decode cX5_digest 169 = .ok (.invokevirtual 234, 3) := by decide +kernel
theorem dX5_digest_172 : decode cX5_digest 172 = .ok (.lreturn, 1) := by decide +kernel
theorem dX5_requireRule_0 : decode cX5_requireRule 0 = .ok (.iload_n 1, 1) := by decide +kernel
theorem dX5_requireRule_1 : decode cX5_requireRule 1 = .ok (.ifCond .lt 11, 3) := by decide +kernel
theorem dX5_requireRule_4 : decode cX5_requireRule 4 = .ok (.iload_n 1, 1) := by decide +kernel
theorem dX5_requireRule_5 : decode cX5_requireRule 5 = .ok (.aload_n 0, 1) := by decide +kernel
theorem dX5_requireRule_6 : decode cX5_requireRule 6 = .ok (.getfield 72, 3) := by decide +kernel
theorem dX5_requireRule_9 : decode cX5_requireRule 9 = .ok (.if_icmp .lt 13, 3) := by decide +kernel
theorem dX5_requireRule_12 : decode cX5_requireRule 12 = .ok (.new 142, 3) := by decide +kernel
theorem dX5_requireRule_15 : decode cX5_requireRule 15 = .ok (.dup, 1) := by decide +kernel
theorem dX5_requireRule_16 : decode cX5_requireRule 16 = .ok (.ldc 237, 2) := by decide +kernel
theorem dX5_requireRule_18 : decode cX5_requireRule 18 = .ok (.invokespecial 146, 3) := by decide +kernel
theorem dX5_requireRule_21 : decode cX5_requireRule 21 = .ok (.athrow, 1) := by decide +kernel
theorem dX5_requireRule_22 : decode cX5_requireRule 22 = .ok (.return_, 1) := by decide +kernel
theorem dX5_requireTicket_0 : decode cX5_requireTicket 0 = .ok (.aload_n 0, 1) := by decide +kernel
theorem dX5_requireTicket_1 : decode cX5_requireTicket 1 = .ok (.getfield 29, 3) := by decide +kernel
theorem dX5_requireTicket_4 : decode cX5_requireTicket 4 = .ok (.getfield 122, 3) := by decide +kernel
theorem dX5_requireTicket_7 : decode cX5_requireTicket 7 = .ok (.iload_n 1, 1) := by decide +kernel
theorem dX5_requireTicket_8 : decode cX5_requireTicket 8 = .ok (.invokevirtual 239, 3) := by decide +kernel
theorem dX5_requireTicket_11 : decode cX5_requireTicket 11 = .ok (.ifCond .ne 13, 3) := by decide +kernel
theorem dX5_requireTicket_14 : decode cX5_requireTicket 14 = .ok (.new 142, 3) := by decide +kernel
theorem dX5_requireTicket_17 : decode cX5_requireTicket 17 = .ok (.dup, 1) := by decide +kernel
theorem dX5_requireTicket_18 : decode cX5_requireTicket 18 = .ok (.ldc 242, 2) := by decide +kernel
theorem dX5_requireTicket_20 : decode cX5_requireTicket 20 = .ok (.invokespecial 146, 3) := by decide +kernel
theorem dX5_requireTicket_23 : decode cX5_requireTicket 23 = .ok (.athrow, 1) := by decide +kernel
theorem dX5_requireTicket_24 : decode cX5_requireTicket 24 = .ok (.return_, 1) := by decide +kernel
theorem dX5_requireChannel_0 : decode cX5_requireChannel 0 = .ok (.iload_n 0, 1) := by decide +kernel
theorem dX5_requireChannel_1 : decode cX5_requireChannel 1 = .ok (.invokestatic 161, 3) := by decide +kernel
theorem dX5_requireChannel_4 : decode cX5_requireChannel 4 = .ok (.ifCond .ne 13, 3) := by decide +kernel
theorem dX5_requireChannel_7 : decode cX5_requireChannel 7 = .ok (.new 142, 3) := by decide +kernel
theorem dX5_requireChannel_10 : decode cX5_requireChannel 10 = .ok (.dup, 1) := by decide +kernel
theorem dX5_requireChannel_11 : decode cX5_requireChannel 11 = .ok (.ldc 244, 2) := by decide +kernel
theorem dX5_requireChannel_13 : decode cX5_requireChannel 13 = .ok (.invokespecial 146, 3) := by decide +kernel
theorem dX5_requireChannel_16 : decode cX5_requireChannel 16 = .ok (.athrow, 1) := by decide +kernel
theorem dX5_requireChannel_17 : decode cX5_requireChannel 17 = .ok (.return_, 1) := by decide +kernel
theorem dX5_isChannel_0 : decode cX5_isChannel 0 = .ok (.iload_n 0, 1) := by decide +kernel
theorem dX5_isChannel_1 : decode cX5_isChannel 1 = .ok (.ifCond .lt 13, 3) := by decide +kernel
theorem dX5_isChannel_4 : decode cX5_isChannel 4 = .ok (.iload_n 0, 1) := by decide +kernel
theorem dX5_isChannel_5 : decode cX5_isChannel 5 = .ok (.bipush 8, 2) := by decide +kernel
theorem dX5_isChannel_7 : decode cX5_isChannel 7 = .ok (.if_icmp .ge 7, 3) := by decide +kernel
theorem dX5_isChannel_10 : decode cX5_isChannel 10 = .ok (.iconst 1, 1) := by decide +kernel
theorem dX5_isChannel_11 : decode cX5_isChannel 11 = .ok (.goto 4, 3) := by decide +kernel
theorem dX5_isChannel_14 : decode cX5_isChannel 14 = .ok (.iconst 0, 1) := by decide +kernel
theorem dX5_isChannel_15 : decode cX5_isChannel 15 = .ok (.ireturn, 1) := by decide +kernel
theorem dX5_readBuffer_0 : decode cX5_readBuffer 0 = .ok (.aload_n 0, 1) := by decide +kernel
theorem dX5_readBuffer_1 : decode cX5_readBuffer 1 = .ok (.getfield 16, 3) := by decide +kernel
theorem dX5_readBuffer_4 : decode cX5_readBuffer 4 = .ok (.invokevirtual 246, 3) := by decide +kernel
theorem dX5_readBuffer_7 : decode cX5_readBuffer 7 = .ok (.iconst 0, 1) := by decide +kernel
theorem dX5_readBuffer_8 : decode cX5_readBuffer 8 = .ok (.istore_n 1, 1) := by decide +kernel
theorem dX5_readBuffer_9 : decode cX5_readBuffer 9 = .ok (.iload_n 1, 1) := by decide +kernel
theorem dX5_readBuffer_10 : decode cX5_readBuffer 10 = .ok (.aload_n 0, 1) := by decide +kernel
theorem dX5_readBuffer_11 : decode cX5_readBuffer 11 = .ok (.getfield 53, 3) := by decide +kernel
theorem dX5_readBuffer_14 : decode cX5_readBuffer 14 = .ok (.if_icmp .ge 27, 3) := by decide +kernel
theorem dX5_readBuffer_17 : decode cX5_readBuffer 17 = .ok (.aload_n 0, 1) := by decide +kernel
theorem dX5_readBuffer_18 : decode cX5_readBuffer 18 = .ok (.getfield 16, 3) := by decide +kernel
theorem dX5_readBuffer_21 : decode cX5_readBuffer 21 = .ok (.aload_n 0, 1) := by decide +kernel
theorem dX5_readBuffer_22 : decode cX5_readBuffer 22 = .ok (.getfield 9, 3) := by decide +kernel
theorem dX5_readBuffer_25 : decode cX5_readBuffer 25 = .ok (.iload_n 1, 1) := by decide +kernel
theorem dX5_readBuffer_26 : decode cX5_readBuffer 26 = .ok (.iaload, 1) := by decide +kernel
theorem dX5_readBuffer_27 : decode cX5_readBuffer 27 = .ok (.invokevirtual 249, 3) := by decide +kernel
theorem dX5_readBuffer_30 : decode cX5_readBuffer 30 = .ok (.ifCond .ne 5, 3) := by decide +kernel
theorem dX5_readBuffer_33 : decode cX5_readBuffer 33 = .ok (.iload_n 1, 1) := by decide +kernel
theorem dX5_readBuffer_34 : decode cX5_readBuffer 34 = .ok (.ireturn, 1) := by decide +kernel
theorem dX5_readBuffer_35 : decode cX5_readBuffer 35 = .ok (.iinc 1 1, 3) := by decide +kernel
theorem dX5_readBuffer_38 : decode cX5_readBuffer 38 = .ok (.goto (-29), 3) := by decide +kernel
theorem dX5_readBuffer_41 : decode cX5_readBuffer 41 = .ok (.aload_n 0, 1) := by decide +kernel
theorem dX5_readBuffer_42 : decode cX5_readBuffer 42 = .ok (.getfield 53, 3) := by decide +kernel
theorem dX5_readBuffer_45 : decode cX5_readBuffer 45 = .ok (.ireturn, 1) := by decide +kernel
theorem dX5_isEnabled_0 : decode cX5_isEnabled 0 = .ok (.aload_n 0, 1) := by decide +kernel
theorem dX5_isEnabled_1 : decode cX5_isEnabled 1 = .ok (.aload_n 1, 1) := by decide +kernel
theorem dX5_isEnabled_2 : decode cX5_isEnabled 2 = .ok (.invokevirtual 169, 3) := by decide +kernel
theorem dX5_isEnabled_5 : decode cX5_isEnabled 5 = .ok (.ifCond .eq 15, 3) := by decide +kernel
theorem dX5_isEnabled_8 : decode cX5_isEnabled 8 = .ok (.aload_n 0, 1) := by decide +kernel
theorem dX5_isEnabled_9 : decode cX5_isEnabled 9 = .ok (.aload_n 1, 1) := by decide +kernel
theorem dX5_isEnabled_10 : decode cX5_isEnabled 10 = .ok (.invokevirtual 252, 3) := by decide +kernel
theorem dX5_isEnabled_13 : decode cX5_isEnabled 13 = .ok (.ifCond .eq 7, 3) := by decide +kernel
theorem dX5_isEnabled_16 : decode cX5_isEnabled 16 = .ok (.iconst 1, 1) := by decide +kernel
theorem dX5_isEnabled_17 : decode cX5_isEnabled 17 = .ok (.goto 4, 3) := by decide +kernel
theorem dX5_isEnabled_20 : decode cX5_isEnabled 20 = .ok (.iconst 0, 1) := by decide +kernel
theorem dX5_isEnabled_21 : decode cX5_isEnabled 21 = .ok (.ireturn, 1) := by decide +kernel
theorem dX5_hasRoom_0 : decode cX5_hasRoom 0 = .ok (.iconst 0, 1) := by decide +kernel
theorem dX5_hasRoom_1 : decode cX5_hasRoom 1 = .ok (.istore_n 2, 1) := by decide +kernel
theorem dX5_hasRoom_2 : decode cX5_hasRoom 2 = .ok (.iload_n 2, 1) := by decide +kernel
theorem dX5_hasRoom_3 : decode cX5_hasRoom 3 = .ok (.bipush 8, 2) := by decide +kernel
theorem dX5_hasRoom_5 : decode cX5_hasRoom 5 = .ok (.if_icmp .ge 50, 3) := by decide +kernel
theorem dX5_hasRoom_8 : decode cX5_hasRoom 8 = .ok (.aload_n 0, 1) := by decide +kernel
theorem dX5_hasRoom_9 : decode cX5_hasRoom 9 = .ok (.getfield 29, 3) := by decide +kernel
theorem dX5_hasRoom_12 : decode cX5_hasRoom 12 = .ok (.getfield 108, 3) := by decide +kernel
theorem dX5_hasRoom_15 : decode cX5_hasRoom 15 = .ok (.iload_n 2, 1) := by decide +kernel
theorem dX5_hasRoom_16 : decode cX5_hasRoom 16 = .ok (.aaload, 1) := by decide +kernel
theorem dX5_hasRoom_17 : decode cX5_hasRoom 17 = .ok (.getfield 135, 3) := by decide +kernel
theorem dX5_hasRoom_20 : decode cX5_hasRoom 20 = .ok (.aload_n 1, 1) := by decide +kernel
theorem dX5_hasRoom_21 : decode cX5_hasRoom 21 = .ok (.iload_n 2, 1) := by decide +kernel
theorem dX5_hasRoom_22 : decode cX5_hasRoom 22 = .ok (.invokevirtual 164, 3) := by decide +kernel
theorem dX5_hasRoom_25 : decode cX5_hasRoom 25 = .ok (.ifCond .eq 7, 3) := by decide +kernel
theorem dX5_hasRoom_28 : decode cX5_hasRoom 28 = .ok (.iconst 1, 1) := by decide +kernel
theorem dX5_hasRoom_29 : decode cX5_hasRoom 29 = .ok (.goto 4, 3) := by decide +kernel
theorem dX5_hasRoom_32 : decode cX5_hasRoom 32 = .ok (.iconst 0, 1) := by decide +kernel
theorem dX5_hasRoom_33 : decode cX5_hasRoom 33 = .ok (.isub, 1) := by decide +kernel
theorem dX5_hasRoom_34 : decode cX5_hasRoom 34 = .ok (.istore_n 3, 1) := by decide +kernel
theorem dX5_hasRoom_35 : decode cX5_hasRoom 35 = .ok (.iload_n 3, 1) := by decide +kernel
theorem dX5_hasRoom_36 : decode cX5_hasRoom 36 = .ok (.aload_n 1, 1) := by decide +kernel
theorem dX5_hasRoom_37 : decode cX5_hasRoom 37 = .ok (.iload_n 2, 1) := by decide +kernel
theorem dX5_hasRoom_38 : decode cX5_hasRoom 38 = .ok (.invokevirtual 255, 3) := by decide +kernel
theorem dX5_hasRoom_41 : decode cX5_hasRoom 41 = .ok (.iadd, 1) := by decide +kernel
theorem dX5_hasRoom_42 : decode cX5_hasRoom 42 = .ok (.bipush 8, 2) := by decide +kernel
theorem dX5_hasRoom_44 : decode cX5_hasRoom 44 = .ok (.if_icmp .le 5, 3) := by decide +kernel
theorem dX5_hasRoom_47 : decode cX5_hasRoom 47 = .ok (.iconst 0, 1) := by decide +kernel
theorem dX5_hasRoom_48 : decode cX5_hasRoom 48 = .ok (.ireturn, 1) := by decide +kernel
theorem dX5_hasRoom_49 : decode cX5_hasRoom 49 = .ok (.iinc 2 1, 3) := by decide +kernel
theorem dX5_hasRoom_52 : decode cX5_hasRoom 52 = .ok (.goto (-50), 3) := by decide +kernel
theorem dX5_hasRoom_55 : decode cX5_hasRoom 55 = .ok (.iconst 1, 1) := by decide +kernel
theorem dX5_hasRoom_56 : decode cX5_hasRoom 56 = .ok (.ireturn, 1) := by decide +kernel
theorem dX5_findMatch_0 : decode cX5_findMatch 0 = .ok (.aload_n 1, 1) := by decide +kernel
theorem dX5_findMatch_1 : decode cX5_findMatch 1 = .ok (.aload_n 0, 1) := by decide +kernel
theorem dX5_findMatch_2 : decode cX5_findMatch 2 = .ok (.invokevirtual 151, 3) := by decide +kernel
theorem dX5_findMatch_5 : decode cX5_findMatch 5 = .ok (.invokevirtual 154, 3) := by decide +kernel
theorem dX5_findMatch_8 : decode cX5_findMatch 8 = .ok (.ifCond .ne 5, 3) := by decide +kernel
theorem dX5_findMatch_11 : decode cX5_findMatch 11 = .ok (.iconst 0, 1) := by decide +kernel
theorem dX5_findMatch_12 : decode cX5_findMatch 12 = .ok (.ireturn, 1) := by decide +kernel
theorem dX5_findMatch_13 : decode cX5_findMatch 13 = .ok (.aload_n 0, 1) := by decide +kernel
theorem dX5_findMatch_14 : decode cX5_findMatch 14 = .ok (.getfield 36, 3) := by decide +kernel
theorem dX5_findMatch_17 : decode cX5_findMatch 17 = .ok (.iconst 0, 1) := by decide +kernel
theorem dX5_findMatch_18 : decode cX5_findMatch 18 = .ok (.invokestatic 258, 3) := by decide +kernel
theorem dX5_findMatch_21 : decode cX5_findMatch 21 = .ok (.aload_n 1, 1) := by decide +kernel
theorem dX5_findMatch_22 : decode cX5_findMatch 22 = .ok (.getfield 264, 3) := by decide +kernel
theorem dX5_findMatch_25 : decode cX5_findMatch 25 = .ok (.istore_n 2, 1) := by decide +kernel
theorem dX5_findMatch_26 : decode cX5_findMatch 26 = .ok (.aload_n 1, 1) := by decide +kernel
theorem dX5_findMatch_27 : decode cX5_findMatch 27 = .ok (.getfield 267, 3) := by decide +kernel
theorem dX5_findMatch_30 : decode cX5_findMatch 30 = .ok (.istore_n 3, 1) := by decide +kernel
theorem dX5_findMatch_31 : decode cX5_findMatch 31 = .ok (.aload_n 0, 1) := by decide +kernel
theorem dX5_findMatch_32 : decode cX5_findMatch 32 = .ok (.iload_n 2, 1) := by decide +kernel
theorem dX5_findMatch_33 : decode cX5_findMatch 33 = .ok (.invokevirtual 270, 3) := by decide +kernel
theorem dX5_findMatch_36 : decode cX5_findMatch 36 = .ok (.istore 4, 2) := by decide +kernel
theorem dX5_findMatch_38 : decode cX5_findMatch 38 = .ok (.aload_n 0, 1) := by decide +kernel
theorem dX5_findMatch_39 : decode cX5_findMatch 39 = .ok (.iload_n 3, 1) := by decide +kernel
theorem dX5_findMatch_40 : decode cX5_findMatch 40 = .ok (.invokevirtual 270, 3) := by decide +kernel
theorem dX5_findMatch_43 : decode cX5_findMatch 43 = .ok (.istore 5, 2) := by decide +kernel
theorem dX5_findMatch_45 : decode cX5_findMatch 45 = .ok (.iconst 0, 1) := by decide +kernel
theorem dX5_findMatch_46 : decode cX5_findMatch 46 = .ok (.istore 6, 2) := by decide +kernel
theorem dX5_findMatch_48 : decode cX5_findMatch 48 = .ok (.iload 6, 2) := by decide +kernel
theorem dX5_findMatch_50 : decode cX5_findMatch 50 = .ok (.iload 4, 2) := by decide +kernel
theorem dX5_findMatch_52 : decode cX5_findMatch 52 = .ok (.if_icmp .ge 86, 3) := by decide +kernel
theorem dX5_findMatch_55 : decode cX5_findMatch 55 = .ok (.iconst 0, 1) := by decide +kernel
theorem dX5_findMatch_56 : decode cX5_findMatch 56 = .ok (.istore 7, 2) := by decide +kernel
theorem dX5_findMatch_58 : decode cX5_findMatch 58 = .ok (.iload 7, 2) := by decide +kernel
theorem dX5_findMatch_60 : decode cX5_findMatch 60 = .ok (.iload 5, 2) := by decide +kernel
theorem dX5_findMatch_62 : decode cX5_findMatch 62 = .ok (.if_icmp .ge 70, 3) := by decide +kernel
theorem dX5_findMatch_65 : decode cX5_findMatch 65 = .ok (.iload_n 2, 1) := by decide +kernel
theorem dX5_findMatch_66 : decode cX5_findMatch 66 = .ok (.iload_n 3, 1) := by decide +kernel
theorem dX5_findMatch_67 : decode cX5_findMatch 67 = .ok (.if_icmp .ne 10, 3) := by decide +kernel
theorem dX5_findMatch_70 : decode cX5_findMatch 70 = .ok (.iload 6, 2) := by decide +kernel
theorem dX5_findMatch_72 : decode cX5_findMatch 72 = .ok (.iload 7, 2) := by decide +kernel
theorem dX5_findMatch_74 : decode cX5_findMatch 74 = .ok (.if_icmp .ne 7, 3) := by decide +kernel
theorem dX5_findMatch_77 : decode cX5_findMatch 77 = .ok (.iconst 1, 1) := by decide +kernel
theorem dX5_findMatch_78 : decode cX5_findMatch 78 = .ok (.goto 4, 3) := by decide +kernel
theorem dX5_findMatch_81 : decode cX5_findMatch 81 = .ok (.iconst 0, 1) := by decide +kernel
theorem dX5_findMatch_82 : decode cX5_findMatch 82 = .ok (.istore 8, 2) := by decide +kernel
theorem dX5_findMatch_84 : decode cX5_findMatch 84 = .ok (.iload 8, 2) := by decide +kernel
theorem dX5_findMatch_86 : decode cX5_findMatch 86 = .ok (.ifCond .eq 40, 3) := by decide +kernel
theorem dX5_findMatch_89 : decode cX5_findMatch 89 = .ok (.aload_n 1, 1) := by decide +kernel
theorem dX5_findMatch_90 : decode cX5_findMatch 90 = .ok (.aload_n 0, 1) := by decide +kernel
theorem dX5_findMatch_91 : decode cX5_findMatch 91 = .ok (.iload_n 2, 1) := by decide +kernel
theorem dX5_findMatch_92 : decode cX5_findMatch 92 = .ok (.iload 6, 2) := by decide +kernel
theorem dX5_findMatch_94 : decode cX5_findMatch 94 = .ok (.invokevirtual 273, 3) := by decide +kernel
theorem dX5_findMatch_97 : decode cX5_findMatch 97 = .ok (.aload_n 0, 1) := by decide +kernel
theorem dX5_findMatch_98 : decode cX5_findMatch 98 = .ok (.iload_n 3, 1) := by decide +kernel
theorem dX5_findMatch_99 : decode cX5_findMatch 99 = .ok (.iload 7, 2) := by decide +kernel
theorem dX5_findMatch_101 : decode cX5_findMatch 101 = .ok (.invokevirtual 273, 3) := by decide +kernel
theorem dX5_findMatch_104 : decode cX5_findMatch 104 = .ok (.invokevirtual 277, 3) := by decide +kernel
theorem dX5_findMatch_107 : decode cX5_findMatch 107 = .ok (.ifCond .eq 19, 3) := by decide +kernel
theorem dX5_findMatch_110 : decode cX5_findMatch 110 = .ok (.aload_n 0, 1) := by decide +kernel
theorem dX5_findMatch_111 : decode cX5_findMatch 111 = .ok (.iload_n 2, 1) := by decide +kernel
theorem dX5_findMatch_112 : decode cX5_findMatch 112 = .ok (.iload 6, 2) := by decide +kernel
theorem dX5_findMatch_114 : decode cX5_findMatch 114 = .ok (.invokevirtual 281, 3) := by decide +kernel
theorem dX5_findMatch_117 : decode cX5_findMatch 117 = .ok (.aload_n 0, 1) := by decide +kernel
theorem dX5_findMatch_118 : decode cX5_findMatch 118 = .ok (.iload_n 3, 1) := by decide +kernel
theorem dX5_findMatch_119 : decode cX5_findMatch 119 = .ok (.iload 7, 2) := by decide +kernel
theorem dX5_findMatch_121 : decode cX5_findMatch 121 = .ok (.invokevirtual 281, 3) := by decide +kernel
theorem dX5_findMatch_124 : decode cX5_findMatch 124 = .ok (.iconst 1, 1) := by decide +kernel
theorem dX5_findMatch_125 : decode cX5_findMatch 125 = .ok (.ireturn, 1) := by decide +kernel
theorem dX5_findMatch_126 : decode cX5_findMatch 126 = .ok (.iinc 7 1, 3) := by decide +kernel
theorem dX5_findMatch_129 : decode cX5_findMatch 129 = .ok (.goto (-71), 3) := by decide +kernel
theorem dX5_findMatch_132 : decode cX5_findMatch 132 = .ok (.iinc 6 1, 3) := by decide +kernel
theorem dX5_findMatch_135 : decode cX5_findMatch 135 = .ok (.goto (-87), 3) := by decide +kernel
theorem dX5_findMatch_138 : decode cX5_findMatch 138 = .ok (.iconst 0, 1) := by decide +kernel
theorem dX5_findMatch_139 : decode cX5_findMatch 139 = .ok (.ireturn, 1) := by decide +kernel
theorem dX5_choicesOf_0 : decode cX5_choicesOf 0 = .ok (.iload_n 1, 1) := by decide +kernel
theorem dX5_choicesOf_1 : decode cX5_choicesOf 1 = .ok (.invokestatic 161, 3) := by decide +kernel
theorem dX5_choicesOf_4 : decode cX5_choicesOf 4 = .ok (.ifCond .eq 18, 3) := by decide +kernel
theorem dX5_choicesOf_7 : decode cX5_choicesOf 7 = .ok (.aload_n 0, 1) := by decide +kernel
theorem dX5_choicesOf_8 : decode cX5_choicesOf 8 = .ok (.getfield 29, 3) := by decide +kernel
theorem dX5_choicesOf_11 : decode cX5_choicesOf 11 = .ok (.getfield 108, 3) := by decide +kernel
theorem dX5_choicesOf_14 : decode cX5_choicesOf 14 = .ok (.iload_n 1, 1) := by decide +kernel
theorem dX5_choicesOf_15 : decode cX5_choicesOf 15 = .ok (.aaload, 1) := by decide +kernel
theorem dX5_choicesOf_16 : decode cX5_choicesOf 16 = .ok (.getfield 135, 3) := by decide +kernel
theorem dX5_choicesOf_19 : decode cX5_choicesOf 19 = .ok (.goto 4, 3) := by decide +kernel
theorem dX5_choicesOf_22 : decode cX5_choicesOf 22 = .ok (.iconst 1, 1) := by decide +kernel
theorem dX5_choicesOf_23 : decode cX5_choicesOf 23 = .ok (.ireturn, 1) := by decide +kernel
theorem dX5_valueOf_0 : decode cX5_valueOf 0 = .ok (.iload_n 1, 1) := by decide +kernel
theorem dX5_valueOf_1 : decode cX5_valueOf 1 = .ok (.invokestatic 161, 3) := by decide +kernel
theorem dX5_valueOf_4 : decode cX5_valueOf 4 = .ok (.ifCond .eq 19, 3) := by decide +kernel
theorem dX5_valueOf_7 : decode cX5_valueOf 7 = .ok (.aload_n 0, 1) := by decide +kernel
theorem dX5_valueOf_8 : decode cX5_valueOf 8 = .ok (.getfield 29, 3) := by decide +kernel
theorem dX5_valueOf_11 : decode cX5_valueOf 11 = .ok (.getfield 108, 3) := by decide +kernel
theorem dX5_valueOf_14 : decode cX5_valueOf 14 = .ok (.iload_n 1, 1) := by decide +kernel
theorem dX5_valueOf_15 : decode cX5_valueOf 15 = .ok (.aaload, 1) := by decide +kernel
theorem dX5_valueOf_16 : decode cX5_valueOf 16 = .ok (.iload_n 2, 1) := by decide +kernel
theorem dX5_valueOf_17 : decode cX5_valueOf 17 = .ok (.invokevirtual 147, 3) := by decide +kernel
theorem dX5_valueOf_20 : decode cX5_valueOf 20 = .ok (.goto 7, 3) := by decide +kernel
theorem dX5_valueOf_23 : decode cX5_valueOf 23 = .ok (.iload_n 1, 1) := by decide +kernel
theorem dX5_valueOf_24 : decode cX5_valueOf 24 = .ok (.bipush 8, 2) := by decide +kernel
theorem dX5_valueOf_26 : decode cX5_valueOf 26 = .ok (.isub, 1) := by decide +kernel
theorem dX5_valueOf_27 : decode cX5_valueOf 27 = .ok (.ireturn, 1) := by decide +kernel
theorem dX5_choose_0 : decode cX5_choose 0 = .ok (.iload_n 1, 1) := by decide +kernel
theorem dX5_choose_1 : decode cX5_choose 1 = .ok (.invokestatic 161, 3) := by decide +kernel
theorem dX5_choose_4 : decode cX5_choose 4 = .ok (.ifCond .eq 10, 3) := by decide +kernel
theorem dX5_choose_7 : decode cX5_choose 7 = .ok (.aload_n 0, 1) := by decide +kernel
theorem dX5_choose_8 : decode cX5_choose 8 = .ok (.getfield 36, 3) := by decide +kernel
theorem dX5_choose_11 : decode cX5_choose 11 = .ok (.iload_n 1, 1) := by decide +kernel
theorem dX5_choose_12 : decode cX5_choose 12 = .ok (.iload_n 2, 1) := by decide +kernel
theorem dX5_choose_13 : decode cX5_choose 13 = .ok (.iastore, 1) := by decide +kernel
theorem dX5_choose_14 : decode cX5_choose 14 = .ok (.return_, 1) := by decide +kernel
theorem dX5_fireEnabled_0 : decode cX5_fireEnabled 0 = .ok (.aload_n 0, 1) := by decide +kernel
theorem dX5_fireEnabled_1 : decode cX5_fireEnabled 1 = .ok (.getfield 22, 3) := by decide +kernel
theorem dX5_fireEnabled_4 : decode cX5_fireEnabled 4 = .ok (.iload_n 1, 1) := by decide +kernel
theorem dX5_fireEnabled_5 : decode cX5_fireEnabled 5 = .ok (.aaload, 1) := by decide +kernel
theorem dX5_fireEnabled_6 : decode cX5_fireEnabled 6 = .ok (.astore_n 2, 1) := by decide +kernel
theorem dX5_fireEnabled_7 : decode cX5_fireEnabled 7 = .ok (.aload_n 0, 1) := by decide +kernel
theorem dX5_fireEnabled_8 : decode cX5_fireEnabled 8 = .ok (.aload_n 2, 1) := by decide +kernel
theorem dX5_fireEnabled_9 : decode cX5_fireEnabled 9 = .ok (.invokevirtual 169, 3) := by decide +kernel
theorem dX5_fireEnabled_12 : decode cX5_fireEnabled 12 = .ok (.ifCond .ne 4, 3) := by decide +kernel
theorem dX5_fireEnabled_15 : decode cX5_fireEnabled 15 = .ok (.return_, 1) := by decide +kernel
theorem dX5_fireEnabled_16 : decode cX5_fireEnabled 16 = .ok (.aload_n 0, 1) := by decide +kernel
theorem dX5_fireEnabled_17 : decode cX5_fireEnabled 17 = .ok (.getfield 29, 3) := by decide +kernel
theorem dX5_fireEnabled_20 : decode cX5_fireEnabled 20 = .ok (.dup, 1) := by decide +kernel
theorem dX5_fireEnabled_21 : decode cX5_fireEnabled 21 = .ok (.getfield 119, 3) := by decide +kernel
theorem dX5_fireEnabled_24 : decode cX5_fireEnabled 24 = .ok (.iconst 1, 1) := by decide +kernel
theorem dX5_fireEnabled_25 : decode cX5_fireEnabled 25 = .ok (.iadd, 1) := by decide +kernel
theorem dX5_fireEnabled_26 : decode cX5_fireEnabled 26 = .ok (.putfield 119, 3) := by decide +kernel
theorem dX5_fireEnabled_29 : decode cX5_fireEnabled 29 = .ok (.aload_n 0, 1) := by decide +kernel
theorem dX5_fireEnabled_30 : decode cX5_fireEnabled 30 = .ok (.getfield 29, 3) := by decide +kernel
theorem dX5_fireEnabled_33 : decode cX5_fireEnabled 33 = .ok (.iload_n 1, 1) := by decide +kernel
theorem dX5_fireEnabled_34 : decode cX5_fireEnabled 34 = .ok (.putfield 92, 3) := by decide +kernel
theorem dX5_fireEnabled_37 : decode cX5_fireEnabled 37 = .ok (.aload_n 0, 1) := by decide +kernel
theorem dX5_fireEnabled_38 : decode cX5_fireEnabled 38 = .ok (.getfield 29, 3) := by decide +kernel
theorem dX5_fireEnabled_41 : decode cX5_fireEnabled 41 = .ok (.getfield 81, 3) := by decide +kernel
theorem dX5_fireEnabled_44 : decode cX5_fireEnabled 44 = .ok (.iload_n 1, 1) := by decide +kernel
theorem dX5_fireEnabled_45 : decode cX5_fireEnabled 45 = .ok (.dup2, 1) := by decide +kernel
theorem dX5_fireEnabled_46 : decode cX5_fireEnabled 46 = .ok (.iaload, 1) := by decide +kernel
theorem dX5_fireEnabled_47 : decode cX5_fireEnabled 47 = .ok (.iconst 1, 1) := by decide +kernel
theorem dX5_fireEnabled_48 : decode cX5_fireEnabled 48 = .ok (.iadd, 1) := by decide +kernel
theorem dX5_fireEnabled_49 : decode cX5_fireEnabled 49 = .ok (.iastore, 1) := by decide +kernel
theorem dX5_fireEnabled_50 : decode cX5_fireEnabled 50 = .ok (.aload_n 0, 1) := by decide +kernel
theorem dX5_fireEnabled_51 : decode cX5_fireEnabled 51 = .ok (.aload_n 2, 1) := by decide +kernel
theorem dX5_fireEnabled_52 : decode cX5_fireEnabled 52 = .ok (.invokevirtual 285, 3) := by decide +kernel
theorem dX5_fireEnabled_55 : decode cX5_fireEnabled 55 = .ok (.iconst 0, 1) := by decide +kernel
theorem dX5_fireEnabled_56 : decode cX5_fireEnabled 56 = .ok (.istore_n 3, 1) := by decide +kernel
theorem dX5_fireEnabled_57 : decode cX5_fireEnabled 57 = .ok (.iload_n 3, 1) := by decide +kernel
theorem dX5_fireEnabled_58 : decode cX5_fireEnabled 58 = .ok (.aload_n 2, 1) := by decide +kernel
theorem dX5_fireEnabled_59 : decode cX5_fireEnabled 59 = .ok (.getfield 289, 3) := by decide +kernel
theorem dX5_fireEnabled_62 : decode cX5_fireEnabled 62 = .ok (.if_icmp .ge 15, 3) := by decide +kernel
theorem dX5_fireEnabled_65 : decode cX5_fireEnabled 65 = .ok (.aload_n 0, 1) := by decide +kernel
theorem dX5_fireEnabled_66 : decode cX5_fireEnabled 66 = .ok (.aload_n 2, 1) := by decide +kernel
theorem dX5_fireEnabled_67 : decode cX5_fireEnabled 67 = .ok (.iload_n 3, 1) := by decide +kernel
theorem dX5_fireEnabled_68 : decode cX5_fireEnabled 68 = .ok (.invokevirtual 292, 3) := by decide +kernel
theorem dX5_fireEnabled_71 : decode cX5_fireEnabled 71 = .ok (.iinc 3 1, 3) := by decide +kernel
theorem dX5_fireEnabled_74 : decode cX5_fireEnabled 74 = .ok (.goto (-17), 3) := by decide +kernel
theorem dX5_fireEnabled_77 : decode cX5_fireEnabled 77 = .ok (.return_, 1) := by decide +kernel
theorem dX5_takeMessages_0 : decode cX5_takeMessages 0 = .ok (.iconst 0, 1) := by decide +kernel
theorem dX5_takeMessages_1 : decode cX5_takeMessages 1 = .ok (.istore_n 2, 1) := by decide +kernel
theorem dX5_takeMessages_2 : decode cX5_takeMessages 2 = .ok (.iload_n 2, 1) := by decide +kernel
theorem dX5_takeMessages_3 : decode cX5_takeMessages 3 = .ok (.bipush 8, 2) := by decide +kernel
theorem dX5_takeMessages_5 : decode cX5_takeMessages 5 = .ok (.if_icmp .ge 102, 3) := by decide +kernel
theorem dX5_takeMessages_8 : decode cX5_takeMessages 8 = .ok (.aload_n 1, 1) := by decide +kernel
theorem dX5_takeMessages_9 : decode cX5_takeMessages 9 = .ok (.iload_n 2, 1) := by decide +kernel
theorem dX5_takeMessages_10 : decode cX5_takeMessages 10 = .ok (.invokevirtual 164, 3) := by decide +kernel
theorem dX5_takeMessages_13 : decode cX5_takeMessages 13 = .ok (.ifCond .eq 88, 3) := by decide +kernel
theorem dX5_takeMessages_16 : decode cX5_takeMessages 16 = .ok (.aload_n 0, 1) := by decide +kernel
theorem dX5_takeMessages_17 : decode cX5_takeMessages 17 = .ok (.getfield 29, 3) := by decide +kernel
theorem dX5_takeMessages_20 : decode cX5_takeMessages 20 = .ok (.getfield 108, 3) := by decide +kernel
theorem dX5_takeMessages_23 : decode cX5_takeMessages 23 = .ok (.iload_n 2, 1) := by decide +kernel
theorem dX5_takeMessages_24 : decode cX5_takeMessages 24 = .ok (.aaload, 1) := by decide +kernel
theorem dX5_takeMessages_25 : decode cX5_takeMessages 25 = .ok (.astore_n 3, 1) := by decide +kernel
theorem dX5_takeMessages_26 : decode cX5_takeMessages 26 = .ok (.aload_n 0, 1) := by decide +kernel
theorem dX5_takeMessages_27 : decode cX5_takeMessages 27 = .ok (.getfield 39, 3) := by decide +kernel
theorem dX5_takeMessages_30 : decode cX5_takeMessages 30 = .ok (.iload_n 2, 1) := by decide +kernel
theorem dX5_takeMessages_31 : decode cX5_takeMessages 31 = .ok (.aload_n 3, 1) := by decide +kernel
theorem dX5_takeMessages_32 : decode cX5_takeMessages 32 = .ok (.aload_n 0, 1) := by decide +kernel
theorem dX5_takeMessages_33 : decode cX5_takeMessages 33 = .ok (.getfield 36, 3) := by decide +kernel
theorem dX5_takeMessages_36 : decode cX5_takeMessages 36 = .ok (.iload_n 2, 1) := by decide +kernel
theorem dX5_takeMessages_37 : decode cX5_takeMessages 37 = .ok (.iaload, 1) := by decide +kernel
theorem dX5_takeMessages_38 : decode cX5_takeMessages 38 = .ok (.invokevirtual 147, 3) := by decide +kernel
theorem dX5_takeMessages_41 : decode cX5_takeMessages 41 = .ok (.iastore, 1) := by decide +kernel
theorem dX5_takeMessages_42 : decode cX5_takeMessages 42 = .ok (.aload_n 0, 1) := by decide +kernel
theorem dX5_takeMessages_43 : decode cX5_takeMessages 43 = .ok (.getfield 42, 3) := by decide +kernel
theorem dX5_takeMessages_46 : decode cX5_takeMessages 46 = .ok (.iload_n 2, 1) := by decide +kernel
theorem dX5_takeMessages_47 : decode cX5_takeMessages 47 = .ok (.aload_n 3, 1) := by decide +kernel
theorem dX5_takeMessages_48 : decode cX5_takeMessages 48 = .ok (.aload_n 0, 1) := by decide +kernel
theorem dX5_takeMessages_49 : decode cX5_takeMessages 49 = .ok (.getfield 36, 3) := by decide +kernel
theorem dX5_takeMessages_52 : decode cX5_takeMessages 52 = .ok (.iload_n 2, 1) := by decide +kernel
theorem dX5_takeMessages_53 : decode cX5_takeMessages 53 = .ok (.iaload, 1) := by decide +kernel
theorem dX5_takeMessages_54 : decode cX5_takeMessages 54 = .ok (.invokevirtual 296, 3) := by decide +kernel
theorem dX5_takeMessages_57 : decode cX5_takeMessages 57 = .ok (.iastore, 1) := by decide +kernel
theorem dX5_takeMessages_58 : decode cX5_takeMessages 58 = .ok (.aload_n 3, 1) := by decide +kernel
theorem dX5_takeMessages_59 : decode cX5_takeMessages 59 = .ok (.aload_n 0, 1) := by decide +kernel
theorem dX5_takeMessages_60 : decode cX5_takeMessages 60 = .ok (.getfield 36, 3) := by decide +kernel
theorem dX5_takeMessages_63 : decode cX5_takeMessages 63 = .ok (.iload_n 2, 1) := by decide +kernel
theorem dX5_takeMessages_64 : decode cX5_takeMessages 64 = .ok (.iaload, 1) := by decide +kernel
theorem dX5_takeMessages_65 : decode cX5_takeMessages 65 = .ok (.aload_n 0, 1) := by decide +kernel
theorem dX5_takeMessages_66 : decode cX5_takeMessages 66 = .ok (.getfield 29, 3) := by decide +kernel
theorem dX5_takeMessages_69 : decode cX5_takeMessages 69 = .ok (.getfield 119, 3) := by decide +kernel
theorem dX5_takeMessages_72 : decode cX5_takeMessages 72 = .ok (.invokevirtual 299, 3) := by decide +kernel
theorem dX5_takeMessages_75 : decode cX5_takeMessages 75 = .ok (.aload_n 1, 1) := by decide +kernel
theorem dX5_takeMessages_76 : decode cX5_takeMessages 76 = .ok (.iload_n 2, 1) := by decide +kernel
theorem dX5_takeMessages_77 : decode cX5_takeMessages 77 = .ok (.invokevirtual 302, 3) := by decide +kernel
theorem dX5_takeMessages_80 : decode cX5_takeMessages 80 = .ok (.ifCond .ne 21, 3) := by decide +kernel
theorem dX5_takeMessages_83 : decode cX5_takeMessages 83 = .ok (.aload_n 0, 1) := by decide +kernel
theorem dX5_takeMessages_84 : decode cX5_takeMessages 84 = .ok (.getfield 29, 3) := by decide +kernel
theorem dX5_takeMessages_87 : decode cX5_takeMessages 87 = .ok (.getfield 122, 3) := by decide +kernel
theorem dX5_takeMessages_90 : decode cX5_takeMessages 90 = .ok (.aload_n 0, 1) := by decide +kernel
theorem dX5_takeMessages_91 : decode cX5_takeMessages 91 = .ok (.getfield 42, 3) := by decide +kernel
theorem dX5_takeMessages_94 : decode cX5_takeMessages 94 = .ok (.iload_n 2, 1) := by decide +kernel
theorem dX5_takeMessages_95 : decode cX5_takeMessages 95 = .ok (.iaload, 1) := by decide +kernel
theorem dX5_takeMessages_96 : decode cX5_takeMessages 96 = .ok (.iconst 2, 1) := by decide +kernel
theorem dX5_takeMessages_97 : decode cX5_takeMessages 97 = .ok (.iconst 0, 1) := by decide +kernel
theorem dX5_takeMessages_98 : decode cX5_takeMessages 98 = .ok (.invokevirtual 305, 3) := by decide +kernel
theorem dX5_takeMessages_101 : decode cX5_takeMessages 101 = .ok (.iinc 2 1, 3) := by decide +kernel
theorem dX5_takeMessages_104 : decode cX5_takeMessages 104 = .ok (.goto (-102), 3) := by decide +kernel
theorem dX5_takeMessages_107 : decode cX5_takeMessages 107 = .ok (.return_, 1) := by decide +kernel
theorem dX5_carryOut_0 : decode cX5_carryOut 0 = .ok (.aload_n 1, 1) := by decide +kernel
theorem dX5_carryOut_1 : decode cX5_carryOut 1 = .ok (.getfield 308, 3) := by decide +kernel
theorem dX5_carryOut_4 : decode cX5_carryOut 4 = .ok (.iload_n 2, 1) := by decide +kernel
theorem dX5_carryOut_5 : decode cX5_carryOut 5 = .ok (.iaload, 1) := by decide +kernel
theorem dX5_carryOut_6 : decode cX5_carryOut 6 = .ok (.istore_n 3, 1) := by decide +kernel
theorem dX5_carryOut_7 : decode cX5_carryOut 7 = .ok (.iload_n 3, 1) := by decide +kernel
theorem dX5_carryOut_8 : decode cX5_carryOut 8 = .ok (.invokestatic 161, 3) := by decide +kernel
theorem dX5_carryOut_11 : decode cX5_carryOut 11 = .ok (.ifCond .ne 4, 3) := by decide +kernel
theorem dX5_carryOut_14 : decode cX5_carryOut 14 = .ok (.return_, 1) := by decide +kernel
theorem dX5_carryOut_15 : decode cX5_carryOut 15 = .ok (.aload_n 1, 1) := by decide +kernel
theorem dX5_carryOut_16 : decode cX5_carryOut 16 = .ok (.iload_n 2, 1) := by decide +kernel
theorem dX5_carryOut_17 : decode cX5_carryOut 17 = .ok (.aload_n 0, 1) := by decide +kernel
theorem dX5_carryOut_18 : decode cX5_carryOut 18 = .ok (.getfield 39, 3) := by decide +kernel
theorem dX5_carryOut_21 : decode cX5_carryOut 21 = .ok (.invokevirtual 311, 3) := by decide +kernel
theorem dX5_carryOut_24 : decode cX5_carryOut 24 = .ok (.istore 4, 2) := by decide +kernel
theorem dX5_carryOut_26 : decode cX5_carryOut 26 = .ok (.aload_n 1, 1) := by decide +kernel
theorem dX5_carryOut_27 : decode cX5_carryOut 27 = .ok (.getfield 315, 3) := by decide +kernel
theorem dX5_carryOut_30 : decode cX5_carryOut 30 = .ok (.iload_n 2, 1) := by decide +kernel
theorem dX5_carryOut_31 : decode cX5_carryOut 31 = .ok (.baload, 1) := by decide +kernel
theorem dX5_carryOut_32 : decode cX5_carryOut 32 = .ok (.ifCond .eq 25, 3) := by decide +kernel
theorem dX5_carryOut_35 : decode cX5_carryOut 35 = .ok (.aload_n 0, 1) := by decide +kernel
theorem dX5_carryOut_36 : decode cX5_carryOut 36 = .ok (.getfield 29, 3) := by decide +kernel
theorem dX5_carryOut_39 : decode cX5_carryOut 39 = .ok (.getfield 122, 3) := by decide +kernel
theorem dX5_carryOut_42 : decode cX5_carryOut 42 = .ok (.aload_n 0, 1) := by decide +kernel
theorem dX5_carryOut_43 : decode cX5_carryOut 43 = .ok (.getfield 42, 3) := by decide +kernel
theorem dX5_carryOut_46 : decode cX5_carryOut 46 = .ok (.iload_n 3, 1) := by decide +kernel
theorem dX5_carryOut_47 : decode cX5_carryOut 47 = .ok (.iaload, 1) := by decide +kernel
theorem dX5_carryOut_48 : decode cX5_carryOut 48 = .ok (.iconst 1, 1) := by decide +kernel
theorem dX5_carryOut_49 : decode cX5_carryOut 49 = .ok (.iload 4, 2) := by decide +kernel
theorem dX5_carryOut_51 : decode cX5_carryOut 51 = .ok (.invokevirtual 305, 3) := by decide +kernel
theorem dX5_carryOut_54 : decode cX5_carryOut 54 = .ok (.goto 25, 3) := by decide +kernel
theorem dX5_carryOut_57 : decode cX5_carryOut 57 = .ok (.aload_n 0, 1) := by decide +kernel
theorem dX5_carryOut_58 : decode cX5_carryOut 58 = .ok (.getfield 29, 3) := by decide +kernel
theorem dX5_carryOut_61 : decode cX5_carryOut 61 = .ok (.getfield 108, 3) := by decide +kernel
theorem dX5_carryOut_64 : decode cX5_carryOut 64 = .ok (.iload_n 3, 1) := by decide +kernel
theorem dX5_carryOut_65 : decode cX5_carryOut 65 = .ok (.aaload, 1) := by decide +kernel
theorem dX5_carryOut_66 : decode cX5_carryOut 66 = .ok (.iload 4, 2) := by decide +kernel
theorem dX5_carryOut_68 : decode cX5_carryOut 68 = .ok (.aload_n 0, 1) := by decide +kernel
theorem dX5_carryOut_69 : decode cX5_carryOut 69 = .ok (.getfield 29, 3) := by decide +kernel
theorem dX5_carryOut_72 : decode cX5_carryOut 72 = .ok (.getfield 119, 3) := by decide +kernel
theorem dX5_carryOut_75 : decode cX5_carryOut 75 = .ok (.iconst (-1), 1) := by decide +kernel
theorem dX5_carryOut_76 : decode cX5_carryOut 76 = .ok (.invokevirtual 131, 3) := by decide +kernel
theorem dX5_carryOut_79 : decode cX5_carryOut 79 = .ok (.return_, 1) := by decide +kernel
theorem dX5_mix_0 : decode cX5_mix 0 = .ok (.ldc2_w 319, 3) := by decide +kernel
theorem dX5_mix_3 : decode cX5_mix 3 = .ok (.lload_n 0, 1) := by decide +kernel
theorem dX5_mix_4 : decode cX5_mix 4 = .ok (.lmul, 1) := by decide +kernel
theorem dX5_mix_5 : decode cX5_mix 5 = .ok (.lload_n 2, 1) := by decide +kernel
theorem dX5_mix_6 : decode cX5_mix 6 = .ok (.ladd, 1) := by decide +kernel
theorem dX5_mix_7 : decode cX5_mix 7 = .ok (.lreturn, 1) := by decide +kernel
theorem dX5_mixRules_0 : decode cX5_mixRules 0 = .ok (.lload_n 1, 1) := by decide +kernel
theorem dX5_mixRules_1 : decode cX5_mixRules 1 = .ok (.aload_n 0, 1) := by decide +kernel
theorem dX5_mixRules_2 : decode cX5_mixRules 2 = .ok (.getfield 72, 3) := by decide +kernel
theorem dX5_mixRules_5 : decode cX5_mixRules 5 = .ok (.i2l, 1) := by decide +kernel
theorem dX5_mixRules_6 : decode cX5_mixRules 6 = .ok (.invokestatic 224, 3) := by decide +kernel
theorem dX5_mixRules_9 : decode cX5_mixRules 9 = .ok (.lstore_n 3, 1) := by decide +kernel
theorem dX5_mixRules_10 : decode cX5_mixRules 10 = .ok (.iconst 0, 1) := by decide +kernel
theorem dX5_mixRules_11 : decode cX5_mixRules 11 = .ok (.istore 5, 2) := by decide +kernel
theorem dX5_mixRules_13 : decode cX5_mixRules 13 = .ok (.iload 5, 2) := by decide +kernel
theorem dX5_mixRules_15 : decode cX5_mixRules 15 = .ok (.aload_n 0, 1) := by decide +kernel
theorem dX5_mixRules_16 : decode cX5_mixRules 16 = .ok (.getfield 72, 3) := by decide +kernel
theorem dX5_mixRules_19 : decode cX5_mixRules 19 = .ok (.if_icmp .ge 41, 3) := by decide +kernel
theorem dX5_mixRules_22 : decode cX5_mixRules 22 = .ok (.lload_n 3, 1) := by decide +kernel
theorem dX5_mixRules_23 : decode cX5_mixRules 23 = .ok (.aload_n 0, 1) := by decide +kernel
theorem dX5_mixRules_24 : decode cX5_mixRules 24 = .ok (.getfield 22, 3) := by decide +kernel
theorem dX5_mixRules_27 : decode cX5_mixRules 27 = .ok (.iload 5, 2) := by decide +kernel
theorem dX5_mixRules_29 : decode cX5_mixRules 29 = .ok (.aaload, 1) := by decide +kernel
theorem dX5_mixRules_30 : decode cX5_mixRules 30 = .ok (.getfield 95, 3) := by decide +kernel
theorem dX5_mixRules_33 : decode cX5_mixRules 33 = .ok (.i2l, 1) := by decide +kernel
theorem dX5_mixRules_34 : decode cX5_mixRules 34 = .ok (.invokestatic 224, 3) := by decide +kernel
theorem dX5_mixRules_37 : decode cX5_mixRules 37 = .ok (.lstore_n 3, 1) := by decide +kernel
theorem dX5_mixRules_38 : decode cX5_mixRules 38 = .ok (.lload_n 3, 1) := by decide +kernel
theorem dX5_mixRules_39 : decode cX5_mixRules 39 = .ok (.aload_n 0, 1) := by decide +kernel
theorem dX5_mixRules_40 : decode cX5_mixRules 40 = .ok (.getfield 29, 3) := by decide +kernel
theorem dX5_mixRules_43 : decode cX5_mixRules 43 = .ok (.getfield 81, 3) := by decide +kernel
theorem dX5_mixRules_46 : decode cX5_mixRules 46 = .ok (.iload 5, 2) := by decide +kernel
theorem dX5_mixRules_48 : decode cX5_mixRules 48 = .ok (.iaload, 1) := by decide +kernel
theorem dX5_mixRules_49 : decode cX5_mixRules 49 = .ok (.i2l, 1) := by decide +kernel
theorem dX5_mixRules_50 : decode cX5_mixRules 50 = .ok (.invokestatic 224, 3) := by decide +kernel
theorem dX5_mixRules_53 : decode cX5_mixRules 53 = .ok (.lstore_n 3, 1) := by decide +kernel
theorem dX5_mixRules_54 : decode cX5_mixRules 54 = .ok (.iinc 5 1, 3) := by decide +kernel
theorem dX5_mixRules_57 : decode cX5_mixRules 57 = .ok (.goto (-44), 3) := by decide +kernel
theorem dX5_mixRules_60 : decode cX5_mixRules 60 = .ok (.lload_n 3, 1) := by decide +kernel
theorem dX5_mixRules_61 : decode cX5_mixRules 61 = .ok (.lreturn, 1) := by decide +kernel
theorem dX5_mixBuffer_0 : decode cX5_mixBuffer 0 = .ok (.lload_n 1, 1) := by decide +kernel
theorem dX5_mixBuffer_1 : decode cX5_mixBuffer 1 = .ok (.aload_n 0, 1) := by decide +kernel
theorem dX5_mixBuffer_2 : decode cX5_mixBuffer 2 = .ok (.getfield 53, 3) := by decide +kernel
theorem dX5_mixBuffer_5 : decode cX5_mixBuffer 5 = .ok (.i2l, 1) := by decide +kernel
theorem dX5_mixBuffer_6 : decode cX5_mixBuffer 6 = .ok (.invokestatic 224, 3) := by decide +kernel
theorem dX5_mixBuffer_9 : decode cX5_mixBuffer 9 = .ok (.lstore_n 3, 1) := by decide +kernel
theorem dX5_mixBuffer_10 : decode cX5_mixBuffer 10 = .ok (.iconst 0, 1) := by decide +kernel
theorem dX5_mixBuffer_11 : decode cX5_mixBuffer 11 = .ok (.istore 5, 2) := by decide +kernel
theorem dX5_mixBuffer_13 : decode cX5_mixBuffer 13 = .ok (.iload 5, 2) := by decide +kernel
theorem dX5_mixBuffer_15 : decode cX5_mixBuffer 15 = .ok (.aload_n 0, 1) := by decide +kernel
theorem dX5_mixBuffer_16 : decode cX5_mixBuffer 16 = .ok (.getfield 53, 3) := by decide +kernel
theorem dX5_mixBuffer_19 : decode cX5_mixBuffer 19 = .ok (.if_icmp .ge 22, 3) := by decide +kernel
theorem dX5_mixBuffer_22 : decode cX5_mixBuffer 22 = .ok (.lload_n 3, 1) := by decide +kernel
theorem dX5_mixBuffer_23 : decode cX5_mixBuffer 23 = .ok (.aload_n 0, 1) := by decide +kernel
theorem dX5_mixBuffer_24 : decode cX5_mixBuffer 24 = .ok (.getfield 9, 3) := by decide +kernel
theorem dX5_mixBuffer_27 : decode cX5_mixBuffer 27 = .ok (.iload 5, 2) := by decide +kernel
theorem dX5_mixBuffer_29 : decode cX5_mixBuffer 29 = .ok (.iaload, 1) := by decide +kernel
theorem dX5_mixBuffer_30 : decode cX5_mixBuffer 30 = .ok (.i2l, 1) := by decide +kernel
theorem dX5_mixBuffer_31 : decode cX5_mixBuffer 31 = .ok (.invokestatic 224, 3) := by decide +kernel
theorem dX5_mixBuffer_34 : decode cX5_mixBuffer 34 = .ok (.lstore_n 3, 1) := by decide +kernel
theorem dX5_mixBuffer_35 : decode cX5_mixBuffer 35 = .ok (.iinc 5 1, 3) := by decide +kernel
theorem dX5_mixBuffer_38 : decode cX5_mixBuffer 38 = .ok (.goto (-25), 3) := by decide +kernel
theorem dX5_mixBuffer_41 : decode cX5_mixBuffer 41 = .ok (.lload_n 3, 1) := by decide +kernel
theorem dX5_mixBuffer_42 : decode cX5_mixBuffer 42 = .ok (.lreturn, 1) := by decide +kernel
theorem dX6_init_0 : decode cX6_init 0 = .ok (.aload_n 0, 1) := by decide +kernel
theorem dX6_init_1 : decode cX6_init 1 = .ok (.invokespecial 1, 3) := by decide +kernel
theorem dX6_init_4 : decode cX6_init 4 = .ok (.aload_n 0, 1) := by decide +kernel
theorem dX6_init_5 : decode cX6_init 5 = .ok (.bipush 40, 2) := by decide +kernel
theorem dX6_init_7 : decode cX6_init 7 = .ok (.newarray .int, 2) := by decide +kernel
theorem dX6_init_9 : decode cX6_init 9 = .ok (.putfield 7, 3) := by decide +kernel
theorem dX6_init_12 : decode cX6_init 12 = .ok (.aload_n 0, 1) := by decide +kernel
theorem dX6_init_13 : decode cX6_init 13 = .ok (.bipush 8, 2) := by decide +kernel
theorem dX6_init_15 : decode cX6_init 15 = .ok (.newarray .int, 2) := by decide +kernel
theorem dX6_init_17 : decode cX6_init 17 = .ok (.putfield 13, 3) := by decide +kernel
theorem dX6_init_20 : decode cX6_init 20 = .ok (.aload_n 0, 1) := by decide +kernel
theorem dX6_init_21 : decode cX6_init 21 = .ok (.bipush 24, 2) := by decide +kernel
theorem dX6_init_23 : decode cX6_init 23 = .ok (.newarray .int, 2) := by decide +kernel
theorem dX6_init_25 : decode cX6_init 25 = .ok (.putfield 16, 3) := by decide +kernel
theorem dX6_init_28 : decode cX6_init 28 = .ok (.aload_n 0, 1) := by decide +kernel
theorem dX6_init_29 : decode cX6_init 29 = .ok (.bipush 8, 2) := by decide +kernel
theorem dX6_init_31 : decode cX6_init 31 = .ok (.newarray .int, 2) := by decide +kernel
theorem dX6_init_33 : decode cX6_init 33 = .ok (.putfield 19, 3) := by decide +kernel
theorem dX6_init_36 : decode cX6_init 36 = .ok (.aload_n 0, 1) := by decide +kernel
theorem dX6_init_37 : decode cX6_init 37 = .ok (.bipush 32, 2) := by decide +kernel
theorem dX6_init_39 : decode cX6_init 39 = .ok (.newarray .int, 2) := by decide +kernel
theorem dX6_init_41 : decode cX6_init 41 = .ok (.putfield 22, 3) := by decide +kernel
theorem dX6_init_44 : decode cX6_init 44 = .ok (.aload_n 0, 1) := by decide +kernel
theorem dX6_init_45 : decode cX6_init 45 = .ok (.bipush 32, 2) := by decide +kernel
theorem dX6_init_47 : decode cX6_init 47 = .ok (.newarray .int, 2) := by decide +kernel
theorem dX6_init_49 : decode cX6_init 49 = .ok (.putfield 25, 3) := by decide +kernel
theorem dX6_init_52 : decode cX6_init 52 = .ok (.aload_n 0, 1) := by decide +kernel
theorem dX6_init_53 : decode cX6_init 53 = .ok (.bipush 96, 2) := by decide +kernel
theorem dX6_init_55 : decode cX6_init 55 = .ok (.newarray .int, 2) := by decide +kernel
theorem dX6_init_57 : decode cX6_init 57 = .ok (.putfield 28, 3) := by decide +kernel
theorem dX6_init_60 : decode cX6_init 60 = .ok (.aload_n 0, 1) := by decide +kernel
theorem dX6_init_61 : decode cX6_init 61 = .ok (.bipush 96, 2) := by decide +kernel
theorem dX6_init_63 : decode cX6_init 63 = .ok (.newarray .int, 2) := by decide +kernel
theorem dX6_init_65 : decode cX6_init 65 = .ok (.putfield 31, 3) := by decide +kernel
theorem dX6_init_68 : decode cX6_init 68 = .ok (.aload_n 0, 1) := by decide +kernel
theorem dX6_init_69 : decode cX6_init 69 = .ok (.bipush 8, 2) := by decide +kernel
theorem dX6_init_71 : decode cX6_init 71 = .ok (.newarray .int, 2) := by decide +kernel
theorem dX6_init_73 : decode cX6_init 73 = .ok (.putfield 34, 3) := by decide +kernel
theorem dX6_init_76 : decode cX6_init 76 = .ok (.aload_n 0, 1) := by decide +kernel
theorem dX6_init_77 : decode cX6_init 77 = .ok (.iconst (-1), 1) := by decide +kernel
theorem dX6_init_78 : decode cX6_init 78 = .ok (.putfield 37, 3) := by decide +kernel
theorem dX6_init_81 : decode cX6_init 81 = .ok (.aload_n 0, 1) := by decide +kernel
theorem dX6_init_82 : decode cX6_init 82 = .ok (.bipush 8, 2) := by decide +kernel
theorem dX6_init_84 : decode cX6_init 84 = .ok (.newarray .int, 2) := by decide +kernel
theorem dX6_init_86 : decode cX6_init 86 = .ok (.putfield 41, 3) := by decide +kernel
theorem dX6_init_89 : decode cX6_init 89 = .ok (.aload_n 0, 1) := by decide +kernel
theorem dX6_init_90 : decode cX6_init 90 = .ok (.bipush 64, 2) := by decide +kernel
theorem dX6_init_92 : decode cX6_init 92 = .ok (.newarray .int, 2) := by decide +kernel
theorem dX6_init_94 : decode cX6_init 94 = .ok (.putfield 44, 3) := by decide +kernel
theorem dX6_init_97 : decode cX6_init 97 = .ok (.aload_n 0, 1) := by decide +kernel
theorem dX6_init_98 : decode cX6_init 98 = .ok (.bipush 64, 2) := by decide +kernel
theorem dX6_init_100 : decode cX6_init 100 = .ok (.newarray .int, 2) := by decide +kernel
theorem dX6_init_102 : decode cX6_init 102 = .ok (.putfield 47, 3) := by decide +kernel
theorem dX6_init_105 : decode cX6_init 105 = .ok (.aload_n 0, 1) := by decide +kernel
theorem dX6_init_106 : decode cX6_init 106 = .ok (.bipush 64, 2) := by decide +kernel
theorem dX6_init_108 : decode cX6_init 108 = .ok (.newarray .int, 2) := by decide +kernel
theorem dX6_init_110 : decode cX6_init 110 = .ok (.putfield 50, 3) := by decide +kernel
theorem dX6_init_113 : decode cX6_init 113 = .ok (.aload_n 0, 1) := by decide +kernel
theorem dX6_init_114 : decode cX6_init 114 = .ok (.bipush 24, 2) := by decide +kernel
theorem dX6_init_116 : decode cX6_init 116 = .ok (.newarray .int, 2) := by decide +kernel
theorem dX6_init_118 : decode cX6_init 118 = .ok (.putfield 53, 3) := by decide +kernel
theorem dX6_init_121 : decode cX6_init 121 = .ok (.aload_n 0, 1) := by decide +kernel
theorem dX6_init_122 : decode cX6_init 122 = .ok (.bipush 24, 2) := by decide +kernel
theorem dX6_init_124 : decode cX6_init 124 = .ok (.newarray .int, 2) := by decide +kernel
theorem dX6_init_126 : decode cX6_init 126 = .ok (.putfield 56, 3) := by decide +kernel
theorem dX6_init_129 : decode cX6_init 129 = .ok (.aload_n 0, 1) := by decide +kernel
theorem dX6_init_130 : decode cX6_init 130 = .ok (.bipush 8, 2) := by decide +kernel
theorem dX6_init_132 : decode cX6_init 132 = .ok (.newarray .int, 2) := by decide +kernel
theorem dX6_init_134 : decode cX6_init 134 = .ok (.putfield 59, 3) := by decide +kernel
theorem dX6_init_137 : decode cX6_init 137 = .ok (.aload_n 0, 1) := by decide +kernel
theorem dX6_init_138 : decode cX6_init 138 = .ok (.bipush 8, 2) := by decide +kernel
theorem dX6_init_140 : decode cX6_init 140 = .ok (.newarray .long, 2) := by decide +kernel
theorem dX6_init_142 : decode cX6_init 142 = .ok (.putfield 62, 3) := by decide +kernel
theorem dX6_init_145 : decode cX6_init 145 = .ok (.aload_n 0, 1) := by decide +kernel
theorem dX6_init_146 : decode cX6_init 146 = .ok (.iconst 3, 1) := by decide +kernel
theorem dX6_init_147 : decode cX6_init 147 = .ok (.newarray .int, 2) := by decide +kernel
theorem dX6_init_149 : decode cX6_init 149 = .ok (.putfield 66, 3) := by decide +kernel
theorem dX6_init_152 : decode cX6_init 152 = .ok (.aload_n 0, 1) := by decide +kernel
theorem dX6_init_153 : decode cX6_init 153 = .ok (.iconst 4, 1) := by decide +kernel
theorem dX6_init_154 : decode cX6_init 154 = .ok (.newarray .int, 2) := by decide +kernel
theorem dX6_init_156 : decode cX6_init 156 = .ok (.putfield 69, 3) := by decide +kernel
theorem dX6_init_159 : decode cX6_init 159 = .ok (.aload_n 0, 1) := by decide +kernel
theorem dX6_init_160 : decode cX6_init 160 = .ok (.iconst 4, 1) := by decide +kernel
theorem dX6_init_161 : decode cX6_init 161 = .ok (.newarray .int, 2) := by decide +kernel
theorem dX6_init_163 : decode cX6_init 163 = .ok (.putfield 72, 3) := by decide +kernel
theorem dX6_init_166 : decode cX6_init 166 = .ok (.aload_n 0, 1) := by decide +kernel
theorem dX6_init_167 : decode cX6_init 167 = .ok (.bipush 12, 2) := by decide +kernel
theorem dX6_init_169 : decode cX6_init 169 = .ok (.newarray .int, 2) := by decide +kernel
theorem dX6_init_171 : decode cX6_init 171 = .ok (.putfield 75, 3) := by decide +kernel
theorem dX6_init_174 : decode cX6_init 174 = .ok (.aload_n 0, 1) := by decide +kernel
theorem dX6_init_175 : decode cX6_init 175 = .ok (.bipush 12, 2) := by decide +kernel
theorem dX6_init_177 : decode cX6_init 177 = .ok (.newarray .int, 2) := by decide +kernel
theorem dX6_init_179 : decode cX6_init 179 = .ok (.putfield 78, 3) := by decide +kernel
theorem dX6_init_182 : decode cX6_init 182 = .ok (.aload_n 0, 1) := by decide +kernel
theorem dX6_init_183 : decode cX6_init 183 = .ok (.bipush 8, 2) := by decide +kernel
theorem dX6_init_185 : decode cX6_init 185 = .ok (.newarray .int, 2) := by decide +kernel
theorem dX6_init_187 : decode cX6_init 187 = .ok (.putfield 81, 3) := by decide +kernel
theorem dX6_init_190 : decode cX6_init 190 = .ok (.aload_n 0, 1) := by decide +kernel
theorem dX6_init_191 : decode cX6_init 191 = .ok (.bipush 8, 2) := by decide +kernel
theorem dX6_init_193 : decode cX6_init 193 = .ok (.newarray .int, 2) := by decide +kernel
theorem dX6_init_195 : decode cX6_init 195 = .ok (.putfield 84, 3) := by decide +kernel
theorem dX6_init_198 : decode cX6_init 198 = .ok (.aload_n 0, 1) := by decide +kernel
theorem dX6_init_199 : decode cX6_init 199 = .ok (.bipush 8, 2) := by decide +kernel
theorem dX6_init_201 : decode cX6_init 201 = .ok (.newarray .int, 2) := by decide +kernel
theorem dX6_init_203 : decode cX6_init 203 = .ok (.putfield 87, 3) := by decide +kernel
theorem dX6_init_206 : decode cX6_init 206 = .ok (.aload_n 0, 1) := by decide +kernel
theorem dX6_init_207 : decode cX6_init 207 = .ok (.bipush 8, 2) := by decide +kernel
theorem dX6_init_209 : decode cX6_init 209 = .ok (.newarray .int, 2) := by decide +kernel
theorem dX6_init_211 : decode cX6_init 211 = .ok (.putfield 90, 3) := by decide +kernel
theorem dX6_init_214 : decode cX6_init 214 = .ok (.aload_n 0, 1) := by decide +kernel
theorem dX6_init_215 : decode cX6_init 215 = .ok (.bipush 64, 2) := by decide +kernel
theorem dX6_init_217 : decode cX6_init 217 = .ok (.newarray .int, 2) := by decide +kernel
theorem dX6_init_219 : decode cX6_init 219 = .ok (.putfield 93, 3) := by decide +kernel
theorem dX6_init_222 : decode cX6_init 222 = .ok (.aload_n 0, 1) := by decide +kernel
theorem dX6_init_223 : decode cX6_init 223 = .ok (.bipush 64, 2) := by decide +kernel
theorem dX6_init_225 : decode cX6_init 225 = .ok (.newarray .int, 2) := by decide +kernel
theorem dX6_init_227 : decode cX6_init 227 = .ok (.putfield 96, 3) := by decide +kernel
theorem dX6_init_230 : decode cX6_init 230 = .ok (.aload_n 0, 1) := by decide +kernel
theorem dX6_init_231 : decode cX6_init 231 = .ok (.bipush 64, 2) := by decide +kernel
theorem dX6_init_233 : decode cX6_init 233 = .ok (.newarray .int, 2) := by decide +kernel
theorem dX6_init_235 : decode cX6_init 235 = .ok (.putfield 99, 3) := by decide +kernel
theorem dX6_init_238 : decode cX6_init 238 = .ok (.aload_n 0, 1) := by decide +kernel
theorem dX6_init_239 : decode cX6_init 239 = .ok (.bipush 24, 2) := by decide +kernel
theorem dX6_init_241 : decode cX6_init 241 = .ok (.newarray .int, 2) := by decide +kernel
theorem dX6_init_243 : decode cX6_init 243 = .ok (.putfield 102, 3) := by decide +kernel
theorem dX6_init_246 : decode cX6_init 246 = .ok (.aload_n 0, 1) := by decide +kernel
theorem dX6_init_247 : decode cX6_init 247 = .ok (.bipush 24, 2) := by decide +kernel
theorem dX6_init_249 : decode cX6_init 249 = .ok (.newarray .int, 2) := by decide +kernel
theorem dX6_init_251 : decode cX6_init 251 = .ok (.putfield 105, 3) := by decide +kernel
theorem dX6_init_254 : decode cX6_init 254 = .ok (.aload_n 0, 1) := by decide +kernel
theorem dX6_init_255 : decode cX6_init 255 = .ok (.bipush 8, 2) := by decide +kernel
theorem dX6_init_257 : decode cX6_init 257 = .ok (.newarray .int, 2) := by decide +kernel
theorem dX6_init_259 : decode cX6_init 259 = .ok (.putfield 108, 3) := by decide +kernel
theorem dX6_init_262 : decode cX6_init 262 = .ok (.aload_n 0, 1) := by decide +kernel
theorem dX6_init_263 : decode cX6_init 263 = .ok (.bipush 8, 2) := by decide +kernel
theorem dX6_init_265 : decode cX6_init 265 = .ok (.newarray .int, 2) := by decide +kernel
theorem dX6_init_267 : decode cX6_init 267 = .ok (.putfield 111, 3) := by decide +kernel
theorem dX6_init_270 : decode cX6_init 270 = .ok (.aload_n 0, 1) := by decide +kernel
theorem dX6_init_271 : decode cX6_init 271 = .ok (.bipush 8, 2) := by decide +kernel
theorem dX6_init_273 : decode cX6_init 273 = .ok (.newarray .long, 2) := by decide +kernel
theorem dX6_init_275 : decode cX6_init 275 = .ok (.putfield 114, 3) := by decide +kernel
theorem dX6_init_278 : decode cX6_init 278 = .ok (.return_, 1) := by decide +kernel
theorem dX6_thrown_0 : decode cX6_thrown 0 = .ok (.aload_n 0, 1) := by decide +kernel
theorem dX6_thrown_1 : decode cX6_thrown 1 = .ok (.getfield 117, 3) := by decide +kernel
theorem dX6_thrown_4 : decode cX6_thrown 4 = .ok (.ireturn, 1) := by decide +kernel
theorem dX6_within_0 : decode cX6_within 0 = .ok (.iload_n 0, 1) := by decide +kernel
theorem dX6_within_1 : decode cX6_within 1 = .ok (.iload_n 1, 1) := by decide +kernel
theorem dX6_within_2 : decode cX6_within 2 = .ok (.if_icmp .lt 12, 3) := by decide +kernel
theorem dX6_within_5 : decode cX6_within 5 = .ok (.iload_n 0, 1) := by decide +kernel
theorem dX6_within_6 : decode cX6_within 6 = .ok (.iload_n 2, 1) := by decide +kernel
theorem dX6_within_7 : decode cX6_within 7 = .ok (.if_icmp .gt 7, 3) := by decide +kernel
theorem dX6_within_10 : decode cX6_within 10 = .ok (.iconst 1, 1) := by decide +kernel
theorem dX6_within_11 : decode cX6_within 11 = .ok (.goto 4, 3) := by decide +kernel
theorem dX6_within_14 : decode cX6_within 14 = .ok (.iconst 0, 1) := by decide +kernel
theorem dX6_within_15 : decode cX6_within 15 = .ok (.ireturn, 1) := by decide +kernel
theorem dX6_append_0 : decode cX6_append 0 = .ok (.aload_n 0, 1) := by decide +kernel
theorem dX6_append_1 : decode cX6_append 1 = .ok (.iload_n 1, 1) := by decide +kernel
theorem dX6_append_2 : decode cX6_append 2 = .ok (.bipush 32, 2) := by decide +kernel
theorem dX6_append_4 : decode cX6_append 4 = .ok (.bipush 126, 2) := by decide +kernel
theorem dX6_append_6 : decode cX6_append 6 = .ok (.invokestatic 120, 3) := by decide +kernel
theorem dX6_append_9 : decode cX6_append 9 = .ok (.ifCond .ne 7, 3) := by decide +kernel
theorem dX6_append_12 : decode cX6_append 12 = .ok (.iconst 1, 1) := by decide +kernel
theorem dX6_append_13 : decode cX6_append 13 = .ok (.goto 17, 3) := by decide +kernel
theorem dX6_append_16 : decode cX6_append 16 = .ok (.aload_n 0, 1) := by decide +kernel
theorem dX6_append_17 : decode cX6_append 17 = .ok (.getfield 124, 3) := by decide +kernel
theorem dX6_append_20 : decode cX6_append 20 = .ok (.bipush 40, 2) := by decide +kernel
theorem dX6_append_22 : decode cX6_append 22 = .ok (.if_icmp .ne 7, 3) := by decide +kernel
theorem dX6_append_25 : decode cX6_append 25 = .ok (.iconst 2, 1) := by decide +kernel
theorem dX6_append_26 : decode cX6_append 26 = .ok (.goto 4, 3) := by decide +kernel
theorem dX6_append_29 : decode cX6_append 29 = .ok (.iconst 0, 1) := by decide +kernel
theorem dX6_append_30 : decode cX6_append 30 = .ok (.putfield 117, 3) := by decide +kernel
theorem dX6_append_33 : decode cX6_append 33 = .ok (.aload_n 0, 1) := by decide +kernel
theorem dX6_append_34 : decode cX6_append 34 = .ok (.getfield 117, 3) := by decide +kernel
theorem dX6_append_37 : decode cX6_append 37 = .ok (.ifCond .le 5, 3) := by decide +kernel
theorem dX6_append_40 : decode cX6_append 40 = .ok (.iconst 0, 1) := by decide +kernel
theorem dX6_append_41 : decode cX6_append 41 = .ok (.ireturn, 1) := by decide +kernel
theorem dX6_append_42 : decode cX6_append 42 = .ok (.aload_n 0, 1) := by decide +kernel
theorem dX6_append_43 : decode cX6_append 43 = .ok (.getfield 7, 3) := by decide +kernel
theorem dX6_append_46 : decode cX6_append 46 = .ok (.aload_n 0, 1) := by decide +kernel
theorem dX6_append_47 : decode cX6_append 47 = .ok (.getfield 124, 3) := by decide +kernel
theorem dX6_append_50 : decode cX6_append 50 = .ok (.iload_n 1, 1) := by decide +kernel
theorem dX6_append_51 : decode cX6_append 51 = .ok (.iastore, 1) := by decide +kernel
theorem dX6_append_52 : decode cX6_append 52 = .ok (.aload_n 0, 1) := by decide +kernel
theorem dX6_append_53 : decode cX6_append 53 = .ok (.dup, 1) := by decide +kernel
theorem dX6_append_54 : decode cX6_append 54 = .ok (.getfield 124, 3) := by decide +kernel
theorem dX6_append_57 : decode cX6_append 57 = .ok (.iconst 1, 1) := by decide +kernel
theorem dX6_append_58 : decode cX6_append 58 = .ok (.iadd, 1) := by decide +kernel
theorem dX6_append_59 : decode cX6_append 59 = .ok (.putfield 124, 3) := by decide +kernel
theorem dX6_append_62 : decode cX6_append 62 = .ok (.aload_n 0, 1) := by decide +kernel
theorem dX6_append_63 : decode cX6_append 63 = .ok (.getfield 124, 3) := by decide +kernel
theorem dX6_append_66 : decode cX6_append 66 = .ok (.ireturn, 1) := by decide +kernel
theorem dX6_clearBuffer_0 : decode cX6_clearBuffer 0 = .ok (.aload_n 0, 1) := by decide +kernel
theorem dX6_clearBuffer_1 : decode cX6_clearBuffer 1 = .ok (.iconst 0, 1) := by decide +kernel
theorem dX6_clearBuffer_2 : decode cX6_clearBuffer 2 = .ok (.putfield 117, 3) := by decide +kernel
theorem dX6_clearBuffer_5 : decode cX6_clearBuffer 5 = .ok (.aload_n 0, 1) := by decide +kernel
theorem dX6_clearBuffer_6 : decode cX6_clearBuffer 6 = .ok (.getfield 124, 3) := by decide +kernel
theorem dX6_clearBuffer_9 : decode cX6_clearBuffer 9 = .ok (.istore_n 1, 1) := by decide +kernel
theorem dX6_clearBuffer_10 : decode cX6_clearBuffer 10 = .ok (.aload_n 0, 1) := by decide +kernel
theorem dX6_clearBuffer_11 : decode cX6_clearBuffer 11 = .ok (.iconst 0, 1) := by decide +kernel
theorem dX6_clearBuffer_12 : decode cX6_clearBuffer 12 = .ok (.putfield 124, 3) := by decide +kernel
theorem dX6_clearBuffer_15 : decode cX6_clearBuffer 15 = .ok (.iload_n 1, 1) := by decide +kernel
theorem dX6_clearBuffer_16 : decode cX6_clearBuffer 16 = .ok (.ireturn, 1) := by decide +kernel
theorem dX6_isOfPattern_0 : decode cX6_isOfPattern 0 = .ok (.iload_n 1, 1) := by decide +kernel
theorem dX6_isOfPattern_1 : decode cX6_isOfPattern 1 = .ok (.bipush 97, 2) := by decide +kernel
theorem dX6_isOfPattern_3 : decode cX6_isOfPattern 3 = .ok (.bipush 104, 2) := by decide +kernel
theorem dX6_isOfPattern_5 : decode cX6_isOfPattern 5 = .ok (.invokestatic 120, 3) := by decide +kernel
theorem dX6_isOfPattern_8 : decode cX6_isOfPattern 8 = .ok (.ifCond .eq 22, 3) := by decide +kernel
theorem dX6_isOfPattern_11 : decode cX6_isOfPattern 11 = .ok (.aload_n 0, 1) := by decide +kernel
theorem dX6_isOfPattern_12 : decode cX6_isOfPattern 12 = .ok (.getfield 127, 3) := by decide +kernel
theorem dX6_isOfPattern_15 : decode cX6_isOfPattern 15 = .ok (.iload_n 1, 1) := by decide +kernel
theorem dX6_isOfPattern_16 : decode cX6_isOfPattern 16 = .ok (.bipush 97, 2) := by decide +kernel
theorem dX6_isOfPattern_18 : decode cX6_isOfPattern 18 = .ok (.isub, 1) := by decide +kernel
theorem dX6_isOfPattern_19 : decode cX6_isOfPattern 19 = .ok (.ishr, 1) := by decide +kernel
theorem dX6_isOfPattern_20 : decode cX6_isOfPattern 20 = .ok (.iconst 1, 1) := by decide +kernel
theorem dX6_isOfPattern_21 : decode cX6_isOfPattern 21 = .ok (.iand, 1) := by decide +kernel
theorem dX6_isOfPattern_22 : decode cX6_isOfPattern 22 = .ok (.iconst 1, 1) := by decide +kernel
theorem dX6_isOfPattern_23 : decode cX6_isOfPattern 23 = .ok (.if_icmp .ne 7, 3) := by decide +kernel
theorem dX6_isOfPattern_26 : decode cX6_isOfPattern 26 = .ok (.iconst 1, 1) := by decide +kernel
theorem dX6_isOfPattern_27 : decode cX6_isOfPattern 27 = .ok (.goto 4, 3) := by decide +kernel
theorem dX6_isOfPattern_30 : decode cX6_isOfPattern 30 = .ok (.iconst 0, 1) := by decide +kernel
theorem dX6_isOfPattern_31 : decode cX6_isOfPattern 31 = .ok (.ireturn, 1) := by decide +kernel
theorem dX6_isOperand_0 : decode cX6_isOperand 0 = .ok (.aload_n 0, 1) := by decide +kernel
theorem dX6_isOperand_1 : decode cX6_isOperand 1 = .ok (.iload_n 1, 1) := by decide +kernel
theorem dX6_isOperand_2 : decode cX6_isOperand 2 = .ok (.invokevirtual 130, 3) := by decide +kernel
theorem dX6_isOperand_5 : decode cX6_isOperand 5 = .ok (.ifCond .ne 14, 3) := by decide +kernel
theorem dX6_isOperand_8 : decode cX6_isOperand 8 = .ok (.iload_n 1, 1) := by decide +kernel
theorem dX6_isOperand_9 : decode cX6_isOperand 9 = .ok (.bipush 48, 2) := by decide +kernel
theorem dX6_isOperand_11 : decode cX6_isOperand 11 = .ok (.bipush 57, 2) := by decide +kernel
theorem dX6_isOperand_13 : decode cX6_isOperand 13 = .ok (.invokestatic 120, 3) := by decide +kernel
theorem dX6_isOperand_16 : decode cX6_isOperand 16 = .ok (.ifCond .eq 7, 3) := by decide +kernel
theorem dX6_isOperand_19 : decode cX6_isOperand 19 = .ok (.iconst 1, 1) := by decide +kernel
theorem dX6_isOperand_20 : decode cX6_isOperand 20 = .ok (.goto 4, 3) := by decide +kernel
theorem dX6_isOperand_23 : decode cX6_isOperand 23 = .ok (.iconst 0, 1) := by decide +kernel
theorem dX6_isOperand_24 : decode cX6_isOperand 24 = .ok (.ireturn, 1) := by decide +kernel
theorem dX6_operandOf_0 : decode cX6_operandOf 0 = .ok (.iload_n 0, 1) := by decide +kernel
theorem dX6_operandOf_1 : decode cX6_operandOf 1 = .ok (.bipush 97, 2) := by decide +kernel
theorem dX6_operandOf_3 : decode cX6_operandOf 3 = .ok (.if_icmp .lt 10, 3) := by decide +kernel
theorem dX6_operandOf_6 : decode cX6_operandOf 6 = .ok (.iload_n 0, 1) := by decide +kernel
theorem dX6_operandOf_7 : decode cX6_operandOf 7 = .ok (.bipush 97, 2) := by decide +kernel
theorem dX6_operandOf_9 : decode cX6_operandOf 9 = .ok (.isub, 1) := by decide +kernel
theorem dX6_operandOf_10 : decode cX6_operandOf 10 = .ok (.goto 10, 3) := by decide +kernel
theorem dX6_operandOf_13 : decode cX6_operandOf 13 = .ok (.bipush 8, 2) := by decide +kernel
theorem dX6_operandOf_15 : decode cX6_operandOf 15 = .ok (.iload_n 0, 1) := by decide +kernel
theorem dX6_operandOf_16 : decode cX6_operandOf 16 = .ok (.iadd, 1) := by decide +kernel
theorem dX6_operandOf_17 : decode cX6_operandOf 17 = .ok (.bipush 48, 2) := by decide +kernel
theorem dX6_operandOf_19 : decode cX6_operandOf 19 = .ok (.isub, 1) := by decide +kernel
theorem dX6_operandOf_20 : decode cX6_operandOf 20 = .ok (.ireturn, 1) := by decide +kernel
theorem dX6_takesPattern_0 : decode cX6_takesPattern 0 = .ok (.iload_n 1, 1) := by decide +kernel
theorem dX6_takesPattern_1 : decode cX6_takesPattern 1 = .ok (.bipush 97, 2) := by decide +kernel
theorem dX6_takesPattern_3 : decode cX6_takesPattern 3 = .ok (.bipush 104, 2) := by decide +kernel
theorem dX6_takesPattern_5 : decode cX6_takesPattern 5 = .ok (.invokestatic 120, 3) := by decide +kernel
theorem dX6_takesPattern_8 : decode cX6_takesPattern 8 = .ok (.ifCond .eq 57, 3) := by decide +kernel
theorem dX6_takesPattern_11 : decode cX6_takesPattern 11 = .ok (.iload_n 1, 1) := by decide +kernel
theorem dX6_takesPattern_12 : decode cX6_takesPattern 12 = .ok (.bipush 97, 2) := by decide +kernel
theorem dX6_takesPattern_14 : decode cX6_takesPattern 14 = .ok (.isub, 1) := by decide +kernel
theorem dX6_takesPattern_15 : decode cX6_takesPattern 15 = .ok (.aload_n 0, 1) := by decide +kernel
theorem dX6_takesPattern_16 : decode cX6_takesPattern 16 = .ok (.getfield 134, 3) := by decide +kernel
theorem dX6_takesPattern_19 : decode cX6_takesPattern 19 = .ok (.if_icmp .le 46, 3) := by decide +kernel
theorem dX6_takesPattern_22 : decode cX6_takesPattern 22 = .ok (.aload_n 0, 1) := by decide +kernel
theorem dX6_takesPattern_23 : decode cX6_takesPattern 23 = .ok (.getfield 137, 3) := by decide +kernel
theorem dX6_takesPattern_26 : decode cX6_takesPattern 26 = .ok (.iconst 4, 1) := by decide +kernel
theorem dX6_takesPattern_27 : decode cX6_takesPattern 27 = .ok (.if_icmp .ge 38, 3) := by decide +kernel
theorem dX6_takesPattern_30 : decode cX6_takesPattern 30 = .ok (.aload_n 0, 1) := by decide +kernel
theorem dX6_takesPattern_31 : decode cX6_takesPattern 31 = .ok (.dup, 1) := by decide +kernel
theorem dX6_takesPattern_32 : decode cX6_takesPattern 32 = .ok (.getfield 127, 3) := by decide +kernel
theorem dX6_takesPattern_35 : decode cX6_takesPattern 35 = .ok (.iconst 1, 1) := by decide +kernel
theorem dX6_takesPattern_36 : decode cX6_takesPattern 36 = .ok (.iload_n 1, 1) := by decide +kernel
theorem dX6_takesPattern_37 : decode cX6_takesPattern 37 = .ok (.bipush 97, 2) := by decide +kernel
theorem dX6_takesPattern_39 : decode cX6_takesPattern 39 = .ok (.isub, 1) := by decide +kernel
theorem dX6_takesPattern_40 : decode cX6_takesPattern 40 = .ok (.ishl, 1) := by decide +kernel
theorem dX6_takesPattern_41 : decode cX6_takesPattern 41 = .ok (.ior, 1) := by decide +kernel
theorem dX6_takesPattern_42 : decode cX6_takesPattern 42 = .ok (.putfield 127, 3) := by decide +kernel
theorem dX6_takesPattern_45 : decode cX6_takesPattern 45 = .ok (.aload_n 0, 1) := by decide +kernel
theorem dX6_takesPattern_46 : decode cX6_takesPattern 46 = .ok (.iload_n 1, 1) := by decide +kernel
theorem dX6_takesPattern_47 : decode cX6_takesPattern 47 = .ok (.bipush 97, 2) := by decide +kernel
theorem dX6_takesPattern_49 : decode cX6_takesPattern 49 = .ok (.isub, 1) := by decide +kernel
theorem dX6_takesPattern_50 : decode cX6_takesPattern 50 = .ok (.putfield 134, 3) := by decide +kernel
theorem dX6_takesPattern_53 : decode cX6_takesPattern 53 = .ok (.aload_n 0, 1) := by decide +kernel
theorem dX6_takesPattern_54 : decode cX6_takesPattern 54 = .ok (.dup, 1) := by decide +kernel
theorem dX6_takesPattern_55 : decode cX6_takesPattern 55 = .ok (.getfield 137, 3) := by decide +kernel
theorem dX6_takesPattern_58 : decode cX6_takesPattern 58 = .ok (.iconst 1, 1) := by decide +kernel
theorem dX6_takesPattern_59 : decode cX6_takesPattern 59 = .ok (.iadd, 1) := by decide +kernel
theorem dX6_takesPattern_60 : decode cX6_takesPattern 60 = .ok (.putfield 137, 3) := by decide +kernel
theorem dX6_takesPattern_63 : decode cX6_takesPattern 63 = .ok (.iconst 1, 1) := by decide +kernel
theorem dX6_takesPattern_64 : decode cX6_takesPattern 64 = .ok (.ireturn, 1) := by decide +kernel
theorem dX6_takesPattern_65 : decode cX6_takesPattern 65 = .ok (.aload_n 0, 1) := by decide +kernel
theorem dX6_takesPattern_66 : decode cX6_takesPattern 66 = .ok (.iload_n 1, 1) := by decide +kernel
theorem dX6_takesPattern_67 : decode cX6_takesPattern 67 = .ok (.bipush 63, 2) := by decide +kernel
theorem dX6_takesPattern_69 : decode cX6_takesPattern 69 = .ok (.if_icmp .ne 7, 3) := by decide +kernel
theorem dX6_takesPattern_72 : decode cX6_takesPattern 72 = .ok (.iconst 1, 1) := by decide +kernel
theorem dX6_takesPattern_73 : decode cX6_takesPattern 73 = .ok (.goto 4, 3) := by decide +kernel
theorem dX6_takesPattern_76 : decode cX6_takesPattern 76 = .ok (.iconst 5, 1) := by decide +kernel
theorem dX6_takesPattern_77 : decode cX6_takesPattern 77 = .ok (.putfield 140, 3) := by decide +kernel
theorem dX6_takesPattern_80 : decode cX6_takesPattern 80 = .ok (.aload_n 0, 1) := by decide +kernel
theorem dX6_takesPattern_81 : decode cX6_takesPattern 81 = .ok (.getfield 137, 3) := by decide +kernel
theorem dX6_takesPattern_84 : decode cX6_takesPattern 84 = .ok (.ifCond .le 19, 3) := by decide +kernel
theorem dX6_takesPattern_87 : decode cX6_takesPattern 87 = .ok (.iload_n 1, 1) := by decide +kernel
theorem dX6_takesPattern_88 : decode cX6_takesPattern 88 = .ok (.bipush 63, 2) := by decide +kernel
theorem dX6_takesPattern_90 : decode cX6_takesPattern 90 = .ok (.if_icmp .eq 9, 3) := by decide +kernel
theorem dX6_takesPattern_93 : decode cX6_takesPattern 93 = .ok (.iload_n 1, 1) := by decide +kernel
theorem dX6_takesPattern_94 : decode cX6_takesPattern 94 = .ok (.bipush 58, 2) := by decide +kernel
theorem dX6_takesPattern_96 : decode cX6_takesPattern 96 = .ok (.if_icmp .ne 7, 3) := by decide +kernel
theorem dX6_takesPattern_99 : decode cX6_takesPattern 99 = .ok (.iconst 1, 1) := by decide +kernel
theorem dX6_takesPattern_100 : decode cX6_takesPattern 100 = .ok (.goto 4, 3) := by decide +kernel
theorem dX6_takesPattern_103 : decode cX6_takesPattern 103 = .ok (.iconst 0, 1) := by decide +kernel
theorem dX6_takesPattern_104 : decode cX6_takesPattern 104 = .ok (.ireturn, 1) := by decide +kernel
theorem dX6_takesOutput_0 : decode cX6_takesOutput 0 = .ok (.aload_n 0, 1) := by decide +kernel
theorem dX6_takesOutput_1 : decode cX6_takesOutput 1 = .ok (.getfield 72, 3) := by decide +kernel
theorem dX6_takesOutput_4 : decode cX6_takesOutput 4 = .ok (.aload_n 0, 1) := by decide +kernel
theorem dX6_takesOutput_5 : decode cX6_takesOutput 5 = .ok (.getfield 143, 3) := by decide +kernel
theorem dX6_takesOutput_8 : decode cX6_takesOutput 8 = .ok (.iconst 0, 1) := by decide +kernel
theorem dX6_takesOutput_9 : decode cX6_takesOutput 9 = .ok (.iastore, 1) := by decide +kernel
theorem dX6_takesOutput_10 : decode cX6_takesOutput 10 = .ok (.iload_n 1, 1) := by decide +kernel
theorem dX6_takesOutput_11 : decode cX6_takesOutput 11 = .ok (.bipush 33, 2) := by decide +kernel
theorem dX6_takesOutput_13 : decode cX6_takesOutput 13 = .ok (.if_icmp .ne 11, 3) := by decide +kernel
theorem dX6_takesOutput_16 : decode cX6_takesOutput 16 = .ok (.aload_n 0, 1) := by decide +kernel
theorem dX6_takesOutput_17 : decode cX6_takesOutput 17 = .ok (.bipush 6, 2) := by decide +kernel
theorem dX6_takesOutput_19 : decode cX6_takesOutput 19 = .ok (.putfield 140, 3) := by decide +kernel
theorem dX6_takesOutput_22 : decode cX6_takesOutput 22 = .ok (.iconst 1, 1) := by decide +kernel
theorem dX6_takesOutput_23 : decode cX6_takesOutput 23 = .ok (.ireturn, 1) := by decide +kernel
theorem dX6_takesOutput_24 : decode cX6_takesOutput 24 = .ok (.aload_n 0, 1) := by decide +kernel
theorem dX6_takesOutput_25 : decode cX6_takesOutput 25 = .ok (.getfield 69, 3) := by decide +kernel
theorem dX6_takesOutput_28 : decode cX6_takesOutput 28 = .ok (.aload_n 0, 1) := by decide +kernel
theorem dX6_takesOutput_29 : decode cX6_takesOutput 29 = .ok (.getfield 143, 3) := by decide +kernel
theorem dX6_takesOutput_32 : decode cX6_takesOutput 32 = .ok (.iload_n 1, 1) := by decide +kernel
theorem dX6_takesOutput_33 : decode cX6_takesOutput 33 = .ok (.bipush 97, 2) := by decide +kernel
theorem dX6_takesOutput_35 : decode cX6_takesOutput 35 = .ok (.isub, 1) := by decide +kernel
theorem dX6_takesOutput_36 : decode cX6_takesOutput 36 = .ok (.iastore, 1) := by decide +kernel
theorem dX6_takesOutput_37 : decode cX6_takesOutput 37 = .ok (.aload_n 0, 1) := by decide +kernel
theorem dX6_takesOutput_38 : decode cX6_takesOutput 38 = .ok (.bipush 7, 2) := by decide +kernel
theorem dX6_takesOutput_40 : decode cX6_takesOutput 40 = .ok (.putfield 140, 3) := by decide +kernel
theorem dX6_takesOutput_43 : decode cX6_takesOutput 43 = .ok (.iload_n 1, 1) := by decide +kernel
theorem dX6_takesOutput_44 : decode cX6_takesOutput 44 = .ok (.bipush 97, 2) := by decide +kernel
theorem dX6_takesOutput_46 : decode cX6_takesOutput 46 = .ok (.bipush 104, 2) := by decide +kernel
theorem dX6_takesOutput_48 : decode cX6_takesOutput 48 = .ok (.invokestatic 120, 3) := by decide +kernel
theorem dX6_takesOutput_51 : decode cX6_takesOutput 51 = .ok (.ireturn, 1) := by decide +kernel
theorem dX6_takesReply_0 : decode cX6_takesReply 0 = .ok (.aload_n 0, 1) := by decide +kernel
theorem dX6_takesReply_1 : decode cX6_takesReply 1 = .ok (.bipush 7, 2) := by decide +kernel
theorem dX6_takesReply_3 : decode cX6_takesReply 3 = .ok (.putfield 140, 3) := by decide +kernel
theorem dX6_takesReply_6 : decode cX6_takesReply 6 = .ok (.iload_n 1, 1) := by decide +kernel
theorem dX6_takesReply_7 : decode cX6_takesReply 7 = .ok (.bipush 97, 2) := by decide +kernel
theorem dX6_takesReply_9 : decode cX6_takesReply 9 = .ok (.bipush 100, 2) := by decide +kernel
theorem dX6_takesReply_11 : decode cX6_takesReply 11 = .ok (.invokestatic 120, 3) := by decide +kernel
theorem dX6_takesReply_14 : decode cX6_takesReply 14 = .ok (.ifCond .eq 29, 3) := by decide +kernel
theorem dX6_takesReply_17 : decode cX6_takesReply 17 = .ok (.aload_n 0, 1) := by decide +kernel
theorem dX6_takesReply_18 : decode cX6_takesReply 18 = .ok (.iload_n 1, 1) := by decide +kernel
theorem dX6_takesReply_19 : decode cX6_takesReply 19 = .ok (.invokevirtual 130, 3) := by decide +kernel
theorem dX6_takesReply_22 : decode cX6_takesReply 22 = .ok (.ifCond .eq 21, 3) := by decide +kernel
theorem dX6_takesReply_25 : decode cX6_takesReply 25 = .ok (.aload_n 0, 1) := by decide +kernel
theorem dX6_takesReply_26 : decode cX6_takesReply 26 = .ok (.getfield 146, 3) := by decide +kernel
theorem dX6_takesReply_29 : decode cX6_takesReply 29 = .ok (.iload_n 1, 1) := by decide +kernel
theorem dX6_takesReply_30 : decode cX6_takesReply 30 = .ok (.bipush 97, 2) := by decide +kernel
theorem dX6_takesReply_32 : decode cX6_takesReply 32 = .ok (.isub, 1) := by decide +kernel
theorem dX6_takesReply_33 : decode cX6_takesReply 33 = .ok (.ishr, 1) := by decide +kernel
theorem dX6_takesReply_34 : decode cX6_takesReply 34 = .ok (.iconst 1, 1) := by decide +kernel
theorem dX6_takesReply_35 : decode cX6_takesReply 35 = .ok (.iand, 1) := by decide +kernel
theorem dX6_takesReply_36 : decode cX6_takesReply 36 = .ok (.ifCond .ne 7, 3) := by decide +kernel
theorem dX6_takesReply_39 : decode cX6_takesReply 39 = .ok (.iconst 1, 1) := by decide +kernel
theorem dX6_takesReply_40 : decode cX6_takesReply 40 = .ok (.goto 4, 3) := by decide +kernel
theorem dX6_takesReply_43 : decode cX6_takesReply 43 = .ok (.iconst 0, 1) := by decide +kernel
theorem dX6_takesReply_44 : decode cX6_takesReply 44 = .ok (.istore_n 2, 1) := by decide +kernel
theorem dX6_takesReply_45 : decode cX6_takesReply 45 = .ok (.iload_n 2, 1) := by decide +kernel
theorem dX6_takesReply_46 : decode cX6_takesReply 46 = .ok (.ifCond .eq 34, 3) := by decide +kernel
theorem dX6_takesReply_49 : decode cX6_takesReply 49 = .ok (.aload_n 0, 1) := by decide +kernel
theorem dX6_takesReply_50 : decode cX6_takesReply 50 = .ok (.getfield 69, 3) := by decide +kernel
theorem dX6_takesReply_53 : decode cX6_takesReply 53 = .ok (.aload_n 0, 1) := by decide +kernel
theorem dX6_takesReply_54 : decode cX6_takesReply 54 = .ok (.getfield 143, 3) := by decide +kernel
theorem dX6_takesReply_57 : decode cX6_takesReply 57 = .ok (.bipush 8, 2) := by decide +kernel
theorem dX6_takesReply_59 : decode cX6_takesReply 59 = .ok (.iload_n 1, 1) := by decide +kernel
theorem dX6_takesReply_60 : decode cX6_takesReply 60 = .ok (.iadd, 1) := by decide +kernel
theorem dX6_takesReply_61 : decode cX6_takesReply 61 = .ok (.bipush 97, 2) := by decide +kernel
theorem dX6_takesReply_63 : decode cX6_takesReply 63 = .ok (.isub, 1) := by decide +kernel
theorem dX6_takesReply_64 : decode cX6_takesReply 64 = .ok (.iastore, 1) := by decide +kernel
theorem dX6_takesReply_65 : decode cX6_takesReply 65 = .ok (.aload_n 0, 1) := by decide +kernel
theorem dX6_takesReply_66 : decode cX6_takesReply 66 = .ok (.dup, 1) := by decide +kernel
theorem dX6_takesReply_67 : decode cX6_takesReply 67 = .ok (.getfield 146, 3) := by decide +kernel
theorem dX6_takesReply_70 : decode cX6_takesReply 70 = .ok (.iconst 1, 1) := by decide +kernel
theorem dX6_takesReply_71 : decode cX6_takesReply 71 = .ok (.iload_n 1, 1) := by decide +kernel
theorem dX6_takesReply_72 : decode cX6_takesReply 72 = .ok (.bipush 97, 2) := by decide +kernel
theorem dX6_takesReply_74 : decode cX6_takesReply 74 = .ok (.isub, 1) := by decide +kernel
theorem dX6_takesReply_75 : decode cX6_takesReply 75 = .ok (.ishl, 1) := by decide +kernel
theorem dX6_takesReply_76 : decode cX6_takesReply 76 = .ok (.ior, 1) := by decide +kernel
theorem dX6_takesReply_77 : decode cX6_takesReply 77 = .ok (.putfield 146, 3) := by decide +kernel
theorem dX6_takesReply_80 : decode cX6_takesReply 80 = .ok (.iload_n 2, 1) := by decide +kernel
theorem dX6_takesReply_81 : decode cX6_takesReply 81 = .ok (.ireturn, 1) := by decide +kernel
theorem dX6_takesOperand_0 : decode cX6_takesOperand 0 = .ok (.aload_n 0, 1) := by decide +kernel
theorem dX6_takesOperand_1 : decode cX6_takesOperand 1 = .ok (.bipush 9, 2) := by decide +kernel
theorem dX6_takesOperand_3 : decode cX6_takesOperand 3 = .ok (.putfield 140, 3) := by decide +kernel
theorem dX6_takesOperand_6 : decode cX6_takesOperand 6 = .ok (.aload_n 0, 1) := by decide +kernel
theorem dX6_takesOperand_7 : decode cX6_takesOperand 7 = .ok (.iload_n 1, 1) := by decide +kernel
theorem dX6_takesOperand_8 : decode cX6_takesOperand 8 = .ok (.invokevirtual 149, 3) := by decide +kernel
theorem dX6_takesOperand_11 : decode cX6_takesOperand 11 = .ok (.ifCond .ne 5, 3) := by decide +kernel
theorem dX6_takesOperand_14 : decode cX6_takesOperand 14 = .ok (.iconst 0, 1) := by decide +kernel
theorem dX6_takesOperand_15 : decode cX6_takesOperand 15 = .ok (.ireturn, 1) := by decide +kernel
theorem dX6_takesOperand_16 : decode cX6_takesOperand 16 = .ok (.aload_n 0, 1) := by decide +kernel
theorem dX6_takesOperand_17 : decode cX6_takesOperand 17 = .ok (.getfield 75, 3) := by decide +kernel
theorem dX6_takesOperand_20 : decode cX6_takesOperand 20 = .ok (.iconst 3, 1) := by decide +kernel
theorem dX6_takesOperand_21 : decode cX6_takesOperand 21 = .ok (.aload_n 0, 1) := by decide +kernel
theorem dX6_takesOperand_22 : decode cX6_takesOperand 22 = .ok (.getfield 143, 3) := by decide +kernel
theorem dX6_takesOperand_25 : decode cX6_takesOperand 25 = .ok (.imul, 1) := by decide +kernel
theorem dX6_takesOperand_26 : decode cX6_takesOperand 26 = .ok (.aload_n 0, 1) := by decide +kernel
theorem dX6_takesOperand_27 : decode cX6_takesOperand 27 = .ok (.getfield 72, 3) := by decide +kernel
theorem dX6_takesOperand_30 : decode cX6_takesOperand 30 = .ok (.aload_n 0, 1) := by decide +kernel
theorem dX6_takesOperand_31 : decode cX6_takesOperand 31 = .ok (.getfield 143, 3) := by decide +kernel
theorem dX6_takesOperand_34 : decode cX6_takesOperand 34 = .ok (.iaload, 1) := by decide +kernel
theorem dX6_takesOperand_35 : decode cX6_takesOperand 35 = .ok (.iadd, 1) := by decide +kernel
theorem dX6_takesOperand_36 : decode cX6_takesOperand 36 = .ok (.iload_n 1, 1) := by decide +kernel
theorem dX6_takesOperand_37 : decode cX6_takesOperand 37 = .ok (.invokestatic 152, 3) := by decide +kernel
theorem dX6_takesOperand_40 : decode cX6_takesOperand 40 = .ok (.iastore, 1) := by decide +kernel
theorem dX6_takesOperand_41 : decode cX6_takesOperand 41 = .ok (.aload_n 0, 1) := by decide +kernel
theorem dX6_takesOperand_42 : decode cX6_takesOperand 42 = .ok (.getfield 72, 3) := by decide +kernel
theorem dX6_takesOperand_45 : decode cX6_takesOperand 45 = .ok (.aload_n 0, 1) := by decide +kernel
theorem dX6_takesOperand_46 : decode cX6_takesOperand 46 = .ok (.getfield 143, 3) := by decide +kernel
theorem dX6_takesOperand_49 : decode cX6_takesOperand 49 = .ok (.dup2, 1) := by decide +kernel
theorem dX6_takesOperand_50 : decode cX6_takesOperand 50 = .ok (.iaload, 1) := by decide +kernel
theorem dX6_takesOperand_51 : decode cX6_takesOperand 51 = .ok (.iconst 1, 1) := by decide +kernel
theorem dX6_takesOperand_52 : decode cX6_takesOperand 52 = .ok (.iadd, 1) := by decide +kernel
theorem dX6_takesOperand_53 : decode cX6_takesOperand 53 = .ok (.iastore, 1) := by decide +kernel
theorem dX6_takesOperand_54 : decode cX6_takesOperand 54 = .ok (.iconst 1, 1) := by decide +kernel
theorem dX6_takesOperand_55 : decode cX6_takesOperand 55 = .ok (.ireturn, 1) := by decide +kernel
theorem dX6_takesBehind_0 : decode cX6_takesBehind 0 = .ok (.iload_n 1, 1) := by decide +kernel
theorem dX6_takesBehind_1 : decode cX6_takesBehind 1 = .ok (.bipush 44, 2) := by decide +kernel
theorem dX6_takesBehind_3 : decode cX6_takesBehind 3 = .ok (.if_icmp .ne 37, 3) := by decide +kernel
theorem dX6_takesBehind_6 : decode cX6_takesBehind 6 = .ok (.aload_n 0, 1) := by decide +kernel
theorem dX6_takesBehind_7 : decode cX6_takesBehind 7 = .ok (.dup, 1) := by decide +kernel
theorem dX6_takesBehind_8 : decode cX6_takesBehind 8 = .ok (.getfield 143, 3) := by decide +kernel
theorem dX6_takesBehind_11 : decode cX6_takesBehind 11 = .ok (.iconst 1, 1) := by decide +kernel
theorem dX6_takesBehind_12 : decode cX6_takesBehind 12 = .ok (.iadd, 1) := by decide +kernel
theorem dX6_takesBehind_13 : decode cX6_takesBehind 13 = .ok (.putfield 143, 3) := by decide +kernel
theorem dX6_takesBehind_16 : decode cX6_takesBehind 16 = .ok (.aload_n 0, 1) := by decide +kernel
theorem dX6_takesBehind_17 : decode cX6_takesBehind 17 = .ok (.iconst 5, 1) := by decide +kernel
theorem dX6_takesBehind_18 : decode cX6_takesBehind 18 = .ok (.putfield 140, 3) := by decide +kernel
theorem dX6_takesBehind_21 : decode cX6_takesBehind 21 = .ok (.aload_n 0, 1) := by decide +kernel
theorem dX6_takesBehind_22 : decode cX6_takesBehind 22 = .ok (.iconst 1, 1) := by decide +kernel
theorem dX6_takesBehind_23 : decode cX6_takesBehind 23 = .ok (.putfield 156, 3) := by decide +kernel
theorem dX6_takesBehind_26 : decode cX6_takesBehind 26 = .ok (.aload_n 0, 1) := by decide +kernel
theorem dX6_takesBehind_27 : decode cX6_takesBehind 27 = .ok (.getfield 143, 3) := by decide +kernel
theorem dX6_takesBehind_30 : decode cX6_takesBehind 30 = .ok (.iconst 4, 1) := by decide +kernel
theorem dX6_takesBehind_31 : decode cX6_takesBehind 31 = .ok (.if_icmp .ge 7, 3) := by decide +kernel
theorem dX6_takesBehind_34 : decode cX6_takesBehind 34 = .ok (.iconst 1, 1) := by decide +kernel
theorem dX6_takesBehind_35 : decode cX6_takesBehind 35 = .ok (.goto 4, 3) := by decide +kernel
theorem dX6_takesBehind_38 : decode cX6_takesBehind 38 = .ok (.iconst 0, 1) := by decide +kernel
theorem dX6_takesBehind_39 : decode cX6_takesBehind 39 = .ok (.ireturn, 1) := by decide +kernel
theorem dX6_takesBehind_40 : decode cX6_takesBehind 40 = .ok (.aload_n 0, 1) := by decide +kernel
theorem dX6_takesBehind_41 : decode cX6_takesBehind 41 = .ok (.getfield 72, 3) := by decide +kernel
theorem dX6_takesBehind_44 : decode cX6_takesBehind 44 = .ok (.aload_n 0, 1) := by decide +kernel
theorem dX6_takesBehind_45 : decode cX6_takesBehind 45 = .ok (.getfield 143, 3) := by decide +kernel
theorem dX6_takesBehind_48 : decode cX6_takesBehind 48 = .ok (.iaload, 1) := by decide +kernel
theorem dX6_takesBehind_49 : decode cX6_takesBehind 49 = .ok (.iconst 3, 1) := by decide +kernel
theorem dX6_takesBehind_50 : decode cX6_takesBehind 50 = .ok (.if_icmp .ne 5, 3) := by decide +kernel
theorem dX6_takesBehind_53 : decode cX6_takesBehind 53 = .ok (.iconst 0, 1) := by decide +kernel
theorem dX6_takesBehind_54 : decode cX6_takesBehind 54 = .ok (.ireturn, 1) := by decide +kernel
theorem dX6_takesBehind_55 : decode cX6_takesBehind 55 = .ok (.aload_n 0, 1) := by decide +kernel
theorem dX6_takesBehind_56 : decode cX6_takesBehind 56 = .ok (.getfield 78, 3) := by decide +kernel
theorem dX6_takesBehind_59 : decode cX6_takesBehind 59 = .ok (.iconst 3, 1) := by decide +kernel
theorem dX6_takesBehind_60 : decode cX6_takesBehind 60 = .ok (.aload_n 0, 1) := by decide +kernel
theorem dX6_takesBehind_61 : decode cX6_takesBehind 61 = .ok (.getfield 143, 3) := by decide +kernel
theorem dX6_takesBehind_64 : decode cX6_takesBehind 64 = .ok (.imul, 1) := by decide +kernel
theorem dX6_takesBehind_65 : decode cX6_takesBehind 65 = .ok (.aload_n 0, 1) := by decide +kernel
theorem dX6_takesBehind_66 : decode cX6_takesBehind 66 = .ok (.getfield 72, 3) := by decide +kernel
theorem dX6_takesBehind_69 : decode cX6_takesBehind 69 = .ok (.aload_n 0, 1) := by decide +kernel
theorem dX6_takesBehind_70 : decode cX6_takesBehind 70 = .ok (.getfield 143, 3) := by decide +kernel
theorem dX6_takesBehind_73 : decode cX6_takesBehind 73 = .ok (.iaload, 1) := by decide +kernel
theorem dX6_takesBehind_74 : decode cX6_takesBehind 74 = .ok (.iadd, 1) := by decide +kernel
theorem dX6_takesBehind_75 : decode cX6_takesBehind 75 = .ok (.iload_n 1, 1) := by decide +kernel
theorem dX6_takesBehind_76 : decode cX6_takesBehind 76 = .ok (.iastore, 1) := by decide +kernel
theorem dX6_takesBehind_77 : decode cX6_takesBehind 77 = .ok (.aload_n 0, 1) := by decide +kernel
theorem dX6_takesBehind_78 : decode cX6_takesBehind 78 = .ok (.bipush 8, 2) := by decide +kernel
theorem dX6_takesBehind_80 : decode cX6_takesBehind 80 = .ok (.putfield 140, 3) := by decide +kernel
theorem dX6_takesBehind_83 : decode cX6_takesBehind 83 = .ok (.iload_n 1, 1) := by decide +kernel
theorem dX6_takesBehind_84 : decode cX6_takesBehind 84 = .ok (.bipush 43, 2) := by decide +kernel
theorem dX6_takesBehind_86 : decode cX6_takesBehind 86 = .ok (.if_icmp .eq 15, 3) := by decide +kernel
theorem dX6_takesBehind_89 : decode cX6_takesBehind 89 = .ok (.iload_n 1, 1) := by decide +kernel
theorem dX6_takesBehind_90 : decode cX6_takesBehind 90 = .ok (.bipush 45, 2) := by decide +kernel
theorem dX6_takesBehind_92 : decode cX6_takesBehind 92 = .ok (.if_icmp .eq 9, 3) := by decide +kernel
theorem dX6_takesBehind_95 : decode cX6_takesBehind 95 = .ok (.iload_n 1, 1) := by decide +kernel
theorem dX6_takesBehind_96 : decode cX6_takesBehind 96 = .ok (.bipush 42, 2) := by decide +kernel
theorem dX6_takesBehind_98 : decode cX6_takesBehind 98 = .ok (.if_icmp .ne 7, 3) := by decide +kernel
theorem dX6_takesBehind_101 : decode cX6_takesBehind 101 = .ok (.iconst 1, 1) := by decide +kernel
theorem dX6_takesBehind_102 : decode cX6_takesBehind 102 = .ok (.goto 4, 3) := by decide +kernel
theorem dX6_takesBehind_105 : decode cX6_takesBehind 105 = .ok (.iconst 0, 1) := by decide +kernel
theorem dX6_takesBehind_106 : decode cX6_takesBehind 106 = .ok (.ireturn, 1) := by decide +kernel
theorem dX6_takesGuard_0 : decode cX6_takesGuard 0 = .ok (.aload_n 0, 1) := by decide +kernel
theorem dX6_takesGuard_1 : decode cX6_takesGuard 1 = .ok (.getfield 140, 3) := by decide +kernel
theorem dX6_takesGuard_4 : decode cX6_takesGuard 4 = .ok (.iconst 1, 1) := by decide +kernel
theorem dX6_takesGuard_5 : decode cX6_takesGuard 5 = .ok (.isub, 1) := by decide +kernel
theorem dX6_takesGuard_6 : decode cX6_takesGuard 6 = .ok (.istore_n 2, 1) := by decide +kernel
theorem dX6_takesGuard_7 : decode cX6_takesGuard 7 = .ok (.aload_n 0, 1) := by decide +kernel
theorem dX6_takesGuard_8 : decode cX6_takesGuard 8 = .ok (.dup, 1) := by decide +kernel
theorem dX6_takesGuard_9 : decode cX6_takesGuard 9 = .ok (.getfield 140, 3) := by decide +kernel
theorem dX6_takesGuard_12 : decode cX6_takesGuard 12 = .ok (.iconst 1, 1) := by decide +kernel
theorem dX6_takesGuard_13 : decode cX6_takesGuard 13 = .ok (.iadd, 1) := by decide +kernel
theorem dX6_takesGuard_14 : decode cX6_takesGuard 14 = .ok (.putfield 140, 3) := by decide +kernel
theorem dX6_takesGuard_17 : decode cX6_takesGuard 17 = .ok (.aload_n 0, 1) := by decide +kernel
theorem dX6_takesGuard_18 : decode cX6_takesGuard 18 = .ok (.getfield 66, 3) := by decide +kernel
theorem dX6_takesGuard_21 : decode cX6_takesGuard 21 = .ok (.iload_n 2, 1) := by decide +kernel
theorem dX6_takesGuard_22 : decode cX6_takesGuard 22 = .ok (.iload_n 2, 1) := by decide +kernel
theorem dX6_takesGuard_23 : decode cX6_takesGuard 23 = .ok (.iconst 1, 1) := by decide +kernel
theorem dX6_takesGuard_24 : decode cX6_takesGuard 24 = .ok (.if_icmp .ne 7, 3) := by decide +kernel
theorem dX6_takesGuard_27 : decode cX6_takesGuard 27 = .ok (.iload_n 1, 1) := by decide +kernel
theorem dX6_takesGuard_28 : decode cX6_takesGuard 28 = .ok (.goto 7, 3) := by decide +kernel
theorem dX6_takesGuard_31 : decode cX6_takesGuard 31 = .ok (.iload_n 1, 1) := by decide +kernel
theorem dX6_takesGuard_32 : decode cX6_takesGuard 32 = .ok (.invokestatic 152, 3) := by decide +kernel
theorem dX6_takesGuard_35 : decode cX6_takesGuard 35 = .ok (.iastore, 1) := by decide +kernel
theorem dX6_takesGuard_36 : decode cX6_takesGuard 36 = .ok (.iload_n 2, 1) := by decide +kernel
theorem dX6_takesGuard_37 : decode cX6_takesGuard 37 = .ok (.iconst 1, 1) := by decide +kernel
theorem dX6_takesGuard_38 : decode cX6_takesGuard 38 = .ok (.if_icmp .ne 29, 3) := by decide +kernel
theorem dX6_takesGuard_41 : decode cX6_takesGuard 41 = .ok (.iload_n 1, 1) := by decide +kernel
theorem dX6_takesGuard_42 : decode cX6_takesGuard 42 = .ok (.bipush 60, 2) := by decide +kernel
theorem dX6_takesGuard_44 : decode cX6_takesGuard 44 = .ok (.if_icmp .eq 15, 3) := by decide +kernel
theorem dX6_takesGuard_47 : decode cX6_takesGuard 47 = .ok (.iload_n 1, 1) := by decide +kernel
theorem dX6_takesGuard_48 : decode cX6_takesGuard 48 = .ok (.bipush 61, 2) := by decide +kernel
theorem dX6_takesGuard_50 : decode cX6_takesGuard 50 = .ok (.if_icmp .eq 9, 3) := by decide +kernel
theorem dX6_takesGuard_53 : decode cX6_takesGuard 53 = .ok (.iload_n 1, 1) := by decide +kernel
theorem dX6_takesGuard_54 : decode cX6_takesGuard 54 = .ok (.bipush 62, 2) := by decide +kernel
theorem dX6_takesGuard_56 : decode cX6_takesGuard 56 = .ok (.if_icmp .ne 7, 3) := by decide +kernel
theorem dX6_takesGuard_59 : decode cX6_takesGuard 59 = .ok (.iconst 1, 1) := by decide +kernel
theorem dX6_takesGuard_60 : decode cX6_takesGuard 60 = .ok (.goto 12, 3) := by decide +kernel
theorem dX6_takesGuard_63 : decode cX6_takesGuard 63 = .ok (.iconst 0, 1) := by decide +kernel
theorem dX6_takesGuard_64 : decode cX6_takesGuard 64 = .ok (.goto 8, 3) := by decide +kernel
theorem dX6_takesGuard_67 : decode cX6_takesGuard 67 = .ok (.aload_n 0, 1) := by decide +kernel
theorem dX6_takesGuard_68 : decode cX6_takesGuard 68 = .ok (.iload_n 1, 1) := by decide +kernel
theorem dX6_takesGuard_69 : decode cX6_takesGuard 69 = .ok (.invokevirtual 149, 3) := by decide +kernel
theorem dX6_takesGuard_72 : decode cX6_takesGuard 72 = .ok (.ireturn, 1) := by decide +kernel
theorem dX6_takes_0 : decode cX6_takes 0 = .ok (.aload_n 0, 1) := by decide +kernel
theorem dX6_takes_1 : decode cX6_takes 1 = .ok (.getfield 140, 3) := by decide +kernel
theorem dX6_takes_4 : decode cX6_takes 4 = .ok (.tableswitch 117 0 8 #[52, 58, 58, 58, 64, 81, 87, 93, 111], 52) := by decide +kernel
theorem dX6_takes_56 : decode cX6_takes 56 = .ok (.aload_n 0, 1) := by decide +kernel
theorem dX6_takes_57 : decode cX6_takes 57 = .ok (.iload_n 1, 1) := by decide +kernel
theorem dX6_takes_58 : decode cX6_takes 58 = .ok (.invokevirtual 160, 3) := by decide +kernel
theorem dX6_takes_61 : decode cX6_takes 61 = .ok (.ireturn, 1) := by decide +kernel
theorem dX6_takes_62 : decode cX6_takes 62 = .ok (.aload_n 0, 1) := by decide +kernel
theorem dX6_takes_63 : decode cX6_takes 63 = .ok (.iload_n 1, 1) := by decide +kernel
theorem dX6_takes_64 : decode cX6_takes 64 = .ok (.invokevirtual 163, 3) := by decide +kernel
theorem dX6_takes_67 : decode cX6_takes 67 = .ok (.ireturn, 1) := by decide +kernel
theorem dX6_takes_68 : decode cX6_takes 68 = .ok (.aload_n 0, 1) := by decide +kernel
theorem dX6_takes_69 : decode cX6_takes 69 = .ok (.iconst 5, 1) := by decide +kernel
theorem dX6_takes_70 : decode cX6_takes 70 = .ok (.putfield 140, 3) := by decide +kernel
theorem dX6_takes_73 : decode cX6_takes 73 = .ok (.iload_n 1, 1) := by decide +kernel
theorem dX6_takes_74 : decode cX6_takes 74 = .ok (.bipush 58, 2) := by decide +kernel
theorem dX6_takes_76 : decode cX6_takes 76 = .ok (.if_icmp .ne 7, 3) := by decide +kernel
theorem dX6_takes_79 : decode cX6_takes 79 = .ok (.iconst 1, 1) := by decide +kernel
theorem dX6_takes_80 : decode cX6_takes 80 = .ok (.goto 4, 3) := by decide +kernel
theorem dX6_takes_83 : decode cX6_takes 83 = .ok (.iconst 0, 1) := by decide +kernel
theorem dX6_takes_84 : decode cX6_takes 84 = .ok (.ireturn, 1) := by decide +kernel
theorem dX6_takes_85 : decode cX6_takes 85 = .ok (.aload_n 0, 1) := by decide +kernel
theorem dX6_takes_86 : decode cX6_takes 86 = .ok (.iload_n 1, 1) := by decide +kernel
theorem dX6_takes_87 : decode cX6_takes 87 = .ok (.invokevirtual 166, 3) := by decide +kernel
theorem dX6_takes_90 : decode cX6_takes 90 = .ok (.ireturn, 1) := by decide +kernel
theorem dX6_takes_91 : decode cX6_takes 91 = .ok (.aload_n 0, 1) := by decide +kernel
theorem dX6_takes_92 : decode cX6_takes 92 = .ok (.iload_n 1, 1) := by decide +kernel
theorem dX6_takes_93 : decode cX6_takes 93 = .ok (.invokevirtual 169, 3) := by decide +kernel
theorem dX6_takes_96 : decode cX6_takes 96 = .ok (.ireturn, 1) := by decide +kernel
theorem dX6_takes_97 : decode cX6_takes 97 = .ok (.aload_n 0, 1) := by decide +kernel
theorem dX6_takes_98 : decode cX6_takes 98 = .ok (.bipush 8, 2) := by decide +kernel
theorem dX6_takes_100 : decode cX6_takes 100 = .ok (.putfield 140, 3) := by decide +kernel
theorem dX6_takes_103 : decode cX6_takes 103 = .ok (.iload_n 1, 1) := by decide +kernel
theorem dX6_takes_104 : decode cX6_takes 104 = .ok (.bipush 61, 2) := by decide +kernel
theorem dX6_takes_106 : decode cX6_takes 106 = .ok (.if_icmp .ne 7, 3) := by decide +kernel
theorem dX6_takes_109 : decode cX6_takes 109 = .ok (.iconst 1, 1) := by decide +kernel
theorem dX6_takes_110 : decode cX6_takes 110 = .ok (.goto 4, 3) := by decide +kernel
theorem dX6_takes_113 : decode cX6_takes 113 = .ok (.iconst 0, 1) := by decide +kernel
theorem dX6_takes_114 : decode cX6_takes 114 = .ok (.ireturn, 1) := by decide +kernel
theorem dX6_takes_115 : decode cX6_takes 115 = .ok (.aload_n 0, 1) := by decide +kernel
theorem dX6_takes_116 : decode cX6_takes 116 = .ok (.iload_n 1, 1) := by decide +kernel
theorem dX6_takes_117 : decode cX6_takes 117 = .ok (.invokevirtual 172, 3) := by decide +kernel
theorem dX6_takes_120 : decode cX6_takes 120 = .ok (.ireturn, 1) := by decide +kernel
theorem dX6_takes_121 : decode cX6_takes 121 = .ok (.aload_n 0, 1) := by decide +kernel
theorem dX6_takes_122 : decode cX6_takes 122 = .ok (.iload_n 1, 1) := by decide +kernel
theorem dX6_takes_123 : decode cX6_takes 123 = .ok (.invokevirtual 175, 3) := by decide +kernel
theorem dX6_takes_126 : decode cX6_takes 126 = .ok (.ireturn, 1) := by decide +kernel
theorem dX6_rightLength_0 : decode cX6_rightLength 0 = .ok (.aload_n 0, 1) := by decide +kernel
theorem dX6_rightLength_1 : decode cX6_rightLength 1 = .ok (.iconst 0, 1) := by decide +kernel
theorem dX6_rightLength_2 : decode cX6_rightLength 2 = .ok (.putfield 140, 3) := by decide +kernel
theorem dX6_rightLength_5 : decode cX6_rightLength 5 = .ok (.aload_n 0, 1) := by decide +kernel
theorem dX6_rightLength_6 : decode cX6_rightLength 6 = .ok (.iconst 0, 1) := by decide +kernel
theorem dX6_rightLength_7 : decode cX6_rightLength 7 = .ok (.putfield 127, 3) := by decide +kernel
theorem dX6_rightLength_10 : decode cX6_rightLength 10 = .ok (.aload_n 0, 1) := by decide +kernel
theorem dX6_rightLength_11 : decode cX6_rightLength 11 = .ok (.iconst 0, 1) := by decide +kernel
theorem dX6_rightLength_12 : decode cX6_rightLength 12 = .ok (.putfield 137, 3) := by decide +kernel
theorem dX6_rightLength_15 : decode cX6_rightLength 15 = .ok (.aload_n 0, 1) := by decide +kernel
theorem dX6_rightLength_16 : decode cX6_rightLength 16 = .ok (.iconst (-1), 1) := by decide +kernel
theorem dX6_rightLength_17 : decode cX6_rightLength 17 = .ok (.putfield 134, 3) := by decide +kernel
theorem dX6_rightLength_20 : decode cX6_rightLength 20 = .ok (.aload_n 0, 1) := by decide +kernel
theorem dX6_rightLength_21 : decode cX6_rightLength 21 = .ok (.getfield 66, 3) := by decide +kernel
theorem dX6_rightLength_24 : decode cX6_rightLength 24 = .ok (.iconst 1, 1) := by decide +kernel
theorem dX6_rightLength_25 : decode cX6_rightLength 25 = .ok (.iconst 0, 1) := by decide +kernel
theorem dX6_rightLength_26 : decode cX6_rightLength 26 = .ok (.iastore, 1) := by decide +kernel
theorem dX6_rightLength_27 : decode cX6_rightLength 27 = .ok (.aload_n 0, 1) := by decide +kernel
theorem dX6_rightLength_28 : decode cX6_rightLength 28 = .ok (.iconst 0, 1) := by decide +kernel
theorem dX6_rightLength_29 : decode cX6_rightLength 29 = .ok (.putfield 143, 3) := by decide +kernel
theorem dX6_rightLength_32 : decode cX6_rightLength 32 = .ok (.aload_n 0, 1) := by decide +kernel
theorem dX6_rightLength_33 : decode cX6_rightLength 33 = .ok (.iconst 0, 1) := by decide +kernel
theorem dX6_rightLength_34 : decode cX6_rightLength 34 = .ok (.putfield 146, 3) := by decide +kernel
theorem dX6_rightLength_37 : decode cX6_rightLength 37 = .ok (.aload_n 0, 1) := by decide +kernel
theorem dX6_rightLength_38 : decode cX6_rightLength 38 = .ok (.iconst 0, 1) := by decide +kernel
theorem dX6_rightLength_39 : decode cX6_rightLength 39 = .ok (.putfield 156, 3) := by decide +kernel
theorem dX6_rightLength_42 : decode cX6_rightLength 42 = .ok (.iconst 0, 1) := by decide +kernel
theorem dX6_rightLength_43 : decode cX6_rightLength 43 = .ok (.istore_n 1, 1) := by decide +kernel
theorem dX6_rightLength_44 : decode cX6_rightLength 44 = .ok (.iload_n 1, 1) := by decide +kernel
theorem dX6_rightLength_45 : decode cX6_rightLength 45 = .ok (.aload_n 0, 1) := by decide +kernel
theorem dX6_rightLength_46 : decode cX6_rightLength 46 = .ok (.getfield 124, 3) := by decide +kernel
theorem dX6_rightLength_49 : decode cX6_rightLength 49 = .ok (.if_icmp .ge 22, 3) := by decide +kernel
theorem dX6_rightLength_52 : decode cX6_rightLength 52 = .ok (.aload_n 0, 1) := by decide +kernel
theorem dX6_rightLength_53 : decode cX6_rightLength 53 = .ok (.aload_n 0, 1) := by decide +kernel
theorem dX6_rightLength_54 : decode cX6_rightLength 54 = .ok (.getfield 7, 3) := by decide +kernel
theorem dX6_rightLength_57 : decode cX6_rightLength 57 = .ok (.iload_n 1, 1) := by decide +kernel
theorem dX6_rightLength_58 : decode cX6_rightLength 58 = .ok (.iaload, 1) := by decide +kernel
theorem dX6_rightLength_59 : decode cX6_rightLength 59 = .ok (.invokevirtual 178, 3) := by decide +kernel
theorem dX6_rightLength_62 : decode cX6_rightLength 62 = .ok (.ifCond .eq 9, 3) := by decide +kernel
theorem dX6_rightLength_65 : decode cX6_rightLength 65 = .ok (.iinc 1 1, 3) := by decide +kernel
theorem dX6_rightLength_68 : decode cX6_rightLength 68 = .ok (.goto (-24), 3) := by decide +kernel
theorem dX6_rightLength_71 : decode cX6_rightLength 71 = .ok (.iload_n 1, 1) := by decide +kernel
theorem dX6_rightLength_72 : decode cX6_rightLength 72 = .ok (.ireturn, 1) := by decide +kernel
theorem dX6_firstError_0 : decode cX6_firstError 0 = .ok (.aload_n 0, 1) := by decide +kernel
theorem dX6_firstError_1 : decode cX6_firstError 1 = .ok (.iconst 0, 1) := by decide +kernel
theorem dX6_firstError_2 : decode cX6_firstError 2 = .ok (.putfield 117, 3) := by decide +kernel
theorem dX6_firstError_5 : decode cX6_firstError 5 = .ok (.aload_n 0, 1) := by decide +kernel
theorem dX6_firstError_6 : decode cX6_firstError 6 = .ok (.invokevirtual 181, 3) := by decide +kernel
theorem dX6_firstError_9 : decode cX6_firstError 9 = .ok (.ireturn, 1) := by decide +kernel
theorem dX6_wholeOutputs_0 : decode cX6_wholeOutputs 0 = .ok (.aload_n 0, 1) := by decide +kernel
theorem dX6_wholeOutputs_1 : decode cX6_wholeOutputs 1 = .ok (.invokevirtual 181, 3) := by decide +kernel
theorem dX6_wholeOutputs_4 : decode cX6_wholeOutputs 4 = .ok (.aload_n 0, 1) := by decide +kernel
theorem dX6_wholeOutputs_5 : decode cX6_wholeOutputs 5 = .ok (.getfield 124, 3) := by decide +kernel
theorem dX6_wholeOutputs_8 : decode cX6_wholeOutputs 8 = .ok (.if_icmp .ge 5, 3) := by decide +kernel
theorem dX6_wholeOutputs_11 : decode cX6_wholeOutputs 11 = .ok (.iconst (-1), 1) := by decide +kernel
theorem dX6_wholeOutputs_12 : decode cX6_wholeOutputs 12 = .ok (.ireturn, 1) := by decide +kernel
theorem dX6_wholeOutputs_13 : decode cX6_wholeOutputs 13 = .ok (.aload_n 0, 1) := by decide +kernel
theorem dX6_wholeOutputs_14 : decode cX6_wholeOutputs 14 = .ok (.getfield 140, 3) := by decide +kernel
theorem dX6_wholeOutputs_17 : decode cX6_wholeOutputs 17 = .ok (.bipush 9, 2) := by decide +kernel
theorem dX6_wholeOutputs_19 : decode cX6_wholeOutputs 19 = .ok (.if_icmp .ne 10, 3) := by decide +kernel
theorem dX6_wholeOutputs_22 : decode cX6_wholeOutputs 22 = .ok (.aload_n 0, 1) := by decide +kernel
theorem dX6_wholeOutputs_23 : decode cX6_wholeOutputs 23 = .ok (.getfield 143, 3) := by decide +kernel
theorem dX6_wholeOutputs_26 : decode cX6_wholeOutputs 26 = .ok (.iconst 1, 1) := by decide +kernel
theorem dX6_wholeOutputs_27 : decode cX6_wholeOutputs 27 = .ok (.iadd, 1) := by decide +kernel
theorem dX6_wholeOutputs_28 : decode cX6_wholeOutputs 28 = .ok (.ireturn, 1) := by decide +kernel
theorem dX6_wholeOutputs_29 : decode cX6_wholeOutputs 29 = .ok (.aload_n 0, 1) := by decide +kernel
theorem dX6_wholeOutputs_30 : decode cX6_wholeOutputs 30 = .ok (.getfield 140, 3) := by decide +kernel
theorem dX6_wholeOutputs_33 : decode cX6_wholeOutputs 33 = .ok (.iconst 5, 1) := by decide +kernel
theorem dX6_wholeOutputs_34 : decode cX6_wholeOutputs 34 = .ok (.if_icmp .ne 14, 3) := by decide +kernel
theorem dX6_wholeOutputs_37 : decode cX6_wholeOutputs 37 = .ok (.aload_n 0, 1) := by decide +kernel
theorem dX6_wholeOutputs_38 : decode cX6_wholeOutputs 38 = .ok (.getfield 156, 3) := by decide +kernel
theorem dX6_wholeOutputs_41 : decode cX6_wholeOutputs 41 = .ok (.ifCond .ne 7, 3) := by decide +kernel
theorem dX6_wholeOutputs_44 : decode cX6_wholeOutputs 44 = .ok (.iconst 0, 1) := by decide +kernel
theorem dX6_wholeOutputs_45 : decode cX6_wholeOutputs 45 = .ok (.goto 4, 3) := by decide +kernel
theorem dX6_wholeOutputs_48 : decode cX6_wholeOutputs 48 = .ok (.iconst (-1), 1) := by decide +kernel
theorem dX6_wholeOutputs_49 : decode cX6_wholeOutputs 49 = .ok (.ireturn, 1) := by decide +kernel
theorem dX6_addRule_0 : decode cX6_addRule 0 = .ok (.aload_n 0, 1) := by decide +kernel
theorem dX6_addRule_1 : decode cX6_addRule 1 = .ok (.invokevirtual 185, 3) := by decide +kernel
theorem dX6_addRule_4 : decode cX6_addRule 4 = .ok (.istore_n 1, 1) := by decide +kernel
theorem dX6_addRule_5 : decode cX6_addRule 5 = .ok (.aload_n 0, 1) := by decide +kernel
theorem dX6_addRule_6 : decode cX6_addRule 6 = .ok (.iload_n 1, 1) := by decide +kernel
theorem dX6_addRule_7 : decode cX6_addRule 7 = .ok (.iconst (-1), 1) := by decide +kernel
theorem dX6_addRule_8 : decode cX6_addRule 8 = .ok (.if_icmp .ne 7, 3) := by decide +kernel
theorem dX6_addRule_11 : decode cX6_addRule 11 = .ok (.iconst 1, 1) := by decide +kernel
theorem dX6_addRule_12 : decode cX6_addRule 12 = .ok (.goto 17, 3) := by decide +kernel
theorem dX6_addRule_15 : decode cX6_addRule 15 = .ok (.aload_n 0, 1) := by decide +kernel
theorem dX6_addRule_16 : decode cX6_addRule 16 = .ok (.getfield 188, 3) := by decide +kernel
theorem dX6_addRule_19 : decode cX6_addRule 19 = .ok (.bipush 8, 2) := by decide +kernel
theorem dX6_addRule_21 : decode cX6_addRule 21 = .ok (.if_icmp .ne 7, 3) := by decide +kernel
theorem dX6_addRule_24 : decode cX6_addRule 24 = .ok (.iconst 2, 1) := by decide +kernel
theorem dX6_addRule_25 : decode cX6_addRule 25 = .ok (.goto 4, 3) := by decide +kernel
theorem dX6_addRule_28 : decode cX6_addRule 28 = .ok (.iconst 0, 1) := by decide +kernel
theorem dX6_addRule_29 : decode cX6_addRule 29 = .ok (.putfield 117, 3) := by decide +kernel
theorem dX6_addRule_32 : decode cX6_addRule 32 = .ok (.aload_n 0, 1) := by decide +kernel
theorem dX6_addRule_33 : decode cX6_addRule 33 = .ok (.getfield 117, 3) := by decide +kernel
theorem dX6_addRule_36 : decode cX6_addRule 36 = .ok (.ifCond .le 5, 3) := by decide +kernel
theorem dX6_addRule_39 : decode cX6_addRule 39 = .ok (.iconst 0, 1) := by decide +kernel
theorem dX6_addRule_40 : decode cX6_addRule 40 = .ok (.ireturn, 1) := by decide +kernel
theorem dX6_addRule_41 : decode cX6_addRule 41 = .ok (.aload_n 0, 1) := by decide +kernel
theorem dX6_addRule_42 : decode cX6_addRule 42 = .ok (.getfield 188, 3) := by decide +kernel
theorem dX6_addRule_45 : decode cX6_addRule 45 = .ok (.istore_n 2, 1) := by decide +kernel
theorem dX6_addRule_46 : decode cX6_addRule 46 = .ok (.aload_n 0, 1) := by decide +kernel
theorem dX6_addRule_47 : decode cX6_addRule 47 = .ok (.getfield 13, 3) := by decide +kernel
theorem dX6_addRule_50 : decode cX6_addRule 50 = .ok (.iload_n 2, 1) := by decide +kernel
theorem dX6_addRule_51 : decode cX6_addRule 51 = .ok (.aload_n 0, 1) := by decide +kernel
theorem dX6_addRule_52 : decode cX6_addRule 52 = .ok (.getfield 127, 3) := by decide +kernel
theorem dX6_addRule_55 : decode cX6_addRule 55 = .ok (.iastore, 1) := by decide +kernel
theorem dX6_addRule_56 : decode cX6_addRule 56 = .ok (.aload_n 0, 1) := by decide +kernel
theorem dX6_addRule_57 : decode cX6_addRule 57 = .ok (.getfield 19, 3) := by decide +kernel
theorem dX6_addRule_60 : decode cX6_addRule 60 = .ok (.iload_n 2, 1) := by decide +kernel
theorem dX6_addRule_61 : decode cX6_addRule 61 = .ok (.iload_n 1, 1) := by decide +kernel
theorem dX6_addRule_62 : decode cX6_addRule 62 = .ok (.iastore, 1) := by decide +kernel
theorem dX6_addRule_63 : decode cX6_addRule 63 = .ok (.aload_n 0, 1) := by decide +kernel
theorem dX6_addRule_64 : decode cX6_addRule 64 = .ok (.getfield 34, 3) := by decide +kernel
theorem dX6_addRule_67 : decode cX6_addRule 67 = .ok (.iload_n 2, 1) := by decide +kernel
theorem dX6_addRule_68 : decode cX6_addRule 68 = .ok (.iconst 0, 1) := by decide +kernel
theorem dX6_addRule_69 : decode cX6_addRule 69 = .ok (.iastore, 1) := by decide +kernel
theorem dX6_addRule_70 : decode cX6_addRule 70 = .ok (.iconst 0, 1) := by decide +kernel
theorem dX6_addRule_71 : decode cX6_addRule 71 = .ok (.istore_n 3, 1) := by decide +kernel
theorem dX6_addRule_72 : decode cX6_addRule 72 = .ok (.iload_n 3, 1) := by decide +kernel
theorem dX6_addRule_73 : decode cX6_addRule 73 = .ok (.iconst 3, 1) := by decide +kernel
theorem dX6_addRule_74 : decode cX6_addRule 74 = .ok (.if_icmp .ge 25, 3) := by decide +kernel
theorem dX6_addRule_77 : decode cX6_addRule 77 = .ok (.aload_n 0, 1) := by decide +kernel
theorem dX6_addRule_78 : decode cX6_addRule 78 = .ok (.getfield 16, 3) := by decide +kernel
theorem dX6_addRule_81 : decode cX6_addRule 81 = .ok (.iconst 3, 1) := by decide +kernel
theorem dX6_addRule_82 : decode cX6_addRule 82 = .ok (.iload_n 2, 1) := by decide +kernel
theorem dX6_addRule_83 : decode cX6_addRule 83 = .ok (.imul, 1) := by decide +kernel
theorem dX6_addRule_84 : decode cX6_addRule 84 = .ok (.iload_n 3, 1) := by decide +kernel
theorem dX6_addRule_85 : decode cX6_addRule 85 = .ok (.iadd, 1) := by decide +kernel
theorem dX6_addRule_86 : decode cX6_addRule 86 = .ok (.aload_n 0, 1) := by decide +kernel
theorem dX6_addRule_87 : decode cX6_addRule 87 = .ok (.getfield 66, 3) := by decide +kernel
theorem dX6_addRule_90 : decode cX6_addRule 90 = .ok (.iload_n 3, 1) := by decide +kernel
theorem dX6_addRule_91 : decode cX6_addRule 91 = .ok (.iaload, 1) := by decide +kernel
theorem dX6_addRule_92 : decode cX6_addRule 92 = .ok (.iastore, 1) := by decide +kernel
theorem dX6_addRule_93 : decode cX6_addRule 93 = .ok (.iinc 3 1, 3) := by decide +kernel
theorem dX6_addRule_96 : decode cX6_addRule 96 = .ok (.goto (-24), 3) := by decide +kernel
theorem dX6_addRule_99 : decode cX6_addRule 99 = .ok (.iconst 0, 1) := by decide +kernel
theorem dX6_addRule_100 : decode cX6_addRule 100 = .ok (.istore_n 3, 1) := by decide +kernel
theorem dX6_addRule_101 : decode cX6_addRule 101 = .ok (.iload_n 3, 1) := by decide +kernel
theorem dX6_addRule_102 : decode cX6_addRule 102 = .ok (.iconst 4, 1) := by decide +kernel
theorem dX6_addRule_103 : decode cX6_addRule 103 = .ok (.if_icmp .ge 41, 3) := by decide +kernel
theorem dX6_addRule_106 : decode cX6_addRule 106 = .ok (.aload_n 0, 1) := by decide +kernel
theorem dX6_addRule_107 : decode cX6_addRule 107 = .ok (.getfield 22, 3) := by decide +kernel
theorem dX6_addRule_110 : decode cX6_addRule 110 = .ok (.iconst 4, 1) := by decide +kernel
theorem dX6_addRule_111 : decode cX6_addRule 111 = .ok (.iload_n 2, 1) := by decide +kernel
theorem dX6_addRule_112 : decode cX6_addRule 112 = .ok (.imul, 1) := by decide +kernel
theorem dX6_addRule_113 : decode cX6_addRule 113 = .ok (.iload_n 3, 1) := by decide +kernel
theorem dX6_addRule_114 : decode cX6_addRule 114 = .ok (.iadd, 1) := by decide +kernel
theorem dX6_addRule_115 : decode cX6_addRule 115 = .ok (.aload_n 0, 1) := by decide +kernel
theorem dX6_addRule_116 : decode cX6_addRule 116 = .ok (.getfield 69, 3) := by decide +kernel
theorem dX6_addRule_119 : decode cX6_addRule 119 = .ok (.iload_n 3, 1) := by decide +kernel
theorem dX6_addRule_120 : decode cX6_addRule 120 = .ok (.iaload, 1) := by decide +kernel
theorem dX6_addRule_121 : decode cX6_addRule 121 = .ok (.iastore, 1) := by decide +kernel
theorem dX6_addRule_122 : decode cX6_addRule 122 = .ok (.aload_n 0, 1) := by decide +kernel
theorem dX6_addRule_123 : decode cX6_addRule 123 = .ok (.getfield 25, 3) := by decide +kernel
theorem dX6_addRule_126 : decode cX6_addRule 126 = .ok (.iconst 4, 1) := by decide +kernel
theorem dX6_addRule_127 : decode cX6_addRule 127 = .ok (.iload_n 2, 1) := by decide +kernel
theorem dX6_addRule_128 : decode cX6_addRule 128 = .ok (.imul, 1) := by decide +kernel
theorem dX6_addRule_129 : decode cX6_addRule 129 = .ok (.iload_n 3, 1) := by decide +kernel
theorem dX6_addRule_130 : decode cX6_addRule 130 = .ok (.iadd, 1) := by decide +kernel
theorem dX6_addRule_131 : decode cX6_addRule 131 = .ok (.aload_n 0, 1) := by decide +kernel
theorem dX6_addRule_132 : decode cX6_addRule 132 = .ok (.getfield 72, 3) := by decide +kernel
theorem dX6_addRule_135 : decode cX6_addRule 135 = .ok (.iload_n 3, 1) := by decide +kernel
theorem dX6_addRule_136 : decode cX6_addRule 136 = .ok (.iaload, 1) := by decide +kernel
theorem dX6_addRule_137 : decode cX6_addRule 137 = .ok (.iastore, 1) := by decide +kernel
theorem dX6_addRule_138 : decode cX6_addRule 138 = .ok (.iinc 3 1, 3) := by decide +kernel
theorem dX6_addRule_141 : decode cX6_addRule 141 = .ok (.goto (-40), 3) := by decide +kernel
theorem dX6_addRule_144 : decode cX6_addRule 144 = .ok (.iconst 0, 1) := by decide +kernel
theorem dX6_addRule_145 : decode cX6_addRule 145 = .ok (.istore_n 3, 1) := by decide +kernel
theorem dX6_addRule_146 : decode cX6_addRule 146 = .ok (.iload_n 3, 1) := by decide +kernel
theorem dX6_addRule_147 : decode cX6_addRule 147 = .ok (.bipush 12, 2) := by decide +kernel
theorem dX6_addRule_149 : decode cX6_addRule 149 = .ok (.if_icmp .ge 43, 3) := by decide +kernel
theorem dX6_addRule_152 : decode cX6_addRule 152 = .ok (.aload_n 0, 1) := by decide +kernel
theorem dX6_addRule_153 : decode cX6_addRule 153 = .ok (.getfield 28, 3) := by decide +kernel
theorem dX6_addRule_156 : decode cX6_addRule 156 = .ok (.bipush 12, 2) := by decide +kernel
theorem dX6_addRule_158 : decode cX6_addRule 158 = .ok (.iload_n 2, 1) := by decide +kernel
theorem dX6_addRule_159 : decode cX6_addRule 159 = .ok (.imul, 1) := by decide +kernel
theorem dX6_addRule_160 : decode cX6_addRule 160 = .ok (.iload_n 3, 1) := by decide +kernel
theorem dX6_addRule_161 : decode cX6_addRule 161 = .ok (.iadd, 1) := by decide +kernel
theorem dX6_addRule_162 : decode cX6_addRule 162 = .ok (.aload_n 0, 1) := by decide +kernel
theorem dX6_addRule_163 : decode cX6_addRule 163 = .ok (.getfield 75, 3) := by decide +kernel
theorem dX6_addRule_166 : decode cX6_addRule 166 = .ok (.iload_n 3, 1) := by decide +kernel
theorem dX6_addRule_167 : decode cX6_addRule 167 = .ok (.iaload, 1) := by decide +kernel
theorem dX6_addRule_168 : decode cX6_addRule 168 = .ok (.iastore, 1) := by decide +kernel
theorem dX6_addRule_169 : decode cX6_addRule 169 = .ok (.aload_n 0, 1) := by decide +kernel
theorem dX6_addRule_170 : decode cX6_addRule 170 = .ok (.getfield 31, 3) := by decide +kernel
theorem dX6_addRule_173 : decode cX6_addRule 173 = .ok (.bipush 12, 2) := by decide +kernel
theorem dX6_addRule_175 : decode cX6_addRule 175 = .ok (.iload_n 2, 1) := by decide +kernel
theorem dX6_addRule_176 : decode cX6_addRule 176 = .ok (.imul, 1) := by decide +kernel
theorem dX6_addRule_177 : decode cX6_addRule 177 = .ok (.iload_n 3, 1) := by decide +kernel
theorem dX6_addRule_178 : decode cX6_addRule 178 = .ok (.iadd, 1) := by decide +kernel
theorem dX6_addRule_179 : decode cX6_addRule 179 = .ok (.aload_n 0, 1) := by decide +kernel
theorem dX6_addRule_180 : decode cX6_addRule 180 = .ok (.getfield 78, 3) := by decide +kernel
theorem dX6_addRule_183 : decode cX6_addRule 183 = .ok (.iload_n 3, 1) := by decide +kernel
theorem dX6_addRule_184 : decode cX6_addRule 184 = .ok (.iaload, 1) := by decide +kernel
theorem dX6_addRule_185 : decode cX6_addRule 185 = .ok (.iastore, 1) := by decide +kernel
theorem dX6_addRule_186 : decode cX6_addRule 186 = .ok (.iinc 3 1, 3) := by decide +kernel
theorem dX6_addRule_189 : decode cX6_addRule 189 = .ok (.goto (-43), 3) := by decide +kernel
theorem dX6_addRule_192 : decode cX6_addRule 192 = .ok (.aload_n 0, 1) := by decide +kernel
theorem dX6_addRule_193 : decode cX6_addRule 193 = .ok (.dup, 1) := by decide +kernel
theorem dX6_addRule_194 : decode cX6_addRule 194 = .ok (.getfield 188, 3) := by decide +kernel
theorem dX6_addRule_197 : decode cX6_addRule 197 = .ok (.iconst 1, 1) := by decide +kernel
theorem dX6_addRule_198 : decode cX6_addRule 198 = .ok (.iadd, 1) := by decide +kernel
theorem dX6_addRule_199 : decode cX6_addRule 199 = .ok (.putfield 188, 3) := by decide +kernel
theorem dX6_addRule_202 : decode cX6_addRule 202 = .ok (.aload_n 0, 1) := by decide +kernel
theorem dX6_addRule_203 : decode cX6_addRule 203 = .ok (.iconst 0, 1) := by decide +kernel
theorem dX6_addRule_204 : decode cX6_addRule 204 = .ok (.putfield 124, 3) := by decide +kernel
theorem dX6_addRule_207 : decode cX6_addRule 207 = .ok (.aload_n 0, 1) := by decide +kernel
theorem dX6_addRule_208 : decode cX6_addRule 208 = .ok (.iconst 0, 1) := by decide +kernel
theorem dX6_addRule_209 : decode cX6_addRule 209 = .ok (.putfield 191, 3) := by decide +kernel
theorem dX6_addRule_212 : decode cX6_addRule 212 = .ok (.iload_n 2, 1) := by decide +kernel
theorem dX6_addRule_213 : decode cX6_addRule 213 = .ok (.ireturn, 1) := by decide +kernel
theorem dX6_isRule_0 : decode cX6_isRule 0 = .ok (.iload_n 1, 1) := by decide +kernel
theorem dX6_isRule_1 : decode cX6_isRule 1 = .ok (.iconst 0, 1) := by decide +kernel
theorem dX6_isRule_2 : decode cX6_isRule 2 = .ok (.aload_n 0, 1) := by decide +kernel
theorem dX6_isRule_3 : decode cX6_isRule 3 = .ok (.getfield 188, 3) := by decide +kernel
theorem dX6_isRule_6 : decode cX6_isRule 6 = .ok (.iconst 1, 1) := by decide +kernel
theorem dX6_isRule_7 : decode cX6_isRule 7 = .ok (.isub, 1) := by decide +kernel
theorem dX6_isRule_8 : decode cX6_isRule 8 = .ok (.invokestatic 120, 3) := by decide +kernel
theorem dX6_isRule_11 : decode cX6_isRule 11 = .ok (.ireturn, 1) := by decide +kernel
theorem dX6_copyRule_0 : decode cX6_copyRule 0 = .ok (.aload_n 0, 1) := by decide +kernel
theorem dX6_copyRule_1 : decode cX6_copyRule 1 = .ok (.getfield 13, 3) := by decide +kernel
theorem dX6_copyRule_4 : decode cX6_copyRule 4 = .ok (.iload_n 1, 1) := by decide +kernel
theorem dX6_copyRule_5 : decode cX6_copyRule 5 = .ok (.aload_n 0, 1) := by decide +kernel
theorem dX6_copyRule_6 : decode cX6_copyRule 6 = .ok (.getfield 13, 3) := by decide +kernel
theorem dX6_copyRule_9 : decode cX6_copyRule 9 = .ok (.iload_n 2, 1) := by decide +kernel
theorem dX6_copyRule_10 : decode cX6_copyRule 10 = .ok (.iaload, 1) := by decide +kernel
theorem dX6_copyRule_11 : decode cX6_copyRule 11 = .ok (.iastore, 1) := by decide +kernel
end
section
theorem dX6_copyRule_12 : decode cX6_copyRule 12 = .ok (.aload_n 0, 1) := by decide +kernel
theorem dX6_copyRule_13 : decode cX6_copyRule 13 = .ok (.getfield 19, 3) := by decide +kernel
theorem dX6_copyRule_16 : decode cX6_copyRule 16 = .ok (.iload_n 1, 1) := by decide +kernel
theorem dX6_copyRule_17 : decode cX6_copyRule 17 = .ok (.aload_n 0, 1) := by decide +kernel
theorem dX6_copyRule_18 : decode cX6_copyRule 18 = .ok (.getfield 19, 3) := by decide +kernel
theorem dX6_copyRule_21 : decode cX6_copyRule 21 = .ok (.iload_n 2, 1) := by decide +kernel
theorem dX6_copyRule_22 : decode cX6_copyRule 22 = .ok (.iaload, 1) := by decide +kernel
theorem dX6_copyRule_23 : decode cX6_copyRule 23 = .ok (.iastore, 1) := by decide +kernel
theorem dX6_copyRule_24 : decode cX6_copyRule 24 = .ok (.aload_n 0, 1) := by decide +kernel
theorem dX6_copyRule_25 : decode cX6_copyRule 25 = .ok (.getfield 34, 3) := by decide +kernel
theorem dX6_copyRule_28 : decode cX6_copyRule 28 = .ok (.iload_n 1, 1) := by decide +kernel
theorem dX6_copyRule_29 : decode cX6_copyRule 29 = .ok (.aload_n 0, 1) := by decide +kernel
theorem dX6_copyRule_30 : decode cX6_copyRule 30 = .ok (.getfield 34, 3) := by decide +kernel
theorem dX6_copyRule_33 : decode cX6_copyRule 33 = .ok (.iload_n 2, 1) := by decide +kernel
theorem dX6_copyRule_34 : decode cX6_copyRule 34 = .ok (.iaload, 1) := by decide +kernel
theorem dX6_copyRule_35 : decode cX6_copyRule 35 = .ok (.iastore, 1) := by decide +kernel
theorem dX6_copyRule_36 : decode cX6_copyRule 36 = .ok (.iconst 0, 1) := by decide +kernel
theorem dX6_copyRule_37 : decode cX6_copyRule 37 = .ok (.istore_n 3, 1) := by decide +kernel
theorem dX6_copyRule_38 : decode cX6_copyRule 38 = .ok (.iload_n 3, 1) := by decide +kernel
theorem dX6_copyRule_39 : decode cX6_copyRule 39 = .ok (.iconst 3, 1) := by decide +kernel
theorem dX6_copyRule_40 : decode cX6_copyRule 40 = .ok (.if_icmp .ge 29, 3) := by decide +kernel
theorem dX6_copyRule_43 : decode cX6_copyRule 43 = .ok (.aload_n 0, 1) := by decide +kernel
theorem dX6_copyRule_44 : decode cX6_copyRule 44 = .ok (.getfield 16, 3) := by decide +kernel
theorem dX6_copyRule_47 : decode cX6_copyRule 47 = .ok (.iconst 3, 1) := by decide +kernel
theorem dX6_copyRule_48 : decode cX6_copyRule 48 = .ok (.iload_n 1, 1) := by decide +kernel
theorem dX6_copyRule_49 : decode cX6_copyRule 49 = .ok (.imul, 1) := by decide +kernel
theorem dX6_copyRule_50 : decode cX6_copyRule 50 = .ok (.iload_n 3, 1) := by decide +kernel
theorem dX6_copyRule_51 : decode cX6_copyRule 51 = .ok (.iadd, 1) := by decide +kernel
theorem dX6_copyRule_52 : decode cX6_copyRule 52 = .ok (.aload_n 0, 1) := by decide +kernel
theorem dX6_copyRule_53 : decode cX6_copyRule 53 = .ok (.getfield 16, 3) := by decide +kernel
theorem dX6_copyRule_56 : decode cX6_copyRule 56 = .ok (.iconst 3, 1) := by decide +kernel
theorem dX6_copyRule_57 : decode cX6_copyRule 57 = .ok (.iload_n 2, 1) := by decide +kernel
theorem dX6_copyRule_58 : decode cX6_copyRule 58 = .ok (.imul, 1) := by decide +kernel
theorem dX6_copyRule_59 : decode cX6_copyRule 59 = .ok (.iload_n 3, 1) := by decide +kernel
theorem dX6_copyRule_60 : decode cX6_copyRule 60 = .ok (.iadd, 1) := by decide +kernel
theorem dX6_copyRule_61 : decode cX6_copyRule 61 = .ok (.iaload, 1) := by decide +kernel
theorem dX6_copyRule_62 : decode cX6_copyRule 62 = .ok (.iastore, 1) := by decide +kernel
theorem dX6_copyRule_63 : decode cX6_copyRule 63 = .ok (.iinc 3 1, 3) := by decide +kernel
theorem dX6_copyRule_66 : decode cX6_copyRule 66 = .ok (.goto (-28), 3) := by decide +kernel
theorem dX6_copyRule_69 : decode cX6_copyRule 69 = .ok (.iconst 0, 1) := by decide +kernel
theorem dX6_copyRule_70 : decode cX6_copyRule 70 = .ok (.istore_n 3, 1) := by decide +kernel
theorem dX6_copyRule_71 : decode cX6_copyRule 71 = .ok (.iload_n 3, 1) := by decide +kernel
theorem dX6_copyRule_72 : decode cX6_copyRule 72 = .ok (.iconst 4, 1) := by decide +kernel
theorem dX6_copyRule_73 : decode cX6_copyRule 73 = .ok (.if_icmp .ge 49, 3) := by decide +kernel
theorem dX6_copyRule_76 : decode cX6_copyRule 76 = .ok (.aload_n 0, 1) := by decide +kernel
theorem dX6_copyRule_77 : decode cX6_copyRule 77 = .ok (.getfield 22, 3) := by decide +kernel
theorem dX6_copyRule_80 : decode cX6_copyRule 80 = .ok (.iconst 4, 1) := by decide +kernel
theorem dX6_copyRule_81 : decode cX6_copyRule 81 = .ok (.iload_n 1, 1) := by decide +kernel
theorem dX6_copyRule_82 : decode cX6_copyRule 82 = .ok (.imul, 1) := by decide +kernel
theorem dX6_copyRule_83 : decode cX6_copyRule 83 = .ok (.iload_n 3, 1) := by decide +kernel
theorem dX6_copyRule_84 : decode cX6_copyRule 84 = .ok (.iadd, 1) := by decide +kernel
theorem dX6_copyRule_85 : decode cX6_copyRule 85 = .ok (.aload_n 0, 1) := by decide +kernel
theorem dX6_copyRule_86 : decode cX6_copyRule 86 = .ok (.getfield 22, 3) := by decide +kernel
theorem dX6_copyRule_89 : decode cX6_copyRule 89 = .ok (.iconst 4, 1) := by decide +kernel
theorem dX6_copyRule_90 : decode cX6_copyRule 90 = .ok (.iload_n 2, 1) := by decide +kernel
theorem dX6_copyRule_91 : decode cX6_copyRule 91 = .ok (.imul, 1) := by decide +kernel
theorem dX6_copyRule_92 : decode cX6_copyRule 92 = .ok (.iload_n 3, 1) := by decide +kernel
theorem dX6_copyRule_93 : decode cX6_copyRule 93 = .ok (.iadd, 1) := by decide +kernel
theorem dX6_copyRule_94 : decode cX6_copyRule 94 = .ok (.iaload, 1) := by decide +kernel
theorem dX6_copyRule_95 : decode cX6_copyRule 95 = .ok (.iastore, 1) := by decide +kernel
theorem dX6_copyRule_96 : decode cX6_copyRule 96 = .ok (.aload_n 0, 1) := by decide +kernel
theorem dX6_copyRule_97 : decode cX6_copyRule 97 = .ok (.getfield 25, 3) := by decide +kernel
theorem dX6_copyRule_100 : decode cX6_copyRule 100 = .ok (.iconst 4, 1) := by decide +kernel
theorem dX6_copyRule_101 : decode cX6_copyRule 101 = .ok (.iload_n 1, 1) := by decide +kernel
theorem dX6_copyRule_102 : decode cX6_copyRule 102 = .ok (.imul, 1) := by decide +kernel
theorem dX6_copyRule_103 : decode cX6_copyRule 103 = .ok (.iload_n 3, 1) := by decide +kernel
theorem dX6_copyRule_104 : decode cX6_copyRule 104 = .ok (.iadd, 1) := by decide +kernel
theorem dX6_copyRule_105 : decode cX6_copyRule 105 = .ok (.aload_n 0, 1) := by decide +kernel
theorem dX6_copyRule_106 : decode cX6_copyRule 106 = .ok (.getfield 25, 3) := by decide +kernel
theorem dX6_copyRule_109 : decode cX6_copyRule 109 = .ok (.iconst 4, 1) := by decide +kernel
theorem dX6_copyRule_110 : decode cX6_copyRule 110 = .ok (.iload_n 2, 1) := by decide +kernel
theorem dX6_copyRule_111 : decode cX6_copyRule 111 = .ok (.imul, 1) := by decide +kernel
theorem dX6_copyRule_112 : decode cX6_copyRule 112 = .ok (.iload_n 3, 1) := by decide +kernel
theorem dX6_copyRule_113 : decode cX6_copyRule 113 = .ok (.iadd, 1) := by decide +kernel
theorem dX6_copyRule_114 : decode cX6_copyRule 114 = .ok (.iaload, 1) := by decide +kernel
theorem dX6_copyRule_115 : decode cX6_copyRule 115 = .ok (.iastore, 1) := by decide +kernel
theorem dX6_copyRule_116 : decode cX6_copyRule 116 = .ok (.iinc 3 1, 3) := by decide +kernel
theorem dX6_copyRule_119 : decode cX6_copyRule 119 = .ok (.goto (-48), 3) := by decide +kernel
theorem dX6_copyRule_122 : decode cX6_copyRule 122 = .ok (.iconst 0, 1) := by decide +kernel
theorem dX6_copyRule_123 : decode cX6_copyRule 123 = .ok (.istore_n 3, 1) := by decide +kernel
theorem dX6_copyRule_124 : decode cX6_copyRule 124 = .ok (.iload_n 3, 1) := by decide +kernel
theorem dX6_copyRule_125 : decode cX6_copyRule 125 = .ok (.bipush 12, 2) := by decide +kernel
theorem dX6_copyRule_127 : decode cX6_copyRule 127 = .ok (.if_icmp .ge 53, 3) := by decide +kernel
theorem dX6_copyRule_130 : decode cX6_copyRule 130 = .ok (.aload_n 0, 1) := by decide +kernel
theorem dX6_copyRule_131 : decode cX6_copyRule 131 = .ok (.getfield 28, 3) := by decide +kernel
theorem dX6_copyRule_134 : decode cX6_copyRule 134 = .ok (.bipush 12, 2) := by decide +kernel
theorem dX6_copyRule_136 : decode cX6_copyRule 136 = .ok (.iload_n 1, 1) := by decide +kernel
theorem dX6_copyRule_137 : decode cX6_copyRule 137 = .ok (.imul, 1) := by decide +kernel
theorem dX6_copyRule_138 : decode cX6_copyRule 138 = .ok (.iload_n 3, 1) := by decide +kernel
theorem dX6_copyRule_139 : decode cX6_copyRule 139 = .ok (.iadd, 1) := by decide +kernel
theorem dX6_copyRule_140 : decode cX6_copyRule 140 = .ok (.aload_n 0, 1) := by decide +kernel
theorem dX6_copyRule_141 : decode cX6_copyRule 141 = .ok (.getfield 28, 3) := by decide +kernel
theorem dX6_copyRule_144 : decode cX6_copyRule 144 = .ok (.bipush 12, 2) := by decide +kernel
theorem dX6_copyRule_146 : decode cX6_copyRule 146 = .ok (.iload_n 2, 1) := by decide +kernel
theorem dX6_copyRule_147 : decode cX6_copyRule 147 = .ok (.imul, 1) := by decide +kernel
theorem dX6_copyRule_148 : decode cX6_copyRule 148 = .ok (.iload_n 3, 1) := by decide +kernel
theorem dX6_copyRule_149 : decode cX6_copyRule 149 = .ok (.iadd, 1) := by decide +kernel
theorem dX6_copyRule_150 : decode cX6_copyRule 150 = .ok (.iaload, 1) := by decide +kernel
theorem dX6_copyRule_151 : decode cX6_copyRule 151 = .ok (.iastore, 1) := by decide +kernel
theorem dX6_copyRule_152 : decode cX6_copyRule 152 = .ok (.aload_n 0, 1) := by decide +kernel
theorem dX6_copyRule_153 : decode cX6_copyRule 153 = .ok (.getfield 31, 3) := by decide +kernel
theorem dX6_copyRule_156 : decode cX6_copyRule 156 = .ok (.bipush 12, 2) := by decide +kernel
theorem dX6_copyRule_158 : decode cX6_copyRule 158 = .ok (.iload_n 1, 1) := by decide +kernel
theorem dX6_copyRule_159 : decode cX6_copyRule 159 = .ok (.imul, 1) := by decide +kernel
theorem dX6_copyRule_160 : decode cX6_copyRule 160 = .ok (.iload_n 3, 1) := by decide +kernel
theorem dX6_copyRule_161 : decode cX6_copyRule 161 = .ok (.iadd, 1) := by decide +kernel
theorem dX6_copyRule_162 : decode cX6_copyRule 162 = .ok (.aload_n 0, 1) := by decide +kernel
theorem dX6_copyRule_163 : decode cX6_copyRule 163 = .ok (.getfield 31, 3) := by decide +kernel
theorem dX6_copyRule_166 : decode cX6_copyRule 166 = .ok (.bipush 12, 2) := by decide +kernel
theorem dX6_copyRule_168 : decode cX6_copyRule 168 = .ok (.iload_n 2, 1) := by decide +kernel
theorem dX6_copyRule_169 : decode cX6_copyRule 169 = .ok (.imul, 1) := by decide +kernel
theorem dX6_copyRule_170 : decode cX6_copyRule 170 = .ok (.iload_n 3, 1) := by decide +kernel
theorem dX6_copyRule_171 : decode cX6_copyRule 171 = .ok (.iadd, 1) := by decide +kernel
theorem dX6_copyRule_172 : decode cX6_copyRule 172 = .ok (.iaload, 1) := by decide +kernel
theorem dX6_copyRule_173 : decode cX6_copyRule 173 = .ok (.iastore, 1) := by decide +kernel
theorem dX6_copyRule_174 : decode cX6_copyRule 174 = .ok (.iinc 3 1, 3) := by decide +kernel
theorem dX6_copyRule_177 : decode cX6_copyRule 177 = .ok (.goto (-53), 3) := by decide +kernel
theorem dX6_copyRule_180 : decode cX6_copyRule 180 = .ok (.return_, 1) := by decide +kernel
theorem dX6_removeRule_0 : decode cX6_removeRule 0 = .ok (.aload_n 0, 1) := by decide +kernel
theorem dX6_removeRule_1 : decode cX6_removeRule 1 = .ok (.aload_n 0, 1) := by decide +kernel
theorem dX6_removeRule_2 : decode cX6_removeRule 2 = .ok (.iload_n 1, 1) := by decide +kernel
theorem dX6_removeRule_3 : decode cX6_removeRule 3 = .ok (.invokevirtual 194, 3) := by decide +kernel
theorem dX6_removeRule_6 : decode cX6_removeRule 6 = .ok (.ifCond .eq 7, 3) := by decide +kernel
theorem dX6_removeRule_9 : decode cX6_removeRule 9 = .ok (.iconst 0, 1) := by decide +kernel
theorem dX6_removeRule_10 : decode cX6_removeRule 10 = .ok (.goto 4, 3) := by decide +kernel
theorem dX6_removeRule_13 : decode cX6_removeRule 13 = .ok (.iconst 1, 1) := by decide +kernel
theorem dX6_removeRule_14 : decode cX6_removeRule 14 = .ok (.putfield 117, 3) := by decide +kernel
theorem dX6_removeRule_17 : decode cX6_removeRule 17 = .ok (.aload_n 0, 1) := by decide +kernel
theorem dX6_removeRule_18 : decode cX6_removeRule 18 = .ok (.getfield 117, 3) := by decide +kernel
theorem dX6_removeRule_21 : decode cX6_removeRule 21 = .ok (.ifCond .le 5, 3) := by decide +kernel
theorem dX6_removeRule_24 : decode cX6_removeRule 24 = .ok (.iconst 0, 1) := by decide +kernel
theorem dX6_removeRule_25 : decode cX6_removeRule 25 = .ok (.ireturn, 1) := by decide +kernel
theorem dX6_removeRule_26 : decode cX6_removeRule 26 = .ok (.aload_n 0, 1) := by decide +kernel
theorem dX6_removeRule_27 : decode cX6_removeRule 27 = .ok (.dup, 1) := by decide +kernel
theorem dX6_removeRule_28 : decode cX6_removeRule 28 = .ok (.getfield 188, 3) := by decide +kernel
theorem dX6_removeRule_31 : decode cX6_removeRule 31 = .ok (.iconst 1, 1) := by decide +kernel
theorem dX6_removeRule_32 : decode cX6_removeRule 32 = .ok (.isub, 1) := by decide +kernel
theorem dX6_removeRule_33 : decode cX6_removeRule 33 = .ok (.putfield 188, 3) := by decide +kernel
theorem dX6_removeRule_36 : decode cX6_removeRule 36 = .ok (.iload_n 1, 1) := by decide +kernel
theorem dX6_removeRule_37 : decode cX6_removeRule 37 = .ok (.istore_n 2, 1) := by decide +kernel
theorem dX6_removeRule_38 : decode cX6_removeRule 38 = .ok (.iload_n 2, 1) := by decide +kernel
theorem dX6_removeRule_39 : decode cX6_removeRule 39 = .ok (.aload_n 0, 1) := by decide +kernel
theorem dX6_removeRule_40 : decode cX6_removeRule 40 = .ok (.getfield 188, 3) := by decide +kernel
theorem dX6_removeRule_43 : decode cX6_removeRule 43 = .ok (.if_icmp .ge 17, 3) := by decide +kernel
theorem dX6_removeRule_46 : decode cX6_removeRule 46 = .ok (.aload_n 0, 1) := by decide +kernel
theorem dX6_removeRule_47 : decode cX6_removeRule 47 = .ok (.iload_n 2, 1) := by decide +kernel
theorem dX6_removeRule_48 : decode cX6_removeRule 48 = .ok (.iload_n 2, 1) := by decide +kernel
theorem dX6_removeRule_49 : decode cX6_removeRule 49 = .ok (.iconst 1, 1) := by decide +kernel
theorem dX6_removeRule_50 : decode cX6_removeRule 50 = .ok (.iadd, 1) := by decide +kernel
theorem dX6_removeRule_51 : decode cX6_removeRule 51 = .ok (.invokevirtual 197, 3) := by decide +kernel
theorem dX6_removeRule_54 : decode cX6_removeRule 54 = .ok (.iinc 2 1, 3) := by decide +kernel
theorem dX6_removeRule_57 : decode cX6_removeRule 57 = .ok (.goto (-19), 3) := by decide +kernel
theorem dX6_removeRule_60 : decode cX6_removeRule 60 = .ok (.aload_n 0, 1) := by decide +kernel
theorem dX6_removeRule_61 : decode cX6_removeRule 61 = .ok (.aload_n 0, 1) := by decide +kernel
theorem dX6_removeRule_62 : decode cX6_removeRule 62 = .ok (.getfield 37, 3) := by decide +kernel
theorem dX6_removeRule_65 : decode cX6_removeRule 65 = .ok (.iload_n 1, 1) := by decide +kernel
theorem dX6_removeRule_66 : decode cX6_removeRule 66 = .ok (.if_icmp .lt 12, 3) := by decide +kernel
theorem dX6_removeRule_69 : decode cX6_removeRule 69 = .ok (.aload_n 0, 1) := by decide +kernel
theorem dX6_removeRule_70 : decode cX6_removeRule 70 = .ok (.getfield 37, 3) := by decide +kernel
theorem dX6_removeRule_73 : decode cX6_removeRule 73 = .ok (.iconst 1, 1) := by decide +kernel
theorem dX6_removeRule_74 : decode cX6_removeRule 74 = .ok (.isub, 1) := by decide +kernel
theorem dX6_removeRule_75 : decode cX6_removeRule 75 = .ok (.goto 7, 3) := by decide +kernel
theorem dX6_removeRule_78 : decode cX6_removeRule 78 = .ok (.aload_n 0, 1) := by decide +kernel
theorem dX6_removeRule_79 : decode cX6_removeRule 79 = .ok (.getfield 37, 3) := by decide +kernel
theorem dX6_removeRule_82 : decode cX6_removeRule 82 = .ok (.putfield 37, 3) := by decide +kernel
theorem dX6_removeRule_85 : decode cX6_removeRule 85 = .ok (.aload_n 0, 1) := by decide +kernel
theorem dX6_removeRule_86 : decode cX6_removeRule 86 = .ok (.iconst 0, 1) := by decide +kernel
theorem dX6_removeRule_87 : decode cX6_removeRule 87 = .ok (.putfield 191, 3) := by decide +kernel
theorem dX6_removeRule_90 : decode cX6_removeRule 90 = .ok (.aload_n 0, 1) := by decide +kernel
theorem dX6_removeRule_91 : decode cX6_removeRule 91 = .ok (.getfield 188, 3) := by decide +kernel
theorem dX6_removeRule_94 : decode cX6_removeRule 94 = .ok (.ireturn, 1) := by decide +kernel
theorem dX6_ruleCount_0 : decode cX6_ruleCount 0 = .ok (.aload_n 0, 1) := by decide +kernel
theorem dX6_ruleCount_1 : decode cX6_ruleCount 1 = .ok (.iconst 0, 1) := by decide +kernel
theorem dX6_ruleCount_2 : decode cX6_ruleCount 2 = .ok (.putfield 117, 3) := by decide +kernel
theorem dX6_ruleCount_5 : decode cX6_ruleCount 5 = .ok (.aload_n 0, 1) := by decide +kernel
theorem dX6_ruleCount_6 : decode cX6_ruleCount 6 = .ok (.getfield 188, 3) := by decide +kernel
theorem dX6_ruleCount_9 : decode cX6_ruleCount 9 = .ok (.ireturn, 1) := by decide +kernel
theorem dX6_patternOf_0 : decode cX6_patternOf 0 = .ok (.aload_n 0, 1) := by decide +kernel
theorem dX6_patternOf_1 : decode cX6_patternOf 1 = .ok (.aload_n 0, 1) := by decide +kernel
theorem dX6_patternOf_2 : decode cX6_patternOf 2 = .ok (.iload_n 1, 1) := by decide +kernel
theorem dX6_patternOf_3 : decode cX6_patternOf 3 = .ok (.invokevirtual 194, 3) := by decide +kernel
theorem dX6_patternOf_6 : decode cX6_patternOf 6 = .ok (.ifCond .eq 7, 3) := by decide +kernel
theorem dX6_patternOf_9 : decode cX6_patternOf 9 = .ok (.iconst 0, 1) := by decide +kernel
theorem dX6_patternOf_10 : decode cX6_patternOf 10 = .ok (.goto 4, 3) := by decide +kernel
theorem dX6_patternOf_13 : decode cX6_patternOf 13 = .ok (.iconst 1, 1) := by decide +kernel
theorem dX6_patternOf_14 : decode cX6_patternOf 14 = .ok (.putfield 117, 3) := by decide +kernel
theorem dX6_patternOf_17 : decode cX6_patternOf 17 = .ok (.aload_n 0, 1) := by decide +kernel
theorem dX6_patternOf_18 : decode cX6_patternOf 18 = .ok (.getfield 117, 3) := by decide +kernel
theorem dX6_patternOf_21 : decode cX6_patternOf 21 = .ok (.ifCond .le 7, 3) := by decide +kernel
theorem dX6_patternOf_24 : decode cX6_patternOf 24 = .ok (.iconst 0, 1) := by decide +kernel
theorem dX6_patternOf_25 : decode cX6_patternOf 25 = .ok (.goto 9, 3) := by decide +kernel
theorem dX6_patternOf_28 : decode cX6_patternOf 28 = .ok (.aload_n 0, 1) := by decide +kernel
theorem dX6_patternOf_29 : decode cX6_patternOf 29 = .ok (.getfield 13, 3) := by decide +kernel
theorem dX6_patternOf_32 : decode cX6_patternOf 32 = .ok (.iload_n 1, 1) := by decide +kernel
theorem dX6_patternOf_33 : decode cX6_patternOf 33 = .ok (.iaload, 1) := by decide +kernel
theorem dX6_patternOf_34 : decode cX6_patternOf 34 = .ok (.ireturn, 1) := by decide +kernel
theorem dX6_setPolicy_0 : decode cX6_setPolicy 0 = .ok (.aload_n 0, 1) := by decide +kernel
theorem dX6_setPolicy_1 : decode cX6_setPolicy 1 = .ok (.iload_n 1, 1) := by decide +kernel
theorem dX6_setPolicy_2 : decode cX6_setPolicy 2 = .ok (.iconst 0, 1) := by decide +kernel
theorem dX6_setPolicy_3 : decode cX6_setPolicy 3 = .ok (.iconst 2, 1) := by decide +kernel
theorem dX6_setPolicy_4 : decode cX6_setPolicy 4 = .ok (.invokestatic 120, 3) := by decide +kernel
theorem dX6_setPolicy_7 : decode cX6_setPolicy 7 = .ok (.ifCond .eq 7, 3) := by decide +kernel
theorem dX6_setPolicy_10 : decode cX6_setPolicy 10 = .ok (.iconst 0, 1) := by decide +kernel
theorem dX6_setPolicy_11 : decode cX6_setPolicy 11 = .ok (.goto 4, 3) := by decide +kernel
theorem dX6_setPolicy_14 : decode cX6_setPolicy 14 = .ok (.iconst 1, 1) := by decide +kernel
theorem dX6_setPolicy_15 : decode cX6_setPolicy 15 = .ok (.putfield 117, 3) := by decide +kernel
theorem dX6_setPolicy_18 : decode cX6_setPolicy 18 = .ok (.aload_n 0, 1) := by decide +kernel
theorem dX6_setPolicy_19 : decode cX6_setPolicy 19 = .ok (.getfield 117, 3) := by decide +kernel
theorem dX6_setPolicy_22 : decode cX6_setPolicy 22 = .ok (.ifCond .le 5, 3) := by decide +kernel
theorem dX6_setPolicy_25 : decode cX6_setPolicy 25 = .ok (.iconst 0, 1) := by decide +kernel
theorem dX6_setPolicy_26 : decode cX6_setPolicy 26 = .ok (.ireturn, 1) := by decide +kernel
theorem dX6_setPolicy_27 : decode cX6_setPolicy 27 = .ok (.aload_n 0, 1) := by decide +kernel
theorem dX6_setPolicy_28 : decode cX6_setPolicy 28 = .ok (.getfield 201, 3) := by decide +kernel
theorem dX6_setPolicy_31 : decode cX6_setPolicy 31 = .ok (.istore_n 2, 1) := by decide +kernel
theorem dX6_setPolicy_32 : decode cX6_setPolicy 32 = .ok (.aload_n 0, 1) := by decide +kernel
theorem dX6_setPolicy_33 : decode cX6_setPolicy 33 = .ok (.iload_n 1, 1) := by decide +kernel
theorem dX6_setPolicy_34 : decode cX6_setPolicy 34 = .ok (.putfield 201, 3) := by decide +kernel
theorem dX6_setPolicy_37 : decode cX6_setPolicy 37 = .ok (.iload_n 2, 1) := by decide +kernel
theorem dX6_setPolicy_38 : decode cX6_setPolicy 38 = .ok (.ireturn, 1) := by decide +kernel
theorem dX6_isChannel_0 : decode cX6_isChannel 0 = .ok (.iload_n 0, 1) := by decide +kernel
theorem dX6_isChannel_1 : decode cX6_isChannel 1 = .ok (.iconst 0, 1) := by decide +kernel
theorem dX6_isChannel_2 : decode cX6_isChannel 2 = .ok (.bipush 7, 2) := by decide +kernel
theorem dX6_isChannel_4 : decode cX6_isChannel 4 = .ok (.invokestatic 120, 3) := by decide +kernel
theorem dX6_isChannel_7 : decode cX6_isChannel 7 = .ok (.ireturn, 1) := by decide +kernel
theorem dX6_put_0 : decode cX6_put 0 = .ok (.bipush 8, 2) := by decide +kernel
theorem dX6_put_2 : decode cX6_put 2 = .ok (.iload_n 1, 1) := by decide +kernel
theorem dX6_put_3 : decode cX6_put 3 = .ok (.imul, 1) := by decide +kernel
theorem dX6_put_4 : decode cX6_put 4 = .ok (.aload_n 0, 1) := by decide +kernel
theorem dX6_put_5 : decode cX6_put 5 = .ok (.getfield 41, 3) := by decide +kernel
theorem dX6_put_8 : decode cX6_put 8 = .ok (.iload_n 1, 1) := by decide +kernel
theorem dX6_put_9 : decode cX6_put 9 = .ok (.iaload, 1) := by decide +kernel
theorem dX6_put_10 : decode cX6_put 10 = .ok (.iadd, 1) := by decide +kernel
theorem dX6_put_11 : decode cX6_put 11 = .ok (.istore 4, 2) := by decide +kernel
theorem dX6_put_13 : decode cX6_put 13 = .ok (.aload_n 0, 1) := by decide +kernel
theorem dX6_put_14 : decode cX6_put 14 = .ok (.getfield 44, 3) := by decide +kernel
theorem dX6_put_17 : decode cX6_put 17 = .ok (.iload 4, 2) := by decide +kernel
theorem dX6_put_19 : decode cX6_put 19 = .ok (.iload_n 2, 1) := by decide +kernel
theorem dX6_put_20 : decode cX6_put 20 = .ok (.iastore, 1) := by decide +kernel
theorem dX6_put_21 : decode cX6_put 21 = .ok (.aload_n 0, 1) := by decide +kernel
theorem dX6_put_22 : decode cX6_put 22 = .ok (.getfield 47, 3) := by decide +kernel
theorem dX6_put_25 : decode cX6_put 25 = .ok (.iload 4, 2) := by decide +kernel
theorem dX6_put_27 : decode cX6_put 27 = .ok (.aload_n 0, 1) := by decide +kernel
theorem dX6_put_28 : decode cX6_put 28 = .ok (.getfield 204, 3) := by decide +kernel
theorem dX6_put_31 : decode cX6_put 31 = .ok (.iastore, 1) := by decide +kernel
theorem dX6_put_32 : decode cX6_put 32 = .ok (.aload_n 0, 1) := by decide +kernel
theorem dX6_put_33 : decode cX6_put 33 = .ok (.getfield 50, 3) := by decide +kernel
theorem dX6_put_36 : decode cX6_put 36 = .ok (.iload 4, 2) := by decide +kernel
theorem dX6_put_38 : decode cX6_put 38 = .ok (.iload_n 3, 1) := by decide +kernel
theorem dX6_put_39 : decode cX6_put 39 = .ok (.iastore, 1) := by decide +kernel
theorem dX6_put_40 : decode cX6_put 40 = .ok (.aload_n 0, 1) := by decide +kernel
theorem dX6_put_41 : decode cX6_put 41 = .ok (.getfield 41, 3) := by decide +kernel
theorem dX6_put_44 : decode cX6_put 44 = .ok (.iload_n 1, 1) := by decide +kernel
theorem dX6_put_45 : decode cX6_put 45 = .ok (.dup2, 1) := by decide +kernel
theorem dX6_put_46 : decode cX6_put 46 = .ok (.iaload, 1) := by decide +kernel
theorem dX6_put_47 : decode cX6_put 47 = .ok (.iconst 1, 1) := by decide +kernel
theorem dX6_put_48 : decode cX6_put 48 = .ok (.iadd, 1) := by decide +kernel
theorem dX6_put_49 : decode cX6_put 49 = .ok (.iastore, 1) := by decide +kernel
theorem dX6_put_50 : decode cX6_put 50 = .ok (.return_, 1) := by decide +kernel
theorem dX6_send_0 : decode cX6_send 0 = .ok (.aload_n 0, 1) := by decide +kernel
theorem dX6_send_1 : decode cX6_send 1 = .ok (.iload_n 1, 1) := by decide +kernel
theorem dX6_send_2 : decode cX6_send 2 = .ok (.invokestatic 207, 3) := by decide +kernel
theorem dX6_send_5 : decode cX6_send 5 = .ok (.ifCond .ne 7, 3) := by decide +kernel
theorem dX6_send_8 : decode cX6_send 8 = .ok (.iconst 1, 1) := by decide +kernel
theorem dX6_send_9 : decode cX6_send 9 = .ok (.goto 36, 3) := by decide +kernel
theorem dX6_send_12 : decode cX6_send 12 = .ok (.iload_n 2, 1) := by decide +kernel
theorem dX6_send_13 : decode cX6_send 13 = .ok (.sipush (-9999), 3) := by decide +kernel
theorem dX6_send_16 : decode cX6_send 16 = .ok (.sipush 9999, 3) := by decide +kernel
theorem dX6_send_19 : decode cX6_send 19 = .ok (.invokestatic 120, 3) := by decide +kernel
theorem dX6_send_22 : decode cX6_send 22 = .ok (.ifCond .ne 7, 3) := by decide +kernel
theorem dX6_send_25 : decode cX6_send 25 = .ok (.iconst 2, 1) := by decide +kernel
theorem dX6_send_26 : decode cX6_send 26 = .ok (.goto 19, 3) := by decide +kernel
theorem dX6_send_29 : decode cX6_send 29 = .ok (.aload_n 0, 1) := by decide +kernel
theorem dX6_send_30 : decode cX6_send 30 = .ok (.getfield 41, 3) := by decide +kernel
theorem dX6_send_33 : decode cX6_send 33 = .ok (.iload_n 1, 1) := by decide +kernel
theorem dX6_send_34 : decode cX6_send 34 = .ok (.iaload, 1) := by decide +kernel
theorem dX6_send_35 : decode cX6_send 35 = .ok (.bipush 8, 2) := by decide +kernel
theorem dX6_send_37 : decode cX6_send 37 = .ok (.if_icmp .ne 7, 3) := by decide +kernel
theorem dX6_send_40 : decode cX6_send 40 = .ok (.iconst 3, 1) := by decide +kernel
theorem dX6_send_41 : decode cX6_send 41 = .ok (.goto 4, 3) := by decide +kernel
theorem dX6_send_44 : decode cX6_send 44 = .ok (.iconst 0, 1) := by decide +kernel
theorem dX6_send_45 : decode cX6_send 45 = .ok (.putfield 117, 3) := by decide +kernel
theorem dX6_send_48 : decode cX6_send 48 = .ok (.aload_n 0, 1) := by decide +kernel
theorem dX6_send_49 : decode cX6_send 49 = .ok (.getfield 117, 3) := by decide +kernel
theorem dX6_send_52 : decode cX6_send 52 = .ok (.ifCond .le 5, 3) := by decide +kernel
theorem dX6_send_55 : decode cX6_send 55 = .ok (.iconst 0, 1) := by decide +kernel
theorem dX6_send_56 : decode cX6_send 56 = .ok (.ireturn, 1) := by decide +kernel
theorem dX6_send_57 : decode cX6_send 57 = .ok (.aload_n 0, 1) := by decide +kernel
theorem dX6_send_58 : decode cX6_send 58 = .ok (.dup, 1) := by decide +kernel
theorem dX6_send_59 : decode cX6_send 59 = .ok (.getfield 204, 3) := by decide +kernel
theorem dX6_send_62 : decode cX6_send 62 = .ok (.iconst 1, 1) := by decide +kernel
theorem dX6_send_63 : decode cX6_send 63 = .ok (.iadd, 1) := by decide +kernel
theorem dX6_send_64 : decode cX6_send 64 = .ok (.putfield 204, 3) := by decide +kernel
theorem dX6_send_67 : decode cX6_send 67 = .ok (.iload_n 1, 1) := by decide +kernel
theorem dX6_send_68 : decode cX6_send 68 = .ok (.iconst 4, 1) := by decide +kernel
theorem dX6_send_69 : decode cX6_send 69 = .ok (.if_icmp .ge 10, 3) := by decide +kernel
theorem dX6_send_72 : decode cX6_send 72 = .ok (.aload_n 0, 1) := by decide +kernel
theorem dX6_send_73 : decode cX6_send 73 = .ok (.getfield 210, 3) := by decide +kernel
theorem dX6_send_76 : decode cX6_send 76 = .ok (.goto 4, 3) := by decide +kernel
theorem dX6_send_79 : decode cX6_send 79 = .ok (.iconst (-1), 1) := by decide +kernel
theorem dX6_send_80 : decode cX6_send 80 = .ok (.istore_n 3, 1) := by decide +kernel
theorem dX6_send_81 : decode cX6_send 81 = .ok (.iload_n 3, 1) := by decide +kernel
theorem dX6_send_82 : decode cX6_send 82 = .ok (.iconst (-1), 1) := by decide +kernel
theorem dX6_send_83 : decode cX6_send 83 = .ok (.if_icmp .eq 23, 3) := by decide +kernel
theorem dX6_send_86 : decode cX6_send 86 = .ok (.aload_n 0, 1) := by decide +kernel
theorem dX6_send_87 : decode cX6_send 87 = .ok (.getfield 53, 3) := by decide +kernel
theorem dX6_send_90 : decode cX6_send 90 = .ok (.iload_n 3, 1) := by decide +kernel
theorem dX6_send_91 : decode cX6_send 91 = .ok (.bipush 24, 2) := by decide +kernel
theorem dX6_send_93 : decode cX6_send 93 = .ok (.irem, 1) := by decide +kernel
theorem dX6_send_94 : decode cX6_send 94 = .ok (.iconst 0, 1) := by decide +kernel
theorem dX6_send_95 : decode cX6_send 95 = .ok (.iastore, 1) := by decide +kernel
theorem dX6_send_96 : decode cX6_send 96 = .ok (.aload_n 0, 1) := by decide +kernel
theorem dX6_send_97 : decode cX6_send 97 = .ok (.dup, 1) := by decide +kernel
theorem dX6_send_98 : decode cX6_send 98 = .ok (.getfield 210, 3) := by decide +kernel
theorem dX6_send_101 : decode cX6_send 101 = .ok (.iconst 1, 1) := by decide +kernel
theorem dX6_send_102 : decode cX6_send 102 = .ok (.iadd, 1) := by decide +kernel
theorem dX6_send_103 : decode cX6_send 103 = .ok (.putfield 210, 3) := by decide +kernel
theorem dX6_send_106 : decode cX6_send 106 = .ok (.aload_n 0, 1) := by decide +kernel
theorem dX6_send_107 : decode cX6_send 107 = .ok (.iload_n 1, 1) := by decide +kernel
theorem dX6_send_108 : decode cX6_send 108 = .ok (.iload_n 2, 1) := by decide +kernel
theorem dX6_send_109 : decode cX6_send 109 = .ok (.iload_n 3, 1) := by decide +kernel
theorem dX6_send_110 : decode cX6_send 110 = .ok (.invokevirtual 213, 3) := by decide +kernel
theorem dX6_send_113 : decode cX6_send 113 = .ok (.iload_n 3, 1) := by decide +kernel
theorem dX6_send_114 : decode cX6_send 114 = .ok (.ireturn, 1) := by decide +kernel
theorem dX6_queueLength_0 : decode cX6_queueLength 0 = .ok (.aload_n 0, 1) := by decide +kernel
theorem dX6_queueLength_1 : decode cX6_queueLength 1 = .ok (.iload_n 1, 1) := by decide +kernel
theorem dX6_queueLength_2 : decode cX6_queueLength 2 = .ok (.invokestatic 207, 3) := by decide +kernel
theorem dX6_queueLength_5 : decode cX6_queueLength 5 = .ok (.ifCond .eq 7, 3) := by decide +kernel
theorem dX6_queueLength_8 : decode cX6_queueLength 8 = .ok (.iconst 0, 1) := by decide +kernel
theorem dX6_queueLength_9 : decode cX6_queueLength 9 = .ok (.goto 4, 3) := by decide +kernel
theorem dX6_queueLength_12 : decode cX6_queueLength 12 = .ok (.iconst 1, 1) := by decide +kernel
theorem dX6_queueLength_13 : decode cX6_queueLength 13 = .ok (.putfield 117, 3) := by decide +kernel
theorem dX6_queueLength_16 : decode cX6_queueLength 16 = .ok (.aload_n 0, 1) := by decide +kernel
theorem dX6_queueLength_17 : decode cX6_queueLength 17 = .ok (.getfield 117, 3) := by decide +kernel
theorem dX6_queueLength_20 : decode cX6_queueLength 20 = .ok (.ifCond .le 7, 3) := by decide +kernel
theorem dX6_queueLength_23 : decode cX6_queueLength 23 = .ok (.iconst 0, 1) := by decide +kernel
theorem dX6_queueLength_24 : decode cX6_queueLength 24 = .ok (.goto 9, 3) := by decide +kernel
theorem dX6_queueLength_27 : decode cX6_queueLength 27 = .ok (.aload_n 0, 1) := by decide +kernel
theorem dX6_queueLength_28 : decode cX6_queueLength 28 = .ok (.getfield 41, 3) := by decide +kernel
theorem dX6_queueLength_31 : decode cX6_queueLength 31 = .ok (.iload_n 1, 1) := by decide +kernel
theorem dX6_queueLength_32 : decode cX6_queueLength 32 = .ok (.iaload, 1) := by decide +kernel
theorem dX6_queueLength_33 : decode cX6_queueLength 33 = .ok (.ireturn, 1) := by decide +kernel
theorem dX6_messageAt_0 : decode cX6_messageAt 0 = .ok (.aload_n 0, 1) := by decide +kernel
theorem dX6_messageAt_1 : decode cX6_messageAt 1 = .ok (.iload_n 1, 1) := by decide +kernel
theorem dX6_messageAt_2 : decode cX6_messageAt 2 = .ok (.invokestatic 207, 3) := by decide +kernel
theorem dX6_messageAt_5 : decode cX6_messageAt 5 = .ok (.ifCond .eq 23, 3) := by decide +kernel
theorem dX6_messageAt_8 : decode cX6_messageAt 8 = .ok (.iload_n 2, 1) := by decide +kernel
theorem dX6_messageAt_9 : decode cX6_messageAt 9 = .ok (.iconst 0, 1) := by decide +kernel
theorem dX6_messageAt_10 : decode cX6_messageAt 10 = .ok (.aload_n 0, 1) := by decide +kernel
theorem dX6_messageAt_11 : decode cX6_messageAt 11 = .ok (.getfield 41, 3) := by decide +kernel
theorem dX6_messageAt_14 : decode cX6_messageAt 14 = .ok (.iload_n 1, 1) := by decide +kernel
theorem dX6_messageAt_15 : decode cX6_messageAt 15 = .ok (.iaload, 1) := by decide +kernel
theorem dX6_messageAt_16 : decode cX6_messageAt 16 = .ok (.iconst 1, 1) := by decide +kernel
theorem dX6_messageAt_17 : decode cX6_messageAt 17 = .ok (.isub, 1) := by decide +kernel
theorem dX6_messageAt_18 : decode cX6_messageAt 18 = .ok (.invokestatic 120, 3) := by decide +kernel
theorem dX6_messageAt_21 : decode cX6_messageAt 21 = .ok (.ifCond .eq 7, 3) := by decide +kernel
theorem dX6_messageAt_24 : decode cX6_messageAt 24 = .ok (.iconst 0, 1) := by decide +kernel
theorem dX6_messageAt_25 : decode cX6_messageAt 25 = .ok (.goto 4, 3) := by decide +kernel
theorem dX6_messageAt_28 : decode cX6_messageAt 28 = .ok (.iconst 1, 1) := by decide +kernel
theorem dX6_messageAt_29 : decode cX6_messageAt 29 = .ok (.putfield 117, 3) := by decide +kernel
theorem dX6_messageAt_32 : decode cX6_messageAt 32 = .ok (.aload_n 0, 1) := by decide +kernel
theorem dX6_messageAt_33 : decode cX6_messageAt 33 = .ok (.getfield 117, 3) := by decide +kernel
theorem dX6_messageAt_36 : decode cX6_messageAt 36 = .ok (.ifCond .le 7, 3) := by decide +kernel
theorem dX6_messageAt_39 : decode cX6_messageAt 39 = .ok (.iconst 0, 1) := by decide +kernel
theorem dX6_messageAt_40 : decode cX6_messageAt 40 = .ok (.goto 14, 3) := by decide +kernel
theorem dX6_messageAt_43 : decode cX6_messageAt 43 = .ok (.aload_n 0, 1) := by decide +kernel
theorem dX6_messageAt_44 : decode cX6_messageAt 44 = .ok (.getfield 44, 3) := by decide +kernel
theorem dX6_messageAt_47 : decode cX6_messageAt 47 = .ok (.bipush 8, 2) := by decide +kernel
theorem dX6_messageAt_49 : decode cX6_messageAt 49 = .ok (.iload_n 1, 1) := by decide +kernel
theorem dX6_messageAt_50 : decode cX6_messageAt 50 = .ok (.imul, 1) := by decide +kernel
theorem dX6_messageAt_51 : decode cX6_messageAt 51 = .ok (.iload_n 2, 1) := by decide +kernel
theorem dX6_messageAt_52 : decode cX6_messageAt 52 = .ok (.iadd, 1) := by decide +kernel
theorem dX6_messageAt_53 : decode cX6_messageAt 53 = .ok (.iaload, 1) := by decide +kernel
theorem dX6_messageAt_54 : decode cX6_messageAt 54 = .ok (.ireturn, 1) := by decide +kernel
theorem dX6_waitingNow_0 : decode cX6_waitingNow 0 = .ok (.iconst 0, 1) := by decide +kernel
theorem dX6_waitingNow_1 : decode cX6_waitingNow 1 = .ok (.istore_n 1, 1) := by decide +kernel
theorem dX6_waitingNow_2 : decode cX6_waitingNow 2 = .ok (.iconst 0, 1) := by decide +kernel
theorem dX6_waitingNow_3 : decode cX6_waitingNow 3 = .ok (.istore_n 2, 1) := by decide +kernel
theorem dX6_waitingNow_4 : decode cX6_waitingNow 4 = .ok (.iload_n 2, 1) := by decide +kernel
theorem dX6_waitingNow_5 : decode cX6_waitingNow 5 = .ok (.bipush 8, 2) := by decide +kernel
theorem dX6_waitingNow_7 : decode cX6_waitingNow 7 = .ok (.if_icmp .ge 28, 3) := by decide +kernel
theorem dX6_waitingNow_10 : decode cX6_waitingNow 10 = .ok (.iload_n 1, 1) := by decide +kernel
theorem dX6_waitingNow_11 : decode cX6_waitingNow 11 = .ok (.aload_n 0, 1) := by decide +kernel
theorem dX6_waitingNow_12 : decode cX6_waitingNow 12 = .ok (.getfield 41, 3) := by decide +kernel
theorem dX6_waitingNow_15 : decode cX6_waitingNow 15 = .ok (.iload_n 2, 1) := by decide +kernel
theorem dX6_waitingNow_16 : decode cX6_waitingNow 16 = .ok (.iaload, 1) := by decide +kernel
theorem dX6_waitingNow_17 : decode cX6_waitingNow 17 = .ok (.ifCond .le 9, 3) := by decide +kernel
theorem dX6_waitingNow_20 : decode cX6_waitingNow 20 = .ok (.iconst 1, 1) := by decide +kernel
theorem dX6_waitingNow_21 : decode cX6_waitingNow 21 = .ok (.iload_n 2, 1) := by decide +kernel
theorem dX6_waitingNow_22 : decode cX6_waitingNow 22 = .ok (.ishl, 1) := by decide +kernel
theorem dX6_waitingNow_23 : decode cX6_waitingNow 23 = .ok (.goto 4, 3) := by decide +kernel
theorem dX6_waitingNow_26 : decode cX6_waitingNow 26 = .ok (.iconst 0, 1) := by decide +kernel
theorem dX6_waitingNow_27 : decode cX6_waitingNow 27 = .ok (.ior, 1) := by decide +kernel
theorem dX6_waitingNow_28 : decode cX6_waitingNow 28 = .ok (.istore_n 1, 1) := by decide +kernel
theorem dX6_waitingNow_29 : decode cX6_waitingNow 29 = .ok (.iinc 2 1, 3) := by decide +kernel
theorem dX6_waitingNow_32 : decode cX6_waitingNow 32 = .ok (.goto (-28), 3) := by decide +kernel
theorem dX6_waitingNow_35 : decode cX6_waitingNow 35 = .ok (.iload_n 1, 1) := by decide +kernel
theorem dX6_waitingNow_36 : decode cX6_waitingNow 36 = .ok (.ireturn, 1) := by decide +kernel
theorem dX6_waitingChannels_0 : decode cX6_waitingChannels 0 = .ok (.aload_n 0, 1) := by decide +kernel
theorem dX6_waitingChannels_1 : decode cX6_waitingChannels 1 = .ok (.iconst 0, 1) := by decide +kernel
theorem dX6_waitingChannels_2 : decode cX6_waitingChannels 2 = .ok (.putfield 117, 3) := by decide +kernel
theorem dX6_waitingChannels_5 : decode cX6_waitingChannels 5 = .ok (.aload_n 0, 1) := by decide +kernel
theorem dX6_waitingChannels_6 : decode cX6_waitingChannels 6 = .ok (.invokevirtual 217, 3) := by decide +kernel
theorem dX6_waitingChannels_9 : decode cX6_waitingChannels 9 = .ok (.ireturn, 1) := by decide +kernel
theorem dX6_readyNow_0 : decode cX6_readyNow 0 = .ok (.aload_n 0, 1) := by decide +kernel
theorem dX6_readyNow_1 : decode cX6_readyNow 1 = .ok (.invokevirtual 217, 3) := by decide +kernel
theorem dX6_readyNow_4 : decode cX6_readyNow 4 = .ok (.istore_n 1, 1) := by decide +kernel
theorem dX6_readyNow_5 : decode cX6_readyNow 5 = .ok (.iconst 0, 1) := by decide +kernel
theorem dX6_readyNow_6 : decode cX6_readyNow 6 = .ok (.istore_n 2, 1) := by decide +kernel
theorem dX6_readyNow_7 : decode cX6_readyNow 7 = .ok (.iconst 0, 1) := by decide +kernel
theorem dX6_readyNow_8 : decode cX6_readyNow 8 = .ok (.istore_n 3, 1) := by decide +kernel
theorem dX6_readyNow_9 : decode cX6_readyNow 9 = .ok (.iload_n 3, 1) := by decide +kernel
theorem dX6_readyNow_10 : decode cX6_readyNow 10 = .ok (.aload_n 0, 1) := by decide +kernel
theorem dX6_readyNow_11 : decode cX6_readyNow 11 = .ok (.getfield 188, 3) := by decide +kernel
theorem dX6_readyNow_14 : decode cX6_readyNow 14 = .ok (.if_icmp .ge 32, 3) := by decide +kernel
theorem dX6_readyNow_17 : decode cX6_readyNow 17 = .ok (.iload_n 2, 1) := by decide +kernel
theorem dX6_readyNow_18 : decode cX6_readyNow 18 = .ok (.aload_n 0, 1) := by decide +kernel
theorem dX6_readyNow_19 : decode cX6_readyNow 19 = .ok (.getfield 13, 3) := by decide +kernel
theorem dX6_readyNow_22 : decode cX6_readyNow 22 = .ok (.iload_n 3, 1) := by decide +kernel
theorem dX6_readyNow_23 : decode cX6_readyNow 23 = .ok (.iaload, 1) := by decide +kernel
theorem dX6_readyNow_24 : decode cX6_readyNow 24 = .ok (.iload_n 1, 1) := by decide +kernel
theorem dX6_readyNow_25 : decode cX6_readyNow 25 = .ok (.iconst (-1), 1) := by decide +kernel
theorem dX6_readyNow_26 : decode cX6_readyNow 26 = .ok (.ixor, 1) := by decide +kernel
theorem dX6_readyNow_27 : decode cX6_readyNow 27 = .ok (.iand, 1) := by decide +kernel
theorem dX6_readyNow_28 : decode cX6_readyNow 28 = .ok (.ifCond .ne 9, 3) := by decide +kernel
theorem dX6_readyNow_31 : decode cX6_readyNow 31 = .ok (.iconst 1, 1) := by decide +kernel
theorem dX6_readyNow_32 : decode cX6_readyNow 32 = .ok (.iload_n 3, 1) := by decide +kernel
theorem dX6_readyNow_33 : decode cX6_readyNow 33 = .ok (.ishl, 1) := by decide +kernel
theorem dX6_readyNow_34 : decode cX6_readyNow 34 = .ok (.goto 4, 3) := by decide +kernel
theorem dX6_readyNow_37 : decode cX6_readyNow 37 = .ok (.iconst 0, 1) := by decide +kernel
theorem dX6_readyNow_38 : decode cX6_readyNow 38 = .ok (.ior, 1) := by decide +kernel
theorem dX6_readyNow_39 : decode cX6_readyNow 39 = .ok (.istore_n 2, 1) := by decide +kernel
theorem dX6_readyNow_40 : decode cX6_readyNow 40 = .ok (.iinc 3 1, 3) := by decide +kernel
theorem dX6_readyNow_43 : decode cX6_readyNow 43 = .ok (.goto (-34), 3) := by decide +kernel
theorem dX6_readyNow_46 : decode cX6_readyNow 46 = .ok (.iload_n 2, 1) := by decide +kernel
theorem dX6_readyNow_47 : decode cX6_readyNow 47 = .ok (.ireturn, 1) := by decide +kernel
theorem dX6_readyRules_0 : decode cX6_readyRules 0 = .ok (.aload_n 0, 1) := by decide +kernel
theorem dX6_readyRules_1 : decode cX6_readyRules 1 = .ok (.iconst 0, 1) := by decide +kernel
theorem dX6_readyRules_2 : decode cX6_readyRules 2 = .ok (.putfield 117, 3) := by decide +kernel
theorem dX6_readyRules_5 : decode cX6_readyRules 5 = .ok (.aload_n 0, 1) := by decide +kernel
theorem dX6_readyRules_6 : decode cX6_readyRules 6 = .ok (.invokevirtual 220, 3) := by decide +kernel
theorem dX6_readyRules_9 : decode cX6_readyRules 9 = .ok (.ireturn, 1) := by decide +kernel
theorem dX6_operand_0 : decode cX6_operand 0 = .ok (.iload_n 1, 1) := by decide +kernel
theorem dX6_operand_1 : decode cX6_operand 1 = .ok (.bipush 8, 2) := by decide +kernel
theorem dX6_operand_3 : decode cX6_operand 3 = .ok (.if_icmp .ge 23, 3) := by decide +kernel
theorem dX6_operand_6 : decode cX6_operand 6 = .ok (.aload_n 0, 1) := by decide +kernel
theorem dX6_operand_7 : decode cX6_operand 7 = .ok (.getfield 44, 3) := by decide +kernel
theorem dX6_operand_10 : decode cX6_operand 10 = .ok (.bipush 8, 2) := by decide +kernel
theorem dX6_operand_12 : decode cX6_operand 12 = .ok (.iload_n 1, 1) := by decide +kernel
theorem dX6_operand_13 : decode cX6_operand 13 = .ok (.imul, 1) := by decide +kernel
theorem dX6_operand_14 : decode cX6_operand 14 = .ok (.aload_n 0, 1) := by decide +kernel
theorem dX6_operand_15 : decode cX6_operand 15 = .ok (.getfield 81, 3) := by decide +kernel
theorem dX6_operand_18 : decode cX6_operand 18 = .ok (.iload_n 1, 1) := by decide +kernel
theorem dX6_operand_19 : decode cX6_operand 19 = .ok (.iaload, 1) := by decide +kernel
theorem dX6_operand_20 : decode cX6_operand 20 = .ok (.iadd, 1) := by decide +kernel
theorem dX6_operand_21 : decode cX6_operand 21 = .ok (.iaload, 1) := by decide +kernel
theorem dX6_operand_22 : decode cX6_operand 22 = .ok (.i2l, 1) := by decide +kernel
theorem dX6_operand_23 : decode cX6_operand 23 = .ok (.goto 8, 3) := by decide +kernel
theorem dX6_operand_26 : decode cX6_operand 26 = .ok (.iload_n 1, 1) := by decide +kernel
theorem dX6_operand_27 : decode cX6_operand 27 = .ok (.bipush 8, 2) := by decide +kernel
theorem dX6_operand_29 : decode cX6_operand 29 = .ok (.isub, 1) := by decide +kernel
theorem dX6_operand_30 : decode cX6_operand 30 = .ok (.i2l, 1) := by decide +kernel
theorem dX6_operand_31 : decode cX6_operand 31 = .ok (.lreturn, 1) := by decide +kernel
theorem dX6_isGuarded_0 : decode cX6_isGuarded 0 = .ok (.aload_n 0, 1) := by decide +kernel
theorem dX6_isGuarded_1 : decode cX6_isGuarded 1 = .ok (.getfield 16, 3) := by decide +kernel
theorem dX6_isGuarded_4 : decode cX6_isGuarded 4 = .ok (.iconst 3, 1) := by decide +kernel
theorem dX6_isGuarded_5 : decode cX6_isGuarded 5 = .ok (.iload_n 1, 1) := by decide +kernel
theorem dX6_isGuarded_6 : decode cX6_isGuarded 6 = .ok (.imul, 1) := by decide +kernel
theorem dX6_isGuarded_7 : decode cX6_isGuarded 7 = .ok (.iconst 1, 1) := by decide +kernel
theorem dX6_isGuarded_8 : decode cX6_isGuarded 8 = .ok (.iadd, 1) := by decide +kernel
theorem dX6_isGuarded_9 : decode cX6_isGuarded 9 = .ok (.iaload, 1) := by decide +kernel
theorem dX6_isGuarded_10 : decode cX6_isGuarded 10 = .ok (.istore_n 2, 1) := by decide +kernel
theorem dX6_isGuarded_11 : decode cX6_isGuarded 11 = .ok (.iload_n 2, 1) := by decide +kernel
theorem dX6_isGuarded_12 : decode cX6_isGuarded 12 = .ok (.ifCond .ne 5, 3) := by decide +kernel
theorem dX6_isGuarded_15 : decode cX6_isGuarded 15 = .ok (.iconst 1, 1) := by decide +kernel
theorem dX6_isGuarded_16 : decode cX6_isGuarded 16 = .ok (.ireturn, 1) := by decide +kernel
theorem dX6_isGuarded_17 : decode cX6_isGuarded 17 = .ok (.aload_n 0, 1) := by decide +kernel
theorem dX6_isGuarded_18 : decode cX6_isGuarded 18 = .ok (.aload_n 0, 1) := by decide +kernel
theorem dX6_isGuarded_19 : decode cX6_isGuarded 19 = .ok (.getfield 16, 3) := by decide +kernel
theorem dX6_isGuarded_22 : decode cX6_isGuarded 22 = .ok (.iconst 3, 1) := by decide +kernel
theorem dX6_isGuarded_23 : decode cX6_isGuarded 23 = .ok (.iload_n 1, 1) := by decide +kernel
theorem dX6_isGuarded_24 : decode cX6_isGuarded 24 = .ok (.imul, 1) := by decide +kernel
theorem dX6_isGuarded_25 : decode cX6_isGuarded 25 = .ok (.iaload, 1) := by decide +kernel
theorem dX6_isGuarded_26 : decode cX6_isGuarded 26 = .ok (.invokevirtual 223, 3) := by decide +kernel
theorem dX6_isGuarded_29 : decode cX6_isGuarded 29 = .ok (.lstore_n 3, 1) := by decide +kernel
theorem dX6_isGuarded_30 : decode cX6_isGuarded 30 = .ok (.aload_n 0, 1) := by decide +kernel
theorem dX6_isGuarded_31 : decode cX6_isGuarded 31 = .ok (.aload_n 0, 1) := by decide +kernel
theorem dX6_isGuarded_32 : decode cX6_isGuarded 32 = .ok (.getfield 16, 3) := by decide +kernel
theorem dX6_isGuarded_35 : decode cX6_isGuarded 35 = .ok (.iconst 3, 1) := by decide +kernel
theorem dX6_isGuarded_36 : decode cX6_isGuarded 36 = .ok (.iload_n 1, 1) := by decide +kernel
theorem dX6_isGuarded_37 : decode cX6_isGuarded 37 = .ok (.imul, 1) := by decide +kernel
theorem dX6_isGuarded_38 : decode cX6_isGuarded 38 = .ok (.iconst 2, 1) := by decide +kernel
theorem dX6_isGuarded_39 : decode cX6_isGuarded 39 = .ok (.iadd, 1) := by decide +kernel
theorem dX6_isGuarded_40 : decode cX6_isGuarded 40 = .ok (.iaload, 1) := by decide +kernel
theorem dX6_isGuarded_41 : decode cX6_isGuarded 41 = .ok (.invokevirtual 223, 3) := by decide +kernel
theorem dX6_isGuarded_44 : decode cX6_isGuarded 44 = .ok (.lstore 5, 2) := by decide +kernel
theorem dX6_isGuarded_46 : decode cX6_isGuarded 46 = .ok (.iload_n 2, 1) := by decide +kernel
theorem dX6_isGuarded_47 : decode cX6_isGuarded 47 = .ok (.bipush 60, 2) := by decide +kernel
theorem dX6_isGuarded_49 : decode cX6_isGuarded 49 = .ok (.if_icmp .ne 18, 3) := by decide +kernel
theorem dX6_isGuarded_52 : decode cX6_isGuarded 52 = .ok (.lload_n 3, 1) := by decide +kernel
theorem dX6_isGuarded_53 : decode cX6_isGuarded 53 = .ok (.lload 5, 2) := by decide +kernel
theorem dX6_isGuarded_55 : decode cX6_isGuarded 55 = .ok (.lcmp, 1) := by decide +kernel
theorem dX6_isGuarded_56 : decode cX6_isGuarded 56 = .ok (.ifCond .ge 7, 3) := by decide +kernel
theorem dX6_isGuarded_59 : decode cX6_isGuarded 59 = .ok (.iconst 1, 1) := by decide +kernel
theorem dX6_isGuarded_60 : decode cX6_isGuarded 60 = .ok (.goto 40, 3) := by decide +kernel
theorem dX6_isGuarded_63 : decode cX6_isGuarded 63 = .ok (.iconst 0, 1) := by decide +kernel
theorem dX6_isGuarded_64 : decode cX6_isGuarded 64 = .ok (.goto 36, 3) := by decide +kernel
theorem dX6_isGuarded_67 : decode cX6_isGuarded 67 = .ok (.iload_n 2, 1) := by decide +kernel
theorem dX6_isGuarded_68 : decode cX6_isGuarded 68 = .ok (.bipush 61, 2) := by decide +kernel
theorem dX6_isGuarded_70 : decode cX6_isGuarded 70 = .ok (.if_icmp .ne 18, 3) := by decide +kernel
theorem dX6_isGuarded_73 : decode cX6_isGuarded 73 = .ok (.lload_n 3, 1) := by decide +kernel
theorem dX6_isGuarded_74 : decode cX6_isGuarded 74 = .ok (.lload 5, 2) := by decide +kernel
theorem dX6_isGuarded_76 : decode cX6_isGuarded 76 = .ok (.lcmp, 1) := by decide +kernel
theorem dX6_isGuarded_77 : decode cX6_isGuarded 77 = .ok (.ifCond .ne 7, 3) := by decide +kernel
theorem dX6_isGuarded_80 : decode cX6_isGuarded 80 = .ok (.iconst 1, 1) := by decide +kernel
theorem dX6_isGuarded_81 : decode cX6_isGuarded 81 = .ok (.goto 19, 3) := by decide +kernel
theorem dX6_isGuarded_84 : decode cX6_isGuarded 84 = .ok (.iconst 0, 1) := by decide +kernel
theorem dX6_isGuarded_85 : decode cX6_isGuarded 85 = .ok (.goto 15, 3) := by decide +kernel
theorem dX6_isGuarded_88 : decode cX6_isGuarded 88 = .ok (.lload_n 3, 1) := by decide +kernel
theorem dX6_isGuarded_89 : decode cX6_isGuarded 89 = .ok (.lload 5, 2) := by decide +kernel
theorem dX6_isGuarded_91 : decode cX6_isGuarded 91 = .ok (.lcmp, 1) := by decide +kernel
theorem dX6_isGuarded_92 : decode cX6_isGuarded 92 = .ok (.ifCond .le 7, 3) := by decide +kernel
theorem dX6_isGuarded_95 : decode cX6_isGuarded 95 = .ok (.iconst 1, 1) := by decide +kernel
theorem dX6_isGuarded_96 : decode cX6_isGuarded 96 = .ok (.goto 4, 3) := by decide +kernel
theorem dX6_isGuarded_99 : decode cX6_isGuarded 99 = .ok (.iconst 0, 1) := by decide +kernel
theorem dX6_isGuarded_100 : decode cX6_isGuarded 100 = .ok (.ireturn, 1) := by decide +kernel
theorem dX6_goOn_0 : decode cX6_goOn 0 = .ok (.bipush 7, 2) := by decide +kernel
theorem dX6_goOn_2 : decode cX6_goOn 2 = .ok (.istore_n 2, 1) := by decide +kernel
theorem dX6_goOn_3 : decode cX6_goOn 3 = .ok (.iload_n 2, 1) := by decide +kernel
theorem dX6_goOn_4 : decode cX6_goOn 4 = .ok (.ifCond .lt 57, 3) := by decide +kernel
theorem dX6_goOn_7 : decode cX6_goOn 7 = .ok (.aload_n 0, 1) := by decide +kernel
theorem dX6_goOn_8 : decode cX6_goOn 8 = .ok (.getfield 13, 3) := by decide +kernel
theorem dX6_goOn_11 : decode cX6_goOn 11 = .ok (.iload_n 1, 1) := by decide +kernel
theorem dX6_goOn_12 : decode cX6_goOn 12 = .ok (.iaload, 1) := by decide +kernel
theorem dX6_goOn_13 : decode cX6_goOn 13 = .ok (.iload_n 2, 1) := by decide +kernel
theorem dX6_goOn_14 : decode cX6_goOn 14 = .ok (.ishr, 1) := by decide +kernel
theorem dX6_goOn_15 : decode cX6_goOn 15 = .ok (.iconst 1, 1) := by decide +kernel
theorem dX6_goOn_16 : decode cX6_goOn 16 = .ok (.iand, 1) := by decide +kernel
theorem dX6_goOn_17 : decode cX6_goOn 17 = .ok (.iconst 1, 1) := by decide +kernel
theorem dX6_goOn_18 : decode cX6_goOn 18 = .ok (.if_icmp .ne 37, 3) := by decide +kernel
theorem dX6_goOn_21 : decode cX6_goOn 21 = .ok (.aload_n 0, 1) := by decide +kernel
theorem dX6_goOn_22 : decode cX6_goOn 22 = .ok (.getfield 81, 3) := by decide +kernel
theorem dX6_goOn_25 : decode cX6_goOn 25 = .ok (.iload_n 2, 1) := by decide +kernel
theorem dX6_goOn_26 : decode cX6_goOn 26 = .ok (.dup2, 1) := by decide +kernel
theorem dX6_goOn_27 : decode cX6_goOn 27 = .ok (.iaload, 1) := by decide +kernel
theorem dX6_goOn_28 : decode cX6_goOn 28 = .ok (.iconst 1, 1) := by decide +kernel
theorem dX6_goOn_29 : decode cX6_goOn 29 = .ok (.iadd, 1) := by decide +kernel
theorem dX6_goOn_30 : decode cX6_goOn 30 = .ok (.iastore, 1) := by decide +kernel
theorem dX6_goOn_31 : decode cX6_goOn 31 = .ok (.aload_n 0, 1) := by decide +kernel
theorem dX6_goOn_32 : decode cX6_goOn 32 = .ok (.getfield 81, 3) := by decide +kernel
theorem dX6_goOn_35 : decode cX6_goOn 35 = .ok (.iload_n 2, 1) := by decide +kernel
theorem dX6_goOn_36 : decode cX6_goOn 36 = .ok (.iaload, 1) := by decide +kernel
theorem dX6_goOn_37 : decode cX6_goOn 37 = .ok (.aload_n 0, 1) := by decide +kernel
theorem dX6_goOn_38 : decode cX6_goOn 38 = .ok (.getfield 41, 3) := by decide +kernel
theorem dX6_goOn_41 : decode cX6_goOn 41 = .ok (.iload_n 2, 1) := by decide +kernel
theorem dX6_goOn_42 : decode cX6_goOn 42 = .ok (.iaload, 1) := by decide +kernel
theorem dX6_goOn_43 : decode cX6_goOn 43 = .ok (.if_icmp .ge 5, 3) := by decide +kernel
theorem dX6_goOn_46 : decode cX6_goOn 46 = .ok (.iconst 1, 1) := by decide +kernel
theorem dX6_goOn_47 : decode cX6_goOn 47 = .ok (.ireturn, 1) := by decide +kernel
theorem dX6_goOn_48 : decode cX6_goOn 48 = .ok (.aload_n 0, 1) := by decide +kernel
theorem dX6_goOn_49 : decode cX6_goOn 49 = .ok (.getfield 81, 3) := by decide +kernel
theorem dX6_goOn_52 : decode cX6_goOn 52 = .ok (.iload_n 2, 1) := by decide +kernel
theorem dX6_goOn_53 : decode cX6_goOn 53 = .ok (.iconst 0, 1) := by decide +kernel
theorem dX6_goOn_54 : decode cX6_goOn 54 = .ok (.iastore, 1) := by decide +kernel
theorem dX6_goOn_55 : decode cX6_goOn 55 = .ok (.iinc 2 (-1), 3) := by decide +kernel
theorem dX6_goOn_58 : decode cX6_goOn 58 = .ok (.goto (-55), 3) := by decide +kernel
theorem dX6_goOn_61 : decode cX6_goOn 61 = .ok (.iconst 0, 1) := by decide +kernel
theorem dX6_goOn_62 : decode cX6_goOn 62 = .ok (.ireturn, 1) := by decide +kernel
theorem dX6_matches_0 : decode cX6_matches 0 = .ok (.iconst 0, 1) := by decide +kernel
theorem dX6_matches_1 : decode cX6_matches 1 = .ok (.istore_n 2, 1) := by decide +kernel
theorem dX6_matches_2 : decode cX6_matches 2 = .ok (.iload_n 2, 1) := by decide +kernel
theorem dX6_matches_3 : decode cX6_matches 3 = .ok (.bipush 8, 2) := by decide +kernel
theorem dX6_matches_5 : decode cX6_matches 5 = .ok (.if_icmp .ge 16, 3) := by decide +kernel
theorem dX6_matches_8 : decode cX6_matches 8 = .ok (.aload_n 0, 1) := by decide +kernel
theorem dX6_matches_9 : decode cX6_matches 9 = .ok (.getfield 81, 3) := by decide +kernel
theorem dX6_matches_12 : decode cX6_matches 12 = .ok (.iload_n 2, 1) := by decide +kernel
theorem dX6_matches_13 : decode cX6_matches 13 = .ok (.iconst 0, 1) := by decide +kernel
theorem dX6_matches_14 : decode cX6_matches 14 = .ok (.iastore, 1) := by decide +kernel
theorem dX6_matches_15 : decode cX6_matches 15 = .ok (.iinc 2 1, 3) := by decide +kernel
theorem dX6_matches_18 : decode cX6_matches 18 = .ok (.goto (-16), 3) := by decide +kernel
theorem dX6_matches_21 : decode cX6_matches 21 = .ok (.aload_n 0, 1) := by decide +kernel
theorem dX6_matches_22 : decode cX6_matches 22 = .ok (.invokevirtual 220, 3) := by decide +kernel
theorem dX6_matches_25 : decode cX6_matches 25 = .ok (.iload_n 1, 1) := by decide +kernel
theorem dX6_matches_26 : decode cX6_matches 26 = .ok (.ishr, 1) := by decide +kernel
theorem dX6_matches_27 : decode cX6_matches 27 = .ok (.iconst 1, 1) := by decide +kernel
theorem dX6_matches_28 : decode cX6_matches 28 = .ok (.iand, 1) := by decide +kernel
theorem dX6_matches_29 : decode cX6_matches 29 = .ok (.ifCond .ne 5, 3) := by decide +kernel
theorem dX6_matches_32 : decode cX6_matches 32 = .ok (.iconst 0, 1) := by decide +kernel
theorem dX6_matches_33 : decode cX6_matches 33 = .ok (.ireturn, 1) := by decide +kernel
theorem dX6_matches_34 : decode cX6_matches 34 = .ok (.aload_n 0, 1) := by decide +kernel
theorem dX6_matches_35 : decode cX6_matches 35 = .ok (.iload_n 1, 1) := by decide +kernel
theorem dX6_matches_36 : decode cX6_matches 36 = .ok (.invokevirtual 227, 3) := by decide +kernel
theorem dX6_matches_39 : decode cX6_matches 39 = .ok (.istore_n 2, 1) := by decide +kernel
theorem dX6_matches_40 : decode cX6_matches 40 = .ok (.iconst 1, 1) := by decide +kernel
theorem dX6_matches_41 : decode cX6_matches 41 = .ok (.istore_n 3, 1) := by decide +kernel
theorem dX6_matches_42 : decode cX6_matches 42 = .ok (.iload_n 2, 1) := by decide +kernel
theorem dX6_matches_43 : decode cX6_matches 43 = .ok (.ifCond .ne 34, 3) := by decide +kernel
theorem dX6_matches_46 : decode cX6_matches 46 = .ok (.iload_n 3, 1) := by decide +kernel
theorem dX6_matches_47 : decode cX6_matches 47 = .ok (.ifCond .eq 30, 3) := by decide +kernel
theorem dX6_matches_50 : decode cX6_matches 50 = .ok (.aload_n 0, 1) := by decide +kernel
theorem dX6_matches_51 : decode cX6_matches 51 = .ok (.iload_n 1, 1) := by decide +kernel
theorem dX6_matches_52 : decode cX6_matches 52 = .ok (.invokevirtual 230, 3) := by decide +kernel
theorem dX6_matches_55 : decode cX6_matches 55 = .ok (.istore_n 3, 1) := by decide +kernel
theorem dX6_matches_56 : decode cX6_matches 56 = .ok (.iload_n 3, 1) := by decide +kernel
theorem dX6_matches_57 : decode cX6_matches 57 = .ok (.ifCond .eq 15, 3) := by decide +kernel
theorem dX6_matches_60 : decode cX6_matches 60 = .ok (.aload_n 0, 1) := by decide +kernel
theorem dX6_matches_61 : decode cX6_matches 61 = .ok (.iload_n 1, 1) := by decide +kernel
theorem dX6_matches_62 : decode cX6_matches 62 = .ok (.invokevirtual 227, 3) := by decide +kernel
theorem dX6_matches_65 : decode cX6_matches 65 = .ok (.ifCond .eq 7, 3) := by decide +kernel
theorem dX6_matches_68 : decode cX6_matches 68 = .ok (.iconst 1, 1) := by decide +kernel
theorem dX6_matches_69 : decode cX6_matches 69 = .ok (.goto 4, 3) := by decide +kernel
theorem dX6_matches_72 : decode cX6_matches 72 = .ok (.iconst 0, 1) := by decide +kernel
theorem dX6_matches_73 : decode cX6_matches 73 = .ok (.istore_n 2, 1) := by decide +kernel
theorem dX6_matches_74 : decode cX6_matches 74 = .ok (.goto (-32), 3) := by decide +kernel
theorem dX6_matches_77 : decode cX6_matches 77 = .ok (.iload_n 2, 1) := by decide +kernel
theorem dX6_matches_78 : decode cX6_matches 78 = .ok (.ireturn, 1) := by decide +kernel
theorem dX6_hasRoom_0 : decode cX6_hasRoom 0 = .ok (.iconst 1, 1) := by decide +kernel
theorem dX6_hasRoom_1 : decode cX6_hasRoom 1 = .ok (.istore_n 2, 1) := by decide +kernel
theorem dX6_hasRoom_2 : decode cX6_hasRoom 2 = .ok (.iconst 0, 1) := by decide +kernel
theorem dX6_hasRoom_3 : decode cX6_hasRoom 3 = .ok (.istore_n 3, 1) := by decide +kernel
theorem dX6_hasRoom_4 : decode cX6_hasRoom 4 = .ok (.iload_n 3, 1) := by decide +kernel
theorem dX6_hasRoom_5 : decode cX6_hasRoom 5 = .ok (.bipush 8, 2) := by decide +kernel
theorem dX6_hasRoom_7 : decode cX6_hasRoom 7 = .ok (.if_icmp .ge 90, 3) := by decide +kernel
theorem dX6_hasRoom_10 : decode cX6_hasRoom 10 = .ok (.aload_n 0, 1) := by decide +kernel
theorem dX6_hasRoom_11 : decode cX6_hasRoom 11 = .ok (.getfield 41, 3) := by decide +kernel
theorem dX6_hasRoom_14 : decode cX6_hasRoom 14 = .ok (.iload_n 3, 1) := by decide +kernel
theorem dX6_hasRoom_15 : decode cX6_hasRoom 15 = .ok (.iaload, 1) := by decide +kernel
theorem dX6_hasRoom_16 : decode cX6_hasRoom 16 = .ok (.aload_n 0, 1) := by decide +kernel
theorem dX6_hasRoom_17 : decode cX6_hasRoom 17 = .ok (.getfield 13, 3) := by decide +kernel
theorem dX6_hasRoom_20 : decode cX6_hasRoom 20 = .ok (.iload_n 1, 1) := by decide +kernel
theorem dX6_hasRoom_21 : decode cX6_hasRoom 21 = .ok (.iaload, 1) := by decide +kernel
theorem dX6_hasRoom_22 : decode cX6_hasRoom 22 = .ok (.iload_n 3, 1) := by decide +kernel
theorem dX6_hasRoom_23 : decode cX6_hasRoom 23 = .ok (.ishr, 1) := by decide +kernel
theorem dX6_hasRoom_24 : decode cX6_hasRoom 24 = .ok (.iconst 1, 1) := by decide +kernel
theorem dX6_hasRoom_25 : decode cX6_hasRoom 25 = .ok (.iand, 1) := by decide +kernel
theorem dX6_hasRoom_26 : decode cX6_hasRoom 26 = .ok (.isub, 1) := by decide +kernel
theorem dX6_hasRoom_27 : decode cX6_hasRoom 27 = .ok (.istore 4, 2) := by decide +kernel
theorem dX6_hasRoom_29 : decode cX6_hasRoom 29 = .ok (.iconst 0, 1) := by decide +kernel
theorem dX6_hasRoom_30 : decode cX6_hasRoom 30 = .ok (.istore 5, 2) := by decide +kernel
theorem dX6_hasRoom_32 : decode cX6_hasRoom 32 = .ok (.iload 5, 2) := by decide +kernel
theorem dX6_hasRoom_34 : decode cX6_hasRoom 34 = .ok (.aload_n 0, 1) := by decide +kernel
theorem dX6_hasRoom_35 : decode cX6_hasRoom 35 = .ok (.getfield 19, 3) := by decide +kernel
theorem dX6_hasRoom_38 : decode cX6_hasRoom 38 = .ok (.iload_n 1, 1) := by decide +kernel
theorem dX6_hasRoom_39 : decode cX6_hasRoom 39 = .ok (.iaload, 1) := by decide +kernel
theorem dX6_hasRoom_40 : decode cX6_hasRoom 40 = .ok (.if_icmp .ge 34, 3) := by decide +kernel
theorem dX6_hasRoom_43 : decode cX6_hasRoom 43 = .ok (.iload 4, 2) := by decide +kernel
theorem dX6_hasRoom_45 : decode cX6_hasRoom 45 = .ok (.aload_n 0, 1) := by decide +kernel
theorem dX6_hasRoom_46 : decode cX6_hasRoom 46 = .ok (.getfield 22, 3) := by decide +kernel
theorem dX6_hasRoom_49 : decode cX6_hasRoom 49 = .ok (.iconst 4, 1) := by decide +kernel
theorem dX6_hasRoom_50 : decode cX6_hasRoom 50 = .ok (.iload_n 1, 1) := by decide +kernel
theorem dX6_hasRoom_51 : decode cX6_hasRoom 51 = .ok (.imul, 1) := by decide +kernel
theorem dX6_hasRoom_52 : decode cX6_hasRoom 52 = .ok (.iload 5, 2) := by decide +kernel
theorem dX6_hasRoom_54 : decode cX6_hasRoom 54 = .ok (.iadd, 1) := by decide +kernel
theorem dX6_hasRoom_55 : decode cX6_hasRoom 55 = .ok (.iaload, 1) := by decide +kernel
theorem dX6_hasRoom_56 : decode cX6_hasRoom 56 = .ok (.iload_n 3, 1) := by decide +kernel
theorem dX6_hasRoom_57 : decode cX6_hasRoom 57 = .ok (.if_icmp .ne 7, 3) := by decide +kernel
theorem dX6_hasRoom_60 : decode cX6_hasRoom 60 = .ok (.iconst 1, 1) := by decide +kernel
theorem dX6_hasRoom_61 : decode cX6_hasRoom 61 = .ok (.goto 4, 3) := by decide +kernel
theorem dX6_hasRoom_64 : decode cX6_hasRoom 64 = .ok (.iconst 0, 1) := by decide +kernel
theorem dX6_hasRoom_65 : decode cX6_hasRoom 65 = .ok (.iadd, 1) := by decide +kernel
theorem dX6_hasRoom_66 : decode cX6_hasRoom 66 = .ok (.istore 4, 2) := by decide +kernel
theorem dX6_hasRoom_68 : decode cX6_hasRoom 68 = .ok (.iinc 5 1, 3) := by decide +kernel
theorem dX6_hasRoom_71 : decode cX6_hasRoom 71 = .ok (.goto (-39), 3) := by decide +kernel
theorem dX6_hasRoom_74 : decode cX6_hasRoom 74 = .ok (.iload_n 2, 1) := by decide +kernel
theorem dX6_hasRoom_75 : decode cX6_hasRoom 75 = .ok (.ifCond .eq 14, 3) := by decide +kernel
theorem dX6_hasRoom_78 : decode cX6_hasRoom 78 = .ok (.iload 4, 2) := by decide +kernel
theorem dX6_hasRoom_80 : decode cX6_hasRoom 80 = .ok (.bipush 8, 2) := by decide +kernel
theorem dX6_hasRoom_82 : decode cX6_hasRoom 82 = .ok (.if_icmp .gt 7, 3) := by decide +kernel
theorem dX6_hasRoom_85 : decode cX6_hasRoom 85 = .ok (.iconst 1, 1) := by decide +kernel
theorem dX6_hasRoom_86 : decode cX6_hasRoom 86 = .ok (.goto 4, 3) := by decide +kernel
theorem dX6_hasRoom_89 : decode cX6_hasRoom 89 = .ok (.iconst 0, 1) := by decide +kernel
theorem dX6_hasRoom_90 : decode cX6_hasRoom 90 = .ok (.istore_n 2, 1) := by decide +kernel
theorem dX6_hasRoom_91 : decode cX6_hasRoom 91 = .ok (.iinc 3 1, 3) := by decide +kernel
theorem dX6_hasRoom_94 : decode cX6_hasRoom 94 = .ok (.goto (-90), 3) := by decide +kernel
theorem dX6_hasRoom_97 : decode cX6_hasRoom 97 = .ok (.iload_n 2, 1) := by decide +kernel
theorem dX6_hasRoom_98 : decode cX6_hasRoom 98 = .ok (.ireturn, 1) := by decide +kernel
theorem dX6_isEnabled_0 : decode cX6_isEnabled 0 = .ok (.aload_n 0, 1) := by decide +kernel
theorem dX6_isEnabled_1 : decode cX6_isEnabled 1 = .ok (.iload_n 1, 1) := by decide +kernel
theorem dX6_isEnabled_2 : decode cX6_isEnabled 2 = .ok (.invokevirtual 233, 3) := by decide +kernel
theorem dX6_isEnabled_5 : decode cX6_isEnabled 5 = .ok (.ifCond .eq 15, 3) := by decide +kernel
theorem dX6_isEnabled_8 : decode cX6_isEnabled 8 = .ok (.aload_n 0, 1) := by decide +kernel
theorem dX6_isEnabled_9 : decode cX6_isEnabled 9 = .ok (.iload_n 1, 1) := by decide +kernel
theorem dX6_isEnabled_10 : decode cX6_isEnabled 10 = .ok (.invokevirtual 236, 3) := by decide +kernel
theorem dX6_isEnabled_13 : decode cX6_isEnabled 13 = .ok (.ifCond .eq 7, 3) := by decide +kernel
theorem dX6_isEnabled_16 : decode cX6_isEnabled 16 = .ok (.iconst 1, 1) := by decide +kernel
theorem dX6_isEnabled_17 : decode cX6_isEnabled 17 = .ok (.goto 4, 3) := by decide +kernel
theorem dX6_isEnabled_20 : decode cX6_isEnabled 20 = .ok (.iconst 0, 1) := by decide +kernel
theorem dX6_isEnabled_21 : decode cX6_isEnabled 21 = .ok (.ireturn, 1) := by decide +kernel
theorem dX6_enabledNow_0 : decode cX6_enabledNow 0 = .ok (.iconst 0, 1) := by decide +kernel
theorem dX6_enabledNow_1 : decode cX6_enabledNow 1 = .ok (.istore_n 1, 1) := by decide +kernel
theorem dX6_enabledNow_2 : decode cX6_enabledNow 2 = .ok (.iconst 0, 1) := by decide +kernel
theorem dX6_enabledNow_3 : decode cX6_enabledNow 3 = .ok (.istore_n 2, 1) := by decide +kernel
theorem dX6_enabledNow_4 : decode cX6_enabledNow 4 = .ok (.iload_n 2, 1) := by decide +kernel
theorem dX6_enabledNow_5 : decode cX6_enabledNow 5 = .ok (.aload_n 0, 1) := by decide +kernel
theorem dX6_enabledNow_6 : decode cX6_enabledNow 6 = .ok (.getfield 188, 3) := by decide +kernel
theorem dX6_enabledNow_9 : decode cX6_enabledNow 9 = .ok (.if_icmp .ge 27, 3) := by decide +kernel
theorem dX6_enabledNow_12 : decode cX6_enabledNow 12 = .ok (.iload_n 1, 1) := by decide +kernel
theorem dX6_enabledNow_13 : decode cX6_enabledNow 13 = .ok (.aload_n 0, 1) := by decide +kernel
theorem dX6_enabledNow_14 : decode cX6_enabledNow 14 = .ok (.iload_n 2, 1) := by decide +kernel
theorem dX6_enabledNow_15 : decode cX6_enabledNow 15 = .ok (.invokevirtual 239, 3) := by decide +kernel
theorem dX6_enabledNow_18 : decode cX6_enabledNow 18 = .ok (.ifCond .eq 9, 3) := by decide +kernel
theorem dX6_enabledNow_21 : decode cX6_enabledNow 21 = .ok (.iconst 1, 1) := by decide +kernel
theorem dX6_enabledNow_22 : decode cX6_enabledNow 22 = .ok (.iload_n 2, 1) := by decide +kernel
theorem dX6_enabledNow_23 : decode cX6_enabledNow 23 = .ok (.ishl, 1) := by decide +kernel
theorem dX6_enabledNow_24 : decode cX6_enabledNow 24 = .ok (.goto 4, 3) := by decide +kernel
theorem dX6_enabledNow_27 : decode cX6_enabledNow 27 = .ok (.iconst 0, 1) := by decide +kernel
theorem dX6_enabledNow_28 : decode cX6_enabledNow 28 = .ok (.ior, 1) := by decide +kernel
theorem dX6_enabledNow_29 : decode cX6_enabledNow 29 = .ok (.istore_n 1, 1) := by decide +kernel
theorem dX6_enabledNow_30 : decode cX6_enabledNow 30 = .ok (.iinc 2 1, 3) := by decide +kernel
theorem dX6_enabledNow_33 : decode cX6_enabledNow 33 = .ok (.goto (-29), 3) := by decide +kernel
theorem dX6_enabledNow_36 : decode cX6_enabledNow 36 = .ok (.iload_n 1, 1) := by decide +kernel
theorem dX6_enabledNow_37 : decode cX6_enabledNow 37 = .ok (.ireturn, 1) := by decide +kernel
theorem dX6_enabledRules_0 : decode cX6_enabledRules 0 = .ok (.aload_n 0, 1) := by decide +kernel
theorem dX6_enabledRules_1 : decode cX6_enabledRules 1 = .ok (.iconst 0, 1) := by decide +kernel
theorem dX6_enabledRules_2 : decode cX6_enabledRules 2 = .ok (.putfield 117, 3) := by decide +kernel
theorem dX6_enabledRules_5 : decode cX6_enabledRules 5 = .ok (.aload_n 0, 1) := by decide +kernel
theorem dX6_enabledRules_6 : decode cX6_enabledRules 6 = .ok (.invokevirtual 242, 3) := by decide +kernel
theorem dX6_enabledRules_9 : decode cX6_enabledRules 9 = .ok (.ireturn, 1) := by decide +kernel
theorem dX6_matchOf_0 : decode cX6_matchOf 0 = .ok (.aload_n 0, 1) := by decide +kernel
theorem dX6_matchOf_1 : decode cX6_matchOf 1 = .ok (.aload_n 0, 1) := by decide +kernel
theorem dX6_matchOf_2 : decode cX6_matchOf 2 = .ok (.iload_n 1, 1) := by decide +kernel
theorem dX6_matchOf_3 : decode cX6_matchOf 3 = .ok (.invokevirtual 194, 3) := by decide +kernel
theorem dX6_matchOf_6 : decode cX6_matchOf 6 = .ok (.ifCond .ne 7, 3) := by decide +kernel
theorem dX6_matchOf_9 : decode cX6_matchOf 9 = .ok (.iconst 1, 1) := by decide +kernel
theorem dX6_matchOf_10 : decode cX6_matchOf 10 = .ok (.goto 29, 3) := by decide +kernel
theorem dX6_matchOf_13 : decode cX6_matchOf 13 = .ok (.iload_n 2, 1) := by decide +kernel
theorem dX6_matchOf_14 : decode cX6_matchOf 14 = .ok (.invokestatic 207, 3) := by decide +kernel
theorem dX6_matchOf_17 : decode cX6_matchOf 17 = .ok (.ifCond .eq 21, 3) := by decide +kernel
theorem dX6_matchOf_20 : decode cX6_matchOf 20 = .ok (.aload_n 0, 1) := by decide +kernel
theorem dX6_matchOf_21 : decode cX6_matchOf 21 = .ok (.getfield 13, 3) := by decide +kernel
theorem dX6_matchOf_24 : decode cX6_matchOf 24 = .ok (.iload_n 1, 1) := by decide +kernel
theorem dX6_matchOf_25 : decode cX6_matchOf 25 = .ok (.iaload, 1) := by decide +kernel
theorem dX6_matchOf_26 : decode cX6_matchOf 26 = .ok (.iload_n 2, 1) := by decide +kernel
theorem dX6_matchOf_27 : decode cX6_matchOf 27 = .ok (.ishr, 1) := by decide +kernel
theorem dX6_matchOf_28 : decode cX6_matchOf 28 = .ok (.iconst 1, 1) := by decide +kernel
theorem dX6_matchOf_29 : decode cX6_matchOf 29 = .ok (.iand, 1) := by decide +kernel
theorem dX6_matchOf_30 : decode cX6_matchOf 30 = .ok (.iconst 1, 1) := by decide +kernel
theorem dX6_matchOf_31 : decode cX6_matchOf 31 = .ok (.if_icmp .ne 7, 3) := by decide +kernel
theorem dX6_matchOf_34 : decode cX6_matchOf 34 = .ok (.iconst 0, 1) := by decide +kernel
theorem dX6_matchOf_35 : decode cX6_matchOf 35 = .ok (.goto 4, 3) := by decide +kernel
theorem dX6_matchOf_38 : decode cX6_matchOf 38 = .ok (.iconst 2, 1) := by decide +kernel
theorem dX6_matchOf_39 : decode cX6_matchOf 39 = .ok (.putfield 117, 3) := by decide +kernel
theorem dX6_matchOf_42 : decode cX6_matchOf 42 = .ok (.aload_n 0, 1) := by decide +kernel
theorem dX6_matchOf_43 : decode cX6_matchOf 43 = .ok (.getfield 117, 3) := by decide +kernel
theorem dX6_matchOf_46 : decode cX6_matchOf 46 = .ok (.ifCond .le 5, 3) := by decide +kernel
theorem dX6_matchOf_49 : decode cX6_matchOf 49 = .ok (.iconst 0, 1) := by decide +kernel
theorem dX6_matchOf_50 : decode cX6_matchOf 50 = .ok (.ireturn, 1) := by decide +kernel
theorem dX6_matchOf_51 : decode cX6_matchOf 51 = .ok (.aload_n 0, 1) := by decide +kernel
theorem dX6_matchOf_52 : decode cX6_matchOf 52 = .ok (.iload_n 1, 1) := by decide +kernel
theorem dX6_matchOf_53 : decode cX6_matchOf 53 = .ok (.invokevirtual 233, 3) := by decide +kernel
theorem dX6_matchOf_56 : decode cX6_matchOf 56 = .ok (.ifCond .eq 12, 3) := by decide +kernel
theorem dX6_matchOf_59 : decode cX6_matchOf 59 = .ok (.aload_n 0, 1) := by decide +kernel
theorem dX6_matchOf_60 : decode cX6_matchOf 60 = .ok (.getfield 81, 3) := by decide +kernel
theorem dX6_matchOf_63 : decode cX6_matchOf 63 = .ok (.iload_n 2, 1) := by decide +kernel
theorem dX6_matchOf_64 : decode cX6_matchOf 64 = .ok (.iaload, 1) := by decide +kernel
theorem dX6_matchOf_65 : decode cX6_matchOf 65 = .ok (.goto 4, 3) := by decide +kernel
theorem dX6_matchOf_68 : decode cX6_matchOf 68 = .ok (.iconst (-1), 1) := by decide +kernel
theorem dX6_matchOf_69 : decode cX6_matchOf 69 = .ok (.ireturn, 1) := by decide +kernel
theorem dX6_nextNow_0 : decode cX6_nextNow 0 = .ok (.aload_n 0, 1) := by decide +kernel
theorem dX6_nextNow_1 : decode cX6_nextNow 1 = .ok (.invokevirtual 242, 3) := by decide +kernel
theorem dX6_nextNow_4 : decode cX6_nextNow 4 = .ok (.istore_n 1, 1) := by decide +kernel
theorem dX6_nextNow_5 : decode cX6_nextNow 5 = .ok (.iconst (-1), 1) := by decide +kernel
theorem dX6_nextNow_6 : decode cX6_nextNow 6 = .ok (.istore_n 2, 1) := by decide +kernel
theorem dX6_nextNow_7 : decode cX6_nextNow 7 = .ok (.iconst 0, 1) := by decide +kernel
theorem dX6_nextNow_8 : decode cX6_nextNow 8 = .ok (.istore_n 3, 1) := by decide +kernel
theorem dX6_nextNow_9 : decode cX6_nextNow 9 = .ok (.iload_n 3, 1) := by decide +kernel
theorem dX6_nextNow_10 : decode cX6_nextNow 10 = .ok (.aload_n 0, 1) := by decide +kernel
theorem dX6_nextNow_11 : decode cX6_nextNow 11 = .ok (.getfield 188, 3) := by decide +kernel
theorem dX6_nextNow_14 : decode cX6_nextNow 14 = .ok (.if_icmp .ge 94, 3) := by decide +kernel
theorem dX6_nextNow_17 : decode cX6_nextNow 17 = .ok (.aload_n 0, 1) := by decide +kernel
theorem dX6_nextNow_18 : decode cX6_nextNow 18 = .ok (.getfield 201, 3) := by decide +kernel
theorem dX6_nextNow_21 : decode cX6_nextNow 21 = .ok (.iconst 1, 1) := by decide +kernel
theorem dX6_nextNow_22 : decode cX6_nextNow 22 = .ok (.if_icmp .ne 19, 3) := by decide +kernel
theorem dX6_nextNow_25 : decode cX6_nextNow 25 = .ok (.aload_n 0, 1) := by decide +kernel
theorem dX6_nextNow_26 : decode cX6_nextNow 26 = .ok (.getfield 37, 3) := by decide +kernel
theorem dX6_nextNow_29 : decode cX6_nextNow 29 = .ok (.iconst 1, 1) := by decide +kernel
theorem dX6_nextNow_30 : decode cX6_nextNow 30 = .ok (.iadd, 1) := by decide +kernel
theorem dX6_nextNow_31 : decode cX6_nextNow 31 = .ok (.iload_n 3, 1) := by decide +kernel
theorem dX6_nextNow_32 : decode cX6_nextNow 32 = .ok (.iadd, 1) := by decide +kernel
theorem dX6_nextNow_33 : decode cX6_nextNow 33 = .ok (.aload_n 0, 1) := by decide +kernel
theorem dX6_nextNow_34 : decode cX6_nextNow 34 = .ok (.getfield 188, 3) := by decide +kernel
theorem dX6_nextNow_37 : decode cX6_nextNow 37 = .ok (.irem, 1) := by decide +kernel
theorem dX6_nextNow_38 : decode cX6_nextNow 38 = .ok (.goto 4, 3) := by decide +kernel
theorem dX6_nextNow_41 : decode cX6_nextNow 41 = .ok (.iload_n 3, 1) := by decide +kernel
theorem dX6_nextNow_42 : decode cX6_nextNow 42 = .ok (.istore 4, 2) := by decide +kernel
theorem dX6_nextNow_44 : decode cX6_nextNow 44 = .ok (.iload_n 1, 1) := by decide +kernel
theorem dX6_nextNow_45 : decode cX6_nextNow 45 = .ok (.iload 4, 2) := by decide +kernel
theorem dX6_nextNow_47 : decode cX6_nextNow 47 = .ok (.ishr, 1) := by decide +kernel
theorem dX6_nextNow_48 : decode cX6_nextNow 48 = .ok (.iconst 1, 1) := by decide +kernel
theorem dX6_nextNow_49 : decode cX6_nextNow 49 = .ok (.iand, 1) := by decide +kernel
theorem dX6_nextNow_50 : decode cX6_nextNow 50 = .ok (.iconst 1, 1) := by decide +kernel
theorem dX6_nextNow_51 : decode cX6_nextNow 51 = .ok (.if_icmp .ne 36, 3) := by decide +kernel
theorem dX6_nextNow_54 : decode cX6_nextNow 54 = .ok (.iload_n 2, 1) := by decide +kernel
theorem dX6_nextNow_55 : decode cX6_nextNow 55 = .ok (.iconst (-1), 1) := by decide +kernel
theorem dX6_nextNow_56 : decode cX6_nextNow 56 = .ok (.if_icmp .eq 27, 3) := by decide +kernel
theorem dX6_nextNow_59 : decode cX6_nextNow 59 = .ok (.aload_n 0, 1) := by decide +kernel
theorem dX6_nextNow_60 : decode cX6_nextNow 60 = .ok (.getfield 201, 3) := by decide +kernel
theorem dX6_nextNow_63 : decode cX6_nextNow 63 = .ok (.iconst 2, 1) := by decide +kernel
theorem dX6_nextNow_64 : decode cX6_nextNow 64 = .ok (.if_icmp .ne 23, 3) := by decide +kernel
theorem dX6_nextNow_67 : decode cX6_nextNow 67 = .ok (.aload_n 0, 1) := by decide +kernel
theorem dX6_nextNow_68 : decode cX6_nextNow 68 = .ok (.getfield 34, 3) := by decide +kernel
theorem dX6_nextNow_71 : decode cX6_nextNow 71 = .ok (.iload 4, 2) := by decide +kernel
theorem dX6_nextNow_73 : decode cX6_nextNow 73 = .ok (.iaload, 1) := by decide +kernel
theorem dX6_nextNow_74 : decode cX6_nextNow 74 = .ok (.aload_n 0, 1) := by decide +kernel
theorem dX6_nextNow_75 : decode cX6_nextNow 75 = .ok (.getfield 34, 3) := by decide +kernel
theorem dX6_nextNow_78 : decode cX6_nextNow 78 = .ok (.iload_n 2, 1) := by decide +kernel
theorem dX6_nextNow_79 : decode cX6_nextNow 79 = .ok (.iaload, 1) := by decide +kernel
theorem dX6_nextNow_80 : decode cX6_nextNow 80 = .ok (.if_icmp .ge 7, 3) := by decide +kernel
theorem dX6_nextNow_83 : decode cX6_nextNow 83 = .ok (.iconst 1, 1) := by decide +kernel
theorem dX6_nextNow_84 : decode cX6_nextNow 84 = .ok (.goto 4, 3) := by decide +kernel
theorem dX6_nextNow_87 : decode cX6_nextNow 87 = .ok (.iconst 0, 1) := by decide +kernel
theorem dX6_nextNow_88 : decode cX6_nextNow 88 = .ok (.istore 5, 2) := by decide +kernel
theorem dX6_nextNow_90 : decode cX6_nextNow 90 = .ok (.iload 5, 2) := by decide +kernel
theorem dX6_nextNow_92 : decode cX6_nextNow 92 = .ok (.ifCond .eq 8, 3) := by decide +kernel
theorem dX6_nextNow_95 : decode cX6_nextNow 95 = .ok (.iload 4, 2) := by decide +kernel
theorem dX6_nextNow_97 : decode cX6_nextNow 97 = .ok (.goto 4, 3) := by decide +kernel
theorem dX6_nextNow_100 : decode cX6_nextNow 100 = .ok (.iload_n 2, 1) := by decide +kernel
theorem dX6_nextNow_101 : decode cX6_nextNow 101 = .ok (.istore_n 2, 1) := by decide +kernel
theorem dX6_nextNow_102 : decode cX6_nextNow 102 = .ok (.iinc 3 1, 3) := by decide +kernel
theorem dX6_nextNow_105 : decode cX6_nextNow 105 = .ok (.goto (-96), 3) := by decide +kernel
theorem dX6_nextNow_108 : decode cX6_nextNow 108 = .ok (.iload_n 2, 1) := by decide +kernel
theorem dX6_nextNow_109 : decode cX6_nextNow 109 = .ok (.ireturn, 1) := by decide +kernel
theorem dX6_nextRule_0 : decode cX6_nextRule 0 = .ok (.aload_n 0, 1) := by decide +kernel
theorem dX6_nextRule_1 : decode cX6_nextRule 1 = .ok (.iconst 0, 1) := by decide +kernel
theorem dX6_nextRule_2 : decode cX6_nextRule 2 = .ok (.putfield 117, 3) := by decide +kernel
theorem dX6_nextRule_5 : decode cX6_nextRule 5 = .ok (.aload_n 0, 1) := by decide +kernel
theorem dX6_nextRule_6 : decode cX6_nextRule 6 = .ok (.invokevirtual 245, 3) := by decide +kernel
theorem dX6_nextRule_9 : decode cX6_nextRule 9 = .ok (.ireturn, 1) := by decide +kernel
theorem dX6_consume_0 : decode cX6_consume 0 = .ok (.bipush 8, 2) := by decide +kernel
theorem dX6_consume_2 : decode cX6_consume 2 = .ok (.iload_n 1, 1) := by decide +kernel
theorem dX6_consume_3 : decode cX6_consume 3 = .ok (.imul, 1) := by decide +kernel
theorem dX6_consume_4 : decode cX6_consume 4 = .ok (.aload_n 0, 1) := by decide +kernel
theorem dX6_consume_5 : decode cX6_consume 5 = .ok (.getfield 81, 3) := by decide +kernel
theorem dX6_consume_8 : decode cX6_consume 8 = .ok (.iload_n 1, 1) := by decide +kernel
theorem dX6_consume_9 : decode cX6_consume 9 = .ok (.iaload, 1) := by decide +kernel
theorem dX6_consume_10 : decode cX6_consume 10 = .ok (.iadd, 1) := by decide +kernel
theorem dX6_consume_11 : decode cX6_consume 11 = .ok (.istore_n 2, 1) := by decide +kernel
theorem dX6_consume_12 : decode cX6_consume 12 = .ok (.aload_n 0, 1) := by decide +kernel
theorem dX6_consume_13 : decode cX6_consume 13 = .ok (.getfield 84, 3) := by decide +kernel
theorem dX6_consume_16 : decode cX6_consume 16 = .ok (.iload_n 1, 1) := by decide +kernel
theorem dX6_consume_17 : decode cX6_consume 17 = .ok (.aload_n 0, 1) := by decide +kernel
theorem dX6_consume_18 : decode cX6_consume 18 = .ok (.getfield 44, 3) := by decide +kernel
theorem dX6_consume_21 : decode cX6_consume 21 = .ok (.iload_n 2, 1) := by decide +kernel
theorem dX6_consume_22 : decode cX6_consume 22 = .ok (.iaload, 1) := by decide +kernel
theorem dX6_consume_23 : decode cX6_consume 23 = .ok (.iastore, 1) := by decide +kernel
theorem dX6_consume_24 : decode cX6_consume 24 = .ok (.aload_n 0, 1) := by decide +kernel
theorem dX6_consume_25 : decode cX6_consume 25 = .ok (.getfield 87, 3) := by decide +kernel
theorem dX6_consume_28 : decode cX6_consume 28 = .ok (.iload_n 1, 1) := by decide +kernel
theorem dX6_consume_29 : decode cX6_consume 29 = .ok (.aload_n 0, 1) := by decide +kernel
theorem dX6_consume_30 : decode cX6_consume 30 = .ok (.getfield 50, 3) := by decide +kernel
theorem dX6_consume_33 : decode cX6_consume 33 = .ok (.iload_n 2, 1) := by decide +kernel
theorem dX6_consume_34 : decode cX6_consume 34 = .ok (.iaload, 1) := by decide +kernel
theorem dX6_consume_35 : decode cX6_consume 35 = .ok (.iastore, 1) := by decide +kernel
theorem dX6_consume_36 : decode cX6_consume 36 = .ok (.aload_n 0, 1) := by decide +kernel
theorem dX6_consume_37 : decode cX6_consume 37 = .ok (.getfield 59, 3) := by decide +kernel
theorem dX6_consume_40 : decode cX6_consume 40 = .ok (.iload_n 1, 1) := by decide +kernel
theorem dX6_consume_41 : decode cX6_consume 41 = .ok (.dup2, 1) := by decide +kernel
theorem dX6_consume_42 : decode cX6_consume 42 = .ok (.iaload, 1) := by decide +kernel
theorem dX6_consume_43 : decode cX6_consume 43 = .ok (.iconst 1, 1) := by decide +kernel
theorem dX6_consume_44 : decode cX6_consume 44 = .ok (.iadd, 1) := by decide +kernel
theorem dX6_consume_45 : decode cX6_consume 45 = .ok (.iastore, 1) := by decide +kernel
theorem dX6_consume_46 : decode cX6_consume 46 = .ok (.aload_n 0, 1) := by decide +kernel
theorem dX6_consume_47 : decode cX6_consume 47 = .ok (.getfield 62, 3) := by decide +kernel
theorem dX6_consume_50 : decode cX6_consume 50 = .ok (.iload_n 1, 1) := by decide +kernel
theorem dX6_consume_51 : decode cX6_consume 51 = .ok (.dup2, 1) := by decide +kernel
theorem dX6_consume_52 : decode cX6_consume 52 = .ok (.laload, 1) := by decide +kernel
theorem dX6_consume_53 : decode cX6_consume 53 = .ok (.aload_n 0, 1) := by decide +kernel
theorem dX6_consume_54 : decode cX6_consume 54 = .ok (.getfield 204, 3) := by decide +kernel
theorem dX6_consume_57 : decode cX6_consume 57 = .ok (.aload_n 0, 1) := by decide +kernel
theorem dX6_consume_58 : decode cX6_consume 58 = .ok (.getfield 47, 3) := by decide +kernel
theorem dX6_consume_61 : decode cX6_consume 61 = .ok (.iload_n 2, 1) := by decide +kernel
theorem dX6_consume_62 : decode cX6_consume 62 = .ok (.iaload, 1) := by decide +kernel
theorem dX6_consume_63 : decode cX6_consume 63 = .ok (.isub, 1) := by decide +kernel
theorem dX6_consume_64 : decode cX6_consume 64 = .ok (.i2l, 1) := by decide +kernel
theorem dX6_consume_65 : decode cX6_consume 65 = .ok (.ladd, 1) := by decide +kernel
theorem dX6_consume_66 : decode cX6_consume 66 = .ok (.lastore, 1) := by decide +kernel
theorem dX6_consume_67 : decode cX6_consume 67 = .ok (.aload_n 0, 1) := by decide +kernel
theorem dX6_consume_68 : decode cX6_consume 68 = .ok (.getfield 41, 3) := by decide +kernel
theorem dX6_consume_71 : decode cX6_consume 71 = .ok (.iload_n 1, 1) := by decide +kernel
theorem dX6_consume_72 : decode cX6_consume 72 = .ok (.dup2, 1) := by decide +kernel
theorem dX6_consume_73 : decode cX6_consume 73 = .ok (.iaload, 1) := by decide +kernel
theorem dX6_consume_74 : decode cX6_consume 74 = .ok (.iconst 1, 1) := by decide +kernel
theorem dX6_consume_75 : decode cX6_consume 75 = .ok (.isub, 1) := by decide +kernel
theorem dX6_consume_76 : decode cX6_consume 76 = .ok (.iastore, 1) := by decide +kernel
theorem dX6_consume_77 : decode cX6_consume 77 = .ok (.aload_n 0, 1) := by decide +kernel
theorem dX6_consume_78 : decode cX6_consume 78 = .ok (.getfield 81, 3) := by decide +kernel
theorem dX6_consume_81 : decode cX6_consume 81 = .ok (.iload_n 1, 1) := by decide +kernel
theorem dX6_consume_82 : decode cX6_consume 82 = .ok (.iaload, 1) := by decide +kernel
theorem dX6_consume_83 : decode cX6_consume 83 = .ok (.istore_n 3, 1) := by decide +kernel
theorem dX6_consume_84 : decode cX6_consume 84 = .ok (.iload_n 3, 1) := by decide +kernel
theorem dX6_consume_85 : decode cX6_consume 85 = .ok (.aload_n 0, 1) := by decide +kernel
theorem dX6_consume_86 : decode cX6_consume 86 = .ok (.getfield 41, 3) := by decide +kernel
theorem dX6_consume_89 : decode cX6_consume 89 = .ok (.iload_n 1, 1) := by decide +kernel
theorem dX6_consume_90 : decode cX6_consume 90 = .ok (.iaload, 1) := by decide +kernel
theorem dX6_consume_91 : decode cX6_consume 91 = .ok (.if_icmp .ge 65, 3) := by decide +kernel
theorem dX6_consume_94 : decode cX6_consume 94 = .ok (.bipush 8, 2) := by decide +kernel
theorem dX6_consume_96 : decode cX6_consume 96 = .ok (.iload_n 1, 1) := by decide +kernel
theorem dX6_consume_97 : decode cX6_consume 97 = .ok (.imul, 1) := by decide +kernel
theorem dX6_consume_98 : decode cX6_consume 98 = .ok (.iload_n 3, 1) := by decide +kernel
theorem dX6_consume_99 : decode cX6_consume 99 = .ok (.iadd, 1) := by decide +kernel
theorem dX6_consume_100 : decode cX6_consume 100 = .ok (.istore 4, 2) := by decide +kernel
theorem dX6_consume_102 : decode cX6_consume 102 = .ok (.aload_n 0, 1) := by decide +kernel
theorem dX6_consume_103 : decode cX6_consume 103 = .ok (.getfield 44, 3) := by decide +kernel
theorem dX6_consume_106 : decode cX6_consume 106 = .ok (.iload 4, 2) := by decide +kernel
theorem dX6_consume_108 : decode cX6_consume 108 = .ok (.aload_n 0, 1) := by decide +kernel
theorem dX6_consume_109 : decode cX6_consume 109 = .ok (.getfield 44, 3) := by decide +kernel
theorem dX6_consume_112 : decode cX6_consume 112 = .ok (.iload 4, 2) := by decide +kernel
theorem dX6_consume_114 : decode cX6_consume 114 = .ok (.iconst 1, 1) := by decide +kernel
theorem dX6_consume_115 : decode cX6_consume 115 = .ok (.iadd, 1) := by decide +kernel
theorem dX6_consume_116 : decode cX6_consume 116 = .ok (.iaload, 1) := by decide +kernel
theorem dX6_consume_117 : decode cX6_consume 117 = .ok (.iastore, 1) := by decide +kernel
theorem dX6_consume_118 : decode cX6_consume 118 = .ok (.aload_n 0, 1) := by decide +kernel
theorem dX6_consume_119 : decode cX6_consume 119 = .ok (.getfield 47, 3) := by decide +kernel
theorem dX6_consume_122 : decode cX6_consume 122 = .ok (.iload 4, 2) := by decide +kernel
theorem dX6_consume_124 : decode cX6_consume 124 = .ok (.aload_n 0, 1) := by decide +kernel
theorem dX6_consume_125 : decode cX6_consume 125 = .ok (.getfield 47, 3) := by decide +kernel
theorem dX6_consume_128 : decode cX6_consume 128 = .ok (.iload 4, 2) := by decide +kernel
theorem dX6_consume_130 : decode cX6_consume 130 = .ok (.iconst 1, 1) := by decide +kernel
theorem dX6_consume_131 : decode cX6_consume 131 = .ok (.iadd, 1) := by decide +kernel
theorem dX6_consume_132 : decode cX6_consume 132 = .ok (.iaload, 1) := by decide +kernel
theorem dX6_consume_133 : decode cX6_consume 133 = .ok (.iastore, 1) := by decide +kernel
theorem dX6_consume_134 : decode cX6_consume 134 = .ok (.aload_n 0, 1) := by decide +kernel
theorem dX6_consume_135 : decode cX6_consume 135 = .ok (.getfield 50, 3) := by decide +kernel
theorem dX6_consume_138 : decode cX6_consume 138 = .ok (.iload 4, 2) := by decide +kernel
theorem dX6_consume_140 : decode cX6_consume 140 = .ok (.aload_n 0, 1) := by decide +kernel
theorem dX6_consume_141 : decode cX6_consume 141 = .ok (.getfield 50, 3) := by decide +kernel
theorem dX6_consume_144 : decode cX6_consume 144 = .ok (.iload 4, 2) := by decide +kernel
theorem dX6_consume_146 : decode cX6_consume 146 = .ok (.iconst 1, 1) := by decide +kernel
theorem dX6_consume_147 : decode cX6_consume 147 = .ok (.iadd, 1) := by decide +kernel
theorem dX6_consume_148 : decode cX6_consume 148 = .ok (.iaload, 1) := by decide +kernel
theorem dX6_consume_149 : decode cX6_consume 149 = .ok (.iastore, 1) := by decide +kernel
theorem dX6_consume_150 : decode cX6_consume 150 = .ok (.iinc 3 1, 3) := by decide +kernel
theorem dX6_consume_153 : decode cX6_consume 153 = .ok (.goto (-69), 3) := by decide +kernel
theorem dX6_consume_156 : decode cX6_consume 156 = .ok (.return_, 1) := by decide +kernel
theorem dX6_computed_0 : decode cX6_computed 0 = .ok (.iconst 3, 1) := by decide +kernel
theorem dX6_computed_1 : decode cX6_computed 1 = .ok (.iconst 4, 1) := by decide +kernel
theorem dX6_computed_2 : decode cX6_computed 2 = .ok (.iload_n 1, 1) := by decide +kernel
theorem dX6_computed_3 : decode cX6_computed 3 = .ok (.imul, 1) := by decide +kernel
theorem dX6_computed_4 : decode cX6_computed 4 = .ok (.iload_n 2, 1) := by decide +kernel
theorem dX6_computed_5 : decode cX6_computed 5 = .ok (.iadd, 1) := by decide +kernel
theorem dX6_computed_6 : decode cX6_computed 6 = .ok (.imul, 1) := by decide +kernel
theorem dX6_computed_7 : decode cX6_computed 7 = .ok (.istore_n 3, 1) := by decide +kernel
theorem dX6_computed_8 : decode cX6_computed 8 = .ok (.lconst 0, 1) := by decide +kernel
theorem dX6_computed_9 : decode cX6_computed 9 = .ok (.lstore 4, 2) := by decide +kernel
theorem dX6_computed_11 : decode cX6_computed 11 = .ok (.iconst 0, 1) := by decide +kernel
theorem dX6_computed_12 : decode cX6_computed 12 = .ok (.istore 6, 2) := by decide +kernel
theorem dX6_computed_14 : decode cX6_computed 14 = .ok (.iload 6, 2) := by decide +kernel
theorem dX6_computed_16 : decode cX6_computed 16 = .ok (.aload_n 0, 1) := by decide +kernel
theorem dX6_computed_17 : decode cX6_computed 17 = .ok (.getfield 25, 3) := by decide +kernel
theorem dX6_computed_20 : decode cX6_computed 20 = .ok (.iconst 4, 1) := by decide +kernel
theorem dX6_computed_21 : decode cX6_computed 21 = .ok (.iload_n 1, 1) := by decide +kernel
theorem dX6_computed_22 : decode cX6_computed 22 = .ok (.imul, 1) := by decide +kernel
theorem dX6_computed_23 : decode cX6_computed 23 = .ok (.iload_n 2, 1) := by decide +kernel
theorem dX6_computed_24 : decode cX6_computed 24 = .ok (.iadd, 1) := by decide +kernel
theorem dX6_computed_25 : decode cX6_computed 25 = .ok (.iaload, 1) := by decide +kernel
theorem dX6_computed_26 : decode cX6_computed 26 = .ok (.if_icmp .ge 104, 3) := by decide +kernel
theorem dX6_computed_29 : decode cX6_computed 29 = .ok (.aload_n 0, 1) := by decide +kernel
theorem dX6_computed_30 : decode cX6_computed 30 = .ok (.getfield 28, 3) := by decide +kernel
theorem dX6_computed_33 : decode cX6_computed 33 = .ok (.iload_n 3, 1) := by decide +kernel
theorem dX6_computed_34 : decode cX6_computed 34 = .ok (.iload 6, 2) := by decide +kernel
theorem dX6_computed_36 : decode cX6_computed 36 = .ok (.iadd, 1) := by decide +kernel
theorem dX6_computed_37 : decode cX6_computed 37 = .ok (.iaload, 1) := by decide +kernel
theorem dX6_computed_38 : decode cX6_computed 38 = .ok (.istore 7, 2) := by decide +kernel
theorem dX6_computed_40 : decode cX6_computed 40 = .ok (.iload 7, 2) := by decide +kernel
theorem dX6_computed_42 : decode cX6_computed 42 = .ok (.bipush 8, 2) := by decide +kernel
theorem dX6_computed_44 : decode cX6_computed 44 = .ok (.if_icmp .ge 14, 3) := by decide +kernel
theorem dX6_computed_47 : decode cX6_computed 47 = .ok (.aload_n 0, 1) := by decide +kernel
theorem dX6_computed_48 : decode cX6_computed 48 = .ok (.getfield 84, 3) := by decide +kernel
theorem dX6_computed_51 : decode cX6_computed 51 = .ok (.iload 7, 2) := by decide +kernel
theorem dX6_computed_53 : decode cX6_computed 53 = .ok (.iaload, 1) := by decide +kernel
theorem dX6_computed_54 : decode cX6_computed 54 = .ok (.i2l, 1) := by decide +kernel
theorem dX6_computed_55 : decode cX6_computed 55 = .ok (.goto 9, 3) := by decide +kernel
theorem dX6_computed_58 : decode cX6_computed 58 = .ok (.iload 7, 2) := by decide +kernel
theorem dX6_computed_60 : decode cX6_computed 60 = .ok (.bipush 8, 2) := by decide +kernel
theorem dX6_computed_62 : decode cX6_computed 62 = .ok (.isub, 1) := by decide +kernel
theorem dX6_computed_63 : decode cX6_computed 63 = .ok (.i2l, 1) := by decide +kernel
theorem dX6_computed_64 : decode cX6_computed 64 = .ok (.lstore 8, 2) := by decide +kernel
theorem dX6_computed_66 : decode cX6_computed 66 = .ok (.aload_n 0, 1) := by decide +kernel
theorem dX6_computed_67 : decode cX6_computed 67 = .ok (.getfield 31, 3) := by decide +kernel
theorem dX6_computed_70 : decode cX6_computed 70 = .ok (.iload_n 3, 1) := by decide +kernel
theorem dX6_computed_71 : decode cX6_computed 71 = .ok (.iload 6, 2) := by decide +kernel
theorem dX6_computed_73 : decode cX6_computed 73 = .ok (.iadd, 1) := by decide +kernel
theorem dX6_computed_74 : decode cX6_computed 74 = .ok (.iaload, 1) := by decide +kernel
theorem dX6_computed_75 : decode cX6_computed 75 = .ok (.istore 10, 2) := by decide +kernel
theorem dX6_computed_77 : decode cX6_computed 77 = .ok (.iload 6, 2) := by decide +kernel
theorem dX6_computed_79 : decode cX6_computed 79 = .ok (.ifCond .ne 8, 3) := by decide +kernel
theorem dX6_computed_82 : decode cX6_computed 82 = .ok (.lload 8, 2) := by decide +kernel
theorem dX6_computed_84 : decode cX6_computed 84 = .ok (.goto 38, 3) := by decide +kernel
theorem dX6_computed_87 : decode cX6_computed 87 = .ok (.iload 10, 2) := by decide +kernel
theorem dX6_computed_89 : decode cX6_computed 89 = .ok (.bipush 43, 2) := by decide +kernel
theorem dX6_computed_91 : decode cX6_computed 91 = .ok (.if_icmp .ne 11, 3) := by decide +kernel
theorem dX6_computed_94 : decode cX6_computed 94 = .ok (.lload 4, 2) := by decide +kernel
theorem dX6_computed_96 : decode cX6_computed 96 = .ok (.lload 8, 2) := by decide +kernel
theorem dX6_computed_98 : decode cX6_computed 98 = .ok (.ladd, 1) := by decide +kernel
theorem dX6_computed_99 : decode cX6_computed 99 = .ok (.goto 23, 3) := by decide +kernel
theorem dX6_computed_102 : decode cX6_computed 102 = .ok (.iload 10, 2) := by decide +kernel
theorem dX6_computed_104 : decode cX6_computed 104 = .ok (.bipush 45, 2) := by decide +kernel
theorem dX6_computed_106 : decode cX6_computed 106 = .ok (.if_icmp .ne 11, 3) := by decide +kernel
theorem dX6_computed_109 : decode cX6_computed 109 = .ok (.lload 4, 2) := by decide +kernel
theorem dX6_computed_111 : decode cX6_computed 111 = .ok (.lload 8, 2) := by decide +kernel
theorem dX6_computed_113 : decode cX6_computed 113 = .ok (.lsub, 1) := by decide +kernel
theorem dX6_computed_114 : decode cX6_computed 114 = .ok (.goto 8, 3) := by decide +kernel
theorem dX6_computed_117 : decode cX6_computed 117 = .ok (.lload 4, 2) := by decide +kernel
theorem dX6_computed_119 : decode cX6_computed 119 = .ok (.lload 8, 2) := by decide +kernel
theorem dX6_computed_121 : decode cX6_computed 121 = .ok (.lmul, 1) := by decide +kernel
theorem dX6_computed_122 : decode cX6_computed 122 = .ok (.lstore 4, 2) := by decide +kernel
theorem dX6_computed_124 : decode cX6_computed 124 = .ok (.iinc 6 1, 3) := by decide +kernel
theorem dX6_computed_127 : decode cX6_computed 127 = .ok (.goto (-113), 3) := by decide +kernel
theorem dX6_computed_130 : decode cX6_computed 130 = .ok (.lload 4, 2) := by decide +kernel
theorem dX6_computed_132 : decode cX6_computed 132 = .ok (.ldc2_w 248, 3) := by decide +kernel
theorem dX6_computed_135 : decode cX6_computed 135 = .ok (.lcmp, 1) := by decide +kernel
theorem dX6_computed_136 : decode cX6_computed 136 = .ok (.ifCond .le 9, 3) := by decide +kernel
theorem dX6_computed_139 : decode cX6_computed 139 = .ok (.ldc2_w 248, 3) := by decide +kernel
theorem dX6_computed_142 : decode cX6_computed 142 = .ok (.goto 20, 3) := by decide +kernel
theorem dX6_computed_145 : decode cX6_computed 145 = .ok (.lload 4, 2) := by decide +kernel
theorem dX6_computed_147 : decode cX6_computed 147 = .ok (.ldc2_w 250, 3) := by decide +kernel
theorem dX6_computed_150 : decode cX6_computed 150 = .ok (.lcmp, 1) := by decide +kernel
theorem dX6_computed_151 : decode cX6_computed 151 = .ok (.ifCond .ge 9, 3) := by decide +kernel
theorem dX6_computed_154 : decode cX6_computed 154 = .ok (.ldc2_w 250, 3) := by decide +kernel
theorem dX6_computed_157 : decode cX6_computed 157 = .ok (.goto 5, 3) := by decide +kernel
theorem dX6_computed_160 : decode cX6_computed 160 = .ok (.lload 4, 2) := by decide +kernel
theorem dX6_computed_162 : decode cX6_computed 162 = .ok (.l2i, 1) := by decide +kernel
theorem dX6_computed_163 : decode cX6_computed 163 = .ok (.ireturn, 1) := by decide +kernel
theorem dX6_isKnown_0 : decode cX6_isKnown 0 = .ok (.iload_n 1, 1) := by decide +kernel
theorem dX6_isKnown_1 : decode cX6_isKnown 1 = .ok (.ifCond .lt 26, 3) := by decide +kernel
theorem dX6_isKnown_4 : decode cX6_isKnown 4 = .ok (.iload_n 1, 1) := by decide +kernel
theorem dX6_isKnown_5 : decode cX6_isKnown 5 = .ok (.aload_n 0, 1) := by decide +kernel
theorem dX6_isKnown_6 : decode cX6_isKnown 6 = .ok (.getfield 210, 3) := by decide +kernel
theorem dX6_isKnown_9 : decode cX6_isKnown 9 = .ok (.if_icmp .ge 18, 3) := by decide +kernel
theorem dX6_isKnown_12 : decode cX6_isKnown 12 = .ok (.iload_n 1, 1) := by decide +kernel
theorem dX6_isKnown_13 : decode cX6_isKnown 13 = .ok (.aload_n 0, 1) := by decide +kernel
theorem dX6_isKnown_14 : decode cX6_isKnown 14 = .ok (.getfield 210, 3) := by decide +kernel
theorem dX6_isKnown_17 : decode cX6_isKnown 17 = .ok (.bipush 24, 2) := by decide +kernel
theorem dX6_isKnown_19 : decode cX6_isKnown 19 = .ok (.isub, 1) := by decide +kernel
theorem dX6_isKnown_20 : decode cX6_isKnown 20 = .ok (.if_icmp .lt 7, 3) := by decide +kernel
theorem dX6_isKnown_23 : decode cX6_isKnown 23 = .ok (.iconst 1, 1) := by decide +kernel
theorem dX6_isKnown_24 : decode cX6_isKnown 24 = .ok (.goto 4, 3) := by decide +kernel
theorem dX6_isKnown_27 : decode cX6_isKnown 27 = .ok (.iconst 0, 1) := by decide +kernel
theorem dX6_isKnown_28 : decode cX6_isKnown 28 = .ok (.ireturn, 1) := by decide +kernel
theorem dX6_settle_0 : decode cX6_settle 0 = .ok (.aload_n 0, 1) := by decide +kernel
theorem dX6_settle_1 : decode cX6_settle 1 = .ok (.iload_n 1, 1) := by decide +kernel
theorem dX6_settle_2 : decode cX6_settle 2 = .ok (.invokevirtual 252, 3) := by decide +kernel
theorem dX6_settle_5 : decode cX6_settle 5 = .ok (.ifCond .eq 23, 3) := by decide +kernel
theorem dX6_settle_8 : decode cX6_settle 8 = .ok (.aload_n 0, 1) := by decide +kernel
theorem dX6_settle_9 : decode cX6_settle 9 = .ok (.getfield 53, 3) := by decide +kernel
theorem dX6_settle_12 : decode cX6_settle 12 = .ok (.iload_n 1, 1) := by decide +kernel
theorem dX6_settle_13 : decode cX6_settle 13 = .ok (.bipush 24, 2) := by decide +kernel
theorem dX6_settle_15 : decode cX6_settle 15 = .ok (.irem, 1) := by decide +kernel
theorem dX6_settle_16 : decode cX6_settle 16 = .ok (.iload_n 2, 1) := by decide +kernel
theorem dX6_settle_17 : decode cX6_settle 17 = .ok (.iastore, 1) := by decide +kernel
theorem dX6_settle_18 : decode cX6_settle 18 = .ok (.aload_n 0, 1) := by decide +kernel
theorem dX6_settle_19 : decode cX6_settle 19 = .ok (.getfield 56, 3) := by decide +kernel
theorem dX6_settle_22 : decode cX6_settle 22 = .ok (.iload_n 1, 1) := by decide +kernel
theorem dX6_settle_23 : decode cX6_settle 23 = .ok (.bipush 24, 2) := by decide +kernel
theorem dX6_settle_25 : decode cX6_settle 25 = .ok (.irem, 1) := by decide +kernel
theorem dX6_settle_26 : decode cX6_settle 26 = .ok (.iload_n 3, 1) := by decide +kernel
theorem dX6_settle_27 : decode cX6_settle 27 = .ok (.iastore, 1) := by decide +kernel
theorem dX6_settle_28 : decode cX6_settle 28 = .ok (.return_, 1) := by decide +kernel
theorem dX6_fireNow_0 : decode cX6_fireNow 0 = .ok (.aload_n 0, 1) := by decide +kernel
theorem dX6_fireNow_1 : decode cX6_fireNow 1 = .ok (.iload_n 1, 1) := by decide +kernel
theorem dX6_fireNow_2 : decode cX6_fireNow 2 = .ok (.invokevirtual 233, 3) := by decide +kernel
theorem dX6_fireNow_5 : decode cX6_fireNow 5 = .ok (.istore_n 2, 1) := by decide +kernel
theorem dX6_fireNow_6 : decode cX6_fireNow 6 = .ok (.aload_n 0, 1) := by decide +kernel
theorem dX6_fireNow_7 : decode cX6_fireNow 7 = .ok (.dup, 1) := by decide +kernel
theorem dX6_fireNow_8 : decode cX6_fireNow 8 = .ok (.getfield 204, 3) := by decide +kernel
theorem dX6_fireNow_11 : decode cX6_fireNow 11 = .ok (.iconst 1, 1) := by decide +kernel
theorem dX6_fireNow_12 : decode cX6_fireNow 12 = .ok (.iadd, 1) := by decide +kernel
theorem dX6_fireNow_13 : decode cX6_fireNow 13 = .ok (.putfield 204, 3) := by decide +kernel
theorem dX6_fireNow_16 : decode cX6_fireNow 16 = .ok (.iconst 0, 1) := by decide +kernel
theorem dX6_fireNow_17 : decode cX6_fireNow 17 = .ok (.istore_n 3, 1) := by decide +kernel
theorem dX6_fireNow_18 : decode cX6_fireNow 18 = .ok (.iload_n 3, 1) := by decide +kernel
theorem dX6_fireNow_19 : decode cX6_fireNow 19 = .ok (.bipush 8, 2) := by decide +kernel
theorem dX6_fireNow_21 : decode cX6_fireNow 21 = .ok (.if_icmp .ge 44, 3) := by decide +kernel
theorem dX6_fireNow_24 : decode cX6_fireNow 24 = .ok (.iload_n 2, 1) := by decide +kernel
theorem dX6_fireNow_25 : decode cX6_fireNow 25 = .ok (.ifCond .eq 40, 3) := by decide +kernel
theorem dX6_fireNow_28 : decode cX6_fireNow 28 = .ok (.aload_n 0, 1) := by decide +kernel
theorem dX6_fireNow_29 : decode cX6_fireNow 29 = .ok (.getfield 13, 3) := by decide +kernel
theorem dX6_fireNow_32 : decode cX6_fireNow 32 = .ok (.iload_n 1, 1) := by decide +kernel
theorem dX6_fireNow_33 : decode cX6_fireNow 33 = .ok (.iaload, 1) := by decide +kernel
theorem dX6_fireNow_34 : decode cX6_fireNow 34 = .ok (.iload_n 3, 1) := by decide +kernel
theorem dX6_fireNow_35 : decode cX6_fireNow 35 = .ok (.ishr, 1) := by decide +kernel
theorem dX6_fireNow_36 : decode cX6_fireNow 36 = .ok (.iconst 1, 1) := by decide +kernel
theorem dX6_fireNow_37 : decode cX6_fireNow 37 = .ok (.iand, 1) := by decide +kernel
theorem dX6_fireNow_38 : decode cX6_fireNow 38 = .ok (.iconst 1, 1) := by decide +kernel
theorem dX6_fireNow_39 : decode cX6_fireNow 39 = .ok (.if_icmp .ne 20, 3) := by decide +kernel
theorem dX6_fireNow_42 : decode cX6_fireNow 42 = .ok (.aload_n 0, 1) := by decide +kernel
theorem dX6_fireNow_43 : decode cX6_fireNow 43 = .ok (.iload_n 3, 1) := by decide +kernel
theorem dX6_fireNow_44 : decode cX6_fireNow 44 = .ok (.invokevirtual 255, 3) := by decide +kernel
theorem dX6_fireNow_47 : decode cX6_fireNow 47 = .ok (.aload_n 0, 1) := by decide +kernel
theorem dX6_fireNow_48 : decode cX6_fireNow 48 = .ok (.aload_n 0, 1) := by decide +kernel
theorem dX6_fireNow_49 : decode cX6_fireNow 49 = .ok (.getfield 87, 3) := by decide +kernel
theorem dX6_fireNow_52 : decode cX6_fireNow 52 = .ok (.iload_n 3, 1) := by decide +kernel
theorem dX6_fireNow_53 : decode cX6_fireNow 53 = .ok (.iaload, 1) := by decide +kernel
theorem dX6_fireNow_54 : decode cX6_fireNow 54 = .ok (.iconst 2, 1) := by decide +kernel
theorem dX6_fireNow_55 : decode cX6_fireNow 55 = .ok (.iconst 0, 1) := by decide +kernel
theorem dX6_fireNow_56 : decode cX6_fireNow 56 = .ok (.invokevirtual 259, 3) := by decide +kernel
theorem dX6_fireNow_59 : decode cX6_fireNow 59 = .ok (.iinc 3 1, 3) := by decide +kernel
theorem dX6_fireNow_62 : decode cX6_fireNow 62 = .ok (.goto (-44), 3) := by decide +kernel
theorem dX6_fireNow_65 : decode cX6_fireNow 65 = .ok (.iconst 0, 1) := by decide +kernel
theorem dX6_fireNow_66 : decode cX6_fireNow 66 = .ok (.istore_n 3, 1) := by decide +kernel
theorem dX6_fireNow_67 : decode cX6_fireNow 67 = .ok (.iload_n 3, 1) := by decide +kernel
theorem dX6_fireNow_68 : decode cX6_fireNow 68 = .ok (.aload_n 0, 1) := by decide +kernel
theorem dX6_fireNow_69 : decode cX6_fireNow 69 = .ok (.getfield 19, 3) := by decide +kernel
theorem dX6_fireNow_72 : decode cX6_fireNow 72 = .ok (.iload_n 1, 1) := by decide +kernel
theorem dX6_fireNow_73 : decode cX6_fireNow 73 = .ok (.iaload, 1) := by decide +kernel
theorem dX6_fireNow_74 : decode cX6_fireNow 74 = .ok (.if_icmp .ge 65, 3) := by decide +kernel
theorem dX6_fireNow_77 : decode cX6_fireNow 77 = .ok (.aload_n 0, 1) := by decide +kernel
theorem dX6_fireNow_78 : decode cX6_fireNow 78 = .ok (.getfield 22, 3) := by decide +kernel
theorem dX6_fireNow_81 : decode cX6_fireNow 81 = .ok (.iconst 4, 1) := by decide +kernel
theorem dX6_fireNow_82 : decode cX6_fireNow 82 = .ok (.iload_n 1, 1) := by decide +kernel
theorem dX6_fireNow_83 : decode cX6_fireNow 83 = .ok (.imul, 1) := by decide +kernel
theorem dX6_fireNow_84 : decode cX6_fireNow 84 = .ok (.iload_n 3, 1) := by decide +kernel
theorem dX6_fireNow_85 : decode cX6_fireNow 85 = .ok (.iadd, 1) := by decide +kernel
theorem dX6_fireNow_86 : decode cX6_fireNow 86 = .ok (.iaload, 1) := by decide +kernel
theorem dX6_fireNow_87 : decode cX6_fireNow 87 = .ok (.istore 4, 2) := by decide +kernel
theorem dX6_fireNow_89 : decode cX6_fireNow 89 = .ok (.aload_n 0, 1) := by decide +kernel
theorem dX6_fireNow_90 : decode cX6_fireNow 90 = .ok (.iload_n 1, 1) := by decide +kernel
theorem dX6_fireNow_91 : decode cX6_fireNow 91 = .ok (.iload_n 3, 1) := by decide +kernel
theorem dX6_fireNow_92 : decode cX6_fireNow 92 = .ok (.invokevirtual 262, 3) := by decide +kernel
theorem dX6_fireNow_95 : decode cX6_fireNow 95 = .ok (.istore 5, 2) := by decide +kernel
theorem dX6_fireNow_97 : decode cX6_fireNow 97 = .ok (.iload 4, 2) := by decide +kernel
theorem dX6_fireNow_99 : decode cX6_fireNow 99 = .ok (.bipush 8, 2) := by decide +kernel
theorem dX6_fireNow_101 : decode cX6_fireNow 101 = .ok (.if_icmp .ge 15, 3) := by decide +kernel
theorem dX6_fireNow_104 : decode cX6_fireNow 104 = .ok (.aload_n 0, 1) := by decide +kernel
theorem dX6_fireNow_105 : decode cX6_fireNow 105 = .ok (.iload 4, 2) := by decide +kernel
theorem dX6_fireNow_107 : decode cX6_fireNow 107 = .ok (.iload 5, 2) := by decide +kernel
theorem dX6_fireNow_109 : decode cX6_fireNow 109 = .ok (.iconst (-1), 1) := by decide +kernel
theorem dX6_fireNow_110 : decode cX6_fireNow 110 = .ok (.invokevirtual 213, 3) := by decide +kernel
theorem dX6_fireNow_113 : decode cX6_fireNow 113 = .ok (.goto 20, 3) := by decide +kernel
theorem dX6_fireNow_116 : decode cX6_fireNow 116 = .ok (.aload_n 0, 1) := by decide +kernel
theorem dX6_fireNow_117 : decode cX6_fireNow 117 = .ok (.aload_n 0, 1) := by decide +kernel
theorem dX6_fireNow_118 : decode cX6_fireNow 118 = .ok (.getfield 87, 3) := by decide +kernel
theorem dX6_fireNow_121 : decode cX6_fireNow 121 = .ok (.iload 4, 2) := by decide +kernel
theorem dX6_fireNow_123 : decode cX6_fireNow 123 = .ok (.bipush 8, 2) := by decide +kernel
theorem dX6_fireNow_125 : decode cX6_fireNow 125 = .ok (.isub, 1) := by decide +kernel
theorem dX6_fireNow_126 : decode cX6_fireNow 126 = .ok (.iaload, 1) := by decide +kernel
theorem dX6_fireNow_127 : decode cX6_fireNow 127 = .ok (.iconst 1, 1) := by decide +kernel
theorem dX6_fireNow_128 : decode cX6_fireNow 128 = .ok (.iload 5, 2) := by decide +kernel
theorem dX6_fireNow_130 : decode cX6_fireNow 130 = .ok (.invokevirtual 259, 3) := by decide +kernel
theorem dX6_fireNow_133 : decode cX6_fireNow 133 = .ok (.iinc 3 1, 3) := by decide +kernel
theorem dX6_fireNow_136 : decode cX6_fireNow 136 = .ok (.goto (-69), 3) := by decide +kernel
theorem dX6_fireNow_139 : decode cX6_fireNow 139 = .ok (.aload_n 0, 1) := by decide +kernel
theorem dX6_fireNow_140 : decode cX6_fireNow 140 = .ok (.getfield 34, 3) := by decide +kernel
theorem dX6_fireNow_143 : decode cX6_fireNow 143 = .ok (.iload_n 1, 1) := by decide +kernel
theorem dX6_fireNow_144 : decode cX6_fireNow 144 = .ok (.dup2, 1) := by decide +kernel
theorem dX6_fireNow_145 : decode cX6_fireNow 145 = .ok (.iaload, 1) := by decide +kernel
theorem dX6_fireNow_146 : decode cX6_fireNow 146 = .ok (.iconst 1, 1) := by decide +kernel
theorem dX6_fireNow_147 : decode cX6_fireNow 147 = .ok (.iadd, 1) := by decide +kernel
theorem dX6_fireNow_148 : decode cX6_fireNow 148 = .ok (.iastore, 1) := by decide +kernel
theorem dX6_fireNow_149 : decode cX6_fireNow 149 = .ok (.aload_n 0, 1) := by decide +kernel
theorem dX6_fireNow_150 : decode cX6_fireNow 150 = .ok (.iload_n 1, 1) := by decide +kernel
theorem dX6_fireNow_151 : decode cX6_fireNow 151 = .ok (.putfield 37, 3) := by decide +kernel
theorem dX6_fireNow_154 : decode cX6_fireNow 154 = .ok (.return_, 1) := by decide +kernel
theorem dX6_fire_0 : decode cX6_fire 0 = .ok (.aload_n 0, 1) := by decide +kernel
theorem dX6_fire_1 : decode cX6_fire 1 = .ok (.iconst 0, 1) := by decide +kernel
theorem dX6_fire_2 : decode cX6_fire 2 = .ok (.putfield 117, 3) := by decide +kernel
theorem dX6_fire_5 : decode cX6_fire 5 = .ok (.aload_n 0, 1) := by decide +kernel
theorem dX6_fire_6 : decode cX6_fire 6 = .ok (.invokevirtual 245, 3) := by decide +kernel
theorem dX6_fire_9 : decode cX6_fire 9 = .ok (.istore_n 1, 1) := by decide +kernel
theorem dX6_fire_10 : decode cX6_fire 10 = .ok (.iload_n 1, 1) := by decide +kernel
theorem dX6_fire_11 : decode cX6_fire 11 = .ok (.iconst (-1), 1) := by decide +kernel
theorem dX6_fire_12 : decode cX6_fire 12 = .ok (.if_icmp .eq 8, 3) := by decide +kernel
theorem dX6_fire_15 : decode cX6_fire 15 = .ok (.aload_n 0, 1) := by decide +kernel
theorem dX6_fire_16 : decode cX6_fire 16 = .ok (.iload_n 1, 1) := by decide +kernel
theorem dX6_fire_17 : decode cX6_fire 17 = .ok (.invokevirtual 266, 3) := by decide +kernel
theorem dX6_fire_20 : decode cX6_fire 20 = .ok (.iload_n 1, 1) := by decide +kernel
theorem dX6_fire_21 : decode cX6_fire 21 = .ok (.ireturn, 1) := by decide +kernel
theorem dX6_fireRule_0 : decode cX6_fireRule 0 = .ok (.aload_n 0, 1) := by decide +kernel
theorem dX6_fireRule_1 : decode cX6_fireRule 1 = .ok (.aload_n 0, 1) := by decide +kernel
theorem dX6_fireRule_2 : decode cX6_fireRule 2 = .ok (.iload_n 1, 1) := by decide +kernel
theorem dX6_fireRule_3 : decode cX6_fireRule 3 = .ok (.invokevirtual 194, 3) := by decide +kernel
theorem dX6_fireRule_6 : decode cX6_fireRule 6 = .ok (.ifCond .ne 7, 3) := by decide +kernel
theorem dX6_fireRule_9 : decode cX6_fireRule 9 = .ok (.iconst 1, 1) := by decide +kernel
theorem dX6_fireRule_10 : decode cX6_fireRule 10 = .ok (.goto 16, 3) := by decide +kernel
theorem dX6_fireRule_13 : decode cX6_fireRule 13 = .ok (.aload_n 0, 1) := by decide +kernel
theorem dX6_fireRule_14 : decode cX6_fireRule 14 = .ok (.iload_n 1, 1) := by decide +kernel
theorem dX6_fireRule_15 : decode cX6_fireRule 15 = .ok (.invokevirtual 239, 3) := by decide +kernel
theorem dX6_fireRule_18 : decode cX6_fireRule 18 = .ok (.ifCond .eq 7, 3) := by decide +kernel
theorem dX6_fireRule_21 : decode cX6_fireRule 21 = .ok (.iconst 0, 1) := by decide +kernel
theorem dX6_fireRule_22 : decode cX6_fireRule 22 = .ok (.goto 4, 3) := by decide +kernel
theorem dX6_fireRule_25 : decode cX6_fireRule 25 = .ok (.iconst 2, 1) := by decide +kernel
theorem dX6_fireRule_26 : decode cX6_fireRule 26 = .ok (.putfield 117, 3) := by decide +kernel
theorem dX6_fireRule_29 : decode cX6_fireRule 29 = .ok (.aload_n 0, 1) := by decide +kernel
theorem dX6_fireRule_30 : decode cX6_fireRule 30 = .ok (.getfield 117, 3) := by decide +kernel
theorem dX6_fireRule_33 : decode cX6_fireRule 33 = .ok (.ifCond .le 5, 3) := by decide +kernel
theorem dX6_fireRule_36 : decode cX6_fireRule 36 = .ok (.iconst 0, 1) := by decide +kernel
theorem dX6_fireRule_37 : decode cX6_fireRule 37 = .ok (.ireturn, 1) := by decide +kernel
theorem dX6_fireRule_38 : decode cX6_fireRule 38 = .ok (.aload_n 0, 1) := by decide +kernel
theorem dX6_fireRule_39 : decode cX6_fireRule 39 = .ok (.iload_n 1, 1) := by decide +kernel
theorem dX6_fireRule_40 : decode cX6_fireRule 40 = .ok (.invokevirtual 266, 3) := by decide +kernel
theorem dX6_fireRule_43 : decode cX6_fireRule 43 = .ok (.aload_n 0, 1) := by decide +kernel
theorem dX6_fireRule_44 : decode cX6_fireRule 44 = .ok (.getfield 34, 3) := by decide +kernel
theorem dX6_fireRule_47 : decode cX6_fireRule 47 = .ok (.iload_n 1, 1) := by decide +kernel
theorem dX6_fireRule_48 : decode cX6_fireRule 48 = .ok (.iaload, 1) := by decide +kernel
theorem dX6_fireRule_49 : decode cX6_fireRule 49 = .ok (.ireturn, 1) := by decide +kernel
theorem dX6_run_0 : decode cX6_run 0 = .ok (.aload_n 0, 1) := by decide +kernel
theorem dX6_run_1 : decode cX6_run 1 = .ok (.iload_n 1, 1) := by decide +kernel
theorem dX6_run_2 : decode cX6_run 2 = .ok (.iconst 1, 1) := by decide +kernel
theorem dX6_run_3 : decode cX6_run 3 = .ok (.bipush 100, 2) := by decide +kernel
theorem dX6_run_5 : decode cX6_run 5 = .ok (.invokestatic 120, 3) := by decide +kernel
theorem dX6_run_8 : decode cX6_run 8 = .ok (.ifCond .eq 7, 3) := by decide +kernel
theorem dX6_run_11 : decode cX6_run 11 = .ok (.iconst 0, 1) := by decide +kernel
theorem dX6_run_12 : decode cX6_run 12 = .ok (.goto 4, 3) := by decide +kernel
theorem dX6_run_15 : decode cX6_run 15 = .ok (.iconst 1, 1) := by decide +kernel
theorem dX6_run_16 : decode cX6_run 16 = .ok (.putfield 117, 3) := by decide +kernel
theorem dX6_run_19 : decode cX6_run 19 = .ok (.iconst 0, 1) := by decide +kernel
theorem dX6_run_20 : decode cX6_run 20 = .ok (.istore_n 2, 1) := by decide +kernel
theorem dX6_run_21 : decode cX6_run 21 = .ok (.aload_n 0, 1) := by decide +kernel
theorem dX6_run_22 : decode cX6_run 22 = .ok (.getfield 117, 3) := by decide +kernel
theorem dX6_run_25 : decode cX6_run 25 = .ok (.ifCond .le 7, 3) := by decide +kernel
theorem dX6_run_28 : decode cX6_run 28 = .ok (.iconst (-1), 1) := by decide +kernel
theorem dX6_run_29 : decode cX6_run 29 = .ok (.goto 7, 3) := by decide +kernel
theorem dX6_run_32 : decode cX6_run 32 = .ok (.aload_n 0, 1) := by decide +kernel
theorem dX6_run_33 : decode cX6_run 33 = .ok (.invokevirtual 245, 3) := by decide +kernel
theorem dX6_run_36 : decode cX6_run 36 = .ok (.istore_n 3, 1) := by decide +kernel
theorem dX6_run_37 : decode cX6_run 37 = .ok (.iload_n 3, 1) := by decide +kernel
theorem dX6_run_38 : decode cX6_run 38 = .ok (.iconst (-1), 1) := by decide +kernel
theorem dX6_run_39 : decode cX6_run 39 = .ok (.if_icmp .eq 28, 3) := by decide +kernel
theorem dX6_run_42 : decode cX6_run 42 = .ok (.aload_n 0, 1) := by decide +kernel
theorem dX6_run_43 : decode cX6_run 43 = .ok (.iload_n 3, 1) := by decide +kernel
theorem dX6_run_44 : decode cX6_run 44 = .ok (.invokevirtual 266, 3) := by decide +kernel
theorem dX6_run_47 : decode cX6_run 47 = .ok (.iinc 2 1, 3) := by decide +kernel
theorem dX6_run_50 : decode cX6_run 50 = .ok (.iload_n 2, 1) := by decide +kernel
theorem dX6_run_51 : decode cX6_run 51 = .ok (.iload_n 1, 1) := by decide +kernel
theorem dX6_run_52 : decode cX6_run 52 = .ok (.if_icmp .ge 10, 3) := by decide +kernel
theorem dX6_run_55 : decode cX6_run 55 = .ok (.aload_n 0, 1) := by decide +kernel
theorem dX6_run_56 : decode cX6_run 56 = .ok (.invokevirtual 245, 3) := by decide +kernel
theorem dX6_run_59 : decode cX6_run 59 = .ok (.goto 4, 3) := by decide +kernel
theorem dX6_run_62 : decode cX6_run 62 = .ok (.iconst (-1), 1) := by decide +kernel
theorem dX6_run_63 : decode cX6_run 63 = .ok (.istore_n 3, 1) := by decide +kernel
theorem dX6_run_64 : decode cX6_run 64 = .ok (.goto (-27), 3) := by decide +kernel
theorem dX6_run_67 : decode cX6_run 67 = .ok (.iload_n 2, 1) := by decide +kernel
theorem dX6_run_68 : decode cX6_run 68 = .ok (.ireturn, 1) := by decide +kernel
theorem dX6_isStuck_0 : decode cX6_isStuck 0 = .ok (.aload_n 0, 1) := by decide +kernel
theorem dX6_isStuck_1 : decode cX6_isStuck 1 = .ok (.iconst 0, 1) := by decide +kernel
theorem dX6_isStuck_2 : decode cX6_isStuck 2 = .ok (.putfield 117, 3) := by decide +kernel
theorem dX6_isStuck_5 : decode cX6_isStuck 5 = .ok (.aload_n 0, 1) := by decide +kernel
theorem dX6_isStuck_6 : decode cX6_isStuck 6 = .ok (.invokevirtual 217, 3) := by decide +kernel
theorem dX6_isStuck_9 : decode cX6_isStuck 9 = .ok (.ifCond .eq 14, 3) := by decide +kernel
theorem dX6_isStuck_12 : decode cX6_isStuck 12 = .ok (.aload_n 0, 1) := by decide +kernel
theorem dX6_isStuck_13 : decode cX6_isStuck 13 = .ok (.invokevirtual 242, 3) := by decide +kernel
theorem dX6_isStuck_16 : decode cX6_isStuck 16 = .ok (.ifCond .ne 7, 3) := by decide +kernel
theorem dX6_isStuck_19 : decode cX6_isStuck 19 = .ok (.iconst 1, 1) := by decide +kernel
theorem dX6_isStuck_20 : decode cX6_isStuck 20 = .ok (.goto 4, 3) := by decide +kernel
theorem dX6_isStuck_23 : decode cX6_isStuck 23 = .ok (.iconst 0, 1) := by decide +kernel
theorem dX6_isStuck_24 : decode cX6_isStuck 24 = .ok (.ireturn, 1) := by decide +kernel
theorem dX6_ticketState_0 : decode cX6_ticketState 0 = .ok (.aload_n 0, 1) := by decide +kernel
theorem dX6_ticketState_1 : decode cX6_ticketState 1 = .ok (.aload_n 0, 1) := by decide +kernel
theorem dX6_ticketState_2 : decode cX6_ticketState 2 = .ok (.iload_n 1, 1) := by decide +kernel
theorem dX6_ticketState_3 : decode cX6_ticketState 3 = .ok (.invokevirtual 252, 3) := by decide +kernel
theorem dX6_ticketState_6 : decode cX6_ticketState 6 = .ok (.ifCond .eq 7, 3) := by decide +kernel
theorem dX6_ticketState_9 : decode cX6_ticketState 9 = .ok (.iconst 0, 1) := by decide +kernel
theorem dX6_ticketState_10 : decode cX6_ticketState 10 = .ok (.goto 4, 3) := by decide +kernel
theorem dX6_ticketState_13 : decode cX6_ticketState 13 = .ok (.iconst 1, 1) := by decide +kernel
theorem dX6_ticketState_14 : decode cX6_ticketState 14 = .ok (.putfield 117, 3) := by decide +kernel
theorem dX6_ticketState_17 : decode cX6_ticketState 17 = .ok (.aload_n 0, 1) := by decide +kernel
theorem dX6_ticketState_18 : decode cX6_ticketState 18 = .ok (.getfield 117, 3) := by decide +kernel
theorem dX6_ticketState_21 : decode cX6_ticketState 21 = .ok (.ifCond .le 7, 3) := by decide +kernel
theorem dX6_ticketState_24 : decode cX6_ticketState 24 = .ok (.iconst 0, 1) := by decide +kernel
theorem dX6_ticketState_25 : decode cX6_ticketState 25 = .ok (.goto 12, 3) := by decide +kernel
theorem dX6_ticketState_28 : decode cX6_ticketState 28 = .ok (.aload_n 0, 1) := by decide +kernel
theorem dX6_ticketState_29 : decode cX6_ticketState 29 = .ok (.getfield 53, 3) := by decide +kernel
theorem dX6_ticketState_32 : decode cX6_ticketState 32 = .ok (.iload_n 1, 1) := by decide +kernel
theorem dX6_ticketState_33 : decode cX6_ticketState 33 = .ok (.bipush 24, 2) := by decide +kernel
theorem dX6_ticketState_35 : decode cX6_ticketState 35 = .ok (.irem, 1) := by decide +kernel
theorem dX6_ticketState_36 : decode cX6_ticketState 36 = .ok (.iaload, 1) := by decide +kernel
theorem dX6_ticketState_37 : decode cX6_ticketState 37 = .ok (.ireturn, 1) := by decide +kernel
theorem dX6_replyOf_0 : decode cX6_replyOf 0 = .ok (.aload_n 0, 1) := by decide +kernel
theorem dX6_replyOf_1 : decode cX6_replyOf 1 = .ok (.aload_n 0, 1) := by decide +kernel
theorem dX6_replyOf_2 : decode cX6_replyOf 2 = .ok (.iload_n 1, 1) := by decide +kernel
theorem dX6_replyOf_3 : decode cX6_replyOf 3 = .ok (.invokevirtual 252, 3) := by decide +kernel
theorem dX6_replyOf_6 : decode cX6_replyOf 6 = .ok (.ifCond .ne 7, 3) := by decide +kernel
theorem dX6_replyOf_9 : decode cX6_replyOf 9 = .ok (.iconst 1, 1) := by decide +kernel
theorem dX6_replyOf_10 : decode cX6_replyOf 10 = .ok (.goto 21, 3) := by decide +kernel
theorem dX6_replyOf_13 : decode cX6_replyOf 13 = .ok (.aload_n 0, 1) := by decide +kernel
theorem dX6_replyOf_14 : decode cX6_replyOf 14 = .ok (.getfield 53, 3) := by decide +kernel
theorem dX6_replyOf_17 : decode cX6_replyOf 17 = .ok (.iload_n 1, 1) := by decide +kernel
theorem dX6_replyOf_18 : decode cX6_replyOf 18 = .ok (.bipush 24, 2) := by decide +kernel
theorem dX6_replyOf_20 : decode cX6_replyOf 20 = .ok (.irem, 1) := by decide +kernel
theorem dX6_replyOf_21 : decode cX6_replyOf 21 = .ok (.iaload, 1) := by decide +kernel
theorem dX6_replyOf_22 : decode cX6_replyOf 22 = .ok (.iconst 1, 1) := by decide +kernel
theorem dX6_replyOf_23 : decode cX6_replyOf 23 = .ok (.if_icmp .ne 7, 3) := by decide +kernel
theorem dX6_replyOf_26 : decode cX6_replyOf 26 = .ok (.iconst 0, 1) := by decide +kernel
theorem dX6_replyOf_27 : decode cX6_replyOf 27 = .ok (.goto 4, 3) := by decide +kernel
theorem dX6_replyOf_30 : decode cX6_replyOf 30 = .ok (.iconst 2, 1) := by decide +kernel
theorem dX6_replyOf_31 : decode cX6_replyOf 31 = .ok (.putfield 117, 3) := by decide +kernel
theorem dX6_replyOf_34 : decode cX6_replyOf 34 = .ok (.aload_n 0, 1) := by decide +kernel
theorem dX6_replyOf_35 : decode cX6_replyOf 35 = .ok (.getfield 117, 3) := by decide +kernel
theorem dX6_replyOf_38 : decode cX6_replyOf 38 = .ok (.ifCond .le 7, 3) := by decide +kernel
theorem dX6_replyOf_41 : decode cX6_replyOf 41 = .ok (.iconst 0, 1) := by decide +kernel
theorem dX6_replyOf_42 : decode cX6_replyOf 42 = .ok (.goto 12, 3) := by decide +kernel
theorem dX6_replyOf_45 : decode cX6_replyOf 45 = .ok (.aload_n 0, 1) := by decide +kernel
theorem dX6_replyOf_46 : decode cX6_replyOf 46 = .ok (.getfield 56, 3) := by decide +kernel
theorem dX6_replyOf_49 : decode cX6_replyOf 49 = .ok (.iload_n 1, 1) := by decide +kernel
theorem dX6_replyOf_50 : decode cX6_replyOf 50 = .ok (.bipush 24, 2) := by decide +kernel
theorem dX6_replyOf_52 : decode cX6_replyOf 52 = .ok (.irem, 1) := by decide +kernel
theorem dX6_replyOf_53 : decode cX6_replyOf 53 = .ok (.iaload, 1) := by decide +kernel
theorem dX6_replyOf_54 : decode cX6_replyOf 54 = .ok (.ireturn, 1) := by decide +kernel
theorem dX6_firings_0 : decode cX6_firings 0 = .ok (.aload_n 0, 1) := by decide +kernel
theorem dX6_firings_1 : decode cX6_firings 1 = .ok (.aload_n 0, 1) := by decide +kernel
theorem dX6_firings_2 : decode cX6_firings 2 = .ok (.iload_n 1, 1) := by decide +kernel
theorem dX6_firings_3 : decode cX6_firings 3 = .ok (.invokevirtual 194, 3) := by decide +kernel
theorem dX6_firings_6 : decode cX6_firings 6 = .ok (.ifCond .eq 7, 3) := by decide +kernel
theorem dX6_firings_9 : decode cX6_firings 9 = .ok (.iconst 0, 1) := by decide +kernel
theorem dX6_firings_10 : decode cX6_firings 10 = .ok (.goto 4, 3) := by decide +kernel
theorem dX6_firings_13 : decode cX6_firings 13 = .ok (.iconst 1, 1) := by decide +kernel
theorem dX6_firings_14 : decode cX6_firings 14 = .ok (.putfield 117, 3) := by decide +kernel
theorem dX6_firings_17 : decode cX6_firings 17 = .ok (.aload_n 0, 1) := by decide +kernel
theorem dX6_firings_18 : decode cX6_firings 18 = .ok (.getfield 117, 3) := by decide +kernel
theorem dX6_firings_21 : decode cX6_firings 21 = .ok (.ifCond .le 7, 3) := by decide +kernel
theorem dX6_firings_24 : decode cX6_firings 24 = .ok (.iconst 0, 1) := by decide +kernel
theorem dX6_firings_25 : decode cX6_firings 25 = .ok (.goto 9, 3) := by decide +kernel
theorem dX6_firings_28 : decode cX6_firings 28 = .ok (.aload_n 0, 1) := by decide +kernel
theorem dX6_firings_29 : decode cX6_firings 29 = .ok (.getfield 34, 3) := by decide +kernel
theorem dX6_firings_32 : decode cX6_firings 32 = .ok (.iload_n 1, 1) := by decide +kernel
theorem dX6_firings_33 : decode cX6_firings 33 = .ok (.iaload, 1) := by decide +kernel
theorem dX6_firings_34 : decode cX6_firings 34 = .ok (.ireturn, 1) := by decide +kernel
theorem dX6_consumed_0 : decode cX6_consumed 0 = .ok (.aload_n 0, 1) := by decide +kernel
theorem dX6_consumed_1 : decode cX6_consumed 1 = .ok (.iload_n 1, 1) := by decide +kernel
theorem dX6_consumed_2 : decode cX6_consumed 2 = .ok (.invokestatic 207, 3) := by decide +kernel
theorem dX6_consumed_5 : decode cX6_consumed 5 = .ok (.ifCond .eq 7, 3) := by decide +kernel
theorem dX6_consumed_8 : decode cX6_consumed 8 = .ok (.iconst 0, 1) := by decide +kernel
theorem dX6_consumed_9 : decode cX6_consumed 9 = .ok (.goto 4, 3) := by decide +kernel
theorem dX6_consumed_12 : decode cX6_consumed 12 = .ok (.iconst 1, 1) := by decide +kernel
theorem dX6_consumed_13 : decode cX6_consumed 13 = .ok (.putfield 117, 3) := by decide +kernel
theorem dX6_consumed_16 : decode cX6_consumed 16 = .ok (.aload_n 0, 1) := by decide +kernel
theorem dX6_consumed_17 : decode cX6_consumed 17 = .ok (.getfield 117, 3) := by decide +kernel
theorem dX6_consumed_20 : decode cX6_consumed 20 = .ok (.ifCond .le 7, 3) := by decide +kernel
theorem dX6_consumed_23 : decode cX6_consumed 23 = .ok (.iconst 0, 1) := by decide +kernel
theorem dX6_consumed_24 : decode cX6_consumed 24 = .ok (.goto 9, 3) := by decide +kernel
theorem dX6_consumed_27 : decode cX6_consumed 27 = .ok (.aload_n 0, 1) := by decide +kernel
theorem dX6_consumed_28 : decode cX6_consumed 28 = .ok (.getfield 59, 3) := by decide +kernel
theorem dX6_consumed_31 : decode cX6_consumed 31 = .ok (.iload_n 1, 1) := by decide +kernel
theorem dX6_consumed_32 : decode cX6_consumed 32 = .ok (.iaload, 1) := by decide +kernel
theorem dX6_consumed_33 : decode cX6_consumed 33 = .ok (.ireturn, 1) := by decide +kernel
theorem dX6_meanWait_0 : decode cX6_meanWait 0 = .ok (.aload_n 0, 1) := by decide +kernel
theorem dX6_meanWait_1 : decode cX6_meanWait 1 = .ok (.iload_n 1, 1) := by decide +kernel
theorem dX6_meanWait_2 : decode cX6_meanWait 2 = .ok (.invokestatic 207, 3) := by decide +kernel
theorem dX6_meanWait_5 : decode cX6_meanWait 5 = .ok (.ifCond .eq 7, 3) := by decide +kernel
theorem dX6_meanWait_8 : decode cX6_meanWait 8 = .ok (.iconst 0, 1) := by decide +kernel
theorem dX6_meanWait_9 : decode cX6_meanWait 9 = .ok (.goto 4, 3) := by decide +kernel
theorem dX6_meanWait_12 : decode cX6_meanWait 12 = .ok (.iconst 1, 1) := by decide +kernel
theorem dX6_meanWait_13 : decode cX6_meanWait 13 = .ok (.putfield 117, 3) := by decide +kernel
theorem dX6_meanWait_16 : decode cX6_meanWait 16 = .ok (.aload_n 0, 1) := by decide +kernel
theorem dX6_meanWait_17 : decode cX6_meanWait 17 = .ok (.getfield 117, 3) := by decide +kernel
theorem dX6_meanWait_20 : decode cX6_meanWait 20 = .ok (.ifCond .gt 12, 3) := by decide +kernel
theorem dX6_meanWait_23 : decode cX6_meanWait 23 = .ok (.aload_n 0, 1) := by decide +kernel
theorem dX6_meanWait_24 : decode cX6_meanWait 24 = .ok (.getfield 59, 3) := by decide +kernel
theorem dX6_meanWait_27 : decode cX6_meanWait 27 = .ok (.iload_n 1, 1) := by decide +kernel
theorem dX6_meanWait_28 : decode cX6_meanWait 28 = .ok (.iaload, 1) := by decide +kernel
theorem dX6_meanWait_29 : decode cX6_meanWait 29 = .ok (.ifCond .ne 7, 3) := by decide +kernel
theorem dX6_meanWait_32 : decode cX6_meanWait 32 = .ok (.dconst 0, 1) := by decide +kernel
theorem dX6_meanWait_33 : decode cX6_meanWait 33 = .ok (.goto 18, 3) := by decide +kernel
theorem dX6_meanWait_36 : decode cX6_meanWait 36 = .ok (.aload_n 0, 1) := by decide +kernel
theorem dX6_meanWait_37 : decode cX6_meanWait 37 = .ok (.getfield 62, 3) := by decide +kernel
theorem dX6_meanWait_40 : decode cX6_meanWait 40 = .ok (.iload_n 1, 1) := by decide +kernel
theorem dX6_meanWait_41 : decode cX6_meanWait 41 = .ok (.laload, 1) := by decide +kernel
theorem dX6_meanWait_42 : decode cX6_meanWait 42 = .ok (.l2d, 1) := by decide +kernel
theorem dX6_meanWait_43 : decode cX6_meanWait 43 = .ok (.aload_n 0, 1) := by decide +kernel
theorem dX6_meanWait_44 : decode cX6_meanWait 44 = .ok (.getfield 59, 3) := by decide +kernel
theorem dX6_meanWait_47 : decode cX6_meanWait 47 = .ok (.iload_n 1, 1) := by decide +kernel
theorem dX6_meanWait_48 : decode cX6_meanWait 48 = .ok (.iaload, 1) := by decide +kernel
theorem dX6_meanWait_49 : decode cX6_meanWait 49 = .ok (.i2d, 1) := by decide +kernel
theorem dX6_meanWait_50 : decode cX6_meanWait 50 = .ok (.ddiv, 1) := by decide +kernel
theorem dX6_meanWait_51 : decode cX6_meanWait 51 = .ok (.dreturn, 1) := by decide +kernel
theorem dX6_shareOf_0 : decode cX6_shareOf 0 = .ok (.aload_n 0, 1) := by decide +kernel
theorem dX6_shareOf_1 : decode cX6_shareOf 1 = .ok (.aload_n 0, 1) := by decide +kernel
theorem dX6_shareOf_2 : decode cX6_shareOf 2 = .ok (.iload_n 1, 1) := by decide +kernel
theorem dX6_shareOf_3 : decode cX6_shareOf 3 = .ok (.invokevirtual 194, 3) := by decide +kernel
theorem dX6_shareOf_6 : decode cX6_shareOf 6 = .ok (.ifCond .eq 7, 3) := by decide +kernel
theorem dX6_shareOf_9 : decode cX6_shareOf 9 = .ok (.iconst 0, 1) := by decide +kernel
theorem dX6_shareOf_10 : decode cX6_shareOf 10 = .ok (.goto 4, 3) := by decide +kernel
theorem dX6_shareOf_13 : decode cX6_shareOf 13 = .ok (.iconst 1, 1) := by decide +kernel
theorem dX6_shareOf_14 : decode cX6_shareOf 14 = .ok (.putfield 117, 3) := by decide +kernel
theorem dX6_shareOf_17 : decode cX6_shareOf 17 = .ok (.iconst 0, 1) := by decide +kernel
theorem dX6_shareOf_18 : decode cX6_shareOf 18 = .ok (.istore_n 2, 1) := by decide +kernel
theorem dX6_shareOf_19 : decode cX6_shareOf 19 = .ok (.iconst 0, 1) := by decide +kernel
theorem dX6_shareOf_20 : decode cX6_shareOf 20 = .ok (.istore_n 3, 1) := by decide +kernel
theorem dX6_shareOf_21 : decode cX6_shareOf 21 = .ok (.iload_n 3, 1) := by decide +kernel
theorem dX6_shareOf_22 : decode cX6_shareOf 22 = .ok (.aload_n 0, 1) := by decide +kernel
theorem dX6_shareOf_23 : decode cX6_shareOf 23 = .ok (.getfield 188, 3) := by decide +kernel
theorem dX6_shareOf_26 : decode cX6_shareOf 26 = .ok (.if_icmp .ge 18, 3) := by decide +kernel
theorem dX6_shareOf_29 : decode cX6_shareOf 29 = .ok (.iload_n 2, 1) := by decide +kernel
theorem dX6_shareOf_30 : decode cX6_shareOf 30 = .ok (.aload_n 0, 1) := by decide +kernel
theorem dX6_shareOf_31 : decode cX6_shareOf 31 = .ok (.getfield 34, 3) := by decide +kernel
theorem dX6_shareOf_34 : decode cX6_shareOf 34 = .ok (.iload_n 3, 1) := by decide +kernel
theorem dX6_shareOf_35 : decode cX6_shareOf 35 = .ok (.iaload, 1) := by decide +kernel
theorem dX6_shareOf_36 : decode cX6_shareOf 36 = .ok (.iadd, 1) := by decide +kernel
theorem dX6_shareOf_37 : decode cX6_shareOf 37 = .ok (.istore_n 2, 1) := by decide +kernel
theorem dX6_shareOf_38 : decode cX6_shareOf 38 = .ok (.iinc 3 1, 3) := by decide +kernel
theorem dX6_shareOf_41 : decode cX6_shareOf 41 = .ok (.goto (-20), 3) := by decide +kernel
theorem dX6_shareOf_44 : decode cX6_shareOf 44 = .ok (.aload_n 0, 1) := by decide +kernel
theorem dX6_shareOf_45 : decode cX6_shareOf 45 = .ok (.getfield 117, 3) := by decide +kernel
theorem dX6_shareOf_48 : decode cX6_shareOf 48 = .ok (.ifCond .gt 7, 3) := by decide +kernel
theorem dX6_shareOf_51 : decode cX6_shareOf 51 = .ok (.iload_n 2, 1) := by decide +kernel
theorem dX6_shareOf_52 : decode cX6_shareOf 52 = .ok (.ifCond .ne 7, 3) := by decide +kernel
theorem dX6_shareOf_55 : decode cX6_shareOf 55 = .ok (.fconst 0, 1) := by decide +kernel
theorem dX6_shareOf_56 : decode cX6_shareOf 56 = .ok (.goto 13, 3) := by decide +kernel
theorem dX6_shareOf_59 : decode cX6_shareOf 59 = .ok (.aload_n 0, 1) := by decide +kernel
theorem dX6_shareOf_60 : decode cX6_shareOf 60 = .ok (.getfield 34, 3) := by decide +kernel
theorem dX6_shareOf_63 : decode cX6_shareOf 63 = .ok (.iload_n 1, 1) := by decide +kernel
theorem dX6_shareOf_64 : decode cX6_shareOf 64 = .ok (.iaload, 1) := by decide +kernel
theorem dX6_shareOf_65 : decode cX6_shareOf 65 = .ok (.i2f, 1) := by decide +kernel
theorem dX6_shareOf_66 : decode cX6_shareOf 66 = .ok (.iload_n 2, 1) := by decide +kernel
theorem dX6_shareOf_67 : decode cX6_shareOf 67 = .ok (.i2f, 1) := by decide +kernel
theorem dX6_shareOf_68 : decode cX6_shareOf 68 = .ok (.fdiv, 1) := by decide +kernel
theorem dX6_shareOf_69 : decode cX6_shareOf 69 = .ok (.freturn, 1) := by decide +kernel
theorem dX6_clock_0 : decode cX6_clock 0 = .ok (.aload_n 0, 1) := by decide +kernel
theorem dX6_clock_1 : decode cX6_clock 1 = .ok (.iconst 0, 1) := by decide +kernel
theorem dX6_clock_2 : decode cX6_clock 2 = .ok (.putfield 117, 3) := by decide +kernel
theorem dX6_clock_5 : decode cX6_clock 5 = .ok (.aload_n 0, 1) := by decide +kernel
theorem dX6_clock_6 : decode cX6_clock 6 = .ok (.getfield 204, 3) := by decide +kernel
theorem dX6_clock_9 : decode cX6_clock 9 = .ok (.ireturn, 1) := by decide +kernel
theorem dX6_copy_0 : decode cX6_copy 0 = .ok (.iconst 0, 1) := by decide +kernel
theorem dX6_copy_1 : decode cX6_copy 1 = .ok (.istore_n 2, 1) := by decide +kernel
theorem dX6_copy_2 : decode cX6_copy 2 = .ok (.iload_n 2, 1) := by decide +kernel
theorem dX6_copy_3 : decode cX6_copy 3 = .ok (.aload_n 0, 1) := by decide +kernel
theorem dX6_copy_4 : decode cX6_copy 4 = .ok (.arraylength, 1) := by decide +kernel
theorem dX6_copy_5 : decode cX6_copy 5 = .ok (.if_icmp .ge 15, 3) := by decide +kernel
theorem dX6_copy_8 : decode cX6_copy 8 = .ok (.aload_n 1, 1) := by decide +kernel
theorem dX6_copy_9 : decode cX6_copy 9 = .ok (.iload_n 2, 1) := by decide +kernel
theorem dX6_copy_10 : decode cX6_copy 10 = .ok (.aload_n 0, 1) := by decide +kernel
theorem dX6_copy_11 : decode cX6_copy 11 = .ok (.iload_n 2, 1) := by decide +kernel
theorem dX6_copy_12 : decode cX6_copy 12 = .ok (.iaload, 1) := by decide +kernel
theorem dX6_copy_13 : decode cX6_copy 13 = .ok (.iastore, 1) := by decide +kernel
theorem dX6_copy_14 : decode cX6_copy 14 = .ok (.iinc 2 1, 3) := by decide +kernel
theorem dX6_copy_17 : decode cX6_copy 17 = .ok (.goto (-15), 3) := by decide +kernel
theorem dX6_copy_20 : decode cX6_copy 20 = .ok (.return_, 1) := by decide +kernel
theorem dX6_copyLongs_0 : decode cX6_copyLongs 0 = .ok (.iconst 0, 1) := by decide +kernel
theorem dX6_copyLongs_1 : decode cX6_copyLongs 1 = .ok (.istore_n 2, 1) := by decide +kernel
theorem dX6_copyLongs_2 : decode cX6_copyLongs 2 = .ok (.iload_n 2, 1) := by decide +kernel
theorem dX6_copyLongs_3 : decode cX6_copyLongs 3 = .ok (.aload_n 0, 1) := by decide +kernel
theorem dX6_copyLongs_4 : decode cX6_copyLongs 4 = .ok (.arraylength, 1) := by decide +kernel
theorem dX6_copyLongs_5 : decode cX6_copyLongs 5 = .ok (.if_icmp .ge 15, 3) := by decide +kernel
theorem dX6_copyLongs_8 : decode cX6_copyLongs 8 = .ok (.aload_n 1, 1) := by decide +kernel
theorem dX6_copyLongs_9 : decode cX6_copyLongs 9 = .ok (.iload_n 2, 1) := by decide +kernel
theorem dX6_copyLongs_10 : decode cX6_copyLongs 10 = .ok (.aload_n 0, 1) := by decide +kernel
theorem dX6_copyLongs_11 : decode cX6_copyLongs 11 = .ok (.iload_n 2, 1) := by decide +kernel
theorem dX6_copyLongs_12 : decode cX6_copyLongs 12 = .ok (.laload, 1) := by decide +kernel
theorem dX6_copyLongs_13 : decode cX6_copyLongs 13 = .ok (.lastore, 1) := by decide +kernel
theorem dX6_copyLongs_14 : decode cX6_copyLongs 14 = .ok (.iinc 2 1, 3) := by decide +kernel
theorem dX6_copyLongs_17 : decode cX6_copyLongs 17 = .ok (.goto (-15), 3) := by decide +kernel
theorem dX6_copyLongs_20 : decode cX6_copyLongs 20 = .ok (.return_, 1) := by decide +kernel
theorem dX6_messages_0 : decode cX6_messages 0 = .ok (.iconst 0, 1) := by decide +kernel
theorem dX6_messages_1 : decode cX6_messages 1 = .ok (.istore_n 1, 1) := by decide +kernel
theorem dX6_messages_2 : decode cX6_messages 2 = .ok (.iconst 0, 1) := by decide +kernel
theorem dX6_messages_3 : decode cX6_messages 3 = .ok (.istore_n 2, 1) := by decide +kernel
theorem dX6_messages_4 : decode cX6_messages 4 = .ok (.iload_n 2, 1) := by decide +kernel
theorem dX6_messages_5 : decode cX6_messages 5 = .ok (.bipush 8, 2) := by decide +kernel
theorem dX6_messages_7 : decode cX6_messages 7 = .ok (.if_icmp .ge 18, 3) := by decide +kernel
theorem dX6_messages_10 : decode cX6_messages 10 = .ok (.iload_n 1, 1) := by decide +kernel
theorem dX6_messages_11 : decode cX6_messages 11 = .ok (.aload_n 0, 1) := by decide +kernel
theorem dX6_messages_12 : decode cX6_messages 12 = .ok (.getfield 41, 3) := by decide +kernel
theorem dX6_messages_15 : decode cX6_messages 15 = .ok (.iload_n 2, 1) := by decide +kernel
theorem dX6_messages_16 : decode cX6_messages 16 = .ok (.iaload, 1) := by decide +kernel
theorem dX6_messages_17 : decode cX6_messages 17 = .ok (.iadd, 1) := by decide +kernel
theorem dX6_messages_18 : decode cX6_messages 18 = .ok (.istore_n 1, 1) := by decide +kernel
theorem dX6_messages_19 : decode cX6_messages 19 = .ok (.iinc 2 1, 3) := by decide +kernel
theorem dX6_messages_22 : decode cX6_messages 22 = .ok (.goto (-18), 3) := by decide +kernel
theorem dX6_messages_25 : decode cX6_messages 25 = .ok (.iload_n 1, 1) := by decide +kernel
theorem dX6_messages_26 : decode cX6_messages 26 = .ok (.ireturn, 1) := by decide +kernel
theorem dX6_save_0 : decode cX6_save 0 = .ok (.aload_n 0, 1) := by decide +kernel
theorem dX6_save_1 : decode cX6_save 1 = .ok (.iconst 0, 1) := by decide +kernel
theorem dX6_save_2 : decode cX6_save 2 = .ok (.putfield 117, 3) := by decide +kernel
theorem dX6_save_5 : decode cX6_save 5 = .ok (.aload_n 0, 1) := by decide +kernel
theorem dX6_save_6 : decode cX6_save 6 = .ok (.iconst 1, 1) := by decide +kernel
theorem dX6_save_7 : decode cX6_save 7 = .ok (.putfield 191, 3) := by decide +kernel
theorem dX6_save_10 : decode cX6_save 10 = .ok (.aload_n 0, 1) := by decide +kernel
theorem dX6_save_11 : decode cX6_save 11 = .ok (.aload_n 0, 1) := by decide +kernel
theorem dX6_save_12 : decode cX6_save 12 = .ok (.getfield 204, 3) := by decide +kernel
theorem dX6_save_15 : decode cX6_save 15 = .ok (.putfield 269, 3) := by decide +kernel
theorem dX6_save_18 : decode cX6_save 18 = .ok (.aload_n 0, 1) := by decide +kernel
theorem dX6_save_19 : decode cX6_save 19 = .ok (.aload_n 0, 1) := by decide +kernel
theorem dX6_save_20 : decode cX6_save 20 = .ok (.getfield 210, 3) := by decide +kernel
theorem dX6_save_23 : decode cX6_save 23 = .ok (.putfield 272, 3) := by decide +kernel
theorem dX6_save_26 : decode cX6_save 26 = .ok (.aload_n 0, 1) := by decide +kernel
theorem dX6_save_27 : decode cX6_save 27 = .ok (.aload_n 0, 1) := by decide +kernel
theorem dX6_save_28 : decode cX6_save 28 = .ok (.getfield 37, 3) := by decide +kernel
theorem dX6_save_31 : decode cX6_save 31 = .ok (.putfield 275, 3) := by decide +kernel
theorem dX6_save_34 : decode cX6_save 34 = .ok (.aload_n 0, 1) := by decide +kernel
theorem dX6_save_35 : decode cX6_save 35 = .ok (.getfield 41, 3) := by decide +kernel
theorem dX6_save_38 : decode cX6_save 38 = .ok (.aload_n 0, 1) := by decide +kernel
theorem dX6_save_39 : decode cX6_save 39 = .ok (.getfield 90, 3) := by decide +kernel
theorem dX6_save_42 : decode cX6_save 42 = .ok (.invokestatic 278, 3) := by decide +kernel
theorem dX6_save_45 : decode cX6_save 45 = .ok (.aload_n 0, 1) := by decide +kernel
theorem dX6_save_46 : decode cX6_save 46 = .ok (.getfield 44, 3) := by decide +kernel
theorem dX6_save_49 : decode cX6_save 49 = .ok (.aload_n 0, 1) := by decide +kernel
theorem dX6_save_50 : decode cX6_save 50 = .ok (.getfield 93, 3) := by decide +kernel
theorem dX6_save_53 : decode cX6_save 53 = .ok (.invokestatic 278, 3) := by decide +kernel
theorem dX6_save_56 : decode cX6_save 56 = .ok (.aload_n 0, 1) := by decide +kernel
theorem dX6_save_57 : decode cX6_save 57 = .ok (.getfield 47, 3) := by decide +kernel
theorem dX6_save_60 : decode cX6_save 60 = .ok (.aload_n 0, 1) := by decide +kernel
theorem dX6_save_61 : decode cX6_save 61 = .ok (.getfield 96, 3) := by decide +kernel
theorem dX6_save_64 : decode cX6_save 64 = .ok (.invokestatic 278, 3) := by decide +kernel
theorem dX6_save_67 : decode cX6_save 67 = .ok (.aload_n 0, 1) := by decide +kernel
theorem dX6_save_68 : decode cX6_save 68 = .ok (.getfield 50, 3) := by decide +kernel
theorem dX6_save_71 : decode cX6_save 71 = .ok (.aload_n 0, 1) := by decide +kernel
theorem dX6_save_72 : decode cX6_save 72 = .ok (.getfield 99, 3) := by decide +kernel
theorem dX6_save_75 : decode cX6_save 75 = .ok (.invokestatic 278, 3) := by decide +kernel
theorem dX6_save_78 : decode cX6_save 78 = .ok (.aload_n 0, 1) := by decide +kernel
theorem dX6_save_79 : decode cX6_save 79 = .ok (.getfield 53, 3) := by decide +kernel
theorem dX6_save_82 : decode cX6_save 82 = .ok (.aload_n 0, 1) := by decide +kernel
theorem dX6_save_83 : decode cX6_save 83 = .ok (.getfield 102, 3) := by decide +kernel
theorem dX6_save_86 : decode cX6_save 86 = .ok (.invokestatic 278, 3) := by decide +kernel
theorem dX6_save_89 : decode cX6_save 89 = .ok (.aload_n 0, 1) := by decide +kernel
theorem dX6_save_90 : decode cX6_save 90 = .ok (.getfield 56, 3) := by decide +kernel
theorem dX6_save_93 : decode cX6_save 93 = .ok (.aload_n 0, 1) := by decide +kernel
theorem dX6_save_94 : decode cX6_save 94 = .ok (.getfield 105, 3) := by decide +kernel
theorem dX6_save_97 : decode cX6_save 97 = .ok (.invokestatic 278, 3) := by decide +kernel
theorem dX6_save_100 : decode cX6_save 100 = .ok (.aload_n 0, 1) := by decide +kernel
theorem dX6_save_101 : decode cX6_save 101 = .ok (.getfield 34, 3) := by decide +kernel
theorem dX6_save_104 : decode cX6_save 104 = .ok (.aload_n 0, 1) := by decide +kernel
theorem dX6_save_105 : decode cX6_save 105 = .ok (.getfield 108, 3) := by decide +kernel
theorem dX6_save_108 : decode cX6_save 108 = .ok (.invokestatic 278, 3) := by decide +kernel
theorem dX6_save_111 : decode cX6_save 111 = .ok (.aload_n 0, 1) := by decide +kernel
theorem dX6_save_112 : decode cX6_save 112 = .ok (.getfield 59, 3) := by decide +kernel
theorem dX6_save_115 : decode cX6_save 115 = .ok (.aload_n 0, 1) := by decide +kernel
theorem dX6_save_116 : decode cX6_save 116 = .ok (.getfield 111, 3) := by decide +kernel
theorem dX6_save_119 : decode cX6_save 119 = .ok (.invokestatic 278, 3) := by decide +kernel
theorem dX6_save_122 : decode cX6_save 122 = .ok (.aload_n 0, 1) := by decide +kernel
theorem dX6_save_123 : decode cX6_save 123 = .ok (.getfield 62, 3) := by decide +kernel
theorem dX6_save_126 : decode cX6_save 126 = .ok (.aload_n 0, 1) := by decide +kernel
theorem dX6_save_127 : decode cX6_save 127 = .ok (.getfield 114, 3) := by decide +kernel
theorem dX6_save_130 : decode cX6_save 130 = .ok (.invokestatic 282, 3) := by decide +kernel
theorem dX6_save_133 : decode cX6_save 133 = .ok (.aload_n 0, 1) := by decide +kernel
theorem dX6_save_134 : decode cX6_save 134 = .ok (.invokevirtual 286, 3) := by decide +kernel
theorem dX6_save_137 : decode cX6_save 137 = .ok (.ireturn, 1) := by decide +kernel
theorem dX6_restore_0 : decode cX6_restore 0 = .ok (.aload_n 0, 1) := by decide +kernel
theorem dX6_restore_1 : decode cX6_restore 1 = .ok (.aload_n 0, 1) := by decide +kernel
theorem dX6_restore_2 : decode cX6_restore 2 = .ok (.getfield 191, 3) := by decide +kernel
theorem dX6_restore_5 : decode cX6_restore 5 = .ok (.ifCond .eq 7, 3) := by decide +kernel
theorem dX6_restore_8 : decode cX6_restore 8 = .ok (.iconst 0, 1) := by decide +kernel
theorem dX6_restore_9 : decode cX6_restore 9 = .ok (.goto 4, 3) := by decide +kernel
theorem dX6_restore_12 : decode cX6_restore 12 = .ok (.iconst 1, 1) := by decide +kernel
theorem dX6_restore_13 : decode cX6_restore 13 = .ok (.putfield 117, 3) := by decide +kernel
theorem dX6_restore_16 : decode cX6_restore 16 = .ok (.aload_n 0, 1) := by decide +kernel
theorem dX6_restore_17 : decode cX6_restore 17 = .ok (.getfield 117, 3) := by decide +kernel
theorem dX6_restore_20 : decode cX6_restore 20 = .ok (.ifCond .le 5, 3) := by decide +kernel
theorem dX6_restore_23 : decode cX6_restore 23 = .ok (.iconst 0, 1) := by decide +kernel
theorem dX6_restore_24 : decode cX6_restore 24 = .ok (.ireturn, 1) := by decide +kernel
theorem dX6_restore_25 : decode cX6_restore 25 = .ok (.aload_n 0, 1) := by decide +kernel
theorem dX6_restore_26 : decode cX6_restore 26 = .ok (.aload_n 0, 1) := by decide +kernel
theorem dX6_restore_27 : decode cX6_restore 27 = .ok (.getfield 269, 3) := by decide +kernel
theorem dX6_restore_30 : decode cX6_restore 30 = .ok (.putfield 204, 3) := by decide +kernel
theorem dX6_restore_33 : decode cX6_restore 33 = .ok (.aload_n 0, 1) := by decide +kernel
theorem dX6_restore_34 : decode cX6_restore 34 = .ok (.aload_n 0, 1) := by decide +kernel
theorem dX6_restore_35 : decode cX6_restore 35 = .ok (.getfield 272, 3) := by decide +kernel
theorem dX6_restore_38 : decode cX6_restore 38 = .ok (.putfield 210, 3) := by decide +kernel
theorem dX6_restore_41 : decode cX6_restore 41 = .ok (.aload_n 0, 1) := by decide +kernel
theorem dX6_restore_42 : decode cX6_restore 42 = .ok (.aload_n 0, 1) := by decide +kernel
theorem dX6_restore_43 : decode cX6_restore 43 = .ok (.getfield 275, 3) := by decide +kernel
theorem dX6_restore_46 : decode cX6_restore 46 = .ok (.putfield 37, 3) := by decide +kernel
theorem dX6_restore_49 : decode cX6_restore 49 = .ok (.aload_n 0, 1) := by decide +kernel
theorem dX6_restore_50 : decode cX6_restore 50 = .ok (.getfield 90, 3) := by decide +kernel
theorem dX6_restore_53 : decode cX6_restore 53 = .ok (.aload_n 0, 1) := by decide +kernel
theorem dX6_restore_54 : decode cX6_restore 54 = .ok (.getfield 41, 3) := by decide +kernel
theorem dX6_restore_57 : decode cX6_restore 57 = .ok (.invokestatic 278, 3) := by decide +kernel
theorem dX6_restore_60 : decode cX6_restore 60 = .ok (.aload_n 0, 1) := by decide +kernel
theorem dX6_restore_61 : decode cX6_restore 61 = .ok (.getfield 93, 3) := by decide +kernel
theorem dX6_restore_64 : decode cX6_restore 64 = .ok (.aload_n 0, 1) := by decide +kernel
theorem dX6_restore_65 : decode cX6_restore 65 = .ok (.getfield 44, 3) := by decide +kernel
theorem dX6_restore_68 : decode cX6_restore 68 = .ok (.invokestatic 278, 3) := by decide +kernel
theorem dX6_restore_71 : decode cX6_restore 71 = .ok (.aload_n 0, 1) := by decide +kernel
theorem dX6_restore_72 : decode cX6_restore 72 = .ok (.getfield 96, 3) := by decide +kernel
theorem dX6_restore_75 : decode cX6_restore 75 = .ok (.aload_n 0, 1) := by decide +kernel
theorem dX6_restore_76 : decode cX6_restore 76 = .ok (.getfield 47, 3) := by decide +kernel
theorem dX6_restore_79 : decode cX6_restore 79 = .ok (.invokestatic 278, 3) := by decide +kernel
theorem dX6_restore_82 : decode cX6_restore 82 = .ok (.aload_n 0, 1) := by decide +kernel
theorem dX6_restore_83 : decode cX6_restore 83 = .ok (.getfield 99, 3) := by decide +kernel
theorem dX6_restore_86 : decode cX6_restore 86 = .ok (.aload_n 0, 1) := by decide +kernel
theorem dX6_restore_87 : decode cX6_restore 87 = .ok (.getfield 50, 3) := by decide +kernel
theorem dX6_restore_90 : decode cX6_restore 90 = .ok (.invokestatic 278, 3) := by decide +kernel
theorem dX6_restore_93 : decode cX6_restore 93 = .ok (.aload_n 0, 1) := by decide +kernel
theorem dX6_restore_94 : decode cX6_restore 94 = .ok (.getfield 102, 3) := by decide +kernel
theorem dX6_restore_97 : decode cX6_restore 97 = .ok (.aload_n 0, 1) := by decide +kernel
theorem dX6_restore_98 : decode cX6_restore 98 = .ok (.getfield 53, 3) := by decide +kernel
theorem dX6_restore_101 : decode cX6_restore 101 = .ok (.invokestatic 278, 3) := by decide +kernel
theorem dX6_restore_104 : decode cX6_restore 104 = .ok (.aload_n 0, 1) := by decide +kernel
theorem dX6_restore_105 : decode cX6_restore 105 = .ok (.getfield 105, 3) := by decide +kernel
theorem dX6_restore_108 : decode cX6_restore 108 = .ok (.aload_n 0, 1) := by decide +kernel
theorem dX6_restore_109 : decode cX6_restore 109 = .ok (.getfield 56, 3) := by decide +kernel
theorem dX6_restore_112 : decode cX6_restore 112 = .ok (.invokestatic 278, 3) := by decide +kernel
theorem dX6_restore_115 : decode cX6_restore 115 = .ok (.aload_n 0, 1) := by decide +kernel
theorem dX6_restore_116 : decode cX6_restore 116 = .ok (.getfield 108, 3) := by decide +kernel
theorem dX6_restore_119 : decode cX6_restore 119 = .ok (.aload_n 0, 1) := by decide +kernel
theorem dX6_restore_120 : decode cX6_restore 120 = .ok (.getfield 34, 3) := by decide +kernel
theorem dX6_restore_123 : decode cX6_restore 123 = .ok (.invokestatic 278, 3) := by decide +kernel
theorem dX6_restore_126 : decode cX6_restore 126 = .ok (.aload_n 0, 1) := by decide +kernel
theorem dX6_restore_127 : decode cX6_restore 127 = .ok (.getfield 111, 3) := by decide +kernel
theorem dX6_restore_130 : decode cX6_restore 130 = .ok (.aload_n 0, 1) := by decide +kernel
theorem dX6_restore_131 : decode cX6_restore 131 = .ok (.getfield 59, 3) := by decide +kernel
theorem dX6_restore_134 : decode cX6_restore 134 = .ok (.invokestatic 278, 3) := by decide +kernel
theorem dX6_restore_137 : decode cX6_restore 137 = .ok (.aload_n 0, 1) := by decide +kernel
theorem dX6_restore_138 : decode cX6_restore 138 = .ok (.getfield 114, 3) := by decide +kernel
theorem dX6_restore_141 : decode cX6_restore 141 = .ok (.aload_n 0, 1) := by decide +kernel
theorem dX6_restore_142 : decode cX6_restore 142 = .ok (.getfield 62, 3) := by decide +kernel
theorem dX6_restore_145 : decode cX6_restore 145 = .ok (.invokestatic 282, 3) := by decide +kernel
theorem dX6_restore_148 : decode cX6_restore 148 = .ok (.aload_n 0, 1) := by decide +kernel
theorem dX6_restore_149 : decode cX6_restore 149 = .ok (.invokevirtual 286, 3) := by decide +kernel
theorem dX6_restore_152 : decode cX6_restore 152 = .ok (.ireturn, 1) := by decide +kernel
theorem dX6_mix_0 : decode cX6_mix 0 = .ok (.aload_n 0, 1) := by decide +kernel
end
section
theorem dX6_mix_1 : decode cX6_mix 1 = .ok (.ldc2_w 289, 3) := by decide +kernel
theorem dX6_mix_4 : decode cX6_mix 4 = .ok (.aload_n 0, 1) := by decide +kernel
theorem dX6_mix_5 : decode cX6_mix 5 = .ok (.getfield 291, 3) := by decide +kernel
theorem dX6_mix_8 : decode cX6_mix 8 = .ok (.lmul, 1) := by decide +kernel
theorem dX6_mix_9 : decode cX6_mix 9 = .ok (.lload_n 1, 1) := by decide +kernel
theorem dX6_mix_10 : decode cX6_mix 10 = .ok (.ladd, 1) := by decide +kernel
theorem dX6_mix_11 : decode cX6_mix 11 = .ok (.putfield 291, 3) := by decide +kernel
theorem dX6_mix_14 : decode cX6_mix 14 = .ok (.return_, 1) := by decide +kernel
theorem dX6_mixMessages_0 : decode cX6_mixMessages 0 = .ok (.iconst 0, 1) := by decide +kernel
theorem dX6_mixMessages_1 : decode cX6_mixMessages 1 = .ok (.istore_n 1, 1) := by decide +kernel
theorem dX6_mixMessages_2 : decode cX6_mixMessages 2 = .ok (.iload_n 1, 1) := by decide +kernel
theorem dX6_mixMessages_3 : decode cX6_mixMessages 3 = .ok (.bipush 8, 2) := by decide +kernel
theorem dX6_mixMessages_5 : decode cX6_mixMessages 5 = .ok (.if_icmp .ge 86, 3) := by decide +kernel
theorem dX6_mixMessages_8 : decode cX6_mixMessages 8 = .ok (.aload_n 0, 1) := by decide +kernel
theorem dX6_mixMessages_9 : decode cX6_mixMessages 9 = .ok (.aload_n 0, 1) := by decide +kernel
theorem dX6_mixMessages_10 : decode cX6_mixMessages 10 = .ok (.getfield 41, 3) := by decide +kernel
theorem dX6_mixMessages_13 : decode cX6_mixMessages 13 = .ok (.iload_n 1, 1) := by decide +kernel
theorem dX6_mixMessages_14 : decode cX6_mixMessages 14 = .ok (.iaload, 1) := by decide +kernel
theorem dX6_mixMessages_15 : decode cX6_mixMessages 15 = .ok (.i2l, 1) := by decide +kernel
theorem dX6_mixMessages_16 : decode cX6_mixMessages 16 = .ok (.invokevirtual 295, 3) := by decide +kernel
theorem dX6_mixMessages_19 : decode cX6_mixMessages 19 = .ok (.iconst 0, 1) := by decide +kernel
theorem dX6_mixMessages_20 : decode cX6_mixMessages 20 = .ok (.istore_n 2, 1) := by decide +kernel
theorem dX6_mixMessages_21 : decode cX6_mixMessages 21 = .ok (.iload_n 2, 1) := by decide +kernel
theorem dX6_mixMessages_22 : decode cX6_mixMessages 22 = .ok (.aload_n 0, 1) := by decide +kernel
theorem dX6_mixMessages_23 : decode cX6_mixMessages 23 = .ok (.getfield 41, 3) := by decide +kernel
theorem dX6_mixMessages_26 : decode cX6_mixMessages 26 = .ok (.iload_n 1, 1) := by decide +kernel
theorem dX6_mixMessages_27 : decode cX6_mixMessages 27 = .ok (.iaload, 1) := by decide +kernel
theorem dX6_mixMessages_28 : decode cX6_mixMessages 28 = .ok (.if_icmp .ge 57, 3) := by decide +kernel
theorem dX6_mixMessages_31 : decode cX6_mixMessages 31 = .ok (.aload_n 0, 1) := by decide +kernel
theorem dX6_mixMessages_32 : decode cX6_mixMessages 32 = .ok (.aload_n 0, 1) := by decide +kernel
theorem dX6_mixMessages_33 : decode cX6_mixMessages 33 = .ok (.getfield 44, 3) := by decide +kernel
theorem dX6_mixMessages_36 : decode cX6_mixMessages 36 = .ok (.bipush 8, 2) := by decide +kernel
theorem dX6_mixMessages_38 : decode cX6_mixMessages 38 = .ok (.iload_n 1, 1) := by decide +kernel
theorem dX6_mixMessages_39 : decode cX6_mixMessages 39 = .ok (.imul, 1) := by decide +kernel
theorem dX6_mixMessages_40 : decode cX6_mixMessages 40 = .ok (.iload_n 2, 1) := by decide +kernel
theorem dX6_mixMessages_41 : decode cX6_mixMessages 41 = .ok (.iadd, 1) := by decide +kernel
theorem dX6_mixMessages_42 : decode cX6_mixMessages 42 = .ok (.iaload, 1) := by decide +kernel
theorem dX6_mixMessages_43 : decode cX6_mixMessages 43 = .ok (.i2l, 1) := by decide +kernel
theorem dX6_mixMessages_44 : decode cX6_mixMessages 44 = .ok (.invokevirtual 295, 3) := by decide +kernel
theorem dX6_mixMessages_47 : decode cX6_mixMessages 47 = .ok (.aload_n 0, 1) := by decide +kernel
theorem dX6_mixMessages_48 : decode cX6_mixMessages 48 = .ok (.aload_n 0, 1) := by decide +kernel
theorem dX6_mixMessages_49 : decode cX6_mixMessages 49 = .ok (.getfield 47, 3) := by decide +kernel
theorem dX6_mixMessages_52 : decode cX6_mixMessages 52 = .ok (.bipush 8, 2) := by decide +kernel
theorem dX6_mixMessages_54 : decode cX6_mixMessages 54 = .ok (.iload_n 1, 1) := by decide +kernel
theorem dX6_mixMessages_55 : decode cX6_mixMessages 55 = .ok (.imul, 1) := by decide +kernel
theorem dX6_mixMessages_56 : decode cX6_mixMessages 56 = .ok (.iload_n 2, 1) := by decide +kernel
theorem dX6_mixMessages_57 : decode cX6_mixMessages 57 = .ok (.iadd, 1) := by decide +kernel
theorem dX6_mixMessages_58 : decode cX6_mixMessages 58 = .ok (.iaload, 1) := by decide +kernel
theorem dX6_mixMessages_59 : decode cX6_mixMessages 59 = .ok (.i2l, 1) := by decide +kernel
theorem dX6_mixMessages_60 : decode cX6_mixMessages 60 = .ok (.invokevirtual 295, 3) := by decide +kernel
theorem dX6_mixMessages_63 : decode cX6_mixMessages 63 = .ok (.aload_n 0, 1) := by decide +kernel
theorem dX6_mixMessages_64 : decode cX6_mixMessages 64 = .ok (.aload_n 0, 1) := by decide +kernel
theorem dX6_mixMessages_65 : decode cX6_mixMessages 65 = .ok (.getfield 50, 3) := by decide +kernel
theorem dX6_mixMessages_68 : decode cX6_mixMessages 68 = .ok (.bipush 8, 2) := by decide +kernel
theorem dX6_mixMessages_70 : decode cX6_mixMessages 70 = .ok (.iload_n 1, 1) := by decide +kernel
theorem dX6_mixMessages_71 : decode cX6_mixMessages 71 = .ok (.imul, 1) := by decide +kernel
theorem dX6_mixMessages_72 : decode cX6_mixMessages 72 = .ok (.iload_n 2, 1) := by decide +kernel
theorem dX6_mixMessages_73 : decode cX6_mixMessages 73 = .ok (.iadd, 1) := by decide +kernel
theorem dX6_mixMessages_74 : decode cX6_mixMessages 74 = .ok (.iaload, 1) := by decide +kernel
theorem dX6_mixMessages_75 : decode cX6_mixMessages 75 = .ok (.i2l, 1) := by decide +kernel
theorem dX6_mixMessages_76 : decode cX6_mixMessages 76 = .ok (.invokevirtual 295, 3) := by decide +kernel
theorem dX6_mixMessages_79 : decode cX6_mixMessages 79 = .ok (.iinc 2 1, 3) := by decide +kernel
theorem dX6_mixMessages_82 : decode cX6_mixMessages 82 = .ok (.goto (-61), 3) := by decide +kernel
theorem dX6_mixMessages_85 : decode cX6_mixMessages 85 = .ok (.iinc 1 1, 3) := by decide +kernel
theorem dX6_mixMessages_88 : decode cX6_mixMessages 88 = .ok (.goto (-86), 3) := by decide +kernel
theorem dX6_mixMessages_91 : decode cX6_mixMessages 91 = .ok (.return_, 1) := by decide +kernel
theorem dX6_mixTickets_0 : decode cX6_mixTickets 0 = .ok (.aload_n 0, 1) := by decide +kernel
theorem dX6_mixTickets_1 : decode cX6_mixTickets 1 = .ok (.aload_n 0, 1) := by decide +kernel
theorem dX6_mixTickets_2 : decode cX6_mixTickets 2 = .ok (.getfield 210, 3) := by decide +kernel
theorem dX6_mixTickets_5 : decode cX6_mixTickets 5 = .ok (.i2l, 1) := by decide +kernel
theorem dX6_mixTickets_6 : decode cX6_mixTickets 6 = .ok (.invokevirtual 295, 3) := by decide +kernel
theorem dX6_mixTickets_9 : decode cX6_mixTickets 9 = .ok (.aload_n 0, 1) := by decide +kernel
theorem dX6_mixTickets_10 : decode cX6_mixTickets 10 = .ok (.getfield 210, 3) := by decide +kernel
theorem dX6_mixTickets_13 : decode cX6_mixTickets 13 = .ok (.bipush 24, 2) := by decide +kernel
theorem dX6_mixTickets_15 : decode cX6_mixTickets 15 = .ok (.if_icmp .le 13, 3) := by decide +kernel
theorem dX6_mixTickets_18 : decode cX6_mixTickets 18 = .ok (.aload_n 0, 1) := by decide +kernel
theorem dX6_mixTickets_19 : decode cX6_mixTickets 19 = .ok (.getfield 210, 3) := by decide +kernel
theorem dX6_mixTickets_22 : decode cX6_mixTickets 22 = .ok (.bipush 24, 2) := by decide +kernel
theorem dX6_mixTickets_24 : decode cX6_mixTickets 24 = .ok (.isub, 1) := by decide +kernel
theorem dX6_mixTickets_25 : decode cX6_mixTickets 25 = .ok (.goto 4, 3) := by decide +kernel
theorem dX6_mixTickets_28 : decode cX6_mixTickets 28 = .ok (.iconst 0, 1) := by decide +kernel
theorem dX6_mixTickets_29 : decode cX6_mixTickets 29 = .ok (.istore_n 1, 1) := by decide +kernel
theorem dX6_mixTickets_30 : decode cX6_mixTickets 30 = .ok (.iload_n 1, 1) := by decide +kernel
theorem dX6_mixTickets_31 : decode cX6_mixTickets 31 = .ok (.aload_n 0, 1) := by decide +kernel
theorem dX6_mixTickets_32 : decode cX6_mixTickets 32 = .ok (.getfield 210, 3) := by decide +kernel
theorem dX6_mixTickets_35 : decode cX6_mixTickets 35 = .ok (.if_icmp .ge 50, 3) := by decide +kernel
theorem dX6_mixTickets_38 : decode cX6_mixTickets 38 = .ok (.aload_n 0, 1) := by decide +kernel
theorem dX6_mixTickets_39 : decode cX6_mixTickets 39 = .ok (.aload_n 0, 1) := by decide +kernel
theorem dX6_mixTickets_40 : decode cX6_mixTickets 40 = .ok (.getfield 53, 3) := by decide +kernel
theorem dX6_mixTickets_43 : decode cX6_mixTickets 43 = .ok (.iload_n 1, 1) := by decide +kernel
theorem dX6_mixTickets_44 : decode cX6_mixTickets 44 = .ok (.bipush 24, 2) := by decide +kernel
theorem dX6_mixTickets_46 : decode cX6_mixTickets 46 = .ok (.irem, 1) := by decide +kernel
theorem dX6_mixTickets_47 : decode cX6_mixTickets 47 = .ok (.iaload, 1) := by decide +kernel
theorem dX6_mixTickets_48 : decode cX6_mixTickets 48 = .ok (.i2l, 1) := by decide +kernel
theorem dX6_mixTickets_49 : decode cX6_mixTickets 49 = .ok (.invokevirtual 295, 3) := by decide +kernel
theorem dX6_mixTickets_52 : decode cX6_mixTickets 52 = .ok (.aload_n 0, 1) := by decide +kernel
theorem dX6_mixTickets_53 : decode cX6_mixTickets 53 = .ok (.getfield 53, 3) := by decide +kernel
theorem dX6_mixTickets_56 : decode cX6_mixTickets 56 = .ok (.iload_n 1, 1) := by decide +kernel
theorem dX6_mixTickets_57 : decode cX6_mixTickets 57 = .ok (.bipush 24, 2) := by decide +kernel
theorem dX6_mixTickets_59 : decode cX6_mixTickets 59 = .ok (.irem, 1) := by decide +kernel
theorem dX6_mixTickets_60 : decode cX6_mixTickets 60 = .ok (.iaload, 1) := by decide +kernel
theorem dX6_mixTickets_61 : decode cX6_mixTickets 61 = .ok (.iconst 1, 1) := by decide +kernel
theorem dX6_mixTickets_62 : decode cX6_mixTickets 62 = .ok (.if_icmp .ne 17, 3) := by decide +kernel
theorem dX6_mixTickets_65 : decode cX6_mixTickets 65 = .ok (.aload_n 0, 1) := by decide +kernel
theorem dX6_mixTickets_66 : decode cX6_mixTickets 66 = .ok (.aload_n 0, 1) := by decide +kernel
theorem dX6_mixTickets_67 : decode cX6_mixTickets 67 = .ok (.getfield 56, 3) := by decide +kernel
theorem dX6_mixTickets_70 : decode cX6_mixTickets 70 = .ok (.iload_n 1, 1) := by decide +kernel
theorem dX6_mixTickets_71 : decode cX6_mixTickets 71 = .ok (.bipush 24, 2) := by decide +kernel
theorem dX6_mixTickets_73 : decode cX6_mixTickets 73 = .ok (.irem, 1) := by decide +kernel
theorem dX6_mixTickets_74 : decode cX6_mixTickets 74 = .ok (.iaload, 1) := by decide +kernel
theorem dX6_mixTickets_75 : decode cX6_mixTickets 75 = .ok (.i2l, 1) := by decide +kernel
theorem dX6_mixTickets_76 : decode cX6_mixTickets 76 = .ok (.invokevirtual 295, 3) := by decide +kernel
theorem dX6_mixTickets_79 : decode cX6_mixTickets 79 = .ok (.iinc 1 1, 3) := by decide +kernel
theorem dX6_mixTickets_82 : decode cX6_mixTickets 82 = .ok (.goto (-52), 3) := by decide +kernel
theorem dX6_mixTickets_85 : decode cX6_mixTickets 85 = .ok (.return_, 1) := by decide +kernel
theorem dX6_digest_0 : decode cX6_digest 0 = .ok (.aload_n 0, 1) := by decide +kernel
theorem dX6_digest_1 : decode cX6_digest 1 = .ok (.iconst 0, 1) := by decide +kernel
theorem dX6_digest_2 : decode cX6_digest 2 = .ok (.putfield 117, 3) := by decide +kernel
theorem dX6_digest_5 : decode cX6_digest 5 = .ok (.aload_n 0, 1) := by decide +kernel
theorem dX6_digest_6 : decode cX6_digest 6 = .ok (.ldc2_w 299, 3) := by decide +kernel
theorem dX6_digest_9 : decode cX6_digest 9 = .ok (.putfield 291, 3) := by decide +kernel
theorem dX6_digest_12 : decode cX6_digest 12 = .ok (.aload_n 0, 1) := by decide +kernel
theorem dX6_digest_13 : decode cX6_digest 13 = .ok (.aload_n 0, 1) := by decide +kernel
theorem dX6_digest_14 : decode cX6_digest 14 = .ok (.getfield 188, 3) := by decide +kernel
theorem dX6_digest_17 : decode cX6_digest 17 = .ok (.i2l, 1) := by decide +kernel
theorem dX6_digest_18 : decode cX6_digest 18 = .ok (.invokevirtual 295, 3) := by decide +kernel
theorem dX6_digest_21 : decode cX6_digest 21 = .ok (.iconst 0, 1) := by decide +kernel
theorem dX6_digest_22 : decode cX6_digest 22 = .ok (.istore_n 1, 1) := by decide +kernel
theorem dX6_digest_23 : decode cX6_digest 23 = .ok (.iload_n 1, 1) := by decide +kernel
theorem dX6_digest_24 : decode cX6_digest 24 = .ok (.aload_n 0, 1) := by decide +kernel
theorem dX6_digest_25 : decode cX6_digest 25 = .ok (.getfield 188, 3) := by decide +kernel
theorem dX6_digest_28 : decode cX6_digest 28 = .ok (.if_icmp .ge 31, 3) := by decide +kernel
theorem dX6_digest_31 : decode cX6_digest 31 = .ok (.aload_n 0, 1) := by decide +kernel
theorem dX6_digest_32 : decode cX6_digest 32 = .ok (.aload_n 0, 1) := by decide +kernel
theorem dX6_digest_33 : decode cX6_digest 33 = .ok (.getfield 13, 3) := by decide +kernel
theorem dX6_digest_36 : decode cX6_digest 36 = .ok (.iload_n 1, 1) := by decide +kernel
theorem dX6_digest_37 : decode cX6_digest 37 = .ok (.iaload, 1) := by decide +kernel
theorem dX6_digest_38 : decode cX6_digest 38 = .ok (.i2l, 1) := by decide +kernel
theorem dX6_digest_39 : decode cX6_digest 39 = .ok (.invokevirtual 295, 3) := by decide +kernel
theorem dX6_digest_42 : decode cX6_digest 42 = .ok (.aload_n 0, 1) := by decide +kernel
theorem dX6_digest_43 : decode cX6_digest 43 = .ok (.aload_n 0, 1) := by decide +kernel
theorem dX6_digest_44 : decode cX6_digest 44 = .ok (.getfield 34, 3) := by decide +kernel
theorem dX6_digest_47 : decode cX6_digest 47 = .ok (.iload_n 1, 1) := by decide +kernel
theorem dX6_digest_48 : decode cX6_digest 48 = .ok (.iaload, 1) := by decide +kernel
theorem dX6_digest_49 : decode cX6_digest 49 = .ok (.i2l, 1) := by decide +kernel
theorem dX6_digest_50 : decode cX6_digest 50 = .ok (.invokevirtual 295, 3) := by decide +kernel
theorem dX6_digest_53 : decode cX6_digest 53 = .ok (.iinc 1 1, 3) := by decide +kernel
theorem dX6_digest_56 : decode cX6_digest 56 = .ok (.goto (-33), 3) := by decide +kernel
theorem dX6_digest_59 : decode cX6_digest 59 = .ok (.aload_n 0, 1) := by decide +kernel
theorem dX6_digest_60 : decode cX6_digest 60 = .ok (.invokevirtual 301, 3) := by decide +kernel
theorem dX6_digest_63 : decode cX6_digest 63 = .ok (.iconst 0, 1) := by decide +kernel
theorem dX6_digest_64 : decode cX6_digest 64 = .ok (.istore_n 1, 1) := by decide +kernel
theorem dX6_digest_65 : decode cX6_digest 65 = .ok (.iload_n 1, 1) := by decide +kernel
theorem dX6_digest_66 : decode cX6_digest 66 = .ok (.bipush 8, 2) := by decide +kernel
theorem dX6_digest_68 : decode cX6_digest 68 = .ok (.if_icmp .ge 30, 3) := by decide +kernel
theorem dX6_digest_71 : decode cX6_digest 71 = .ok (.aload_n 0, 1) := by decide +kernel
theorem dX6_digest_72 : decode cX6_digest 72 = .ok (.aload_n 0, 1) := by decide +kernel
theorem dX6_digest_73 : decode cX6_digest 73 = .ok (.getfield 59, 3) := by decide +kernel
theorem dX6_digest_76 : decode cX6_digest 76 = .ok (.iload_n 1, 1) := by decide +kernel
theorem dX6_digest_77 : decode cX6_digest 77 = .ok (.iaload, 1) := by decide +kernel
theorem dX6_digest_78 : decode cX6_digest 78 = .ok (.i2l, 1) := by decide +kernel
theorem dX6_digest_79 : decode cX6_digest 79 = .ok (.invokevirtual 295, 3) := by decide +kernel
theorem dX6_digest_82 : decode cX6_digest 82 = .ok (.aload_n 0, 1) := by decide +kernel
theorem dX6_digest_83 : decode cX6_digest 83 = .ok (.aload_n 0, 1) := by decide +kernel
theorem dX6_digest_84 : decode cX6_digest 84 = .ok (.getfield 62, 3) := by decide +kernel
theorem dX6_digest_87 : decode cX6_digest 87 = .ok (.iload_n 1, 1) := by decide +kernel
theorem dX6_digest_88 : decode cX6_digest 88 = .ok (.laload, 1) := by decide +kernel
theorem dX6_digest_89 : decode cX6_digest 89 = .ok (.invokevirtual 295, 3) := by decide +kernel
theorem dX6_digest_92 : decode cX6_digest 92 = .ok (.iinc 1 1, 3) := by decide +kernel
theorem dX6_digest_95 : decode cX6_digest 95 = .ok (.goto (-30), 3) := by decide +kernel
theorem dX6_digest_98 : decode cX6_digest 98 = .ok (.aload_n 0, 1) := by decide +kernel
theorem dX6_digest_99 : decode cX6_digest 99 = .ok (.invokevirtual 304, 3) := by decide +kernel
theorem dX6_digest_102 : decode cX6_digest 102 = .ok (.aload_n 0, 1) := by decide +kernel
theorem dX6_digest_103 : decode cX6_digest 103 = .ok (.aload_n 0, 1) := by decide +kernel
theorem dX6_digest_104 : decode cX6_digest 104 = .ok (.getfield 204, 3) := by decide +kernel
theorem dX6_digest_107 : decode cX6_digest 107 = .ok (.i2l, 1) := by decide +kernel
theorem dX6_digest_108 : decode cX6_digest 108 = .ok (.invokevirtual 295, 3) := by decide +kernel
theorem dX6_digest_111 : decode cX6_digest 111 = .ok (.aload_n 0, 1) := by decide +kernel
theorem dX6_digest_112 : decode cX6_digest 112 = .ok (.aload_n 0, 1) := by decide +kernel
theorem dX6_digest_113 : decode cX6_digest 113 = .ok (.getfield 201, 3) := by decide +kernel
theorem dX6_digest_116 : decode cX6_digest 116 = .ok (.i2l, 1) := by decide +kernel
theorem dX6_digest_117 : decode cX6_digest 117 = .ok (.invokevirtual 295, 3) := by decide +kernel
theorem dX6_digest_120 : decode cX6_digest 120 = .ok (.aload_n 0, 1) := by decide +kernel
theorem dX6_digest_121 : decode cX6_digest 121 = .ok (.aload_n 0, 1) := by decide +kernel
theorem dX6_digest_122 : decode cX6_digest 122 = .ok (.invokevirtual 220, 3) := by decide +kernel
theorem dX6_digest_125 : decode cX6_digest 125 = .ok (.i2l, 1) := by decide +kernel
theorem dX6_digest_126 : decode cX6_digest 126 = .ok (.invokevirtual 295, 3) := by decide +kernel
theorem dX6_digest_129 : decode cX6_digest 129 = .ok (.aload_n 0, 1) := by decide +kernel
theorem dX6_digest_130 : decode cX6_digest 130 = .ok (.aload_n 0, 1) := by decide +kernel
theorem dX6_digest_131 : decode cX6_digest 131 = .ok (.invokevirtual 242, 3) := by decide +kernel
theorem dX6_digest_134 : decode cX6_digest 134 = .ok (.i2l, 1) := by decide +kernel
theorem dX6_digest_135 : decode cX6_digest 135 = .ok (.invokevirtual 295, 3) := by decide +kernel
theorem dX6_digest_138 : decode cX6_digest 138 = .ok (.aload_n 0, 1) := by decide +kernel
theorem dX6_digest_139 : decode cX6_digest 139 = .ok (.aload_n 0, 1) := by decide +kernel
theorem dX6_digest_140 : decode cX6_digest 140 = .ok (.invokevirtual 245, 3) := by decide +kernel
theorem dX6_digest_143 : decode cX6_digest 143 = .ok (.i2l, 1) := by decide +kernel
theorem dX6_digest_144 : decode cX6_digest 144 = .ok (.invokevirtual 295, 3) := by decide +kernel
theorem dX6_digest_147 : decode cX6_digest 147 = .ok (.aload_n 0, 1) := by decide +kernel
theorem dX6_digest_148 : decode cX6_digest 148 = .ok (.aload_n 0, 1) := by decide +kernel
theorem dX6_digest_149 : decode cX6_digest 149 = .ok (.getfield 191, 3) := by decide +kernel
theorem dX6_digest_152 : decode cX6_digest 152 = .ok (.ifCond .eq 7, 3) := by decide +kernel
theorem dX6_digest_155 : decode cX6_digest 155 = .ok (.lconst 1, 1) := by decide +kernel
theorem dX6_digest_156 : decode cX6_digest 156 = .ok (.goto 4, 3) := by decide +kernel
theorem dX6_digest_159 : decode cX6_digest 159 = .ok (.lconst 0, 1) := by decide +kernel
theorem dX6_digest_160 : decode cX6_digest 160 = .ok (.invokevirtual 295, 3) := by decide +kernel
theorem dX6_digest_163 : decode cX6_digest 163 = .ok (.aload_n 0, 1) := by decide +kernel
theorem dX6_digest_164 : decode cX6_digest 164 = .ok (.aload_n 0, 1) := by decide +kernel
theorem dX6_digest_165 : decode cX6_digest 165 = .ok (.getfield 124, 3) := by decide +kernel
theorem dX6_digest_168 : decode cX6_digest 168 = .ok (.i2l, 1) := by decide +kernel
theorem dX6_digest_169 : decode cX6_digest 169 = .ok (.invokevirtual 295, 3) := by decide +kernel
theorem dX6_digest_172 : decode cX6_digest 172 = .ok (.iconst 0, 1) := by decide +kernel
theorem dX6_digest_173 : decode cX6_digest 173 = .ok (.istore_n 1, 1) := by decide +kernel
theorem dX6_digest_174 : decode cX6_digest 174 = .ok (.iload_n 1, 1) := by decide +kernel
theorem dX6_digest_175 : decode cX6_digest 175 = .ok (.aload_n 0, 1) := by decide +kernel
theorem dX6_digest_176 : decode cX6_digest 176 = .ok (.getfield 124, 3) := by decide +kernel
theorem dX6_digest_179 : decode cX6_digest 179 = .ok (.if_icmp .ge 20, 3) := by decide +kernel
theorem dX6_digest_182 : decode cX6_digest 182 = .ok (.aload_n 0, 1) := by decide +kernel
theorem dX6_digest_183 : decode cX6_digest 183 = .ok (.aload_n 0, 1) := by decide +kernel
theorem dX6_digest_184 : decode cX6_digest 184 = .ok (.getfield 7, 3) := by decide +kernel
theorem dX6_digest_187 : decode cX6_digest 187 = .ok (.iload_n 1, 1) := by decide +kernel
theorem dX6_digest_188 : decode cX6_digest 188 = .ok (.iaload, 1) := by decide +kernel
theorem dX6_digest_189 : decode cX6_digest 189 = .ok (.i2l, 1) := by decide +kernel
theorem dX6_digest_190 : decode cX6_digest 190 = .ok (.invokevirtual 295, 3) := by decide +kernel
theorem dX6_digest_193 : decode cX6_digest 193 = .ok (.iinc 1 1, 3) := by decide +kernel
theorem dX6_digest_196 : decode cX6_digest 196 = .ok (.goto (-22), 3) := by decide +kernel
theorem dX6_digest_199 : decode cX6_digest 199 = .ok (.aload_n 0, 1) := by decide +kernel
theorem dX6_digest_200 : decode cX6_digest 200 = .ok (.getfield 291, 3) := by decide +kernel
theorem dX6_digest_203 : decode cX6_digest 203 = .ok (.lreturn, 1) := by decide +kernel
theorem dJ6_bitCount_0f7a4_0 : decode cJ6_bitCount_0f7a4 0 = .ok (.iload_n 0, 1) := by decide +kernel
theorem dJ6_bitCount_0f7a4_1 : decode cJ6_bitCount_0f7a4 1 = .ok (.iload_n 0, 1) := by decide +kernel
theorem dJ6_bitCount_0f7a4_2 : decode cJ6_bitCount_0f7a4 2 = .ok (.iconst 1, 1) := by decide +kernel
theorem dJ6_bitCount_0f7a4_3 : decode cJ6_bitCount_0f7a4 3 = .ok (.iushr, 1) := by decide +kernel
theorem dJ6_bitCount_0f7a4_4 : decode cJ6_bitCount_0f7a4 4 = .ok (.ldc_w 265, 3) := by decide +kernel
theorem dJ6_bitCount_0f7a4_7 : decode cJ6_bitCount_0f7a4 7 = .ok (.iand, 1) := by decide +kernel
theorem dJ6_bitCount_0f7a4_8 : decode cJ6_bitCount_0f7a4 8 = .ok (.isub, 1) := by decide +kernel
theorem dJ6_bitCount_0f7a4_9 : decode cJ6_bitCount_0f7a4 9 = .ok (.istore_n 0, 1) := by decide +kernel
theorem dJ6_bitCount_0f7a4_10 : decode cJ6_bitCount_0f7a4 10 = .ok (.iload_n 0, 1) := by decide +kernel
theorem dJ6_bitCount_0f7a4_11 : decode cJ6_bitCount_0f7a4 11 = .ok (.ldc_w 266, 3) := by decide +kernel
theorem dJ6_bitCount_0f7a4_14 : decode cJ6_bitCount_0f7a4 14 = .ok (.iand, 1) := by decide +kernel
theorem dJ6_bitCount_0f7a4_15 : decode cJ6_bitCount_0f7a4 15 = .ok (.iload_n 0, 1) := by decide +kernel
theorem dJ6_bitCount_0f7a4_16 : decode cJ6_bitCount_0f7a4 16 = .ok (.iconst 2, 1) := by decide +kernel
theorem dJ6_bitCount_0f7a4_17 : decode cJ6_bitCount_0f7a4 17 = .ok (.iushr, 1) := by decide +kernel
theorem dJ6_bitCount_0f7a4_18 : decode cJ6_bitCount_0f7a4 18 = .ok (.ldc_w 266, 3) := by decide +kernel
theorem dJ6_bitCount_0f7a4_21 : decode cJ6_bitCount_0f7a4 21 = .ok (.iand, 1) := by decide +kernel
theorem dJ6_bitCount_0f7a4_22 : decode cJ6_bitCount_0f7a4 22 = .ok (.iadd, 1) := by decide +kernel
theorem dJ6_bitCount_0f7a4_23 : decode cJ6_bitCount_0f7a4 23 = .ok (.istore_n 0, 1) := by decide +kernel
theorem dJ6_bitCount_0f7a4_24 : decode cJ6_bitCount_0f7a4 24 = .ok (.iload_n 0, 1) := by decide +kernel
theorem dJ6_bitCount_0f7a4_25 : decode cJ6_bitCount_0f7a4 25 = .ok (.iload_n 0, 1) := by decide +kernel
theorem dJ6_bitCount_0f7a4_26 : decode cJ6_bitCount_0f7a4 26 = .ok (.iconst 4, 1) := by decide +kernel
theorem dJ6_bitCount_0f7a4_27 : decode cJ6_bitCount_0f7a4 27 = .ok (.iushr, 1) := by decide +kernel
theorem dJ6_bitCount_0f7a4_28 : decode cJ6_bitCount_0f7a4 28 = .ok (.iadd, 1) := by decide +kernel
theorem dJ6_bitCount_0f7a4_29 : decode cJ6_bitCount_0f7a4 29 = .ok (.ldc_w 267, 3) := by decide +kernel
theorem dJ6_bitCount_0f7a4_32 : decode cJ6_bitCount_0f7a4 32 = .ok (.iand, 1) := by decide +kernel
theorem dJ6_bitCount_0f7a4_33 : decode cJ6_bitCount_0f7a4 33 = .ok (.istore_n 0, 1) := by decide +kernel
theorem dJ6_bitCount_0f7a4_34 : decode cJ6_bitCount_0f7a4 34 = .ok (.iload_n 0, 1) := by decide +kernel
theorem dJ6_bitCount_0f7a4_35 : decode cJ6_bitCount_0f7a4 35 = .ok (.iload_n 0, 1) := by decide +kernel
theorem dJ6_bitCount_0f7a4_36 : decode cJ6_bitCount_0f7a4 36 = .ok (.bipush 8, 2) := by decide +kernel
theorem dJ6_bitCount_0f7a4_38 : decode cJ6_bitCount_0f7a4 38 = .ok (.iushr, 1) := by decide +kernel
theorem dJ6_bitCount_0f7a4_39 : decode cJ6_bitCount_0f7a4 39 = .ok (.iadd, 1) := by decide +kernel
theorem dJ6_bitCount_0f7a4_40 : decode cJ6_bitCount_0f7a4 40 = .ok (.istore_n 0, 1) := by decide +kernel
theorem dJ6_bitCount_0f7a4_41 : decode cJ6_bitCount_0f7a4 41 = .ok (.iload_n 0, 1) := by decide +kernel
theorem dJ6_bitCount_0f7a4_42 : decode cJ6_bitCount_0f7a4 42 = .ok (.iload_n 0, 1) := by decide +kernel
theorem dJ6_bitCount_0f7a4_43 : decode cJ6_bitCount_0f7a4 43 = .ok (.bipush 16, 2) := by decide +kernel
theorem dJ6_bitCount_0f7a4_45 : decode cJ6_bitCount_0f7a4 45 = .ok (.iushr, 1) := by decide +kernel
theorem dJ6_bitCount_0f7a4_46 : decode cJ6_bitCount_0f7a4 46 = .ok (.iadd, 1) := by decide +kernel
theorem dJ6_bitCount_0f7a4_47 : decode cJ6_bitCount_0f7a4 47 = .ok (.istore_n 0, 1) := by decide +kernel
theorem dJ6_bitCount_0f7a4_48 : decode cJ6_bitCount_0f7a4 48 = .ok (.iload_n 0, 1) := by decide +kernel
theorem dJ6_bitCount_0f7a4_49 : decode cJ6_bitCount_0f7a4 49 = .ok (.bipush 63, 2) := by decide +kernel
theorem dJ6_bitCount_0f7a4_51 : decode cJ6_bitCount_0f7a4 51 = .ok (.iand, 1) := by decide +kernel
theorem dJ6_bitCount_0f7a4_52 : decode cJ6_bitCount_0f7a4 52 = .ok (.ireturn, 1) := by decide +kernel
theorem dJ9_max_f86c9_0 : decode cJ9_max_f86c9 0 = .ok (.lload_n 0, 1) := by decide +kernel
theorem dJ9_max_f86c9_1 : decode cJ9_max_f86c9 1 = .ok (.lload_n 2, 1) := by decide +kernel
theorem dJ9_max_f86c9_2 : decode cJ9_max_f86c9 2 = .ok (.lcmp, 1) := by decide +kernel
theorem dJ9_max_f86c9_3 : decode cJ9_max_f86c9 3 = .ok (.ifCond .lt 7, 3) := by decide +kernel
theorem dJ9_max_f86c9_6 : decode cJ9_max_f86c9 6 = .ok (.lload_n 0, 1) := by decide +kernel
theorem dJ9_max_f86c9_7 : decode cJ9_max_f86c9 7 = .ok (.goto 4, 3) := by decide +kernel
theorem dJ9_max_f86c9_10 : decode cJ9_max_f86c9 10 = .ok (.lload_n 2, 1) := by decide +kernel
theorem dJ9_max_f86c9_11 : decode cJ9_max_f86c9 11 = .ok (.lreturn, 1) := by decide +kernel
theorem dJ9_min_f86c9_0 : decode cJ9_min_f86c9 0 = .ok (.lload_n 0, 1) := by decide +kernel
theorem dJ9_min_f86c9_1 : decode cJ9_min_f86c9 1 = .ok (.lload_n 2, 1) := by decide +kernel
theorem dJ9_min_f86c9_2 : decode cJ9_min_f86c9 2 = .ok (.lcmp, 1) := by decide +kernel
theorem dJ9_min_f86c9_3 : decode cJ9_min_f86c9 3 = .ok (.ifCond .gt 7, 3) := by decide +kernel
theorem dJ9_min_f86c9_6 : decode cJ9_min_f86c9 6 = .ok (.lload_n 0, 1) := by decide +kernel
theorem dJ9_min_f86c9_7 : decode cJ9_min_f86c9 7 = .ok (.goto 4, 3) := by decide +kernel
theorem dJ9_min_f86c9_10 : decode cJ9_min_f86c9 10 = .ok (.lload_n 2, 1) := by decide +kernel
theorem dJ9_min_f86c9_11 : decode cJ9_min_f86c9 11 = .ok (.lreturn, 1) := by decide +kernel
theorem dJ7_fill_53178_0 : decode cJ7_fill_53178 0 = .ok (.iconst 0, 1) := by decide +kernel
theorem dJ7_fill_53178_1 : decode cJ7_fill_53178 1 = .ok (.istore_n 2, 1) := by decide +kernel
theorem dJ7_fill_53178_2 : decode cJ7_fill_53178 2 = .ok (.aload_n 0, 1) := by decide +kernel
theorem dJ7_fill_53178_3 : decode cJ7_fill_53178 3 = .ok (.arraylength, 1) := by decide +kernel
theorem dJ7_fill_53178_4 : decode cJ7_fill_53178 4 = .ok (.istore_n 3, 1) := by decide +kernel
theorem dJ7_fill_53178_5 : decode cJ7_fill_53178 5 = .ok (.iload_n 2, 1) := by decide +kernel
theorem dJ7_fill_53178_6 : decode cJ7_fill_53178 6 = .ok (.iload_n 3, 1) := by decide +kernel
theorem dJ7_fill_53178_7 : decode cJ7_fill_53178 7 = .ok (.if_icmp .ge 13, 3) := by decide +kernel
theorem dJ7_fill_53178_10 : decode cJ7_fill_53178 10 = .ok (.aload_n 0, 1) := by decide +kernel
theorem dJ7_fill_53178_11 : decode cJ7_fill_53178 11 = .ok (.iload_n 2, 1) := by decide +kernel
theorem dJ7_fill_53178_12 : decode cJ7_fill_53178 12 = .ok (.iload_n 1, 1) := by decide +kernel
theorem dJ7_fill_53178_13 : decode cJ7_fill_53178 13 = .ok (.iastore, 1) := by decide +kernel
theorem dJ7_fill_53178_14 : decode cJ7_fill_53178 14 = .ok (.iinc 2 1, 3) := by decide +kernel
theorem dJ7_fill_53178_17 : decode cJ7_fill_53178 17 = .ok (.goto (-12), 3) := by decide +kernel
theorem dJ7_fill_53178_20 : decode cJ7_fill_53178 20 = .ok (.return_, 1) := by decide +kernel
theorem dL_append_0 : decode cL_append 0 = .ok (.aload_n 2, 1) := by decide +kernel
theorem dL_append_1 : decode cL_append 1 = .ok (.iconst 0, 1) := by decide +kernel
theorem dL_append_2 : decode cL_append 2 = .ok (.aload_n 0, 1) := by decide +kernel
theorem dL_append_3 : decode cL_append 3 = .ok (.iload_n 1, 1) := by decide +kernel
theorem dL_append_4 : decode cL_append 4 = .ok (.invokevirtual 7, 3) := by decide +kernel
theorem dL_append_7 : decode cL_append 7 = .ok (.i2l, 1) := by decide +kernel
theorem dL_append_8 : decode cL_append 8 = .ok (.lastore, 1) := by decide +kernel
theorem dL_append_9 : decode cL_append 9 = .ok (.goto 9, 3) := by decide +kernel
theorem dL_append_12 : decode cL_append 12 = .ok (.astore_n 3, 1) := by decide +kernel
theorem dL_append_13 : decode cL_append 13 = .ok (.iconst 1, 1) := by decide +kernel
theorem dL_append_14 : decode cL_append 14 = .ok (.ireturn, 1) := by decide +kernel
theorem dL_append_15 : decode cL_append 15 = .ok (.astore_n 3, 1) := by decide +kernel
theorem dL_append_16 : decode cL_append 16 = .ok (.iconst 2, 1) := by decide +kernel
theorem dL_append_17 : decode cL_append 17 = .ok (.ireturn, 1) := by decide +kernel
theorem dL_append_18 : decode cL_append 18 = .ok (.iconst 0, 1) := by decide +kernel
theorem dL_append_19 : decode cL_append 19 = .ok (.ireturn, 1) := by decide +kernel
theorem dL_addRule_0 : decode cL_addRule 0 = .ok (.aload_n 1, 1) := by decide +kernel
theorem dL_addRule_1 : decode cL_addRule 1 = .ok (.iconst 0, 1) := by decide +kernel
theorem dL_addRule_2 : decode cL_addRule 2 = .ok (.aload_n 0, 1) := by decide +kernel
theorem dL_addRule_3 : decode cL_addRule 3 = .ok (.invokevirtual 17, 3) := by decide +kernel
theorem dL_addRule_6 : decode cL_addRule 6 = .ok (.i2l, 1) := by decide +kernel
theorem dL_addRule_7 : decode cL_addRule 7 = .ok (.lastore, 1) := by decide +kernel
theorem dL_addRule_8 : decode cL_addRule 8 = .ok (.goto 9, 3) := by decide +kernel
theorem dL_addRule_11 : decode cL_addRule 11 = .ok (.astore_n 2, 1) := by decide +kernel
theorem dL_addRule_12 : decode cL_addRule 12 = .ok (.iconst 1, 1) := by decide +kernel
theorem dL_addRule_13 : decode cL_addRule 13 = .ok (.ireturn, 1) := by decide +kernel
theorem dL_addRule_14 : decode cL_addRule 14 = .ok (.astore_n 2, 1) := by decide +kernel
theorem dL_addRule_15 : decode cL_addRule 15 = .ok (.iconst 2, 1) := by decide +kernel
theorem dL_addRule_16 : decode cL_addRule 16 = .ok (.ireturn, 1) := by decide +kernel
theorem dL_addRule_17 : decode cL_addRule 17 = .ok (.iconst 0, 1) := by decide +kernel
theorem dL_addRule_18 : decode cL_addRule 18 = .ok (.ireturn, 1) := by decide +kernel
theorem dL_removeRule_0 : decode cL_removeRule 0 = .ok (.aload_n 2, 1) := by decide +kernel
theorem dL_removeRule_1 : decode cL_removeRule 1 = .ok (.iconst 0, 1) := by decide +kernel
theorem dL_removeRule_2 : decode cL_removeRule 2 = .ok (.aload_n 0, 1) := by decide +kernel
theorem dL_removeRule_3 : decode cL_removeRule 3 = .ok (.iload_n 1, 1) := by decide +kernel
theorem dL_removeRule_4 : decode cL_removeRule 4 = .ok (.invokevirtual 21, 3) := by decide +kernel
theorem dL_removeRule_7 : decode cL_removeRule 7 = .ok (.i2l, 1) := by decide +kernel
theorem dL_removeRule_8 : decode cL_removeRule 8 = .ok (.lastore, 1) := by decide +kernel
theorem dL_removeRule_9 : decode cL_removeRule 9 = .ok (.goto 6, 3) := by decide +kernel
theorem dL_removeRule_12 : decode cL_removeRule 12 = .ok (.astore_n 3, 1) := by decide +kernel
theorem dL_removeRule_13 : decode cL_removeRule 13 = .ok (.iconst 1, 1) := by decide +kernel
theorem dL_removeRule_14 : decode cL_removeRule 14 = .ok (.ireturn, 1) := by decide +kernel
theorem dL_removeRule_15 : decode cL_removeRule 15 = .ok (.iconst 0, 1) := by decide +kernel
theorem dL_removeRule_16 : decode cL_removeRule 16 = .ok (.ireturn, 1) := by decide +kernel
theorem dL_patternOf_0 : decode cL_patternOf 0 = .ok (.aload_n 2, 1) := by decide +kernel
theorem dL_patternOf_1 : decode cL_patternOf 1 = .ok (.iconst 0, 1) := by decide +kernel
theorem dL_patternOf_2 : decode cL_patternOf 2 = .ok (.aload_n 0, 1) := by decide +kernel
theorem dL_patternOf_3 : decode cL_patternOf 3 = .ok (.iload_n 1, 1) := by decide +kernel
theorem dL_patternOf_4 : decode cL_patternOf 4 = .ok (.invokevirtual 26, 3) := by decide +kernel
theorem dL_patternOf_7 : decode cL_patternOf 7 = .ok (.i2l, 1) := by decide +kernel
theorem dL_patternOf_8 : decode cL_patternOf 8 = .ok (.lastore, 1) := by decide +kernel
theorem dL_patternOf_9 : decode cL_patternOf 9 = .ok (.goto 6, 3) := by decide +kernel
theorem dL_patternOf_12 : decode cL_patternOf 12 = .ok (.astore_n 3, 1) := by decide +kernel
theorem dL_patternOf_13 : decode cL_patternOf 13 = .ok (.iconst 1, 1) := by decide +kernel
theorem dL_patternOf_14 : decode cL_patternOf 14 = .ok (.ireturn, 1) := by decide +kernel
theorem dL_patternOf_15 : decode cL_patternOf 15 = .ok (.iconst 0, 1) := by decide +kernel
theorem dL_patternOf_16 : decode cL_patternOf 16 = .ok (.ireturn, 1) := by decide +kernel
theorem dL_setPolicy_0 : decode cL_setPolicy 0 = .ok (.aload_n 2, 1) := by decide +kernel
theorem dL_setPolicy_1 : decode cL_setPolicy 1 = .ok (.iconst 0, 1) := by decide +kernel
theorem dL_setPolicy_2 : decode cL_setPolicy 2 = .ok (.aload_n 0, 1) := by decide +kernel
theorem dL_setPolicy_3 : decode cL_setPolicy 3 = .ok (.iload_n 1, 1) := by decide +kernel
theorem dL_setPolicy_4 : decode cL_setPolicy 4 = .ok (.invokevirtual 29, 3) := by decide +kernel
theorem dL_setPolicy_7 : decode cL_setPolicy 7 = .ok (.i2l, 1) := by decide +kernel
theorem dL_setPolicy_8 : decode cL_setPolicy 8 = .ok (.lastore, 1) := by decide +kernel
theorem dL_setPolicy_9 : decode cL_setPolicy 9 = .ok (.goto 6, 3) := by decide +kernel
theorem dL_setPolicy_12 : decode cL_setPolicy 12 = .ok (.astore_n 3, 1) := by decide +kernel
theorem dL_setPolicy_13 : decode cL_setPolicy 13 = .ok (.iconst 1, 1) := by decide +kernel
theorem dL_setPolicy_14 : decode cL_setPolicy 14 = .ok (.ireturn, 1) := by decide +kernel
theorem dL_setPolicy_15 : decode cL_setPolicy 15 = .ok (.iconst 0, 1) := by decide +kernel
theorem dL_setPolicy_16 : decode cL_setPolicy 16 = .ok (.ireturn, 1) := by decide +kernel
theorem dL_send_0 : decode cL_send 0 = .ok (.aload_n 3, 1) := by decide +kernel
theorem dL_send_1 : decode cL_send 1 = .ok (.iconst 0, 1) := by decide +kernel
theorem dL_send_2 : decode cL_send 2 = .ok (.aload_n 0, 1) := by decide +kernel
theorem dL_send_3 : decode cL_send 3 = .ok (.iload_n 1, 1) := by decide +kernel
theorem dL_send_4 : decode cL_send 4 = .ok (.iload_n 2, 1) := by decide +kernel
theorem dL_send_5 : decode cL_send 5 = .ok (.invokevirtual 32, 3) := by decide +kernel
theorem dL_send_8 : decode cL_send 8 = .ok (.i2l, 1) := by decide +kernel
theorem dL_send_9 : decode cL_send 9 = .ok (.lastore, 1) := by decide +kernel
theorem dL_send_10 : decode cL_send 10 = .ok (.goto 15, 3) := by decide +kernel
theorem dL_send_13 : decode cL_send 13 = .ok (.astore 4, 2) := by decide +kernel
theorem dL_send_15 : decode cL_send 15 = .ok (.iconst 1, 1) := by decide +kernel
theorem dL_send_16 : decode cL_send 16 = .ok (.ireturn, 1) := by decide +kernel
theorem dL_send_17 : decode cL_send 17 = .ok (.astore 4, 2) := by decide +kernel
theorem dL_send_19 : decode cL_send 19 = .ok (.iconst 2, 1) := by decide +kernel
theorem dL_send_20 : decode cL_send 20 = .ok (.ireturn, 1) := by decide +kernel
theorem dL_send_21 : decode cL_send 21 = .ok (.astore 4, 2) := by decide +kernel
theorem dL_send_23 : decode cL_send 23 = .ok (.iconst 3, 1) := by decide +kernel
theorem dL_send_24 : decode cL_send 24 = .ok (.ireturn, 1) := by decide +kernel
theorem dL_send_25 : decode cL_send 25 = .ok (.iconst 0, 1) := by decide +kernel
theorem dL_send_26 : decode cL_send 26 = .ok (.ireturn, 1) := by decide +kernel
theorem dL_queueLength_0 : decode cL_queueLength 0 = .ok (.aload_n 2, 1) := by decide +kernel
theorem dL_queueLength_1 : decode cL_queueLength 1 = .ok (.iconst 0, 1) := by decide +kernel
theorem dL_queueLength_2 : decode cL_queueLength 2 = .ok (.aload_n 0, 1) := by decide +kernel
theorem dL_queueLength_3 : decode cL_queueLength 3 = .ok (.iload_n 1, 1) := by decide +kernel
theorem dL_queueLength_4 : decode cL_queueLength 4 = .ok (.invokevirtual 36, 3) := by decide +kernel
theorem dL_queueLength_7 : decode cL_queueLength 7 = .ok (.i2l, 1) := by decide +kernel
theorem dL_queueLength_8 : decode cL_queueLength 8 = .ok (.lastore, 1) := by decide +kernel
theorem dL_queueLength_9 : decode cL_queueLength 9 = .ok (.goto 6, 3) := by decide +kernel
theorem dL_queueLength_12 : decode cL_queueLength 12 = .ok (.astore_n 3, 1) := by decide +kernel
theorem dL_queueLength_13 : decode cL_queueLength 13 = .ok (.iconst 1, 1) := by decide +kernel
theorem dL_queueLength_14 : decode cL_queueLength 14 = .ok (.ireturn, 1) := by decide +kernel
theorem dL_queueLength_15 : decode cL_queueLength 15 = .ok (.iconst 0, 1) := by decide +kernel
theorem dL_queueLength_16 : decode cL_queueLength 16 = .ok (.ireturn, 1) := by decide +kernel
theorem dL_messageAt_0 : decode cL_messageAt 0 = .ok (.aload_n 3, 1) := by decide +kernel
theorem dL_messageAt_1 : decode cL_messageAt 1 = .ok (.iconst 0, 1) := by decide +kernel
theorem dL_messageAt_2 : decode cL_messageAt 2 = .ok (.aload_n 0, 1) := by decide +kernel
theorem dL_messageAt_3 : decode cL_messageAt 3 = .ok (.iload_n 1, 1) := by decide +kernel
theorem dL_messageAt_4 : decode cL_messageAt 4 = .ok (.iload_n 2, 1) := by decide +kernel
theorem dL_messageAt_5 : decode cL_messageAt 5 = .ok (.invokevirtual 39, 3) := by decide +kernel
theorem dL_messageAt_8 : decode cL_messageAt 8 = .ok (.i2l, 1) := by decide +kernel
theorem dL_messageAt_9 : decode cL_messageAt 9 = .ok (.lastore, 1) := by decide +kernel
theorem dL_messageAt_10 : decode cL_messageAt 10 = .ok (.goto 7, 3) := by decide +kernel
theorem dL_messageAt_13 : decode cL_messageAt 13 = .ok (.astore 4, 2) := by decide +kernel
theorem dL_messageAt_15 : decode cL_messageAt 15 = .ok (.iconst 1, 1) := by decide +kernel
theorem dL_messageAt_16 : decode cL_messageAt 16 = .ok (.ireturn, 1) := by decide +kernel
theorem dL_messageAt_17 : decode cL_messageAt 17 = .ok (.iconst 0, 1) := by decide +kernel
theorem dL_messageAt_18 : decode cL_messageAt 18 = .ok (.ireturn, 1) := by decide +kernel
theorem dL_matchOf_0 : decode cL_matchOf 0 = .ok (.aload_n 3, 1) := by decide +kernel
theorem dL_matchOf_1 : decode cL_matchOf 1 = .ok (.iconst 0, 1) := by decide +kernel
theorem dL_matchOf_2 : decode cL_matchOf 2 = .ok (.aload_n 0, 1) := by decide +kernel
theorem dL_matchOf_3 : decode cL_matchOf 3 = .ok (.iload_n 1, 1) := by decide +kernel
theorem dL_matchOf_4 : decode cL_matchOf 4 = .ok (.iload_n 2, 1) := by decide +kernel
theorem dL_matchOf_5 : decode cL_matchOf 5 = .ok (.invokevirtual 42, 3) := by decide +kernel
theorem dL_matchOf_8 : decode cL_matchOf 8 = .ok (.i2l, 1) := by decide +kernel
theorem dL_matchOf_9 : decode cL_matchOf 9 = .ok (.lastore, 1) := by decide +kernel
theorem dL_matchOf_10 : decode cL_matchOf 10 = .ok (.goto 11, 3) := by decide +kernel
theorem dL_matchOf_13 : decode cL_matchOf 13 = .ok (.astore 4, 2) := by decide +kernel
theorem dL_matchOf_15 : decode cL_matchOf 15 = .ok (.iconst 1, 1) := by decide +kernel
theorem dL_matchOf_16 : decode cL_matchOf 16 = .ok (.ireturn, 1) := by decide +kernel
theorem dL_matchOf_17 : decode cL_matchOf 17 = .ok (.astore 4, 2) := by decide +kernel
theorem dL_matchOf_19 : decode cL_matchOf 19 = .ok (.iconst 2, 1) := by decide +kernel
theorem dL_matchOf_20 : decode cL_matchOf 20 = .ok (.ireturn, 1) := by decide +kernel
theorem dL_matchOf_21 : decode cL_matchOf 21 = .ok (.iconst 0, 1) := by decide +kernel
theorem dL_matchOf_22 : decode cL_matchOf 22 = .ok (.ireturn, 1) := by decide +kernel
theorem dL_fireRule_0 : decode cL_fireRule 0 = .ok (.aload_n 2, 1) := by decide +kernel
theorem dL_fireRule_1 : decode cL_fireRule 1 = .ok (.iconst 0, 1) := by decide +kernel
theorem dL_fireRule_2 : decode cL_fireRule 2 = .ok (.aload_n 0, 1) := by decide +kernel
theorem dL_fireRule_3 : decode cL_fireRule 3 = .ok (.iload_n 1, 1) := by decide +kernel
theorem dL_fireRule_4 : decode cL_fireRule 4 = .ok (.invokevirtual 45, 3) := by decide +kernel
theorem dL_fireRule_7 : decode cL_fireRule 7 = .ok (.i2l, 1) := by decide +kernel
theorem dL_fireRule_8 : decode cL_fireRule 8 = .ok (.lastore, 1) := by decide +kernel
theorem dL_fireRule_9 : decode cL_fireRule 9 = .ok (.goto 9, 3) := by decide +kernel
theorem dL_fireRule_12 : decode cL_fireRule 12 = .ok (.astore_n 3, 1) := by decide +kernel
theorem dL_fireRule_13 : decode cL_fireRule 13 = .ok (.iconst 1, 1) := by decide +kernel
theorem dL_fireRule_14 : decode cL_fireRule 14 = .ok (.ireturn, 1) := by decide +kernel
theorem dL_fireRule_15 : decode cL_fireRule 15 = .ok (.astore_n 3, 1) := by decide +kernel
theorem dL_fireRule_16 : decode cL_fireRule 16 = .ok (.iconst 2, 1) := by decide +kernel
theorem dL_fireRule_17 : decode cL_fireRule 17 = .ok (.ireturn, 1) := by decide +kernel
theorem dL_fireRule_18 : decode cL_fireRule 18 = .ok (.iconst 0, 1) := by decide +kernel
theorem dL_fireRule_19 : decode cL_fireRule 19 = .ok (.ireturn, 1) := by decide +kernel
theorem dL_run_0 : decode cL_run 0 = .ok (.aload_n 2, 1) := by decide +kernel
theorem dL_run_1 : decode cL_run 1 = .ok (.iconst 0, 1) := by decide +kernel
theorem dL_run_2 : decode cL_run 2 = .ok (.aload_n 0, 1) := by decide +kernel
theorem dL_run_3 : decode cL_run 3 = .ok (.iload_n 1, 1) := by decide +kernel
theorem dL_run_4 : decode cL_run 4 = .ok (.invokevirtual 48, 3) := by decide +kernel
theorem dL_run_7 : decode cL_run 7 = .ok (.i2l, 1) := by decide +kernel
theorem dL_run_8 : decode cL_run 8 = .ok (.lastore, 1) := by decide +kernel
theorem dL_run_9 : decode cL_run 9 = .ok (.goto 6, 3) := by decide +kernel
theorem dL_run_12 : decode cL_run 12 = .ok (.astore_n 3, 1) := by decide +kernel
theorem dL_run_13 : decode cL_run 13 = .ok (.iconst 1, 1) := by decide +kernel
theorem dL_run_14 : decode cL_run 14 = .ok (.ireturn, 1) := by decide +kernel
theorem dL_run_15 : decode cL_run 15 = .ok (.iconst 0, 1) := by decide +kernel
theorem dL_run_16 : decode cL_run 16 = .ok (.ireturn, 1) := by decide +kernel
theorem dL_ticketState_0 : decode cL_ticketState 0 = .ok (.aload_n 2, 1) := by decide +kernel
theorem dL_ticketState_1 : decode cL_ticketState 1 = .ok (.iconst 0, 1) := by decide +kernel
theorem dL_ticketState_2 : decode cL_ticketState 2 = .ok (.aload_n 0, 1) := by decide +kernel
theorem dL_ticketState_3 : decode cL_ticketState 3 = .ok (.iload_n 1, 1) := by decide +kernel
theorem dL_ticketState_4 : decode cL_ticketState 4 = .ok (.invokevirtual 51, 3) := by decide +kernel
theorem dL_ticketState_7 : decode cL_ticketState 7 = .ok (.i2l, 1) := by decide +kernel
theorem dL_ticketState_8 : decode cL_ticketState 8 = .ok (.lastore, 1) := by decide +kernel
theorem dL_ticketState_9 : decode cL_ticketState 9 = .ok (.goto 6, 3) := by decide +kernel
theorem dL_ticketState_12 : decode cL_ticketState 12 = .ok (.astore_n 3, 1) := by decide +kernel
theorem dL_ticketState_13 : decode cL_ticketState 13 = .ok (.iconst 1, 1) := by decide +kernel
theorem dL_ticketState_14 : decode cL_ticketState 14 = .ok (.ireturn, 1) := by decide +kernel
theorem dL_ticketState_15 : decode cL_ticketState 15 = .ok (.iconst 0, 1) := by decide +kernel
theorem dL_ticketState_16 : decode cL_ticketState 16 = .ok (.ireturn, 1) := by decide +kernel
theorem dL_replyOf_0 : decode cL_replyOf 0 = .ok (.aload_n 2, 1) := by decide +kernel
theorem dL_replyOf_1 : decode cL_replyOf 1 = .ok (.iconst 0, 1) := by decide +kernel
theorem dL_replyOf_2 : decode cL_replyOf 2 = .ok (.aload_n 0, 1) := by decide +kernel
theorem dL_replyOf_3 : decode cL_replyOf 3 = .ok (.iload_n 1, 1) := by decide +kernel
theorem dL_replyOf_4 : decode cL_replyOf 4 = .ok (.invokevirtual 54, 3) := by decide +kernel
theorem dL_replyOf_7 : decode cL_replyOf 7 = .ok (.i2l, 1) := by decide +kernel
theorem dL_replyOf_8 : decode cL_replyOf 8 = .ok (.lastore, 1) := by decide +kernel
theorem dL_replyOf_9 : decode cL_replyOf 9 = .ok (.goto 9, 3) := by decide +kernel
theorem dL_replyOf_12 : decode cL_replyOf 12 = .ok (.astore_n 3, 1) := by decide +kernel
theorem dL_replyOf_13 : decode cL_replyOf 13 = .ok (.iconst 1, 1) := by decide +kernel
theorem dL_replyOf_14 : decode cL_replyOf 14 = .ok (.ireturn, 1) := by decide +kernel
theorem dL_replyOf_15 : decode cL_replyOf 15 = .ok (.astore_n 3, 1) := by decide +kernel
theorem dL_replyOf_16 : decode cL_replyOf 16 = .ok (.iconst 2, 1) := by decide +kernel
theorem dL_replyOf_17 : decode cL_replyOf 17 = .ok (.ireturn, 1) := by decide +kernel
theorem dL_replyOf_18 : decode cL_replyOf 18 = .ok (.iconst 0, 1) := by decide +kernel
theorem dL_replyOf_19 : decode cL_replyOf 19 = .ok (.ireturn, 1) := by decide +kernel
theorem dL_firings_0 : decode cL_firings 0 = .ok (.aload_n 2, 1) := by decide +kernel
theorem dL_firings_1 : decode cL_firings 1 = .ok (.iconst 0, 1) := by decide +kernel
theorem dL_firings_2 : decode cL_firings 2 = .ok (.aload_n 0, 1) := by decide +kernel
theorem dL_firings_3 : decode cL_firings 3 = .ok (.iload_n 1, 1) := by decide +kernel
theorem dL_firings_4 : decode cL_firings 4 = .ok (.invokevirtual 57, 3) := by decide +kernel
theorem dL_firings_7 : decode cL_firings 7 = .ok (.i2l, 1) := by decide +kernel
theorem dL_firings_8 : decode cL_firings 8 = .ok (.lastore, 1) := by decide +kernel
theorem dL_firings_9 : decode cL_firings 9 = .ok (.goto 6, 3) := by decide +kernel
theorem dL_firings_12 : decode cL_firings 12 = .ok (.astore_n 3, 1) := by decide +kernel
theorem dL_firings_13 : decode cL_firings 13 = .ok (.iconst 1, 1) := by decide +kernel
theorem dL_firings_14 : decode cL_firings 14 = .ok (.ireturn, 1) := by decide +kernel
theorem dL_firings_15 : decode cL_firings 15 = .ok (.iconst 0, 1) := by decide +kernel
theorem dL_firings_16 : decode cL_firings 16 = .ok (.ireturn, 1) := by decide +kernel
theorem dL_consumed_0 : decode cL_consumed 0 = .ok (.aload_n 2, 1) := by decide +kernel
theorem dL_consumed_1 : decode cL_consumed 1 = .ok (.iconst 0, 1) := by decide +kernel
theorem dL_consumed_2 : decode cL_consumed 2 = .ok (.aload_n 0, 1) := by decide +kernel
theorem dL_consumed_3 : decode cL_consumed 3 = .ok (.iload_n 1, 1) := by decide +kernel
theorem dL_consumed_4 : decode cL_consumed 4 = .ok (.invokevirtual 60, 3) := by decide +kernel
theorem dL_consumed_7 : decode cL_consumed 7 = .ok (.i2l, 1) := by decide +kernel
theorem dL_consumed_8 : decode cL_consumed 8 = .ok (.lastore, 1) := by decide +kernel
theorem dL_consumed_9 : decode cL_consumed 9 = .ok (.goto 6, 3) := by decide +kernel
theorem dL_consumed_12 : decode cL_consumed 12 = .ok (.astore_n 3, 1) := by decide +kernel
theorem dL_consumed_13 : decode cL_consumed 13 = .ok (.iconst 1, 1) := by decide +kernel
theorem dL_consumed_14 : decode cL_consumed 14 = .ok (.ireturn, 1) := by decide +kernel
theorem dL_consumed_15 : decode cL_consumed 15 = .ok (.iconst 0, 1) := by decide +kernel
theorem dL_consumed_16 : decode cL_consumed 16 = .ok (.ireturn, 1) := by decide +kernel
theorem dL_meanWait_0 : decode cL_meanWait 0 = .ok (.aload_n 2, 1) := by decide +kernel
theorem dL_meanWait_1 : decode cL_meanWait 1 = .ok (.iconst 0, 1) := by decide +kernel
theorem dL_meanWait_2 : decode cL_meanWait 2 = .ok (.aload_n 0, 1) := by decide +kernel
theorem dL_meanWait_3 : decode cL_meanWait 3 = .ok (.iload_n 1, 1) := by decide +kernel
theorem dL_meanWait_4 : decode cL_meanWait 4 = .ok (.invokevirtual 63, 3) := by decide +kernel
theorem dL_meanWait_7 : decode cL_meanWait 7 = .ok (.dastore, 1) := by decide +kernel
theorem dL_meanWait_8 : decode cL_meanWait 8 = .ok (.goto 6, 3) := by decide +kernel
theorem dL_meanWait_11 : decode cL_meanWait 11 = .ok (.astore_n 3, 1) := by decide +kernel
theorem dL_meanWait_12 : decode cL_meanWait 12 = .ok (.iconst 1, 1) := by decide +kernel
theorem dL_meanWait_13 : decode cL_meanWait 13 = .ok (.ireturn, 1) := by decide +kernel
theorem dL_meanWait_14 : decode cL_meanWait 14 = .ok (.iconst 0, 1) := by decide +kernel
theorem dL_meanWait_15 : decode cL_meanWait 15 = .ok (.ireturn, 1) := by decide +kernel
theorem dL_shareOf_0 : decode cL_shareOf 0 = .ok (.aload_n 2, 1) := by decide +kernel
theorem dL_shareOf_1 : decode cL_shareOf 1 = .ok (.iconst 0, 1) := by decide +kernel
theorem dL_shareOf_2 : decode cL_shareOf 2 = .ok (.aload_n 0, 1) := by decide +kernel
theorem dL_shareOf_3 : decode cL_shareOf 3 = .ok (.iload_n 1, 1) := by decide +kernel
theorem dL_shareOf_4 : decode cL_shareOf 4 = .ok (.invokevirtual 67, 3) := by decide +kernel
theorem dL_shareOf_7 : decode cL_shareOf 7 = .ok (.f2d, 1) := by decide +kernel
theorem dL_shareOf_8 : decode cL_shareOf 8 = .ok (.dastore, 1) := by decide +kernel
theorem dL_shareOf_9 : decode cL_shareOf 9 = .ok (.goto 6, 3) := by decide +kernel
theorem dL_shareOf_12 : decode cL_shareOf 12 = .ok (.astore_n 3, 1) := by decide +kernel
theorem dL_shareOf_13 : decode cL_shareOf 13 = .ok (.iconst 1, 1) := by decide +kernel
theorem dL_shareOf_14 : decode cL_shareOf 14 = .ok (.ireturn, 1) := by decide +kernel
theorem dL_shareOf_15 : decode cL_shareOf 15 = .ok (.iconst 0, 1) := by decide +kernel
theorem dL_shareOf_16 : decode cL_shareOf 16 = .ok (.ireturn, 1) := by decide +kernel
theorem dL_restore_0 : decode cL_restore 0 = .ok (.aload_n 1, 1) := by decide +kernel
theorem dL_restore_1 : decode cL_restore 1 = .ok (.iconst 0, 1) := by decide +kernel
theorem dL_restore_2 : decode cL_restore 2 = .ok (.aload_n 0, 1) := by decide +kernel
theorem dL_restore_3 : decode cL_restore 3 = .ok (.invokevirtual 71, 3) := by decide +kernel
theorem dL_restore_6 : decode cL_restore 6 = .ok (.i2l, 1) := by decide +kernel
theorem dL_restore_7 : decode cL_restore 7 = .ok (.lastore, 1) := by decide +kernel
theorem dL_restore_8 : decode cL_restore 8 = .ok (.goto 6, 3) := by decide +kernel
theorem dL_restore_11 : decode cL_restore 11 = .ok (.astore_n 2, 1) := by decide +kernel
theorem dL_restore_12 : decode cL_restore 12 = .ok (.iconst 1, 1) := by decide +kernel
theorem dL_restore_13 : decode cL_restore 13 = .ok (.ireturn, 1) := by decide +kernel
theorem dL_restore_14 : decode cL_restore 14 = .ok (.iconst 0, 1) := by decide +kernel
theorem dL_restore_15 : decode cL_restore 15 = .ok (.ireturn, 1) := by decide +kernel
theorem dL_law_0 : decode cL_law 0 = .ok (.new 8, 3) := by decide +kernel
theorem dL_law_3 : decode cL_law 3 = .ok (.dup, 1) := by decide +kernel
theorem dL_law_4 : decode cL_law 4 = .ok (.invokespecial 74, 3) := by decide +kernel
theorem dL_law_7 : decode cL_law 7 = .ok (.astore_n 1, 1) := by decide +kernel
theorem dL_law_8 : decode cL_law 8 = .ok (.new 75, 3) := by decide +kernel
theorem dL_law_11 : decode cL_law 11 = .ok (.dup, 1) := by decide +kernel
theorem dL_law_12 : decode cL_law 12 = .ok (.invokespecial 77, 3) := by decide +kernel
theorem dL_law_15 : decode cL_law 15 = .ok (.astore_n 2, 1) := by decide +kernel
theorem dL_law_16 : decode cL_law 16 = .ok (.iconst 1, 1) := by decide +kernel
theorem dL_law_17 : decode cL_law 17 = .ok (.newarray .long, 2) := by decide +kernel
theorem dL_law_19 : decode cL_law 19 = .ok (.astore_n 3, 1) := by decide +kernel
theorem dL_law_20 : decode cL_law 20 = .ok (.iconst 1, 1) := by decide +kernel
theorem dL_law_21 : decode cL_law 21 = .ok (.newarray .double, 2) := by decide +kernel
theorem dL_law_23 : decode cL_law 23 = .ok (.astore 4, 2) := by decide +kernel
theorem dL_law_25 : decode cL_law 25 = .ok (.iconst 0, 1) := by decide +kernel
theorem dL_law_26 : decode cL_law 26 = .ok (.istore 5, 2) := by decide +kernel
theorem dL_law_28 : decode cL_law 28 = .ok (.iload 5, 2) := by decide +kernel
theorem dL_law_30 : decode cL_law 30 = .ok (.aload_n 0, 1) := by decide +kernel
theorem dL_law_31 : decode cL_law 31 = .ok (.arraylength, 1) := by decide +kernel
theorem dL_law_32 : decode cL_law 32 = .ok (.iconst 3, 1) := by decide +kernel
theorem dL_law_33 : decode cL_law 33 = .ok (.isub, 1) := by decide +kernel
theorem dL_law_34 : decode cL_law 34 = .ok (.if_icmp .gt 1372, 3) := by decide +kernel
theorem dL_law_37 : decode cL_law 37 = .ok (.aload_n 0, 1) := by decide +kernel
theorem dL_law_38 : decode cL_law 38 = .ok (.iload 5, 2) := by decide +kernel
theorem dL_law_40 : decode cL_law 40 = .ok (.iaload, 1) := by decide +kernel
theorem dL_law_41 : decode cL_law 41 = .ok (.bipush 31, 2) := by decide +kernel
theorem dL_law_43 : decode cL_law 43 = .ok (.iand, 1) := by decide +kernel
theorem dL_law_44 : decode cL_law 44 = .ok (.tableswitch 1356 0 29 #[136, 192, 205, 218, 262, 318, 331, 387, 443, 511, 567, 635, 648, 661, 674, 742, 755, 768, 824, 880, 893, 949, 1005, 1061, 1117, 1194, 1272, 1285, 1298, 1342], 136) := by decide +kernel
theorem dL_law_180 : decode cL_law 180 = .ok (.aload_n 1, 1) := by decide +kernel
theorem dL_law_181 : decode cL_law 181 = .ok (.aload_n 0, 1) := by decide +kernel
theorem dL_law_182 : decode cL_law 182 = .ok (.iload 5, 2) := by decide +kernel
theorem dL_law_184 : decode cL_law 184 = .ok (.iconst 1, 1) := by decide +kernel
theorem dL_law_185 : decode cL_law 185 = .ok (.iadd, 1) := by decide +kernel
theorem dL_law_186 : decode cL_law 186 = .ok (.iaload, 1) := by decide +kernel
theorem dL_law_187 : decode cL_law 187 = .ok (.aload_n 3, 1) := by decide +kernel
theorem dL_law_188 : decode cL_law 188 = .ok (.invokestatic 78, 3) := by decide +kernel
theorem dL_law_191 : decode cL_law 191 = .ok (.istore 6, 2) := by decide +kernel
theorem dL_law_193 : decode cL_law 193 = .ok (.aload_n 2, 1) := by decide +kernel
theorem dL_law_194 : decode cL_law 194 = .ok (.aload_n 0, 1) := by decide +kernel
theorem dL_law_195 : decode cL_law 195 = .ok (.iload 5, 2) := by decide +kernel
theorem dL_law_197 : decode cL_law 197 = .ok (.iconst 1, 1) := by decide +kernel
theorem dL_law_198 : decode cL_law 198 = .ok (.iadd, 1) := by decide +kernel
theorem dL_law_199 : decode cL_law 199 = .ok (.iaload, 1) := by decide +kernel
theorem dL_law_200 : decode cL_law 200 = .ok (.invokevirtual 83, 3) := by decide +kernel
theorem dL_law_203 : decode cL_law 203 = .ok (.istore 7, 2) := by decide +kernel
theorem dL_law_205 : decode cL_law 205 = .ok (.aload_n 2, 1) := by decide +kernel
theorem dL_law_206 : decode cL_law 206 = .ok (.invokevirtual 84, 3) := by decide +kernel
theorem dL_law_209 : decode cL_law 209 = .ok (.iload 6, 2) := by decide +kernel
theorem dL_law_211 : decode cL_law 211 = .ok (.if_icmp .eq 5, 3) := by decide +kernel
theorem dL_law_214 : decode cL_law 214 = .ok (.iconst 0, 1) := by decide +kernel
theorem dL_law_215 : decode cL_law 215 = .ok (.ireturn, 1) := by decide +kernel
theorem dL_law_216 : decode cL_law 216 = .ok (.iload 6, 2) := by decide +kernel
theorem dL_law_218 : decode cL_law 218 = .ok (.ifCond .ne 15, 3) := by decide +kernel
theorem dL_law_221 : decode cL_law 221 = .ok (.aload_n 3, 1) := by decide +kernel
theorem dL_law_222 : decode cL_law 222 = .ok (.iconst 0, 1) := by decide +kernel
theorem dL_law_223 : decode cL_law 223 = .ok (.laload, 1) := by decide +kernel
theorem dL_law_224 : decode cL_law 224 = .ok (.iload 7, 2) := by decide +kernel
theorem dL_law_226 : decode cL_law 226 = .ok (.i2l, 1) := by decide +kernel
theorem dL_law_227 : decode cL_law 227 = .ok (.lcmp, 1) := by decide +kernel
theorem dL_law_228 : decode cL_law 228 = .ok (.ifCond .eq 5, 3) := by decide +kernel
theorem dL_law_231 : decode cL_law 231 = .ok (.iconst 0, 1) := by decide +kernel
theorem dL_law_232 : decode cL_law 232 = .ok (.ireturn, 1) := by decide +kernel
theorem dL_law_233 : decode cL_law 233 = .ok (.goto 1167, 3) := by decide +kernel
theorem dL_law_236 : decode cL_law 236 = .ok (.aload_n 1, 1) := by decide +kernel
theorem dL_law_237 : decode cL_law 237 = .ok (.invokevirtual 87, 3) := by decide +kernel
theorem dL_law_240 : decode cL_law 240 = .ok (.aload_n 2, 1) := by decide +kernel
theorem dL_law_241 : decode cL_law 241 = .ok (.invokevirtual 90, 3) := by decide +kernel
theorem dL_law_244 : decode cL_law 244 = .ok (.if_icmp .eq 1156, 3) := by decide +kernel
theorem dL_law_247 : decode cL_law 247 = .ok (.iconst 0, 1) := by decide +kernel
theorem dL_law_248 : decode cL_law 248 = .ok (.ireturn, 1) := by decide +kernel
theorem dL_law_249 : decode cL_law 249 = .ok (.aload_n 1, 1) := by decide +kernel
theorem dL_law_250 : decode cL_law 250 = .ok (.invokevirtual 91, 3) := by decide +kernel
theorem dL_law_253 : decode cL_law 253 = .ok (.aload_n 2, 1) := by decide +kernel
theorem dL_law_254 : decode cL_law 254 = .ok (.invokevirtual 94, 3) := by decide +kernel
theorem dL_law_257 : decode cL_law 257 = .ok (.if_icmp .eq 1143, 3) := by decide +kernel
theorem dL_law_260 : decode cL_law 260 = .ok (.iconst 0, 1) := by decide +kernel
theorem dL_law_261 : decode cL_law 261 = .ok (.ireturn, 1) := by decide +kernel
theorem dL_law_262 : decode cL_law 262 = .ok (.aload_n 1, 1) := by decide +kernel
theorem dL_law_263 : decode cL_law 263 = .ok (.aload_n 3, 1) := by decide +kernel
theorem dL_law_264 : decode cL_law 264 = .ok (.invokestatic 95, 3) := by decide +kernel
theorem dL_law_267 : decode cL_law 267 = .ok (.istore 6, 2) := by decide +kernel
theorem dL_law_269 : decode cL_law 269 = .ok (.aload_n 2, 1) := by decide +kernel
theorem dL_law_270 : decode cL_law 270 = .ok (.invokevirtual 98, 3) := by decide +kernel
theorem dL_law_273 : decode cL_law 273 = .ok (.istore 7, 2) := by decide +kernel
theorem dL_law_275 : decode cL_law 275 = .ok (.aload_n 2, 1) := by decide +kernel
theorem dL_law_276 : decode cL_law 276 = .ok (.invokevirtual 84, 3) := by decide +kernel
theorem dL_law_279 : decode cL_law 279 = .ok (.iload 6, 2) := by decide +kernel
theorem dL_law_281 : decode cL_law 281 = .ok (.if_icmp .eq 5, 3) := by decide +kernel
theorem dL_law_284 : decode cL_law 284 = .ok (.iconst 0, 1) := by decide +kernel
theorem dL_law_285 : decode cL_law 285 = .ok (.ireturn, 1) := by decide +kernel
theorem dL_law_286 : decode cL_law 286 = .ok (.iload 6, 2) := by decide +kernel
theorem dL_law_288 : decode cL_law 288 = .ok (.ifCond .ne 15, 3) := by decide +kernel
theorem dL_law_291 : decode cL_law 291 = .ok (.aload_n 3, 1) := by decide +kernel
theorem dL_law_292 : decode cL_law 292 = .ok (.iconst 0, 1) := by decide +kernel
theorem dL_law_293 : decode cL_law 293 = .ok (.laload, 1) := by decide +kernel
theorem dL_law_294 : decode cL_law 294 = .ok (.iload 7, 2) := by decide +kernel
theorem dL_law_296 : decode cL_law 296 = .ok (.i2l, 1) := by decide +kernel
theorem dL_law_297 : decode cL_law 297 = .ok (.lcmp, 1) := by decide +kernel
theorem dL_law_298 : decode cL_law 298 = .ok (.ifCond .eq 5, 3) := by decide +kernel
theorem dL_law_301 : decode cL_law 301 = .ok (.iconst 0, 1) := by decide +kernel
theorem dL_law_302 : decode cL_law 302 = .ok (.ireturn, 1) := by decide +kernel
theorem dL_law_303 : decode cL_law 303 = .ok (.goto 1097, 3) := by decide +kernel
theorem dL_law_306 : decode cL_law 306 = .ok (.aload_n 1, 1) := by decide +kernel
theorem dL_law_307 : decode cL_law 307 = .ok (.aload_n 0, 1) := by decide +kernel
theorem dL_law_308 : decode cL_law 308 = .ok (.iload 5, 2) := by decide +kernel
theorem dL_law_310 : decode cL_law 310 = .ok (.iconst 1, 1) := by decide +kernel
theorem dL_law_311 : decode cL_law 311 = .ok (.iadd, 1) := by decide +kernel
theorem dL_law_312 : decode cL_law 312 = .ok (.iaload, 1) := by decide +kernel
theorem dL_law_313 : decode cL_law 313 = .ok (.aload_n 3, 1) := by decide +kernel
theorem dL_law_314 : decode cL_law 314 = .ok (.invokestatic 99, 3) := by decide +kernel
theorem dL_law_317 : decode cL_law 317 = .ok (.istore 6, 2) := by decide +kernel
theorem dL_law_319 : decode cL_law 319 = .ok (.aload_n 2, 1) := by decide +kernel
theorem dL_law_320 : decode cL_law 320 = .ok (.aload_n 0, 1) := by decide +kernel
theorem dL_law_321 : decode cL_law 321 = .ok (.iload 5, 2) := by decide +kernel
theorem dL_law_323 : decode cL_law 323 = .ok (.iconst 1, 1) := by decide +kernel
theorem dL_law_324 : decode cL_law 324 = .ok (.iadd, 1) := by decide +kernel
theorem dL_law_325 : decode cL_law 325 = .ok (.iaload, 1) := by decide +kernel
theorem dL_law_326 : decode cL_law 326 = .ok (.invokevirtual 101, 3) := by decide +kernel
theorem dL_law_329 : decode cL_law 329 = .ok (.istore 7, 2) := by decide +kernel
theorem dL_law_331 : decode cL_law 331 = .ok (.aload_n 2, 1) := by decide +kernel
theorem dL_law_332 : decode cL_law 332 = .ok (.invokevirtual 84, 3) := by decide +kernel
theorem dL_law_335 : decode cL_law 335 = .ok (.iload 6, 2) := by decide +kernel
theorem dL_law_337 : decode cL_law 337 = .ok (.if_icmp .eq 5, 3) := by decide +kernel
theorem dL_law_340 : decode cL_law 340 = .ok (.iconst 0, 1) := by decide +kernel
theorem dL_law_341 : decode cL_law 341 = .ok (.ireturn, 1) := by decide +kernel
theorem dL_law_342 : decode cL_law 342 = .ok (.iload 6, 2) := by decide +kernel
theorem dL_law_344 : decode cL_law 344 = .ok (.ifCond .ne 15, 3) := by decide +kernel
theorem dL_law_347 : decode cL_law 347 = .ok (.aload_n 3, 1) := by decide +kernel
theorem dL_law_348 : decode cL_law 348 = .ok (.iconst 0, 1) := by decide +kernel
theorem dL_law_349 : decode cL_law 349 = .ok (.laload, 1) := by decide +kernel
theorem dL_law_350 : decode cL_law 350 = .ok (.iload 7, 2) := by decide +kernel
theorem dL_law_352 : decode cL_law 352 = .ok (.i2l, 1) := by decide +kernel
theorem dL_law_353 : decode cL_law 353 = .ok (.lcmp, 1) := by decide +kernel
theorem dL_law_354 : decode cL_law 354 = .ok (.ifCond .eq 5, 3) := by decide +kernel
theorem dL_law_357 : decode cL_law 357 = .ok (.iconst 0, 1) := by decide +kernel
theorem dL_law_358 : decode cL_law 358 = .ok (.ireturn, 1) := by decide +kernel
theorem dL_law_359 : decode cL_law 359 = .ok (.goto 1041, 3) := by decide +kernel
theorem dL_law_362 : decode cL_law 362 = .ok (.aload_n 1, 1) := by decide +kernel
theorem dL_law_363 : decode cL_law 363 = .ok (.invokevirtual 102, 3) := by decide +kernel
theorem dL_law_366 : decode cL_law 366 = .ok (.aload_n 2, 1) := by decide +kernel
theorem dL_law_367 : decode cL_law 367 = .ok (.invokevirtual 105, 3) := by decide +kernel
theorem dL_law_370 : decode cL_law 370 = .ok (.if_icmp .eq 1030, 3) := by decide +kernel
theorem dL_law_373 : decode cL_law 373 = .ok (.iconst 0, 1) := by decide +kernel
theorem dL_law_374 : decode cL_law 374 = .ok (.ireturn, 1) := by decide +kernel
theorem dL_law_375 : decode cL_law 375 = .ok (.aload_n 1, 1) := by decide +kernel
theorem dL_law_376 : decode cL_law 376 = .ok (.aload_n 0, 1) := by decide +kernel
theorem dL_law_377 : decode cL_law 377 = .ok (.iload 5, 2) := by decide +kernel
theorem dL_law_379 : decode cL_law 379 = .ok (.iconst 1, 1) := by decide +kernel
theorem dL_law_380 : decode cL_law 380 = .ok (.iadd, 1) := by decide +kernel
theorem dL_law_381 : decode cL_law 381 = .ok (.iaload, 1) := by decide +kernel
theorem dL_law_382 : decode cL_law 382 = .ok (.aload_n 3, 1) := by decide +kernel
theorem dL_law_383 : decode cL_law 383 = .ok (.invokestatic 106, 3) := by decide +kernel
theorem dL_law_386 : decode cL_law 386 = .ok (.istore 6, 2) := by decide +kernel
theorem dL_law_388 : decode cL_law 388 = .ok (.aload_n 2, 1) := by decide +kernel
theorem dL_law_389 : decode cL_law 389 = .ok (.aload_n 0, 1) := by decide +kernel
theorem dL_law_390 : decode cL_law 390 = .ok (.iload 5, 2) := by decide +kernel
theorem dL_law_392 : decode cL_law 392 = .ok (.iconst 1, 1) := by decide +kernel
theorem dL_law_393 : decode cL_law 393 = .ok (.iadd, 1) := by decide +kernel
theorem dL_law_394 : decode cL_law 394 = .ok (.iaload, 1) := by decide +kernel
theorem dL_law_395 : decode cL_law 395 = .ok (.invokevirtual 108, 3) := by decide +kernel
theorem dL_law_398 : decode cL_law 398 = .ok (.istore 7, 2) := by decide +kernel
theorem dL_law_400 : decode cL_law 400 = .ok (.aload_n 2, 1) := by decide +kernel
theorem dL_law_401 : decode cL_law 401 = .ok (.invokevirtual 84, 3) := by decide +kernel
theorem dL_law_404 : decode cL_law 404 = .ok (.iload 6, 2) := by decide +kernel
theorem dL_law_406 : decode cL_law 406 = .ok (.if_icmp .eq 5, 3) := by decide +kernel
theorem dL_law_409 : decode cL_law 409 = .ok (.iconst 0, 1) := by decide +kernel
theorem dL_law_410 : decode cL_law 410 = .ok (.ireturn, 1) := by decide +kernel
theorem dL_law_411 : decode cL_law 411 = .ok (.iload 6, 2) := by decide +kernel
theorem dL_law_413 : decode cL_law 413 = .ok (.ifCond .ne 15, 3) := by decide +kernel
theorem dL_law_416 : decode cL_law 416 = .ok (.aload_n 3, 1) := by decide +kernel
theorem dL_law_417 : decode cL_law 417 = .ok (.iconst 0, 1) := by decide +kernel
theorem dL_law_418 : decode cL_law 418 = .ok (.laload, 1) := by decide +kernel
theorem dL_law_419 : decode cL_law 419 = .ok (.iload 7, 2) := by decide +kernel
theorem dL_law_421 : decode cL_law 421 = .ok (.i2l, 1) := by decide +kernel
theorem dL_law_422 : decode cL_law 422 = .ok (.lcmp, 1) := by decide +kernel
theorem dL_law_423 : decode cL_law 423 = .ok (.ifCond .eq 5, 3) := by decide +kernel
theorem dL_law_426 : decode cL_law 426 = .ok (.iconst 0, 1) := by decide +kernel
theorem dL_law_427 : decode cL_law 427 = .ok (.ireturn, 1) := by decide +kernel
theorem dL_law_428 : decode cL_law 428 = .ok (.goto 972, 3) := by decide +kernel
theorem dL_law_431 : decode cL_law 431 = .ok (.aload_n 1, 1) := by decide +kernel
theorem dL_law_432 : decode cL_law 432 = .ok (.aload_n 0, 1) := by decide +kernel
theorem dL_law_433 : decode cL_law 433 = .ok (.iload 5, 2) := by decide +kernel
theorem dL_law_435 : decode cL_law 435 = .ok (.iconst 1, 1) := by decide +kernel
theorem dL_law_436 : decode cL_law 436 = .ok (.iadd, 1) := by decide +kernel
theorem dL_law_437 : decode cL_law 437 = .ok (.iaload, 1) := by decide +kernel
theorem dL_law_438 : decode cL_law 438 = .ok (.aload_n 3, 1) := by decide +kernel
theorem dL_law_439 : decode cL_law 439 = .ok (.invokestatic 109, 3) := by decide +kernel
theorem dL_law_442 : decode cL_law 442 = .ok (.istore 6, 2) := by decide +kernel
theorem dL_law_444 : decode cL_law 444 = .ok (.aload_n 2, 1) := by decide +kernel
theorem dL_law_445 : decode cL_law 445 = .ok (.aload_n 0, 1) := by decide +kernel
theorem dL_law_446 : decode cL_law 446 = .ok (.iload 5, 2) := by decide +kernel
theorem dL_law_448 : decode cL_law 448 = .ok (.iconst 1, 1) := by decide +kernel
theorem dL_law_449 : decode cL_law 449 = .ok (.iadd, 1) := by decide +kernel
theorem dL_law_450 : decode cL_law 450 = .ok (.iaload, 1) := by decide +kernel
theorem dL_law_451 : decode cL_law 451 = .ok (.invokevirtual 111, 3) := by decide +kernel
theorem dL_law_454 : decode cL_law 454 = .ok (.istore 7, 2) := by decide +kernel
theorem dL_law_456 : decode cL_law 456 = .ok (.aload_n 2, 1) := by decide +kernel
theorem dL_law_457 : decode cL_law 457 = .ok (.invokevirtual 84, 3) := by decide +kernel
theorem dL_law_460 : decode cL_law 460 = .ok (.iload 6, 2) := by decide +kernel
theorem dL_law_462 : decode cL_law 462 = .ok (.if_icmp .eq 5, 3) := by decide +kernel
theorem dL_law_465 : decode cL_law 465 = .ok (.iconst 0, 1) := by decide +kernel
theorem dL_law_466 : decode cL_law 466 = .ok (.ireturn, 1) := by decide +kernel
theorem dL_law_467 : decode cL_law 467 = .ok (.iload 6, 2) := by decide +kernel
theorem dL_law_469 : decode cL_law 469 = .ok (.ifCond .ne 15, 3) := by decide +kernel
theorem dL_law_472 : decode cL_law 472 = .ok (.aload_n 3, 1) := by decide +kernel
theorem dL_law_473 : decode cL_law 473 = .ok (.iconst 0, 1) := by decide +kernel
theorem dL_law_474 : decode cL_law 474 = .ok (.laload, 1) := by decide +kernel
theorem dL_law_475 : decode cL_law 475 = .ok (.iload 7, 2) := by decide +kernel
theorem dL_law_477 : decode cL_law 477 = .ok (.i2l, 1) := by decide +kernel
theorem dL_law_478 : decode cL_law 478 = .ok (.lcmp, 1) := by decide +kernel
theorem dL_law_479 : decode cL_law 479 = .ok (.ifCond .eq 5, 3) := by decide +kernel
theorem dL_law_482 : decode cL_law 482 = .ok (.iconst 0, 1) := by decide +kernel
theorem dL_law_483 : decode cL_law 483 = .ok (.ireturn, 1) := by decide +kernel
theorem dL_law_484 : decode cL_law 484 = .ok (.goto 916, 3) := by decide +kernel
theorem dL_law_487 : decode cL_law 487 = .ok (.aload_n 1, 1) := by decide +kernel
theorem dL_law_488 : decode cL_law 488 = .ok (.aload_n 0, 1) := by decide +kernel
theorem dL_law_489 : decode cL_law 489 = .ok (.iload 5, 2) := by decide +kernel
theorem dL_law_491 : decode cL_law 491 = .ok (.iconst 1, 1) := by decide +kernel
theorem dL_law_492 : decode cL_law 492 = .ok (.iadd, 1) := by decide +kernel
theorem dL_law_493 : decode cL_law 493 = .ok (.iaload, 1) := by decide +kernel
theorem dL_law_494 : decode cL_law 494 = .ok (.aload_n 0, 1) := by decide +kernel
theorem dL_law_495 : decode cL_law 495 = .ok (.iload 5, 2) := by decide +kernel
theorem dL_law_497 : decode cL_law 497 = .ok (.iconst 2, 1) := by decide +kernel
theorem dL_law_498 : decode cL_law 498 = .ok (.iadd, 1) := by decide +kernel
theorem dL_law_499 : decode cL_law 499 = .ok (.iaload, 1) := by decide +kernel
theorem dL_law_500 : decode cL_law 500 = .ok (.aload_n 3, 1) := by decide +kernel
theorem dL_law_501 : decode cL_law 501 = .ok (.invokestatic 112, 3) := by decide +kernel
theorem dL_law_504 : decode cL_law 504 = .ok (.istore 6, 2) := by decide +kernel
theorem dL_law_506 : decode cL_law 506 = .ok (.aload_n 2, 1) := by decide +kernel
theorem dL_law_507 : decode cL_law 507 = .ok (.aload_n 0, 1) := by decide +kernel
theorem dL_law_508 : decode cL_law 508 = .ok (.iload 5, 2) := by decide +kernel
theorem dL_law_510 : decode cL_law 510 = .ok (.iconst 1, 1) := by decide +kernel
theorem dL_law_511 : decode cL_law 511 = .ok (.iadd, 1) := by decide +kernel
theorem dL_law_512 : decode cL_law 512 = .ok (.iaload, 1) := by decide +kernel
theorem dL_law_513 : decode cL_law 513 = .ok (.aload_n 0, 1) := by decide +kernel
theorem dL_law_514 : decode cL_law 514 = .ok (.iload 5, 2) := by decide +kernel
theorem dL_law_516 : decode cL_law 516 = .ok (.iconst 2, 1) := by decide +kernel
theorem dL_law_517 : decode cL_law 517 = .ok (.iadd, 1) := by decide +kernel
theorem dL_law_518 : decode cL_law 518 = .ok (.iaload, 1) := by decide +kernel
theorem dL_law_519 : decode cL_law 519 = .ok (.invokevirtual 115, 3) := by decide +kernel
theorem dL_law_522 : decode cL_law 522 = .ok (.istore 7, 2) := by decide +kernel
theorem dL_law_524 : decode cL_law 524 = .ok (.aload_n 2, 1) := by decide +kernel
theorem dL_law_525 : decode cL_law 525 = .ok (.invokevirtual 84, 3) := by decide +kernel
theorem dL_law_528 : decode cL_law 528 = .ok (.iload 6, 2) := by decide +kernel
theorem dL_law_530 : decode cL_law 530 = .ok (.if_icmp .eq 5, 3) := by decide +kernel
theorem dL_law_533 : decode cL_law 533 = .ok (.iconst 0, 1) := by decide +kernel
theorem dL_law_534 : decode cL_law 534 = .ok (.ireturn, 1) := by decide +kernel
theorem dL_law_535 : decode cL_law 535 = .ok (.iload 6, 2) := by decide +kernel
theorem dL_law_537 : decode cL_law 537 = .ok (.ifCond .ne 15, 3) := by decide +kernel
theorem dL_law_540 : decode cL_law 540 = .ok (.aload_n 3, 1) := by decide +kernel
theorem dL_law_541 : decode cL_law 541 = .ok (.iconst 0, 1) := by decide +kernel
theorem dL_law_542 : decode cL_law 542 = .ok (.laload, 1) := by decide +kernel
theorem dL_law_543 : decode cL_law 543 = .ok (.iload 7, 2) := by decide +kernel
theorem dL_law_545 : decode cL_law 545 = .ok (.i2l, 1) := by decide +kernel
theorem dL_law_546 : decode cL_law 546 = .ok (.lcmp, 1) := by decide +kernel
theorem dL_law_547 : decode cL_law 547 = .ok (.ifCond .eq 5, 3) := by decide +kernel
theorem dL_law_550 : decode cL_law 550 = .ok (.iconst 0, 1) := by decide +kernel
theorem dL_law_551 : decode cL_law 551 = .ok (.ireturn, 1) := by decide +kernel
theorem dL_law_552 : decode cL_law 552 = .ok (.goto 848, 3) := by decide +kernel
theorem dL_law_555 : decode cL_law 555 = .ok (.aload_n 1, 1) := by decide +kernel
theorem dL_law_556 : decode cL_law 556 = .ok (.aload_n 0, 1) := by decide +kernel
theorem dL_law_557 : decode cL_law 557 = .ok (.iload 5, 2) := by decide +kernel
theorem dL_law_559 : decode cL_law 559 = .ok (.iconst 1, 1) := by decide +kernel
theorem dL_law_560 : decode cL_law 560 = .ok (.iadd, 1) := by decide +kernel
theorem dL_law_561 : decode cL_law 561 = .ok (.iaload, 1) := by decide +kernel
theorem dL_law_562 : decode cL_law 562 = .ok (.aload_n 3, 1) := by decide +kernel
theorem dL_law_563 : decode cL_law 563 = .ok (.invokestatic 116, 3) := by decide +kernel
theorem dL_law_566 : decode cL_law 566 = .ok (.istore 6, 2) := by decide +kernel
theorem dL_law_568 : decode cL_law 568 = .ok (.aload_n 2, 1) := by decide +kernel
theorem dL_law_569 : decode cL_law 569 = .ok (.aload_n 0, 1) := by decide +kernel
theorem dL_law_570 : decode cL_law 570 = .ok (.iload 5, 2) := by decide +kernel
theorem dL_law_572 : decode cL_law 572 = .ok (.iconst 1, 1) := by decide +kernel
theorem dL_law_573 : decode cL_law 573 = .ok (.iadd, 1) := by decide +kernel
theorem dL_law_574 : decode cL_law 574 = .ok (.iaload, 1) := by decide +kernel
theorem dL_law_575 : decode cL_law 575 = .ok (.invokevirtual 118, 3) := by decide +kernel
theorem dL_law_578 : decode cL_law 578 = .ok (.istore 7, 2) := by decide +kernel
theorem dL_law_580 : decode cL_law 580 = .ok (.aload_n 2, 1) := by decide +kernel
theorem dL_law_581 : decode cL_law 581 = .ok (.invokevirtual 84, 3) := by decide +kernel
theorem dL_law_584 : decode cL_law 584 = .ok (.iload 6, 2) := by decide +kernel
theorem dL_law_586 : decode cL_law 586 = .ok (.if_icmp .eq 5, 3) := by decide +kernel
theorem dL_law_589 : decode cL_law 589 = .ok (.iconst 0, 1) := by decide +kernel
theorem dL_law_590 : decode cL_law 590 = .ok (.ireturn, 1) := by decide +kernel
theorem dL_law_591 : decode cL_law 591 = .ok (.iload 6, 2) := by decide +kernel
theorem dL_law_593 : decode cL_law 593 = .ok (.ifCond .ne 15, 3) := by decide +kernel
theorem dL_law_596 : decode cL_law 596 = .ok (.aload_n 3, 1) := by decide +kernel
theorem dL_law_597 : decode cL_law 597 = .ok (.iconst 0, 1) := by decide +kernel
theorem dL_law_598 : decode cL_law 598 = .ok (.laload, 1) := by decide +kernel
theorem dL_law_599 : decode cL_law 599 = .ok (.iload 7, 2) := by decide +kernel
theorem dL_law_601 : decode cL_law 601 = .ok (.i2l, 1) := by decide +kernel
theorem dL_law_602 : decode cL_law 602 = .ok (.lcmp, 1) := by decide +kernel
theorem dL_law_603 : decode cL_law 603 = .ok (.ifCond .eq 5, 3) := by decide +kernel
theorem dL_law_606 : decode cL_law 606 = .ok (.iconst 0, 1) := by decide +kernel
theorem dL_law_607 : decode cL_law 607 = .ok (.ireturn, 1) := by decide +kernel
theorem dL_law_608 : decode cL_law 608 = .ok (.goto 792, 3) := by decide +kernel
theorem dL_law_611 : decode cL_law 611 = .ok (.aload_n 1, 1) := by decide +kernel
theorem dL_law_612 : decode cL_law 612 = .ok (.aload_n 0, 1) := by decide +kernel
theorem dL_law_613 : decode cL_law 613 = .ok (.iload 5, 2) := by decide +kernel
theorem dL_law_615 : decode cL_law 615 = .ok (.iconst 1, 1) := by decide +kernel
theorem dL_law_616 : decode cL_law 616 = .ok (.iadd, 1) := by decide +kernel
theorem dL_law_617 : decode cL_law 617 = .ok (.iaload, 1) := by decide +kernel
theorem dL_law_618 : decode cL_law 618 = .ok (.aload_n 0, 1) := by decide +kernel
theorem dL_law_619 : decode cL_law 619 = .ok (.iload 5, 2) := by decide +kernel
theorem dL_law_621 : decode cL_law 621 = .ok (.iconst 2, 1) := by decide +kernel
theorem dL_law_622 : decode cL_law 622 = .ok (.iadd, 1) := by decide +kernel
theorem dL_law_623 : decode cL_law 623 = .ok (.iaload, 1) := by decide +kernel
theorem dL_law_624 : decode cL_law 624 = .ok (.aload_n 3, 1) := by decide +kernel
theorem dL_law_625 : decode cL_law 625 = .ok (.invokestatic 119, 3) := by decide +kernel
theorem dL_law_628 : decode cL_law 628 = .ok (.istore 6, 2) := by decide +kernel
theorem dL_law_630 : decode cL_law 630 = .ok (.aload_n 2, 1) := by decide +kernel
theorem dL_law_631 : decode cL_law 631 = .ok (.aload_n 0, 1) := by decide +kernel
theorem dL_law_632 : decode cL_law 632 = .ok (.iload 5, 2) := by decide +kernel
theorem dL_law_634 : decode cL_law 634 = .ok (.iconst 1, 1) := by decide +kernel
theorem dL_law_635 : decode cL_law 635 = .ok (.iadd, 1) := by decide +kernel
theorem dL_law_636 : decode cL_law 636 = .ok (.iaload, 1) := by decide +kernel
theorem dL_law_637 : decode cL_law 637 = .ok (.aload_n 0, 1) := by decide +kernel
theorem dL_law_638 : decode cL_law 638 = .ok (.iload 5, 2) := by decide +kernel
theorem dL_law_640 : decode cL_law 640 = .ok (.iconst 2, 1) := by decide +kernel
theorem dL_law_641 : decode cL_law 641 = .ok (.iadd, 1) := by decide +kernel
theorem dL_law_642 : decode cL_law 642 = .ok (.iaload, 1) := by decide +kernel
theorem dL_law_643 : decode cL_law 643 = .ok (.invokevirtual 121, 3) := by decide +kernel
theorem dL_law_646 : decode cL_law 646 = .ok (.istore 7, 2) := by decide +kernel
theorem dL_law_648 : decode cL_law 648 = .ok (.aload_n 2, 1) := by decide +kernel
theorem dL_law_649 : decode cL_law 649 = .ok (.invokevirtual 84, 3) := by decide +kernel
theorem dL_law_652 : decode cL_law 652 = .ok (.iload 6, 2) := by decide +kernel
theorem dL_law_654 : decode cL_law 654 = .ok (.if_icmp .eq 5, 3) := by decide +kernel
theorem dL_law_657 : decode cL_law 657 = .ok (.iconst 0, 1) := by decide +kernel
theorem dL_law_658 : decode cL_law 658 = .ok (.ireturn, 1) := by decide +kernel
theorem dL_law_659 : decode cL_law 659 = .ok (.iload 6, 2) := by decide +kernel
theorem dL_law_661 : decode cL_law 661 = .ok (.ifCond .ne 15, 3) := by decide +kernel
theorem dL_law_664 : decode cL_law 664 = .ok (.aload_n 3, 1) := by decide +kernel
theorem dL_law_665 : decode cL_law 665 = .ok (.iconst 0, 1) := by decide +kernel
theorem dL_law_666 : decode cL_law 666 = .ok (.laload, 1) := by decide +kernel
theorem dL_law_667 : decode cL_law 667 = .ok (.iload 7, 2) := by decide +kernel
theorem dL_law_669 : decode cL_law 669 = .ok (.i2l, 1) := by decide +kernel
theorem dL_law_670 : decode cL_law 670 = .ok (.lcmp, 1) := by decide +kernel
theorem dL_law_671 : decode cL_law 671 = .ok (.ifCond .eq 5, 3) := by decide +kernel
theorem dL_law_674 : decode cL_law 674 = .ok (.iconst 0, 1) := by decide +kernel
theorem dL_law_675 : decode cL_law 675 = .ok (.ireturn, 1) := by decide +kernel
theorem dL_law_676 : decode cL_law 676 = .ok (.goto 724, 3) := by decide +kernel
theorem dL_law_679 : decode cL_law 679 = .ok (.aload_n 1, 1) := by decide +kernel
theorem dL_law_680 : decode cL_law 680 = .ok (.invokevirtual 122, 3) := by decide +kernel
theorem dL_law_683 : decode cL_law 683 = .ok (.aload_n 2, 1) := by decide +kernel
theorem dL_law_684 : decode cL_law 684 = .ok (.invokevirtual 125, 3) := by decide +kernel
theorem dL_law_687 : decode cL_law 687 = .ok (.if_icmp .eq 713, 3) := by decide +kernel
theorem dL_law_690 : decode cL_law 690 = .ok (.iconst 0, 1) := by decide +kernel
theorem dL_law_691 : decode cL_law 691 = .ok (.ireturn, 1) := by decide +kernel
theorem dL_law_692 : decode cL_law 692 = .ok (.aload_n 1, 1) := by decide +kernel
theorem dL_law_693 : decode cL_law 693 = .ok (.invokevirtual 126, 3) := by decide +kernel
theorem dL_law_696 : decode cL_law 696 = .ok (.aload_n 2, 1) := by decide +kernel
theorem dL_law_697 : decode cL_law 697 = .ok (.invokevirtual 129, 3) := by decide +kernel
theorem dL_law_700 : decode cL_law 700 = .ok (.if_icmp .eq 700, 3) := by decide +kernel
theorem dL_law_703 : decode cL_law 703 = .ok (.iconst 0, 1) := by decide +kernel
theorem dL_law_704 : decode cL_law 704 = .ok (.ireturn, 1) := by decide +kernel
theorem dL_law_705 : decode cL_law 705 = .ok (.aload_n 1, 1) := by decide +kernel
theorem dL_law_706 : decode cL_law 706 = .ok (.invokevirtual 130, 3) := by decide +kernel
theorem dL_law_709 : decode cL_law 709 = .ok (.aload_n 2, 1) := by decide +kernel
theorem dL_law_710 : decode cL_law 710 = .ok (.invokevirtual 133, 3) := by decide +kernel
theorem dL_law_713 : decode cL_law 713 = .ok (.if_icmp .eq 687, 3) := by decide +kernel
theorem dL_law_716 : decode cL_law 716 = .ok (.iconst 0, 1) := by decide +kernel
theorem dL_law_717 : decode cL_law 717 = .ok (.ireturn, 1) := by decide +kernel
theorem dL_law_718 : decode cL_law 718 = .ok (.aload_n 1, 1) := by decide +kernel
theorem dL_law_719 : decode cL_law 719 = .ok (.aload_n 0, 1) := by decide +kernel
theorem dL_law_720 : decode cL_law 720 = .ok (.iload 5, 2) := by decide +kernel
theorem dL_law_722 : decode cL_law 722 = .ok (.iconst 1, 1) := by decide +kernel
theorem dL_law_723 : decode cL_law 723 = .ok (.iadd, 1) := by decide +kernel
theorem dL_law_724 : decode cL_law 724 = .ok (.iaload, 1) := by decide +kernel
theorem dL_law_725 : decode cL_law 725 = .ok (.aload_n 0, 1) := by decide +kernel
theorem dL_law_726 : decode cL_law 726 = .ok (.iload 5, 2) := by decide +kernel
theorem dL_law_728 : decode cL_law 728 = .ok (.iconst 2, 1) := by decide +kernel
theorem dL_law_729 : decode cL_law 729 = .ok (.iadd, 1) := by decide +kernel
theorem dL_law_730 : decode cL_law 730 = .ok (.iaload, 1) := by decide +kernel
theorem dL_law_731 : decode cL_law 731 = .ok (.aload_n 3, 1) := by decide +kernel
theorem dL_law_732 : decode cL_law 732 = .ok (.invokestatic 134, 3) := by decide +kernel
theorem dL_law_735 : decode cL_law 735 = .ok (.istore 6, 2) := by decide +kernel
theorem dL_law_737 : decode cL_law 737 = .ok (.aload_n 2, 1) := by decide +kernel
theorem dL_law_738 : decode cL_law 738 = .ok (.aload_n 0, 1) := by decide +kernel
theorem dL_law_739 : decode cL_law 739 = .ok (.iload 5, 2) := by decide +kernel
theorem dL_law_741 : decode cL_law 741 = .ok (.iconst 1, 1) := by decide +kernel
theorem dL_law_742 : decode cL_law 742 = .ok (.iadd, 1) := by decide +kernel
theorem dL_law_743 : decode cL_law 743 = .ok (.iaload, 1) := by decide +kernel
theorem dL_law_744 : decode cL_law 744 = .ok (.aload_n 0, 1) := by decide +kernel
theorem dL_law_745 : decode cL_law 745 = .ok (.iload 5, 2) := by decide +kernel
theorem dL_law_747 : decode cL_law 747 = .ok (.iconst 2, 1) := by decide +kernel
theorem dL_law_748 : decode cL_law 748 = .ok (.iadd, 1) := by decide +kernel
theorem dL_law_749 : decode cL_law 749 = .ok (.iaload, 1) := by decide +kernel
theorem dL_law_750 : decode cL_law 750 = .ok (.invokevirtual 136, 3) := by decide +kernel
theorem dL_law_753 : decode cL_law 753 = .ok (.istore 7, 2) := by decide +kernel
theorem dL_law_755 : decode cL_law 755 = .ok (.aload_n 2, 1) := by decide +kernel
theorem dL_law_756 : decode cL_law 756 = .ok (.invokevirtual 84, 3) := by decide +kernel
theorem dL_law_759 : decode cL_law 759 = .ok (.iload 6, 2) := by decide +kernel
theorem dL_law_761 : decode cL_law 761 = .ok (.if_icmp .eq 5, 3) := by decide +kernel
theorem dL_law_764 : decode cL_law 764 = .ok (.iconst 0, 1) := by decide +kernel
theorem dL_law_765 : decode cL_law 765 = .ok (.ireturn, 1) := by decide +kernel
theorem dL_law_766 : decode cL_law 766 = .ok (.iload 6, 2) := by decide +kernel
theorem dL_law_768 : decode cL_law 768 = .ok (.ifCond .ne 15, 3) := by decide +kernel
theorem dL_law_771 : decode cL_law 771 = .ok (.aload_n 3, 1) := by decide +kernel
theorem dL_law_772 : decode cL_law 772 = .ok (.iconst 0, 1) := by decide +kernel
theorem dL_law_773 : decode cL_law 773 = .ok (.laload, 1) := by decide +kernel
theorem dL_law_774 : decode cL_law 774 = .ok (.iload 7, 2) := by decide +kernel
theorem dL_law_776 : decode cL_law 776 = .ok (.i2l, 1) := by decide +kernel
theorem dL_law_777 : decode cL_law 777 = .ok (.lcmp, 1) := by decide +kernel
theorem dL_law_778 : decode cL_law 778 = .ok (.ifCond .eq 5, 3) := by decide +kernel
theorem dL_law_781 : decode cL_law 781 = .ok (.iconst 0, 1) := by decide +kernel
theorem dL_law_782 : decode cL_law 782 = .ok (.ireturn, 1) := by decide +kernel
theorem dL_law_783 : decode cL_law 783 = .ok (.goto 617, 3) := by decide +kernel
theorem dL_law_786 : decode cL_law 786 = .ok (.aload_n 1, 1) := by decide +kernel
theorem dL_law_787 : decode cL_law 787 = .ok (.invokevirtual 137, 3) := by decide +kernel
theorem dL_law_790 : decode cL_law 790 = .ok (.aload_n 2, 1) := by decide +kernel
theorem dL_law_791 : decode cL_law 791 = .ok (.invokevirtual 140, 3) := by decide +kernel
theorem dL_law_794 : decode cL_law 794 = .ok (.if_icmp .eq 606, 3) := by decide +kernel
theorem dL_law_797 : decode cL_law 797 = .ok (.iconst 0, 1) := by decide +kernel
theorem dL_law_798 : decode cL_law 798 = .ok (.ireturn, 1) := by decide +kernel
theorem dL_law_799 : decode cL_law 799 = .ok (.aload_n 1, 1) := by decide +kernel
theorem dL_law_800 : decode cL_law 800 = .ok (.invokevirtual 141, 3) := by decide +kernel
theorem dL_law_803 : decode cL_law 803 = .ok (.aload_n 2, 1) := by decide +kernel
theorem dL_law_804 : decode cL_law 804 = .ok (.invokevirtual 144, 3) := by decide +kernel
theorem dL_law_807 : decode cL_law 807 = .ok (.if_icmp .eq 593, 3) := by decide +kernel
theorem dL_law_810 : decode cL_law 810 = .ok (.iconst 0, 1) := by decide +kernel
theorem dL_law_811 : decode cL_law 811 = .ok (.ireturn, 1) := by decide +kernel
theorem dL_law_812 : decode cL_law 812 = .ok (.aload_n 1, 1) := by decide +kernel
theorem dL_law_813 : decode cL_law 813 = .ok (.aload_n 0, 1) := by decide +kernel
theorem dL_law_814 : decode cL_law 814 = .ok (.iload 5, 2) := by decide +kernel
theorem dL_law_816 : decode cL_law 816 = .ok (.iconst 1, 1) := by decide +kernel
theorem dL_law_817 : decode cL_law 817 = .ok (.iadd, 1) := by decide +kernel
theorem dL_law_818 : decode cL_law 818 = .ok (.iaload, 1) := by decide +kernel
theorem dL_law_819 : decode cL_law 819 = .ok (.aload_n 3, 1) := by decide +kernel
theorem dL_law_820 : decode cL_law 820 = .ok (.invokestatic 145, 3) := by decide +kernel
theorem dL_law_823 : decode cL_law 823 = .ok (.istore 6, 2) := by decide +kernel
theorem dL_law_825 : decode cL_law 825 = .ok (.aload_n 2, 1) := by decide +kernel
theorem dL_law_826 : decode cL_law 826 = .ok (.aload_n 0, 1) := by decide +kernel
theorem dL_law_827 : decode cL_law 827 = .ok (.iload 5, 2) := by decide +kernel
theorem dL_law_829 : decode cL_law 829 = .ok (.iconst 1, 1) := by decide +kernel
theorem dL_law_830 : decode cL_law 830 = .ok (.iadd, 1) := by decide +kernel
theorem dL_law_831 : decode cL_law 831 = .ok (.iaload, 1) := by decide +kernel
theorem dL_law_832 : decode cL_law 832 = .ok (.invokevirtual 147, 3) := by decide +kernel
theorem dL_law_835 : decode cL_law 835 = .ok (.istore 7, 2) := by decide +kernel
theorem dL_law_837 : decode cL_law 837 = .ok (.aload_n 2, 1) := by decide +kernel
theorem dL_law_838 : decode cL_law 838 = .ok (.invokevirtual 84, 3) := by decide +kernel
theorem dL_law_841 : decode cL_law 841 = .ok (.iload 6, 2) := by decide +kernel
theorem dL_law_843 : decode cL_law 843 = .ok (.if_icmp .eq 5, 3) := by decide +kernel
theorem dL_law_846 : decode cL_law 846 = .ok (.iconst 0, 1) := by decide +kernel
theorem dL_law_847 : decode cL_law 847 = .ok (.ireturn, 1) := by decide +kernel
theorem dL_law_848 : decode cL_law 848 = .ok (.iload 6, 2) := by decide +kernel
theorem dL_law_850 : decode cL_law 850 = .ok (.ifCond .ne 15, 3) := by decide +kernel
theorem dL_law_853 : decode cL_law 853 = .ok (.aload_n 3, 1) := by decide +kernel
theorem dL_law_854 : decode cL_law 854 = .ok (.iconst 0, 1) := by decide +kernel
theorem dL_law_855 : decode cL_law 855 = .ok (.laload, 1) := by decide +kernel
theorem dL_law_856 : decode cL_law 856 = .ok (.iload 7, 2) := by decide +kernel
theorem dL_law_858 : decode cL_law 858 = .ok (.i2l, 1) := by decide +kernel
theorem dL_law_859 : decode cL_law 859 = .ok (.lcmp, 1) := by decide +kernel
theorem dL_law_860 : decode cL_law 860 = .ok (.ifCond .eq 5, 3) := by decide +kernel
theorem dL_law_863 : decode cL_law 863 = .ok (.iconst 0, 1) := by decide +kernel
theorem dL_law_864 : decode cL_law 864 = .ok (.ireturn, 1) := by decide +kernel
theorem dL_law_865 : decode cL_law 865 = .ok (.goto 535, 3) := by decide +kernel
theorem dL_law_868 : decode cL_law 868 = .ok (.aload_n 1, 1) := by decide +kernel
theorem dL_law_869 : decode cL_law 869 = .ok (.aload_n 0, 1) := by decide +kernel
theorem dL_law_870 : decode cL_law 870 = .ok (.iload 5, 2) := by decide +kernel
theorem dL_law_872 : decode cL_law 872 = .ok (.iconst 1, 1) := by decide +kernel
theorem dL_law_873 : decode cL_law 873 = .ok (.iadd, 1) := by decide +kernel
theorem dL_law_874 : decode cL_law 874 = .ok (.iaload, 1) := by decide +kernel
theorem dL_law_875 : decode cL_law 875 = .ok (.aload_n 3, 1) := by decide +kernel
theorem dL_law_876 : decode cL_law 876 = .ok (.invokestatic 148, 3) := by decide +kernel
theorem dL_law_879 : decode cL_law 879 = .ok (.istore 6, 2) := by decide +kernel
theorem dL_law_881 : decode cL_law 881 = .ok (.aload_n 2, 1) := by decide +kernel
theorem dL_law_882 : decode cL_law 882 = .ok (.aload_n 0, 1) := by decide +kernel
theorem dL_law_883 : decode cL_law 883 = .ok (.iload 5, 2) := by decide +kernel
theorem dL_law_885 : decode cL_law 885 = .ok (.iconst 1, 1) := by decide +kernel
theorem dL_law_886 : decode cL_law 886 = .ok (.iadd, 1) := by decide +kernel
theorem dL_law_887 : decode cL_law 887 = .ok (.iaload, 1) := by decide +kernel
theorem dL_law_888 : decode cL_law 888 = .ok (.invokevirtual 150, 3) := by decide +kernel
theorem dL_law_891 : decode cL_law 891 = .ok (.istore 7, 2) := by decide +kernel
theorem dL_law_893 : decode cL_law 893 = .ok (.aload_n 2, 1) := by decide +kernel
theorem dL_law_894 : decode cL_law 894 = .ok (.invokevirtual 84, 3) := by decide +kernel
theorem dL_law_897 : decode cL_law 897 = .ok (.iload 6, 2) := by decide +kernel
theorem dL_law_899 : decode cL_law 899 = .ok (.if_icmp .eq 5, 3) := by decide +kernel
theorem dL_law_902 : decode cL_law 902 = .ok (.iconst 0, 1) := by decide +kernel
theorem dL_law_903 : decode cL_law 903 = .ok (.ireturn, 1) := by decide +kernel
theorem dL_law_904 : decode cL_law 904 = .ok (.iload 6, 2) := by decide +kernel
theorem dL_law_906 : decode cL_law 906 = .ok (.ifCond .ne 15, 3) := by decide +kernel
theorem dL_law_909 : decode cL_law 909 = .ok (.aload_n 3, 1) := by decide +kernel
theorem dL_law_910 : decode cL_law 910 = .ok (.iconst 0, 1) := by decide +kernel
theorem dL_law_911 : decode cL_law 911 = .ok (.laload, 1) := by decide +kernel
theorem dL_law_912 : decode cL_law 912 = .ok (.iload 7, 2) := by decide +kernel
theorem dL_law_914 : decode cL_law 914 = .ok (.i2l, 1) := by decide +kernel
theorem dL_law_915 : decode cL_law 915 = .ok (.lcmp, 1) := by decide +kernel
theorem dL_law_916 : decode cL_law 916 = .ok (.ifCond .eq 5, 3) := by decide +kernel
theorem dL_law_919 : decode cL_law 919 = .ok (.iconst 0, 1) := by decide +kernel
theorem dL_law_920 : decode cL_law 920 = .ok (.ireturn, 1) := by decide +kernel
theorem dL_law_921 : decode cL_law 921 = .ok (.goto 479, 3) := by decide +kernel
theorem dL_law_924 : decode cL_law 924 = .ok (.aload_n 1, 1) := by decide +kernel
theorem dL_law_925 : decode cL_law 925 = .ok (.invokevirtual 151, 3) := by decide +kernel
theorem dL_law_928 : decode cL_law 928 = .ok (.aload_n 2, 1) := by decide +kernel
theorem dL_law_929 : decode cL_law 929 = .ok (.invokevirtual 155, 3) := by decide +kernel
theorem dL_law_932 : decode cL_law 932 = .ok (.if_icmp .eq 468, 3) := by decide +kernel
theorem dL_law_935 : decode cL_law 935 = .ok (.iconst 0, 1) := by decide +kernel
theorem dL_law_936 : decode cL_law 936 = .ok (.ireturn, 1) := by decide +kernel
theorem dL_law_937 : decode cL_law 937 = .ok (.aload_n 1, 1) := by decide +kernel
theorem dL_law_938 : decode cL_law 938 = .ok (.aload_n 0, 1) := by decide +kernel
theorem dL_law_939 : decode cL_law 939 = .ok (.iload 5, 2) := by decide +kernel
theorem dL_law_941 : decode cL_law 941 = .ok (.iconst 1, 1) := by decide +kernel
theorem dL_law_942 : decode cL_law 942 = .ok (.iadd, 1) := by decide +kernel
theorem dL_law_943 : decode cL_law 943 = .ok (.iaload, 1) := by decide +kernel
theorem dL_law_944 : decode cL_law 944 = .ok (.aload_n 3, 1) := by decide +kernel
theorem dL_law_945 : decode cL_law 945 = .ok (.invokestatic 156, 3) := by decide +kernel
theorem dL_law_948 : decode cL_law 948 = .ok (.istore 6, 2) := by decide +kernel
theorem dL_law_950 : decode cL_law 950 = .ok (.aload_n 2, 1) := by decide +kernel
theorem dL_law_951 : decode cL_law 951 = .ok (.aload_n 0, 1) := by decide +kernel
theorem dL_law_952 : decode cL_law 952 = .ok (.iload 5, 2) := by decide +kernel
theorem dL_law_954 : decode cL_law 954 = .ok (.iconst 1, 1) := by decide +kernel
theorem dL_law_955 : decode cL_law 955 = .ok (.iadd, 1) := by decide +kernel
theorem dL_law_956 : decode cL_law 956 = .ok (.iaload, 1) := by decide +kernel
theorem dL_law_957 : decode cL_law 957 = .ok (.invokevirtual 158, 3) := by decide +kernel
theorem dL_law_960 : decode cL_law 960 = .ok (.istore 7, 2) := by decide +kernel
theorem dL_law_962 : decode cL_law 962 = .ok (.aload_n 2, 1) := by decide +kernel
theorem dL_law_963 : decode cL_law 963 = .ok (.invokevirtual 84, 3) := by decide +kernel
theorem dL_law_966 : decode cL_law 966 = .ok (.iload 6, 2) := by decide +kernel
theorem dL_law_968 : decode cL_law 968 = .ok (.if_icmp .eq 5, 3) := by decide +kernel
theorem dL_law_971 : decode cL_law 971 = .ok (.iconst 0, 1) := by decide +kernel
theorem dL_law_972 : decode cL_law 972 = .ok (.ireturn, 1) := by decide +kernel
theorem dL_law_973 : decode cL_law 973 = .ok (.iload 6, 2) := by decide +kernel
theorem dL_law_975 : decode cL_law 975 = .ok (.ifCond .ne 15, 3) := by decide +kernel
theorem dL_law_978 : decode cL_law 978 = .ok (.aload_n 3, 1) := by decide +kernel
theorem dL_law_979 : decode cL_law 979 = .ok (.iconst 0, 1) := by decide +kernel
theorem dL_law_980 : decode cL_law 980 = .ok (.laload, 1) := by decide +kernel
theorem dL_law_981 : decode cL_law 981 = .ok (.iload 7, 2) := by decide +kernel
theorem dL_law_983 : decode cL_law 983 = .ok (.i2l, 1) := by decide +kernel
theorem dL_law_984 : decode cL_law 984 = .ok (.lcmp, 1) := by decide +kernel
theorem dL_law_985 : decode cL_law 985 = .ok (.ifCond .eq 5, 3) := by decide +kernel
theorem dL_law_988 : decode cL_law 988 = .ok (.iconst 0, 1) := by decide +kernel
theorem dL_law_989 : decode cL_law 989 = .ok (.ireturn, 1) := by decide +kernel
theorem dL_law_990 : decode cL_law 990 = .ok (.goto 410, 3) := by decide +kernel
theorem dL_law_993 : decode cL_law 993 = .ok (.aload_n 1, 1) := by decide +kernel
theorem dL_law_994 : decode cL_law 994 = .ok (.aload_n 0, 1) := by decide +kernel
theorem dL_law_995 : decode cL_law 995 = .ok (.iload 5, 2) := by decide +kernel
theorem dL_law_997 : decode cL_law 997 = .ok (.iconst 1, 1) := by decide +kernel
theorem dL_law_998 : decode cL_law 998 = .ok (.iadd, 1) := by decide +kernel
theorem dL_law_999 : decode cL_law 999 = .ok (.iaload, 1) := by decide +kernel
theorem dL_law_1000 : decode cL_law 1000 = .ok (.aload_n 3, 1) := by decide +kernel
theorem dL_law_1001 : decode cL_law 1001 = .ok (.invokestatic 159, 3) := by decide +kernel
theorem dL_law_1004 : decode cL_law 1004 = .ok (.istore 6, 2) := by decide +kernel
theorem dL_law_1006 : decode cL_law 1006 = .ok (.aload_n 2, 1) := by decide +kernel
theorem dL_law_1007 : decode cL_law 1007 = .ok (.aload_n 0, 1) := by decide +kernel
theorem dL_law_1008 : decode cL_law 1008 = .ok (.iload 5, 2) := by decide +kernel
theorem dL_law_1010 : decode cL_law 1010 = .ok (.iconst 1, 1) := by decide +kernel
theorem dL_law_1011 : decode cL_law 1011 = .ok (.iadd, 1) := by decide +kernel
theorem dL_law_1012 : decode cL_law 1012 = .ok (.iaload, 1) := by decide +kernel
theorem dL_law_1013 : decode cL_law 1013 = .ok (.invokevirtual 161, 3) := by decide +kernel
theorem dL_law_1016 : decode cL_law 1016 = .ok (.istore 7, 2) := by decide +kernel
theorem dL_law_1018 : decode cL_law 1018 = .ok (.aload_n 2, 1) := by decide +kernel
theorem dL_law_1019 : decode cL_law 1019 = .ok (.invokevirtual 84, 3) := by decide +kernel
theorem dL_law_1022 : decode cL_law 1022 = .ok (.iload 6, 2) := by decide +kernel
theorem dL_law_1024 : decode cL_law 1024 = .ok (.if_icmp .eq 5, 3) := by decide +kernel
theorem dL_law_1027 : decode cL_law 1027 = .ok (.iconst 0, 1) := by decide +kernel
theorem dL_law_1028 : decode cL_law 1028 = .ok (.ireturn, 1) := by decide +kernel
theorem dL_law_1029 : decode cL_law 1029 = .ok (.iload 6, 2) := by decide +kernel
theorem dL_law_1031 : decode cL_law 1031 = .ok (.ifCond .ne 15, 3) := by decide +kernel
theorem dL_law_1034 : decode cL_law 1034 = .ok (.aload_n 3, 1) := by decide +kernel
theorem dL_law_1035 : decode cL_law 1035 = .ok (.iconst 0, 1) := by decide +kernel
theorem dL_law_1036 : decode cL_law 1036 = .ok (.laload, 1) := by decide +kernel
theorem dL_law_1037 : decode cL_law 1037 = .ok (.iload 7, 2) := by decide +kernel
theorem dL_law_1039 : decode cL_law 1039 = .ok (.i2l, 1) := by decide +kernel
theorem dL_law_1040 : decode cL_law 1040 = .ok (.lcmp, 1) := by decide +kernel
theorem dL_law_1041 : decode cL_law 1041 = .ok (.ifCond .eq 5, 3) := by decide +kernel
theorem dL_law_1044 : decode cL_law 1044 = .ok (.iconst 0, 1) := by decide +kernel
theorem dL_law_1045 : decode cL_law 1045 = .ok (.ireturn, 1) := by decide +kernel
theorem dL_law_1046 : decode cL_law 1046 = .ok (.goto 354, 3) := by decide +kernel
theorem dL_law_1049 : decode cL_law 1049 = .ok (.aload_n 1, 1) := by decide +kernel
theorem dL_law_1050 : decode cL_law 1050 = .ok (.aload_n 0, 1) := by decide +kernel
theorem dL_law_1051 : decode cL_law 1051 = .ok (.iload 5, 2) := by decide +kernel
theorem dL_law_1053 : decode cL_law 1053 = .ok (.iconst 1, 1) := by decide +kernel
theorem dL_law_1054 : decode cL_law 1054 = .ok (.iadd, 1) := by decide +kernel
theorem dL_law_1055 : decode cL_law 1055 = .ok (.iaload, 1) := by decide +kernel
theorem dL_law_1056 : decode cL_law 1056 = .ok (.aload_n 3, 1) := by decide +kernel
theorem dL_law_1057 : decode cL_law 1057 = .ok (.invokestatic 162, 3) := by decide +kernel
theorem dL_law_1060 : decode cL_law 1060 = .ok (.istore 6, 2) := by decide +kernel
theorem dL_law_1062 : decode cL_law 1062 = .ok (.aload_n 2, 1) := by decide +kernel
theorem dL_law_1063 : decode cL_law 1063 = .ok (.aload_n 0, 1) := by decide +kernel
theorem dL_law_1064 : decode cL_law 1064 = .ok (.iload 5, 2) := by decide +kernel
theorem dL_law_1066 : decode cL_law 1066 = .ok (.iconst 1, 1) := by decide +kernel
theorem dL_law_1067 : decode cL_law 1067 = .ok (.iadd, 1) := by decide +kernel
theorem dL_law_1068 : decode cL_law 1068 = .ok (.iaload, 1) := by decide +kernel
theorem dL_law_1069 : decode cL_law 1069 = .ok (.invokevirtual 164, 3) := by decide +kernel
theorem dL_law_1072 : decode cL_law 1072 = .ok (.istore 7, 2) := by decide +kernel
theorem dL_law_1074 : decode cL_law 1074 = .ok (.aload_n 2, 1) := by decide +kernel
theorem dL_law_1075 : decode cL_law 1075 = .ok (.invokevirtual 84, 3) := by decide +kernel
theorem dL_law_1078 : decode cL_law 1078 = .ok (.iload 6, 2) := by decide +kernel
theorem dL_law_1080 : decode cL_law 1080 = .ok (.if_icmp .eq 5, 3) := by decide +kernel
theorem dL_law_1083 : decode cL_law 1083 = .ok (.iconst 0, 1) := by decide +kernel
theorem dL_law_1084 : decode cL_law 1084 = .ok (.ireturn, 1) := by decide +kernel
theorem dL_law_1085 : decode cL_law 1085 = .ok (.iload 6, 2) := by decide +kernel
theorem dL_law_1087 : decode cL_law 1087 = .ok (.ifCond .ne 15, 3) := by decide +kernel
theorem dL_law_1090 : decode cL_law 1090 = .ok (.aload_n 3, 1) := by decide +kernel
theorem dL_law_1091 : decode cL_law 1091 = .ok (.iconst 0, 1) := by decide +kernel
theorem dL_law_1092 : decode cL_law 1092 = .ok (.laload, 1) := by decide +kernel
theorem dL_law_1093 : decode cL_law 1093 = .ok (.iload 7, 2) := by decide +kernel
theorem dL_law_1095 : decode cL_law 1095 = .ok (.i2l, 1) := by decide +kernel
theorem dL_law_1096 : decode cL_law 1096 = .ok (.lcmp, 1) := by decide +kernel
theorem dL_law_1097 : decode cL_law 1097 = .ok (.ifCond .eq 5, 3) := by decide +kernel
theorem dL_law_1100 : decode cL_law 1100 = .ok (.iconst 0, 1) := by decide +kernel
theorem dL_law_1101 : decode cL_law 1101 = .ok (.ireturn, 1) := by decide +kernel
theorem dL_law_1102 : decode cL_law 1102 = .ok (.goto 298, 3) := by decide +kernel
theorem dL_law_1105 : decode cL_law 1105 = .ok (.aload_n 1, 1) := by decide +kernel
theorem dL_law_1106 : decode cL_law 1106 = .ok (.aload_n 0, 1) := by decide +kernel
theorem dL_law_1107 : decode cL_law 1107 = .ok (.iload 5, 2) := by decide +kernel
theorem dL_law_1109 : decode cL_law 1109 = .ok (.iconst 1, 1) := by decide +kernel
theorem dL_law_1110 : decode cL_law 1110 = .ok (.iadd, 1) := by decide +kernel
theorem dL_law_1111 : decode cL_law 1111 = .ok (.iaload, 1) := by decide +kernel
theorem dL_law_1112 : decode cL_law 1112 = .ok (.aload_n 3, 1) := by decide +kernel
theorem dL_law_1113 : decode cL_law 1113 = .ok (.invokestatic 165, 3) := by decide +kernel
theorem dL_law_1116 : decode cL_law 1116 = .ok (.istore 6, 2) := by decide +kernel
theorem dL_law_1118 : decode cL_law 1118 = .ok (.aload_n 2, 1) := by decide +kernel
theorem dL_law_1119 : decode cL_law 1119 = .ok (.aload_n 0, 1) := by decide +kernel
theorem dL_law_1120 : decode cL_law 1120 = .ok (.iload 5, 2) := by decide +kernel
theorem dL_law_1122 : decode cL_law 1122 = .ok (.iconst 1, 1) := by decide +kernel
theorem dL_law_1123 : decode cL_law 1123 = .ok (.iadd, 1) := by decide +kernel
theorem dL_law_1124 : decode cL_law 1124 = .ok (.iaload, 1) := by decide +kernel
theorem dL_law_1125 : decode cL_law 1125 = .ok (.invokevirtual 167, 3) := by decide +kernel
theorem dL_law_1128 : decode cL_law 1128 = .ok (.istore 7, 2) := by decide +kernel
theorem dL_law_1130 : decode cL_law 1130 = .ok (.aload_n 2, 1) := by decide +kernel
theorem dL_law_1131 : decode cL_law 1131 = .ok (.invokevirtual 84, 3) := by decide +kernel
theorem dL_law_1134 : decode cL_law 1134 = .ok (.iload 6, 2) := by decide +kernel
theorem dL_law_1136 : decode cL_law 1136 = .ok (.if_icmp .eq 5, 3) := by decide +kernel
theorem dL_law_1139 : decode cL_law 1139 = .ok (.iconst 0, 1) := by decide +kernel
theorem dL_law_1140 : decode cL_law 1140 = .ok (.ireturn, 1) := by decide +kernel
theorem dL_law_1141 : decode cL_law 1141 = .ok (.iload 6, 2) := by decide +kernel
theorem dL_law_1143 : decode cL_law 1143 = .ok (.ifCond .ne 15, 3) := by decide +kernel
theorem dL_law_1146 : decode cL_law 1146 = .ok (.aload_n 3, 1) := by decide +kernel
theorem dL_law_1147 : decode cL_law 1147 = .ok (.iconst 0, 1) := by decide +kernel
theorem dL_law_1148 : decode cL_law 1148 = .ok (.laload, 1) := by decide +kernel
theorem dL_law_1149 : decode cL_law 1149 = .ok (.iload 7, 2) := by decide +kernel
theorem dL_law_1151 : decode cL_law 1151 = .ok (.i2l, 1) := by decide +kernel
theorem dL_law_1152 : decode cL_law 1152 = .ok (.lcmp, 1) := by decide +kernel
theorem dL_law_1153 : decode cL_law 1153 = .ok (.ifCond .eq 5, 3) := by decide +kernel
theorem dL_law_1156 : decode cL_law 1156 = .ok (.iconst 0, 1) := by decide +kernel
theorem dL_law_1157 : decode cL_law 1157 = .ok (.ireturn, 1) := by decide +kernel
theorem dL_law_1158 : decode cL_law 1158 = .ok (.goto 242, 3) := by decide +kernel
theorem dL_law_1161 : decode cL_law 1161 = .ok (.aload_n 1, 1) := by decide +kernel
theorem dL_law_1162 : decode cL_law 1162 = .ok (.aload_n 0, 1) := by decide +kernel
theorem dL_law_1163 : decode cL_law 1163 = .ok (.iload 5, 2) := by decide +kernel
theorem dL_law_1165 : decode cL_law 1165 = .ok (.iconst 1, 1) := by decide +kernel
theorem dL_law_1166 : decode cL_law 1166 = .ok (.iadd, 1) := by decide +kernel
theorem dL_law_1167 : decode cL_law 1167 = .ok (.iaload, 1) := by decide +kernel
theorem dL_law_1168 : decode cL_law 1168 = .ok (.aload 4, 2) := by decide +kernel
theorem dL_law_1170 : decode cL_law 1170 = .ok (.invokestatic 168, 3) := by decide +kernel
theorem dL_law_1173 : decode cL_law 1173 = .ok (.istore 6, 2) := by decide +kernel
theorem dL_law_1175 : decode cL_law 1175 = .ok (.aload_n 2, 1) := by decide +kernel
theorem dL_law_1176 : decode cL_law 1176 = .ok (.aload_n 0, 1) := by decide +kernel
theorem dL_law_1177 : decode cL_law 1177 = .ok (.iload 5, 2) := by decide +kernel
theorem dL_law_1179 : decode cL_law 1179 = .ok (.iconst 1, 1) := by decide +kernel
theorem dL_law_1180 : decode cL_law 1180 = .ok (.iadd, 1) := by decide +kernel
theorem dL_law_1181 : decode cL_law 1181 = .ok (.iaload, 1) := by decide +kernel
theorem dL_law_1182 : decode cL_law 1182 = .ok (.invokevirtual 171, 3) := by decide +kernel
theorem dL_law_1185 : decode cL_law 1185 = .ok (.dstore 7, 2) := by decide +kernel
theorem dL_law_1187 : decode cL_law 1187 = .ok (.aload_n 2, 1) := by decide +kernel
theorem dL_law_1188 : decode cL_law 1188 = .ok (.invokevirtual 84, 3) := by decide +kernel
theorem dL_law_1191 : decode cL_law 1191 = .ok (.iload 6, 2) := by decide +kernel
theorem dL_law_1193 : decode cL_law 1193 = .ok (.if_icmp .eq 5, 3) := by decide +kernel
theorem dL_law_1196 : decode cL_law 1196 = .ok (.iconst 0, 1) := by decide +kernel
theorem dL_law_1197 : decode cL_law 1197 = .ok (.ireturn, 1) := by decide +kernel
theorem dL_law_1198 : decode cL_law 1198 = .ok (.iload 6, 2) := by decide +kernel
theorem dL_law_1200 : decode cL_law 1200 = .ok (.ifCond .ne 35, 3) := by decide +kernel
theorem dL_law_1203 : decode cL_law 1203 = .ok (.aload 4, 2) := by decide +kernel
theorem dL_law_1205 : decode cL_law 1205 = .ok (.iconst 0, 1) := by decide +kernel
theorem dL_law_1206 : decode cL_law 1206 = .ok (.daload, 1) := by decide +kernel
theorem dL_law_1207 : decode cL_law 1207 = .ok (.dload 7, 2) := by decide +kernel
theorem dL_law_1209 : decode cL_law 1209 = .ok (.dcmp .l, 1) := by decide +kernel
theorem dL_law_1210 : decode cL_law 1210 = .ok (.ifCond .eq 25, 3) := by decide +kernel
theorem dL_law_1213 : decode cL_law 1213 = .ok (.aload 4, 2) := by decide +kernel
theorem dL_law_1215 : decode cL_law 1215 = .ok (.iconst 0, 1) := by decide +kernel
theorem dL_law_1216 : decode cL_law 1216 = .ok (.daload, 1) := by decide +kernel
theorem dL_law_1217 : decode cL_law 1217 = .ok (.aload 4, 2) := by decide +kernel
theorem dL_law_1219 : decode cL_law 1219 = .ok (.iconst 0, 1) := by decide +kernel
theorem dL_law_1220 : decode cL_law 1220 = .ok (.daload, 1) := by decide +kernel
theorem dL_law_1221 : decode cL_law 1221 = .ok (.dcmp .l, 1) := by decide +kernel
theorem dL_law_1222 : decode cL_law 1222 = .ok (.ifCond .eq 11, 3) := by decide +kernel
theorem dL_law_1225 : decode cL_law 1225 = .ok (.dload 7, 2) := by decide +kernel
theorem dL_law_1227 : decode cL_law 1227 = .ok (.dload 7, 2) := by decide +kernel
theorem dL_law_1229 : decode cL_law 1229 = .ok (.dcmp .l, 1) := by decide +kernel
theorem dL_law_1230 : decode cL_law 1230 = .ok (.ifCond .ne 5, 3) := by decide +kernel
theorem dL_law_1233 : decode cL_law 1233 = .ok (.iconst 0, 1) := by decide +kernel
theorem dL_law_1234 : decode cL_law 1234 = .ok (.ireturn, 1) := by decide +kernel
theorem dL_law_1235 : decode cL_law 1235 = .ok (.goto 165, 3) := by decide +kernel
theorem dL_law_1238 : decode cL_law 1238 = .ok (.aload_n 1, 1) := by decide +kernel
theorem dL_law_1239 : decode cL_law 1239 = .ok (.aload_n 0, 1) := by decide +kernel
theorem dL_law_1240 : decode cL_law 1240 = .ok (.iload 5, 2) := by decide +kernel
theorem dL_law_1242 : decode cL_law 1242 = .ok (.iconst 1, 1) := by decide +kernel
theorem dL_law_1243 : decode cL_law 1243 = .ok (.iadd, 1) := by decide +kernel
theorem dL_law_1244 : decode cL_law 1244 = .ok (.iaload, 1) := by decide +kernel
theorem dL_law_1245 : decode cL_law 1245 = .ok (.aload 4, 2) := by decide +kernel
theorem dL_law_1247 : decode cL_law 1247 = .ok (.invokestatic 172, 3) := by decide +kernel
theorem dL_law_1250 : decode cL_law 1250 = .ok (.istore 6, 2) := by decide +kernel
theorem dL_law_1252 : decode cL_law 1252 = .ok (.aload_n 2, 1) := by decide +kernel
theorem dL_law_1253 : decode cL_law 1253 = .ok (.aload_n 0, 1) := by decide +kernel
theorem dL_law_1254 : decode cL_law 1254 = .ok (.iload 5, 2) := by decide +kernel
theorem dL_law_1256 : decode cL_law 1256 = .ok (.iconst 1, 1) := by decide +kernel
theorem dL_law_1257 : decode cL_law 1257 = .ok (.iadd, 1) := by decide +kernel
theorem dL_law_1258 : decode cL_law 1258 = .ok (.iaload, 1) := by decide +kernel
theorem dL_law_1259 : decode cL_law 1259 = .ok (.invokevirtual 174, 3) := by decide +kernel
theorem dL_law_1262 : decode cL_law 1262 = .ok (.fstore 7, 2) := by decide +kernel
theorem dL_law_1264 : decode cL_law 1264 = .ok (.aload_n 2, 1) := by decide +kernel
theorem dL_law_1265 : decode cL_law 1265 = .ok (.invokevirtual 84, 3) := by decide +kernel
theorem dL_law_1268 : decode cL_law 1268 = .ok (.iload 6, 2) := by decide +kernel
theorem dL_law_1270 : decode cL_law 1270 = .ok (.if_icmp .eq 5, 3) := by decide +kernel
theorem dL_law_1273 : decode cL_law 1273 = .ok (.iconst 0, 1) := by decide +kernel
theorem dL_law_1274 : decode cL_law 1274 = .ok (.ireturn, 1) := by decide +kernel
theorem dL_law_1275 : decode cL_law 1275 = .ok (.iload 6, 2) := by decide +kernel
theorem dL_law_1277 : decode cL_law 1277 = .ok (.ifCond .ne 36, 3) := by decide +kernel
theorem dL_law_1280 : decode cL_law 1280 = .ok (.aload 4, 2) := by decide +kernel
theorem dL_law_1282 : decode cL_law 1282 = .ok (.iconst 0, 1) := by decide +kernel
theorem dL_law_1283 : decode cL_law 1283 = .ok (.daload, 1) := by decide +kernel
theorem dL_law_1284 : decode cL_law 1284 = .ok (.fload 7, 2) := by decide +kernel
theorem dL_law_1286 : decode cL_law 1286 = .ok (.f2d, 1) := by decide +kernel
theorem dL_law_1287 : decode cL_law 1287 = .ok (.dcmp .l, 1) := by decide +kernel
theorem dL_law_1288 : decode cL_law 1288 = .ok (.ifCond .eq 25, 3) := by decide +kernel
theorem dL_law_1291 : decode cL_law 1291 = .ok (.aload 4, 2) := by decide +kernel
theorem dL_law_1293 : decode cL_law 1293 = .ok (.iconst 0, 1) := by decide +kernel
theorem dL_law_1294 : decode cL_law 1294 = .ok (.daload, 1) := by decide +kernel
theorem dL_law_1295 : decode cL_law 1295 = .ok (.aload 4, 2) := by decide +kernel
theorem dL_law_1297 : decode cL_law 1297 = .ok (.iconst 0, 1) := by decide +kernel
theorem dL_law_1298 : decode cL_law 1298 = .ok (.daload, 1) := by decide +kernel
theorem dL_law_1299 : decode cL_law 1299 = .ok (.dcmp .l, 1) := by decide +kernel
theorem dL_law_1300 : decode cL_law 1300 = .ok (.ifCond .eq 11, 3) := by decide +kernel
theorem dL_law_1303 : decode cL_law 1303 = .ok (.fload 7, 2) := by decide +kernel
theorem dL_law_1305 : decode cL_law 1305 = .ok (.fload 7, 2) := by decide +kernel
theorem dL_law_1307 : decode cL_law 1307 = .ok (.fcmp .l, 1) := by decide +kernel
theorem dL_law_1308 : decode cL_law 1308 = .ok (.ifCond .ne 5, 3) := by decide +kernel
theorem dL_law_1311 : decode cL_law 1311 = .ok (.iconst 0, 1) := by decide +kernel
theorem dL_law_1312 : decode cL_law 1312 = .ok (.ireturn, 1) := by decide +kernel
theorem dL_law_1313 : decode cL_law 1313 = .ok (.goto 87, 3) := by decide +kernel
theorem dL_law_1316 : decode cL_law 1316 = .ok (.aload_n 1, 1) := by decide +kernel
theorem dL_law_1317 : decode cL_law 1317 = .ok (.invokevirtual 175, 3) := by decide +kernel
theorem dL_law_1320 : decode cL_law 1320 = .ok (.aload_n 2, 1) := by decide +kernel
theorem dL_law_1321 : decode cL_law 1321 = .ok (.invokevirtual 178, 3) := by decide +kernel
theorem dL_law_1324 : decode cL_law 1324 = .ok (.if_icmp .eq 76, 3) := by decide +kernel
theorem dL_law_1327 : decode cL_law 1327 = .ok (.iconst 0, 1) := by decide +kernel
theorem dL_law_1328 : decode cL_law 1328 = .ok (.ireturn, 1) := by decide +kernel
theorem dL_law_1329 : decode cL_law 1329 = .ok (.aload_n 1, 1) := by decide +kernel
theorem dL_law_1330 : decode cL_law 1330 = .ok (.invokevirtual 179, 3) := by decide +kernel
theorem dL_law_1333 : decode cL_law 1333 = .ok (.aload_n 2, 1) := by decide +kernel
theorem dL_law_1334 : decode cL_law 1334 = .ok (.invokevirtual 182, 3) := by decide +kernel
theorem dL_law_1337 : decode cL_law 1337 = .ok (.if_icmp .eq 63, 3) := by decide +kernel
theorem dL_law_1340 : decode cL_law 1340 = .ok (.iconst 0, 1) := by decide +kernel
theorem dL_law_1341 : decode cL_law 1341 = .ok (.ireturn, 1) := by decide +kernel
theorem dL_law_1342 : decode cL_law 1342 = .ok (.aload_n 1, 1) := by decide +kernel
theorem dL_law_1343 : decode cL_law 1343 = .ok (.aload_n 3, 1) := by decide +kernel
theorem dL_law_1344 : decode cL_law 1344 = .ok (.invokestatic 183, 3) := by decide +kernel
theorem dL_law_1347 : decode cL_law 1347 = .ok (.istore 6, 2) := by decide +kernel
theorem dL_law_1349 : decode cL_law 1349 = .ok (.aload_n 2, 1) := by decide +kernel
theorem dL_law_1350 : decode cL_law 1350 = .ok (.invokevirtual 185, 3) := by decide +kernel
theorem dL_law_1353 : decode cL_law 1353 = .ok (.istore 7, 2) := by decide +kernel
theorem dL_law_1355 : decode cL_law 1355 = .ok (.aload_n 2, 1) := by decide +kernel
theorem dL_law_1356 : decode cL_law 1356 = .ok (.invokevirtual 84, 3) := by decide +kernel
theorem dL_law_1359 : decode cL_law 1359 = .ok (.iload 6, 2) := by decide +kernel
theorem dL_law_1361 : decode cL_law 1361 = .ok (.if_icmp .eq 5, 3) := by decide +kernel
theorem dL_law_1364 : decode cL_law 1364 = .ok (.iconst 0, 1) := by decide +kernel
theorem dL_law_1365 : decode cL_law 1365 = .ok (.ireturn, 1) := by decide +kernel
theorem dL_law_1366 : decode cL_law 1366 = .ok (.iload 6, 2) := by decide +kernel
theorem dL_law_1368 : decode cL_law 1368 = .ok (.ifCond .ne 15, 3) := by decide +kernel
theorem dL_law_1371 : decode cL_law 1371 = .ok (.aload_n 3, 1) := by decide +kernel
theorem dL_law_1372 : decode cL_law 1372 = .ok (.iconst 0, 1) := by decide +kernel
theorem dL_law_1373 : decode cL_law 1373 = .ok (.laload, 1) := by decide +kernel
theorem dL_law_1374 : decode cL_law 1374 = .ok (.iload 7, 2) := by decide +kernel
theorem dL_law_1376 : decode cL_law 1376 = .ok (.i2l, 1) := by decide +kernel
theorem dL_law_1377 : decode cL_law 1377 = .ok (.lcmp, 1) := by decide +kernel
theorem dL_law_1378 : decode cL_law 1378 = .ok (.ifCond .eq 5, 3) := by decide +kernel
theorem dL_law_1381 : decode cL_law 1381 = .ok (.iconst 0, 1) := by decide +kernel
theorem dL_law_1382 : decode cL_law 1382 = .ok (.ireturn, 1) := by decide +kernel
theorem dL_law_1383 : decode cL_law 1383 = .ok (.goto 17, 3) := by decide +kernel
theorem dL_law_1386 : decode cL_law 1386 = .ok (.aload_n 1, 1) := by decide +kernel
theorem dL_law_1387 : decode cL_law 1387 = .ok (.invokevirtual 186, 3) := by decide +kernel
theorem dL_law_1390 : decode cL_law 1390 = .ok (.aload_n 2, 1) := by decide +kernel
theorem dL_law_1391 : decode cL_law 1391 = .ok (.invokevirtual 190, 3) := by decide +kernel
theorem dL_law_1394 : decode cL_law 1394 = .ok (.lcmp, 1) := by decide +kernel
theorem dL_law_1395 : decode cL_law 1395 = .ok (.ifCond .eq 5, 3) := by decide +kernel
theorem dL_law_1398 : decode cL_law 1398 = .ok (.iconst 0, 1) := by decide +kernel
theorem dL_law_1399 : decode cL_law 1399 = .ok (.ireturn, 1) := by decide +kernel
theorem dL_law_1400 : decode cL_law 1400 = .ok (.iinc 5 3, 3) := by decide +kernel
theorem dL_law_1403 : decode cL_law 1403 = .ok (.goto (-1375), 3) := by decide +kernel
theorem dL_law_1406 : decode cL_law 1406 = .ok (.iconst 1, 1) := by decide +kernel
theorem dL_law_1407 : decode cL_law 1407 = .ok (.ireturn, 1) := by decide +kernel
end
section
/-! ===== the words that all methods share ===== -/
def mTB : List Cond := lw_tbl.filter goodWord
theorem mTB_of {w : Cond} (h : w ∈ lw_tbl) (g : goodWord w = true) : w ∈ mTB := List.mem_filter.mpr ⟨h, g⟩
theorem mTB_t {w : Cond} (n : Nat) (h : tables_1[n]? = some w) (g : goodWord w = true) : w ∈ mTB := mTB_of (List.mem_append_right _ (List.mem_of_getElem? h)) g
theorem mTB_s {w : Cond} (n : Nat) (h : (k2_sels lw_privs)[n]? = some w) (g : goodWord w = true) : w ∈ mTB := mTB_of (List.mem_append_left _ (List.mem_of_getElem? h)) g
theorem mTB_good {w : Cond} (h : w ∈ mTB) : (w.onTables && w.keeps) = true ∨ ∃ ty, w = .arrayClass ty := good_of_word (List.mem_filter.mp h).2
/-! ===== the mini heap ===== -/
abbrev mC : Type := (Nat × vp_A) ⊕ (Nat × List Value)
abbrev mH : Type := Nat → Option mC
def mE (aC : Nat → ClassId) (x : mC) : va_E := match x with
  | .inl a => .inl (aC a.1, a.2)
  | .inr o => .inr o
def mset (h : mH) (a : Nat) (e : mC) : mH := fun b => if b = a then some e else h b
theorem mset_s {h : mH} {a : Nat} {e : mC} : mset h a e a = some e := if_pos rfl
theorem mset_n {h : mH} {a b : Nat} {e : mC} (hn : b ≠ a) : mset h a e b = h b := if_neg hn
def mSub (aC : Nat → ClassId) (h : mH) (ws : va_W) : Prop := ∀ (a : Nat) (e : mC), h a = some e → ∃ k : Nat, ws[k]? = some (a, mE aC e)
def mHR (D : va_G) (aC : Nat → ClassId) (A : Nat → Prop) (h : mH) (H : Heap) : Prop := ∃ ws : va_W, va_P D vwCl ws H ∧ va_D A ws ∧ mSub aC h ws
theorem mSub.set {aC : Nat → ClassId} {h : mH} {ws : va_W} {a k : Nat} {e0 : va_E} {e : mC} (hs : mSub aC h ws) (hk : ws[k]? = some (a, e0)) : mSub aC (mset h a e) (ws.set k (a, mE aC e)) := by
  intro b x hb
  have hl := (List.getElem?_eq_some_iff.mp hk).1
  by_cases hba : b = a
  · subst hba
    rw [mset_s] at hb
    cases hb
    exact ⟨k, List.getElem?_set_self hl⟩
  · rw [mset_n hba] at hb
    obtain ⟨j, hj⟩ := hs b x hb
    have hjk : j ≠ k := by
      intro z
      subst z
      rw [hk] at hj
      exact hba (congrArg Prod.fst (Option.some.inj hj)).symm
    exact ⟨j, by rw [List.getElem?_set_ne (Ne.symm hjk)]; exact hj⟩
/-! ===== the locals as a list ===== -/
def mLv : Nat → List (Option Value) → List (Nat × Value)
  | _, [] => []
  | i, none :: r => mLv (i + 1) r
  | i, some v :: r => (i, v) :: mLv (i + 1) r
theorem mLv_mem : ∀ (L : List (Option Value)) (i j : Nat) (v : Value), (j, v) ∈ mLv i L ↔ ∃ k, j = i + k ∧ L[k]? = some (some v)
  | [], i, j, v => by simp [mLv]
  | none :: r, i, j, v => by
    rw [mLv, mLv_mem r (i + 1) j v]
    constructor
    · rintro ⟨k, h1, h2⟩
      exact ⟨k + 1, by omega, by simpa using h2⟩
    · rintro ⟨k, h1, h2⟩
      cases k with
      | zero => simp at h2
      | succ k => exact ⟨k, by omega, by simpa using h2⟩
  | some w :: r, i, j, v => by
    rw [mLv, List.mem_cons, mLv_mem r (i + 1) j v]
    constructor
    · rintro (h | ⟨k, h1, h2⟩)
      · cases h
        exact ⟨0, rfl, rfl⟩
      · exact ⟨k + 1, by omega, by simpa using h2⟩
    · rintro ⟨k, h1, h2⟩
      cases k with
      | zero =>
        left
        simp at h2
        subst h2
        rw [h1]
        rfl
      | succ k => exact Or.inr ⟨k, by omega, by simpa using h2⟩
def mLR (ls : Array Slot) (nL : Nat) (L : List (Option Value)) : Prop := lv_has ls nL (mLv 0 L)
theorem mLR.at {ls : Array Slot} {nL : Nat} {L : List (Option Value)} (h : mLR ls nL L) {i : Nat} {v : Value} (hi : L[i]? = some (some v)) : ls[i]? = some (.val v) := h.2.2 (i, v) ((mLv_mem L 0 i v).mpr ⟨i, by omega, hi⟩)
theorem mLR.of {ls : Array Slot} {nL : Nat} {L : List (Option Value)} {lv : List (Nat × Value)} (h : lv_has ls nL lv) (hl : ∀ (i : Nat) (v : Value), L[i]? = some (some v) → (i, v) ∈ lv) : mLR ls nL L := by
  refine ⟨h.1, h.2.1, fun q hq => ?_⟩
  obtain ⟨j, v⟩ := q
  obtain ⟨k, h1, h2⟩ := (mLv_mem L 0 j v).mp hq
  have hjk : j = k := by omega
  subst hjk
  exact h.2.2 _ (hl j v h2)
def mOk (L : List (Option Value)) (i : Nat) : Bool := match i with
  | 0 => true
  | j + 1 => match L[j]? with
    | some (some w) => !(w.category == 2)
    | _ => true
theorem mOk_of {L : List (Option Value)} {i j : Nat} {w : Value} (h : mOk L i = true) (hj : L[j]? = some (some w)) : (!(j + 1 == i && w.category == 2)) = true := by
  by_cases e : j + 1 = i
  · subst e
    simp only [mOk, hj] at h
    simp only [beq_self_eq_true, Bool.true_and]
    exact h
  · have : (j + 1 == i) = false := by simpa using e
    rw [this]
    rfl
theorem mSt1 {ls : Array Slot} {nL : Nat} {L : List (Option Value)} {i : Nat} {v : Value} (ho : mOk L i = true) (h' : lv_has ls nL ((i, v) :: (mLv 0 L).filter (fun q => !(q.1 == i) && !(q.1 + 1 == i && q.2.category == 2)))) : mLR ls nL (L.set i (some v)) := by
  refine mLR.of h' fun j w hj => ?_
  rw [List.getElem?_set] at hj
  by_cases e : i = j
  · rw [if_pos e] at hj
    split at hj
    · cases hj
      subst e
      exact List.mem_cons_self
    · cases hj
  · rw [if_neg e] at hj
    refine List.mem_cons_of_mem _ (List.mem_filter.mpr ⟨(mLv_mem L 0 j w).mpr ⟨j, by omega, hj⟩, ?_⟩)
    have e2 : (j == i) = false := by simpa using Ne.symm e
    show (!(j == i) && !(j + 1 == i && w.category == 2)) = true
    rw [e2, mOk_of ho hj]
    rfl
theorem mSt2 {ls : Array Slot} {nL : Nat} {L : List (Option Value)} {i : Nat} {v : Value} (ho : mOk L i = true) (h' : lv_has ls nL ((i, v) :: (mLv 0 L).filter (fun q => !(q.1 == i) && (!(q.1 == i + 1) && !(q.1 + 1 == i && q.2.category == 2))))) : mLR ls nL ((L.set i (some v)).set (i + 1) none) := by
  refine mLR.of h' fun j w hj => ?_
  rw [List.getElem?_set] at hj
  by_cases e1 : i + 1 = j
  · rw [if_pos e1] at hj
    split at hj <;> cases hj
  · rw [if_neg e1, List.getElem?_set] at hj
    by_cases e : i = j
    · rw [if_pos e] at hj
      split at hj
      · cases hj
        subst e
        exact List.mem_cons_self
      · cases hj
    · rw [if_neg e] at hj
      refine List.mem_cons_of_mem _ (List.mem_filter.mpr ⟨(mLv_mem L 0 j w).mpr ⟨j, by omega, hj⟩, ?_⟩)
      have e2 : (j == i) = false := by simpa using Ne.symm e
      have e3 : (j == i + 1) = false := by simpa using Ne.symm e1
      show (!(j == i) && (!(j == i + 1) && !(j + 1 == i && w.category == 2))) = true
      rw [e2, e3, mOk_of ho hj]
      rfl
/-- the locals at a method's entry -/
def mEnt : List Value → Nat → List (Option Value)
  | [], n => List.replicate n none
  | v :: r, n => if v.category = 2 then some v :: none :: mEnt r (n - 2) else some v :: mEnt r (n - 1)
theorem mEnt_in : ∀ (vs : List Value) (n i j : Nat) (v : Value), (mEnt vs n)[j]? = some (some v) → (i + j, v) ∈ lv_args i vs
  | [], n, i, j, v, h => by
    rw [mEnt, List.getElem?_replicate] at h
    split at h <;> cases h
  | w :: r, n, i, j, v, h => by
    rw [mEnt] at h
    rw [lv_args]
    split at h
    · rename_i hc
      rw [if_pos hc]
      match j, h with
      | 0, h =>
        simp at h
        subst h
        exact List.mem_cons_self
      | 1, h => simp at h
      | j + 2, h =>
        have := mEnt_in r (n - 2) (i + 2) j v (by simpa using h)
        refine List.mem_cons_of_mem _ ?_
        rw [show i + (j + 2) = i + 2 + j by omega]
        exact this
    · rename_i hc
      rw [if_neg hc]
      match j, h with
      | 0, h =>
        simp at h
        subst h
        exact List.mem_cons_self
      | j + 1, h =>
        have := mEnt_in r (n - 1) (i + 1) j v (by simpa using h)
        refine List.mem_cons_of_mem _ ?_
        rw [show i + (j + 1) = i + 1 + j by omega]
        exact this
def mNF : List (String × Nat × String × String × String × String) := [("JoinRuntime", 95, "JoinRuntime$Rule", "pattern", "I", "JoinRuntime"), ("JoinRuntime$RuleReader", 60, "JoinRuntime$Rule", "pattern", "I", "JoinRuntime"), ("JoinRuntime", 264, "JoinRuntime$Rule", "guardLeft", "I", "JoinRuntime"), ("JoinRuntime", 267, "JoinRuntime$Rule", "guardRight", "I", "JoinRuntime"), ("JoinRuntime$RuleReader", 93, "JoinRuntime$Rule", "outputCount", "I", "JoinRuntime"), ("JoinRuntime", 289, "JoinRuntime$Rule", "outputCount", "I", "JoinRuntime"), ("JoinRuntime", 308, "JoinRuntime$Rule", "targets", "[I", "JoinRuntime"), ("JoinRuntime", 315, "JoinRuntime$Rule", "isReply", "[Z", "JoinRuntime"), ("JoinRuntime$State", 49, "JoinRuntime$Channel", "length", "I", "JoinRuntime"), ("JoinRuntime", 135, "JoinRuntime$Channel", "length", "I", "JoinRuntime"), ("JoinRuntime", 199, "JoinRuntime$Channel", "takenCount", "I", "JoinRuntime"), ("JoinRuntime", 202, "JoinRuntime$Channel", "waitSum", "J", "JoinRuntime"), ("JoinRuntime", 108, "JoinRuntime$State", "channels", "[LJoinRuntime$Channel;", "JoinRuntime"), ("JoinRuntime", 122, "JoinRuntime$State", "tickets", "LJoinRuntime$Tickets;", "JoinRuntime"), ("JoinRuntime", 81, "JoinRuntime$State", "firingCounts", "[I", "JoinRuntime"), ("JoinRuntime", 119, "JoinRuntime$State", "time", "I", "JoinRuntime"), ("JoinRuntime", 92, "JoinRuntime$State", "lastFired", "I", "JoinRuntime")]
def mNM : List (String × Nat × MethodName × String) := [("JoinRuntime", 15, (⟨"JoinRuntime$RuleReader", "<init>", "()V"⟩ : MethodName), "JoinRuntime"), ("JoinRuntime$RuleReader", 11, (⟨"JoinRuntime$Rule", "<init>", "()V"⟩ : MethodName), "JoinRuntime"), ("JoinRuntime$State", 19, (⟨"JoinRuntime$Tickets", "<init>", "()V"⟩ : MethodName), "JoinRuntime"), ("JoinRuntime$State", 32, (⟨"JoinRuntime$Channel", "<init>", "()V"⟩ : MethodName), "JoinRuntime"), ("JoinRuntime", 45, (⟨"JoinRuntime$Rule", "<init>", "()V"⟩ : MethodName), "JoinRuntime"), ("JoinRuntime$RuleReader", 100, (⟨"JoinRuntime", "isChannel", "(I)Z"⟩ : MethodName), "JoinRuntime"), ("JoinRuntime$Rule", 59, (⟨"JoinRuntime", "isChannel", "(I)Z"⟩ : MethodName), "JoinRuntime"), ("JoinRuntime$Channel", 46, (⟨"JoinRuntime", "mix", "(JJ)J"⟩ : MethodName), "JoinRuntime"), ("JoinRuntime$Tickets", 36, (⟨"JoinRuntime", "mix", "(JJ)J"⟩ : MethodName), "JoinRuntime")]
def mSt : List (String × Nat × String) := [("JoinRuntime", 48, "the code is not 32 to 126"), ("JoinRuntime", 59, "the buffer is full"), ("JoinRuntime", 70, "the buffer is not a rule"), ("JoinRuntime", 75, "there are 8 rules"), ("JoinRuntime", 237, "there is no such rule"), ("JoinRuntime", 98, "the policy is not 0 to 2"), ("JoinRuntime", 244, "there is no such channel"), ("JoinRuntime", 106, "the value is not -9999 to 9999"), ("JoinRuntime", 117, "the queue has 8 messages"), ("JoinRuntime", 144, "the queue has no such message"), ("JoinRuntime", 167, "the channel is not in the pattern"), ("JoinRuntime", 178, "the rule is not enabled"), ("JoinRuntime", 180, "the limit is not 1 to 100"), ("JoinRuntime", 242, "the ticket is not known"), ("JoinRuntime", 194, "the ticket is not answered"), ("JoinRuntime", 213, "there is no saved state")]
/-! ===== what a method's surroundings must hold ===== -/
def mXs : List String := ["java/lang/IllegalArgumentException", "java/lang/IllegalStateException", "java/lang/IndexOutOfBoundsException"]
def mYs : List MethodName := [⟨"java/lang/RuntimeException", "<init>", "(Ljava/lang/String;)V"⟩, ⟨"java/lang/Exception", "<init>", "(Ljava/lang/String;)V"⟩, ⟨"java/lang/Throwable", "<init>", "(Ljava/lang/String;)V"⟩]
def mtys (aC : Nat → ClassId) : List (ClassId × FieldType) := [(aC 0, .int), (aC 1, .long), (aC 2, .boolean), (aC 3, .object RX1), (aC 4, .object RX0)]
def mEnv (D : va_G) (aC : Nat → ClassId) (l : Launch) (A : Nat → Prop) (U : State) : Prop :=
  l.stackTraces = false ∧ va_K D vwCl (mtys aC) U ∧ (∀ q ∈ mNF, va_Nw (.fieldLinkNest q.1 q.2.1 q.2.2.1 q.2.2.2.1 q.2.2.2.2.1 q.2.2.2.2.2) U) ∧ (∀ q ∈ mNM, va_Nw (.methodLinkNest q.1 q.2.1 q.2.2.1 q.2.2.2) U) ∧
  (∀ X ∈ mXs, va_Nw (.castable X X) U) ∧ (∀ q ∈ mSt, ∃ sa : Nat, vk_R q.1 q.2.1 q.2.2 sa U) ∧ vx_Zq Bundle.tN "UNASSIGNED_STACK" Bundle.steD A U U.heap ∧ vx_Zq Bundle.tN "SUPPRESSED_SENTINEL" Bundle.listD A U U.heap ∧ (∀ Y ∈ mYs, va_Nw (.declares Y) U)
theorem mEnv.next {D : va_G} {aC : Nat → ClassId} {l : Launch} {A A' : Nat → Prop} {s U : State} {H : Heap} {locs : List Loc} (h : mEnv D aC l A s) (hS : va_S A s.heap H locs) (hU : U.heap = H) (hW : s.WarmedH U.vm) (hA : ∀ q, A' q → A q) : mEnv D aC l A' U := by
  obtain ⟨h1, h2, h3, h4, h5, h6, h7, h8, h9⟩ := h
  refine ⟨h1, va_K.moved hW.alike h2, fun q hq => va_Nw.warmF hW (h3 q hq), fun q hq => va_Nw.warmM hW (h4 q hq), fun X hX => va_Nw.warmC hW (h5 X hX), fun q hq => ?_, ?_, ?_, fun Y hY => va_Nw.warmD hW (h9 Y hY)⟩
  · obtain ⟨sa, e⟩ := h6 q hq
    exact ⟨sa, vk_R.warm hW e⟩
  · rw [hU]; exact ((vx_Zq.moved hW.alike (h7.kept hS.2.1))).narrow hA
  · rw [hU]; exact ((vx_Zq.moved hW.alike (h8.kept hS.2.1))).narrow hA
theorem mEnv.blind {D : va_G} {aC : Nat → ClassId} {l : Launch} {A : Nat → Prop} {U : State} {g : JFrame} {mk : MethodId} {a : Array Value} (h : mEnv D aC l A U) : mEnv D aC l A (U.calling g mk a) := by
  obtain ⟨h1, h2, h3, h4, h5, h6, h7, h8, h9⟩ := h
  refine ⟨h1, va_K.moved (Vm.Alike.refl U.vm) h2, fun q hq => va_Nw.same rfl rfl (h3 q hq), fun q hq => va_Nw.same rfl rfl (h4 q hq), fun X hX => va_Nw.same rfl rfl (h5 X hX), fun q hq => ?_, ?_, ?_, fun Y hY => va_Nw.same rfl rfl (h9 Y hY)⟩
  · obtain ⟨sa, e⟩ := h6 q hq
    exact ⟨sa, vk_R.same rfl e⟩
  · exact vx_Zq.moved (Vm.Alike.refl U.vm) h7
  · exact vx_Zq.moved (Vm.Alike.refl U.vm) h8
/-! ===== contracts ===== -/
abbrev mM : Type := MethodName × ByteArray × Nat × Option FieldType × Room
abbrev mRm (μ : mM) : Room := μ.2.2.2.2
def mWs (μ : mM) : List Cond := .code μ.1 μ.2.1 μ.2.2.1 μ.2.2.2.1 :: mTB
def mPre (l : Launch) (D : va_G) (aC : Nat → ClassId) (w : va_W) (sz : Nat) (U : State) : Prop := U.heap.size = sz ∧ va_P D vwCl w U.heap ∧ va_D (fun _ => True) w ∧ mEnv D aC l (va_A w sz) U
def mQc (D : va_G) (aC : Nat → ClassId) (Q : Option Value → mH → Prop) (A : Nat → Prop) : Array Value → State → Outcome → State → Prop := fun _ st oc t => ∃ (r : Option Value) (h' : mH), oc = .returned r ∧ Q r h' ∧ mHR D aC A h' t.heap ∧ va_F A st t
def mXc (D : va_G) (aC : Nat → ClassId) (QX : String → mH → Prop) (A : Nat → Prop) : String → State → State → Prop := fun E st t => ∃ h' : mH, QX E h' ∧ mHR D aC A h' t.heap ∧ va_F A st t
def mCon (l : Launch) (D : va_G) (aC : Nat → ClassId) (μ : mM) (vs : List Value) (h : mH) (Q : Option Value → mH → Prop) : Prop := ∀ (w : va_W) (sz : Nat), mSub aC h w → Met l μ.1 (mWs μ) (mRm μ) (va_Pc vs (mPre l D aC w sz)) (mQc D aC Q (va_A w sz)) (mRm μ).cells (mRm μ).slots (va_A w sz)
def mXon (l : Launch) (D : va_G) (aC : Nat → ClassId) (μ : mM) (vs : List Value) (h : mH) (Q : Option Value → mH → Prop) (QX : String → mH → Prop) : Prop := ∀ (w : va_W) (sz : Nat), mSub aC h w → vx_Met l μ.1 (mWs μ) (mRm μ) (va_Pc vs (mPre l D aC w sz)) (mQc D aC Q (va_A w sz)) (mXc D aC QX (va_A w sz)) (mRm μ).cells (mRm μ).slots (va_A w sz)
theorem mPre.blind {l : Launch} {D : va_G} {aC : Nat → ClassId} {w : va_W} {sz : Nat} {vs : List Value} : FrameBlind (va_Pc vs (mPre l D aC w sz)) := by
  intro a U g mk h
  obtain ⟨h0, h1, h2, h3, h4⟩ := h
  exact ⟨h0, h1, h2, h3, h4.blind⟩
/-! ===== a walk's surroundings, and the judgement ===== -/
abbrev mK := Program × Launch × Env × Room × State × MethodId × Array Value × List Frame × Method × Code × va_G × (Nat → ClassId) × (Nat → Prop) × (State → Prop)
abbrev kp (K : mK) : Program := K.1
abbrev kl (K : mK) : Launch := K.2.1
abbrev ke (K : mK) : Env := K.2.2.1
abbrev kR (K : mK) : Room := K.2.2.2.1
abbrev ks (K : mK) : State := K.2.2.2.2.1
abbrev km (K : mK) : MethodId := K.2.2.2.2.2.1
abbrev ka (K : mK) : Array Value := K.2.2.2.2.2.2.1
abbrev kb (K : mK) : List Frame := K.2.2.2.2.2.2.2.1
abbrev kme (K : mK) : Method := K.2.2.2.2.2.2.2.2.1
abbrev kc (K : mK) : Code := K.2.2.2.2.2.2.2.2.2.1
abbrev kD (K : mK) : va_G := K.2.2.2.2.2.2.2.2.2.2.1
abbrev kC (K : mK) : Nat → ClassId := K.2.2.2.2.2.2.2.2.2.2.2.1
abbrev kA (K : mK) : Nat → Prop := K.2.2.2.2.2.2.2.2.2.2.2.2.1
abbrev kZ (K : mK) : State → Prop := K.2.2.2.2.2.2.2.2.2.2.2.2.2
def mJ (K : mK) (cells slots pc : Nat) (L : List (Option Value)) (S : List Value) (h : mH) : Prop :=
  ∀ (H : Heap) (locs : List Loc) (ls : Array Slot), mHR (kD K) (kC K) (kA K) h H → va_S (kA K) (ks K).heap H locs → mLR ls (kc K).maxLocals L → W (kp K) (kl K) (ke K) (kR K) (ks K) (km K) (ka K) (kb K) (kme K) (kc K) H locs cells slots (kZ K) (F0 (km K) pc ls S)
def mCx (K : mK) (μ : mM) : Prop :=
  (kp K).tables.exec = Jvm.exec ∧ (kc K).code = μ.2.1 ∧ (kc K).maxLocals = μ.2.2.1 ∧ (kme K).sig.returnType = μ.2.2.2.1 ∧ (ks K).vm.findClass μ.1.cls = some (km K).cls ∧ (∀ w ∈ mTB, w.before (ka K) (ks K) = true) ∧ (kme K).locks = false ∧ kR K = mRm μ ∧ mEnv (kD K) (kC K) (kl K) (kA K) (ks K) ∧ (∀ q, (ks K).heap.size ≤ q → kA K q)
/-- what the end may say: a return with Q -/
def mRt (K : mK) (μ : mM) (Q : Option Value → mH → Prop) : Prop := ∀ t : State, MQ (kb K) (mQc (kD K) (kC K) Q (kA K)) (ka K) (ks K) (mRm μ).cells (mRm μ).slots (kA K) t → kZ K t
/-- what the end may say: a throw with QX -/
def mRx (K : mK) (μ : mM) (QX : String → mH → Prop) : Prop := (∀ x ∈ (kc K).exceptionTable.toList, False) ∧ ∃ Q : Option Value → mH → Prop, kZ K = vx_MQ (kb K) (mQc (kD K) (kC K) Q (kA K)) (mXc (kD K) (kC K) QX (kA K)) (ka K) (ks K) (mRm μ).cells (mRm μ).slots (kA K)
theorem mW_mono {p : Program} {l : Launch} {e : Env} {R : Room} {s : State} {m : MethodId} {args : Array Value} {below : List Frame} {meth : Method} {c : Code} {H : Heap} {locs : List Loc} {cells slots : Nat} {Q Q' : State → Prop} {g : JFrame} (h : ∀ t, Q t → Q' t) (k : W p l e R s m args below meth c H locs cells slots Q g) : W p l e R s m args below meth c H locs cells slots Q' g := by
  intro T hT X
  obtain ⟨t, a, b⟩ := k T hT X
  exact ⟨t, a, h t b⟩
theorem mTB_tail {μ : mM} {args : Array Value} {s : State} (h : ∀ w ∈ mWs μ, w.before args s = true) : ∀ w ∈ mTB, w.before args s = true := fun w hw => h w (List.mem_cons_of_mem _ hw)
theorem mHR_self {D : va_G} {aC : Nat → ClassId} {h : mH} {w : va_W} {sz : Nat} {H : Heap} (hP : va_P D vwCl w H) (hD : va_D (fun _ => True) w) (hs : mSub aC h w) : mHR D aC (va_A w sz) h H := ⟨w, hP, hD.self, hs⟩
/-- a contract out of a walk -/
theorem mCon.of {l : Launch} {D : va_G} {aC : Nat → ClassId} {μ : mM} {vs : List Value} {h : mH} {Q : Option Value → mH → Prop} (L : List (Option Value)) (hy : plainName μ.1.cls = true) (hL : mEnt vs μ.2.2.1 = L) (hlen : (lg_sl vs).length ≤ μ.2.2.1)
    (body : ∀ K : mK, kl K = l → kD K = D → kC K = aC → mCx K μ → mRt K μ Q → mJ K 0 0 0 L [] h) : mCon l D aC μ vs h Q := by
  intro w sz hs
  refine Met.ofW (cc := μ.2.1) (maxL := μ.2.2.1) (ret := μ.2.2.2.1) hy rfl ?_
  intro p e s m args below meth c s₁ B hml hv
  obtain ⟨rfl, hsz, hP, hD, hE⟩ := hv
  subst hsz
  have hts := mTB_tail (atoms_spec (ws := mWs μ) B.pre)
  have hown : s.vm.findClass μ.1.cls = some m.cls := findClass_of_methodNamed B.named
  have hb := body (p, l, e, mRm μ, s, m, vs.toArray, below, meth, c, D, aC, va_A w s.heap.size, MQ below (mQc D aC Q (va_A w s.heap.size)) vs.toArray s (mRm μ).cells (mRm μ).slots (va_A w s.heap.size)) rfl rfl rfl
    ⟨B.exec, B.bytes, hml, B.returns, hown, hts, B.notSynchronized, rfl, hE, fun q hq => Or.inr hq⟩ (fun t ht => ht)
  rw [lg_entry_eq]
  refine hb s.heap [] _ (mHR_self hP hD hs) va_S.rf ?_
  show mLR _ c.maxLocals L
  rw [hml, ← hL]
  exact mLR.of (lv_entry vs (n := μ.2.2.1) hlen) (fun i v hi => by have := mEnt_in vs μ.2.2.1 0 i v hi; rwa [Nat.zero_add] at this)
theorem mXon.of {l : Launch} {D : va_G} {aC : Nat → ClassId} {μ : mM} {vs : List Value} {h : mH} {Q : Option Value → mH → Prop} {QX : String → mH → Prop} (L : List (Option Value)) (hy : plainName μ.1.cls = true) (hL : mEnt vs μ.2.2.1 = L) (hlen : (lg_sl vs).length ≤ μ.2.2.1)
    (body : ∀ K : mK, kl K = l → kD K = D → kC K = aC → mCx K μ → mRt K μ Q → mRx K μ QX → mJ K 0 0 0 L [] h) : mXon l D aC μ vs h Q QX := by
  intro w sz hs
  refine vx_ofW (cc := μ.2.1) (maxL := μ.2.2.1) (ret := μ.2.2.2.1) hy rfl ?_
  intro p e s m args below meth c s₁ B hml htab hv
  obtain ⟨rfl, hsz, hP, hD, hE⟩ := hv
  subst hsz
  have hts := mTB_tail (atoms_spec (ws := mWs μ) B.pre)
  have hown : s.vm.findClass μ.1.cls = some m.cls := findClass_of_methodNamed B.named
  have hb := body (p, l, e, mRm μ, s, m, vs.toArray, below, meth, c, D, aC, va_A w s.heap.size, vx_MQ below (mQc D aC Q (va_A w s.heap.size)) (mXc D aC QX (va_A w s.heap.size)) vs.toArray s (mRm μ).cells (mRm μ).slots (va_A w s.heap.size)) rfl rfl rfl
    ⟨B.exec, B.bytes, hml, B.returns, hown, hts, B.notSynchronized, rfl, hE, fun q hq => Or.inr hq⟩ (fun t ht => by
      obtain ⟨o, b1, b2, b3, b4⟩ := ht
      exact ⟨o, b1, b2, Or.inl ⟨b3, b4⟩⟩) ⟨htab, Q, rfl⟩
  rw [lg_entry_eq]
  refine hb s.heap [] _ (mHR_self hP hD hs) va_S.rf ?_
  show mLR _ c.maxLocals L
  rw [hml, ← hL]
  exact mLR.of (lv_entry vs (n := μ.2.2.1) hlen) (fun i v hi => by have := mEnt_in vs μ.2.2.1 0 i v hi; rwa [Nat.zero_add] at this)
end
section
theorem mJ_iconst {K : mK} {μ : mM} {cells slots pc : Nat} {L : List (Option Value)} {S : List Value} {h : mH} {n : Int} {v : Int32} (hK : mCx K μ) (hd : decode μ.2.1 pc = .ok (.iconst n, 1)) (hv : Int32.ofInt n = v) (k : mJ K cells slots (pc + 1) L (.int v :: S) h) : mJ K cells slots pc L (S) h := fun H locs ls hH hS hL => lv_iconst hK.1 hK.2.1 hd hv (k H locs ls hH hS hL)
theorem mJ_bipush {K : mK} {μ : mM} {cells slots pc : Nat} {L : List (Option Value)} {S : List Value} {h : mH} {n : Int} {v : Int32} (hK : mCx K μ) (hd : decode μ.2.1 pc = .ok (.bipush n, 2)) (hv : (Int8.ofInt n).toInt32 = v) (k : mJ K cells slots (pc + 2) L (.int v :: S) h) : mJ K cells slots pc L (S) h := fun H locs ls hH hS hL => lv_bipush hK.1 hK.2.1 hd hv (k H locs ls hH hS hL)
theorem mJ_sipush {K : mK} {μ : mM} {cells slots pc : Nat} {L : List (Option Value)} {S : List Value} {h : mH} {n : Int} {v : Int32} (hK : mCx K μ) (hd : decode μ.2.1 pc = .ok (.sipush n, 3)) (hv : (Int16.ofInt n).toInt32 = v) (k : mJ K cells slots (pc + 3) L (.int v :: S) h) : mJ K cells slots pc L (S) h := fun H locs ls hH hS hL => lv_sipush hK.1 hK.2.1 hd hv (k H locs ls hH hS hL)
theorem mJ_lconst {K : mK} {μ : mM} {cells slots pc : Nat} {L : List (Option Value)} {S : List Value} {h : mH} {n : Fin 2} {v : Int64} (hK : mCx K μ) (hd : decode μ.2.1 pc = .ok (.lconst n, 1)) (hv : Int64.ofNat (n : Nat) = v) (k : mJ K cells slots (pc + 1) L (.long v :: S) h) : mJ K cells slots pc L (S) h := fun H locs ls hH hS hL => lv_lconst hK.1 hK.2.1 hd hv (k H locs ls hH hS hL)
theorem mJ_iload_n {K : mK} {μ : mM} {cells slots pc : Nat} {L : List (Option Value)} {S : List Value} {h : mH} {k : Fin 4} {x : Int32} (hK : mCx K μ) (hd : decode μ.2.1 pc = .ok (.iload_n k, 1)) (hl : L[(k : Nat)]? = some (some (.int x))) (k : mJ K cells slots (pc + 1) L (.int x :: S) h) : mJ K cells slots pc L (S) h := fun H locs ls hH hS hL => lv_iload_n hK.1 hK.2.1 hd rfl (hL.at hl) (k H locs ls hH hS hL)
theorem mJ_iload {K : mK} {μ : mM} {cells slots pc : Nat} {L : List (Option Value)} {S : List Value} {h : mH} {i : Nat} {x : Int32} (hK : mCx K μ) (hd : decode μ.2.1 pc = .ok (.iload i, 2)) (hl : L[i]? = some (some (.int x))) (k : mJ K cells slots (pc + 2) L (.int x :: S) h) : mJ K cells slots pc L (S) h := fun H locs ls hH hS hL => lv_iload hK.1 hK.2.1 hd (hL.at hl) (k H locs ls hH hS hL)
theorem mJ_lload_n {K : mK} {μ : mM} {cells slots pc : Nat} {L : List (Option Value)} {S : List Value} {h : mH} {k : Fin 4} {x : Int64} (hK : mCx K μ) (hd : decode μ.2.1 pc = .ok (.lload_n k, 1)) (hl : L[(k : Nat)]? = some (some (.long x))) (k : mJ K cells slots (pc + 1) L (.long x :: S) h) : mJ K cells slots pc L (S) h := fun H locs ls hH hS hL => lv_lload_n hK.1 hK.2.1 hd rfl (hL.at hl) (k H locs ls hH hS hL)
theorem mJ_lload {K : mK} {μ : mM} {cells slots pc : Nat} {L : List (Option Value)} {S : List Value} {h : mH} {i : Nat} {x : Int64} (hK : mCx K μ) (hd : decode μ.2.1 pc = .ok (.lload i, 2)) (hl : L[i]? = some (some (.long x))) (k : mJ K cells slots (pc + 2) L (.long x :: S) h) : mJ K cells slots pc L (S) h := fun H locs ls hH hS hL => lv_lload hK.1 hK.2.1 hd (hL.at hl) (k H locs ls hH hS hL)
theorem mJ_aload_n {K : mK} {μ : mM} {cells slots pc : Nat} {L : List (Option Value)} {S : List Value} {h : mH} {k : Fin 4} {x : Nat} (hK : mCx K μ) (hd : decode μ.2.1 pc = .ok (.aload_n k, 1)) (hl : L[(k : Nat)]? = some (some (.ref x))) (k : mJ K cells slots (pc + 1) L (.ref x :: S) h) : mJ K cells slots pc L (S) h := fun H locs ls hH hS hL => lv_aload_n hK.1 hK.2.1 hd rfl (hL.at hl) (k H locs ls hH hS hL)
theorem mJ_aload {K : mK} {μ : mM} {cells slots pc : Nat} {L : List (Option Value)} {S : List Value} {h : mH} {i : Nat} {x : Nat} (hK : mCx K μ) (hd : decode μ.2.1 pc = .ok (.aload i, 2)) (hl : L[i]? = some (some (.ref x))) (k : mJ K cells slots (pc + 2) L (.ref x :: S) h) : mJ K cells slots pc L (S) h := fun H locs ls hH hS hL => lv_aload hK.1 hK.2.1 hd (hL.at hl) (k H locs ls hH hS hL)
theorem mJ_istore_n {K : mK} {μ : mM} {cells slots pc : Nat} {L : List (Option Value)} {S : List Value} {h : mH} {k : Fin 4} {x : Int32} (hK : mCx K μ) (hd : decode μ.2.1 pc = .ok (.istore_n k, 1)) (hn : (k : Nat) < μ.2.2.1) (ho : mOk L (k : Nat) = true) (kk : mJ K cells slots (pc + 1) (L.set (k : Nat) (some (.int x))) S h) : mJ K cells slots pc L (.int x :: S) h := fun H locs ls hH hS hL => lv_istore_n hK.1 hK.2.1 hd rfl hL (by rw [hK.2.2.1]; exact hn) rfl (fun ls9 hl9 => kk H locs ls9 hH hS (mSt1 ho hl9))
theorem mJ_istore {K : mK} {μ : mM} {cells slots pc : Nat} {L : List (Option Value)} {S : List Value} {h : mH} {i : Nat} {x : Int32} (hK : mCx K μ) (hd : decode μ.2.1 pc = .ok (.istore i, 2)) (hn : i < μ.2.2.1) (ho : mOk L i = true) (kk : mJ K cells slots (pc + 2) (L.set i (some (.int x))) S h) : mJ K cells slots pc L (.int x :: S) h := fun H locs ls hH hS hL => lv_istore hK.1 hK.2.1 hd hL (by rw [hK.2.2.1]; exact hn) rfl (fun ls9 hl9 => kk H locs ls9 hH hS (mSt1 ho hl9))
theorem mJ_astore_n {K : mK} {μ : mM} {cells slots pc : Nat} {L : List (Option Value)} {S : List Value} {h : mH} {k : Fin 4} {x : Nat} (hK : mCx K μ) (hd : decode μ.2.1 pc = .ok (.astore_n k, 1)) (hn : (k : Nat) < μ.2.2.1) (ho : mOk L (k : Nat) = true) (kk : mJ K cells slots (pc + 1) (L.set (k : Nat) (some (.ref x))) S h) : mJ K cells slots pc L (.ref x :: S) h := fun H locs ls hH hS hL => lv_astore_n hK.1 hK.2.1 hd rfl hL (by rw [hK.2.2.1]; exact hn) rfl (fun ls9 hl9 => kk H locs ls9 hH hS (mSt1 ho hl9))
theorem mJ_astore {K : mK} {μ : mM} {cells slots pc : Nat} {L : List (Option Value)} {S : List Value} {h : mH} {i : Nat} {x : Nat} (hK : mCx K μ) (hd : decode μ.2.1 pc = .ok (.astore i, 2)) (hn : i < μ.2.2.1) (ho : mOk L i = true) (kk : mJ K cells slots (pc + 2) (L.set i (some (.ref x))) S h) : mJ K cells slots pc L (.ref x :: S) h := fun H locs ls hH hS hL => lv_astore hK.1 hK.2.1 hd hL (by rw [hK.2.2.1]; exact hn) rfl (fun ls9 hl9 => kk H locs ls9 hH hS (mSt1 ho hl9))
theorem mJ_lstore_n {K : mK} {μ : mM} {cells slots pc : Nat} {L : List (Option Value)} {S : List Value} {h : mH} {k : Fin 4} {x : Int64} (hK : mCx K μ) (hd : decode μ.2.1 pc = .ok (.lstore_n k, 1)) (hn : (k : Nat) + 1 < μ.2.2.1) (ho : mOk L (k : Nat) = true) (kk : mJ K cells slots (pc + 1) ((L.set (k : Nat) (some (.long x))).set ((k : Nat) + 1) none) S h) : mJ K cells slots pc L (.long x :: S) h := fun H locs ls hH hS hL => lv_lstore_n hK.1 hK.2.1 hd rfl hL (by rw [hK.2.2.1]; exact hn) rfl (fun ls9 hl9 => kk H locs ls9 hH hS (mSt2 ho hl9))
theorem mJ_lstore {K : mK} {μ : mM} {cells slots pc : Nat} {L : List (Option Value)} {S : List Value} {h : mH} {i : Nat} {x : Int64} (hK : mCx K μ) (hd : decode μ.2.1 pc = .ok (.lstore i, 2)) (hn : i + 1 < μ.2.2.1) (ho : mOk L i = true) (kk : mJ K cells slots (pc + 2) ((L.set i (some (.long x))).set (i + 1) none) S h) : mJ K cells slots pc L (.long x :: S) h := fun H locs ls hH hS hL => lv_lstore hK.1 hK.2.1 hd hL (by rw [hK.2.2.1]; exact hn) rfl (fun ls9 hl9 => kk H locs ls9 hH hS (mSt2 ho hl9))
theorem mJ_iinc {K : mK} {μ : mM} {cells slots pc : Nat} {L : List (Option Value)} {S : List Value} {h : mH} {i : Nat} {n : Int} {x v : Int32} (hK : mCx K μ) (hd : decode μ.2.1 pc = .ok (.iinc i n, 3)) (hl : L[i]? = some (some (.int x))) (hv : x + Int32.ofInt n = v) (hn : i < μ.2.2.1) (ho : mOk L i = true) (kk : mJ K cells slots (pc + 3) (L.set i (some (.int v))) S h) : mJ K cells slots pc L S h := by
  intro H locs ls hH hS hL
  obtain ⟨j, hj⟩ := List.getElem?_of_mem ((mLv_mem L 0 i (.int x)).mpr ⟨i, by omega, hl⟩)
  exact lv_iinc hK.1 hK.2.1 hd hL hj hv (by rw [hK.2.2.1]; exact hn) rfl (fun ls9 hl9 => kk H locs ls9 hH hS (mSt1 ho hl9))
theorem mJ_iadd {K : mK} {μ : mM} {cells slots pc : Nat} {L : List (Option Value)} {S : List Value} {h : mH} {x y : Int32} (hK : mCx K μ) (hd : decode μ.2.1 pc = .ok (.iadd, 1))  (k : mJ K cells slots (pc + 1) L (.int (x + y) :: S) h) : mJ K cells slots pc L (.int y :: .int x :: S) h := fun H locs ls hH hS hL => lv_iadd hK.1 hK.2.1 hd  (k H locs ls hH hS hL)
theorem mJ_isub {K : mK} {μ : mM} {cells slots pc : Nat} {L : List (Option Value)} {S : List Value} {h : mH} {x y : Int32} (hK : mCx K μ) (hd : decode μ.2.1 pc = .ok (.isub, 1))  (k : mJ K cells slots (pc + 1) L (.int (x - y) :: S) h) : mJ K cells slots pc L (.int y :: .int x :: S) h := fun H locs ls hH hS hL => lv_isub hK.1 hK.2.1 hd  (k H locs ls hH hS hL)
theorem mJ_imul {K : mK} {μ : mM} {cells slots pc : Nat} {L : List (Option Value)} {S : List Value} {h : mH} {x y : Int32} (hK : mCx K μ) (hd : decode μ.2.1 pc = .ok (.imul, 1))  (k : mJ K cells slots (pc + 1) L (.int (x * y) :: S) h) : mJ K cells slots pc L (.int y :: .int x :: S) h := fun H locs ls hH hS hL => lv_imul hK.1 hK.2.1 hd  (k H locs ls hH hS hL)
theorem mJ_iand {K : mK} {μ : mM} {cells slots pc : Nat} {L : List (Option Value)} {S : List Value} {h : mH} {x y : Int32} (hK : mCx K μ) (hd : decode μ.2.1 pc = .ok (.iand, 1))  (k : mJ K cells slots (pc + 1) L (.int (x &&& y) :: S) h) : mJ K cells slots pc L (.int y :: .int x :: S) h := fun H locs ls hH hS hL => lv_iand hK.1 hK.2.1 hd  (k H locs ls hH hS hL)
theorem mJ_ior {K : mK} {μ : mM} {cells slots pc : Nat} {L : List (Option Value)} {S : List Value} {h : mH} {x y : Int32} (hK : mCx K μ) (hd : decode μ.2.1 pc = .ok (.ior, 1))  (k : mJ K cells slots (pc + 1) L (.int (x ||| y) :: S) h) : mJ K cells slots pc L (.int y :: .int x :: S) h := fun H locs ls hH hS hL => lv_ior hK.1 hK.2.1 hd  (k H locs ls hH hS hL)
theorem mJ_ixor {K : mK} {μ : mM} {cells slots pc : Nat} {L : List (Option Value)} {S : List Value} {h : mH} {x y : Int32} (hK : mCx K μ) (hd : decode μ.2.1 pc = .ok (.ixor, 1))  (k : mJ K cells slots (pc + 1) L (.int (x ^^^ y) :: S) h) : mJ K cells slots pc L (.int y :: .int x :: S) h := fun H locs ls hH hS hL => lv_ixor hK.1 hK.2.1 hd  (k H locs ls hH hS hL)
theorem mJ_ishl {K : mK} {μ : mM} {cells slots pc : Nat} {L : List (Option Value)} {S : List Value} {h : mH} {x y : Int32} (hK : mCx K μ) (hd : decode μ.2.1 pc = .ok (.ishl, 1))  (k : mJ K cells slots (pc + 1) L (.int (x <<< (y &&& 31)) :: S) h) : mJ K cells slots pc L (.int y :: .int x :: S) h := fun H locs ls hH hS hL => lv_ishl hK.1 hK.2.1 hd  (k H locs ls hH hS hL)
theorem mJ_ishr {K : mK} {μ : mM} {cells slots pc : Nat} {L : List (Option Value)} {S : List Value} {h : mH} {x y : Int32} (hK : mCx K μ) (hd : decode μ.2.1 pc = .ok (.ishr, 1))  (k : mJ K cells slots (pc + 1) L (.int (x >>> (y &&& 31)) :: S) h) : mJ K cells slots pc L (.int y :: .int x :: S) h := fun H locs ls hH hS hL => lv_ishr hK.1 hK.2.1 hd  (k H locs ls hH hS hL)
theorem mJ_irem {K : mK} {μ : mM} {cells slots pc : Nat} {L : List (Option Value)} {S : List Value} {h : mH} {x y : Int32} (hK : mCx K μ) (hd : decode μ.2.1 pc = .ok (.irem, 1)) (hne : ¬ y = 0) (k : mJ K cells slots (pc + 1) L (.int (x - x / y * y) :: S) h) : mJ K cells slots pc L (.int y :: .int x :: S) h := fun H locs ls hH hS hL => lv_irem hK.1 hK.2.1 hd hne (k H locs ls hH hS hL)
theorem mJ_iushr {K : mK} {μ : mM} {cells slots pc : Nat} {L : List (Option Value)} {S : List Value} {h : mH} {x y v : Int32} (hK : mCx K μ) (hd : decode μ.2.1 pc = .ok (.iushr, 1)) (hv : (x.toUInt32 >>> (y.toUInt32 &&& Int32.toUInt32 31)).toInt32 = v) (k : mJ K cells slots (pc + 1) L (.int v :: S) h) : mJ K cells slots pc L (.int y :: .int x :: S) h := fun H locs ls hH hS hL => lv_iushr hK.1 hK.2.1 hd hv (k H locs ls hH hS hL)
theorem mJ_ineg {K : mK} {μ : mM} {cells slots pc : Nat} {L : List (Option Value)} {S : List Value} {h : mH} {x : Int32} (hK : mCx K μ) (hd : decode μ.2.1 pc = .ok (.ineg, 1))  (k : mJ K cells slots (pc + 1) L (.int (-x) :: S) h) : mJ K cells slots pc L (.int x :: S) h := fun H locs ls hH hS hL => lv_ineg hK.1 hK.2.1 hd  (k H locs ls hH hS hL)
theorem mJ_ladd {K : mK} {μ : mM} {cells slots pc : Nat} {L : List (Option Value)} {S : List Value} {h : mH} {x y : Int64} (hK : mCx K μ) (hd : decode μ.2.1 pc = .ok (.ladd, 1))  (k : mJ K cells slots (pc + 1) L (.long (x + y) :: S) h) : mJ K cells slots pc L (.long y :: .long x :: S) h := fun H locs ls hH hS hL => lv_ladd hK.1 hK.2.1 hd  (k H locs ls hH hS hL)
theorem mJ_lsub {K : mK} {μ : mM} {cells slots pc : Nat} {L : List (Option Value)} {S : List Value} {h : mH} {x y : Int64} (hK : mCx K μ) (hd : decode μ.2.1 pc = .ok (.lsub, 1))  (k : mJ K cells slots (pc + 1) L (.long (x - y) :: S) h) : mJ K cells slots pc L (.long y :: .long x :: S) h := fun H locs ls hH hS hL => lv_lsub hK.1 hK.2.1 hd  (k H locs ls hH hS hL)
theorem mJ_lmul {K : mK} {μ : mM} {cells slots pc : Nat} {L : List (Option Value)} {S : List Value} {h : mH} {x y : Int64} (hK : mCx K μ) (hd : decode μ.2.1 pc = .ok (.lmul, 1))  (k : mJ K cells slots (pc + 1) L (.long (x * y) :: S) h) : mJ K cells slots pc L (.long y :: .long x :: S) h := fun H locs ls hH hS hL => lv_lmul hK.1 hK.2.1 hd  (k H locs ls hH hS hL)
theorem mJ_i2l {K : mK} {μ : mM} {cells slots pc : Nat} {L : List (Option Value)} {S : List Value} {h : mH} {x : Int32} (hK : mCx K μ) (hd : decode μ.2.1 pc = .ok (.i2l, 1))  (k : mJ K cells slots (pc + 1) L (.long x.toInt64 :: S) h) : mJ K cells slots pc L (.int x :: S) h := fun H locs ls hH hS hL => lv_i2l hK.1 hK.2.1 hd rfl (k H locs ls hH hS hL)
theorem mJ_l2i {K : mK} {μ : mM} {cells slots pc : Nat} {L : List (Option Value)} {S : List Value} {h : mH} {x : Int64} (hK : mCx K μ) (hd : decode μ.2.1 pc = .ok (.l2i, 1))  (k : mJ K cells slots (pc + 1) L (.int x.toInt32 :: S) h) : mJ K cells slots pc L (.long x :: S) h := fun H locs ls hH hS hL => lv_l2i hK.1 hK.2.1 hd rfl (k H locs ls hH hS hL)
theorem mJ_lcmp {K : mK} {μ : mM} {cells slots pc : Nat} {L : List (Option Value)} {S : List Value} {h : mH} {x y : Int64} (hK : mCx K μ) (hd : decode μ.2.1 pc = .ok (.lcmp, 1))  (k : mJ K cells slots (pc + 1) L (.int (lg_cmp x y) :: S) h) : mJ K cells slots pc L (.long y :: .long x :: S) h := fun H locs ls hH hS hL => W.lcmp hK.1 hK.2.1 hd  (k H locs ls hH hS hL)
theorem mJ_dup {K : mK} {μ : mM} {cells slots pc : Nat} {L : List (Option Value)} {S : List Value} {h : mH} {v : Value} (hK : mCx K μ) (hd : decode μ.2.1 pc = .ok (.dup, 1)) (hv : v.category = 1) (k : mJ K cells slots (pc + 1) L (v :: v :: S) h) : mJ K cells slots pc L (v :: S) h := fun H locs ls hH hS hL => lv_dup hK.1 hK.2.1 hd hv (k H locs ls hH hS hL)
theorem mJ_dup2 {K : mK} {μ : mM} {cells slots pc : Nat} {L : List (Option Value)} {S : List Value} {h : mH} {v w : Value} (hK : mCx K μ) (hd : decode μ.2.1 pc = .ok (.dup2, 1)) (hv : v.category = 1) (hw : w.category = 1) (k : mJ K cells slots (pc + 1) L (v :: w :: v :: w :: S) h) : mJ K cells slots pc L (v :: w :: S) h := fun H locs ls hH hS hL => lv_dup2_11 hK.1 hK.2.1 hd hv hw (k H locs ls hH hS hL)
theorem mJ_pop {K : mK} {μ : mM} {cells slots pc : Nat} {L : List (Option Value)} {S : List Value} {h : mH} {v : Value} (hK : mCx K μ) (hd : decode μ.2.1 pc = .ok (.pop, 1)) (hv : v.category = 1) (k : mJ K cells slots (pc + 1) L (S) h) : mJ K cells slots pc L (v :: S) h := fun H locs ls hH hS hL => lv_pop hK.1 hK.2.1 hd hv (k H locs ls hH hS hL)
theorem mJ_ldc2 {K : mK} {μ : mM} {cells slots pc : Nat} {L : List (Option Value)} {S : List Value} {h : mH} {i : Nat} {v : Int64} (hK : mCx K μ) (hd : decode μ.2.1 pc = .ok (.ldc2_w i, 3)) (hc : Cond.constantLong μ.1.cls i v ∈ mTB) (k : mJ K cells slots (pc + 3) L (.long v :: S) h) : mJ K cells slots pc L S h := fun H locs ls hH hS hL => lv_ldc2 hK.1 hK.2.1 hK.2.2.2.2.1 (hK.2.2.2.2.2.1 _ hc) hd (k H locs ls hH hS hL)
theorem mJ_ldcw {K : mK} {μ : mM} {cells slots pc : Nat} {L : List (Option Value)} {S : List Value} {h : mH} {i : Nat} {v : Int32} (hK : mCx K μ) (hd : decode μ.2.1 pc = .ok (.ldc_w i, 3)) (hc : Cond.constant μ.1.cls i v ∈ mTB) (k : mJ K cells slots (pc + 3) L (.int v :: S) h) : mJ K cells slots pc L S h := fun H locs ls hH hS hL => lv_ldcw hK.1 hK.2.1 hK.2.2.2.2.1 (hK.2.2.2.2.2.1 _ hc) hd (k H locs ls hH hS hL)
theorem mJ_if_eq {K : mK} {μ : mM} {cells slots pc : Nat} {L : List (Option Value)} {S : List Value} {h : mH} {x : Int32} {off : Int} {tgt : Nat} (hK : mCx K μ) (hd : decode μ.2.1 pc = .ok (.ifCond .eq off, 3)) (ht : (pc : Int) + off = (tgt : Int)) (kt : x = 0 → mJ K cells slots tgt L S h) (kf : ¬ x = 0 → mJ K cells slots (pc + 3) L S h) : mJ K cells slots pc L (.int x :: S) h := fun H locs ls hH hS hL => lv_if_eq hK.1 hK.2.1 hd ht (fun c9 => kt c9 H locs ls hH hS hL) (fun c9 => kf c9 H locs ls hH hS hL)
theorem mJ_icmp_eq {K : mK} {μ : mM} {cells slots pc : Nat} {L : List (Option Value)} {S : List Value} {h : mH} {x y : Int32} {off : Int} {tgt : Nat} (hK : mCx K μ) (hd : decode μ.2.1 pc = .ok (.if_icmp .eq off, 3)) (ht : (pc : Int) + off = (tgt : Int)) (kt : x = y → mJ K cells slots tgt L S h) (kf : ¬ x = y → mJ K cells slots (pc + 3) L S h) : mJ K cells slots pc L (.int y :: .int x :: S) h := fun H locs ls hH hS hL => lv_icmp_eq hK.1 hK.2.1 hd ht (fun c9 => kt c9 H locs ls hH hS hL) (fun c9 => kf c9 H locs ls hH hS hL)
theorem mJ_if_ne {K : mK} {μ : mM} {cells slots pc : Nat} {L : List (Option Value)} {S : List Value} {h : mH} {x : Int32} {off : Int} {tgt : Nat} (hK : mCx K μ) (hd : decode μ.2.1 pc = .ok (.ifCond .ne off, 3)) (ht : (pc : Int) + off = (tgt : Int)) (kt : ¬ x = 0 → mJ K cells slots tgt L S h) (kf : x = 0 → mJ K cells slots (pc + 3) L S h) : mJ K cells slots pc L (.int x :: S) h := fun H locs ls hH hS hL => lv_if_ne hK.1 hK.2.1 hd ht (fun c9 => kt c9 H locs ls hH hS hL) (fun c9 => kf c9 H locs ls hH hS hL)
theorem mJ_icmp_ne {K : mK} {μ : mM} {cells slots pc : Nat} {L : List (Option Value)} {S : List Value} {h : mH} {x y : Int32} {off : Int} {tgt : Nat} (hK : mCx K μ) (hd : decode μ.2.1 pc = .ok (.if_icmp .ne off, 3)) (ht : (pc : Int) + off = (tgt : Int)) (kt : ¬ x = y → mJ K cells slots tgt L S h) (kf : x = y → mJ K cells slots (pc + 3) L S h) : mJ K cells slots pc L (.int y :: .int x :: S) h := fun H locs ls hH hS hL => lv_icmp_ne hK.1 hK.2.1 hd ht (fun c9 => kt c9 H locs ls hH hS hL) (fun c9 => kf c9 H locs ls hH hS hL)
theorem mJ_if_lt {K : mK} {μ : mM} {cells slots pc : Nat} {L : List (Option Value)} {S : List Value} {h : mH} {x : Int32} {off : Int} {tgt : Nat} (hK : mCx K μ) (hd : decode μ.2.1 pc = .ok (.ifCond .lt off, 3)) (ht : (pc : Int) + off = (tgt : Int)) (kt : x < 0 → mJ K cells slots tgt L S h) (kf : ¬ x < 0 → mJ K cells slots (pc + 3) L S h) : mJ K cells slots pc L (.int x :: S) h := fun H locs ls hH hS hL => lv_if_lt hK.1 hK.2.1 hd ht (fun c9 => kt c9 H locs ls hH hS hL) (fun c9 => kf c9 H locs ls hH hS hL)
theorem mJ_icmp_lt {K : mK} {μ : mM} {cells slots pc : Nat} {L : List (Option Value)} {S : List Value} {h : mH} {x y : Int32} {off : Int} {tgt : Nat} (hK : mCx K μ) (hd : decode μ.2.1 pc = .ok (.if_icmp .lt off, 3)) (ht : (pc : Int) + off = (tgt : Int)) (kt : x < y → mJ K cells slots tgt L S h) (kf : ¬ x < y → mJ K cells slots (pc + 3) L S h) : mJ K cells slots pc L (.int y :: .int x :: S) h := fun H locs ls hH hS hL => lv_icmp_lt hK.1 hK.2.1 hd ht (fun c9 => kt c9 H locs ls hH hS hL) (fun c9 => kf c9 H locs ls hH hS hL)
theorem mJ_if_ge {K : mK} {μ : mM} {cells slots pc : Nat} {L : List (Option Value)} {S : List Value} {h : mH} {x : Int32} {off : Int} {tgt : Nat} (hK : mCx K μ) (hd : decode μ.2.1 pc = .ok (.ifCond .ge off, 3)) (ht : (pc : Int) + off = (tgt : Int)) (kt : 0 ≤ x → mJ K cells slots tgt L S h) (kf : ¬ 0 ≤ x → mJ K cells slots (pc + 3) L S h) : mJ K cells slots pc L (.int x :: S) h := fun H locs ls hH hS hL => lv_if_ge hK.1 hK.2.1 hd ht (fun c9 => kt c9 H locs ls hH hS hL) (fun c9 => kf c9 H locs ls hH hS hL)
theorem mJ_icmp_ge {K : mK} {μ : mM} {cells slots pc : Nat} {L : List (Option Value)} {S : List Value} {h : mH} {x y : Int32} {off : Int} {tgt : Nat} (hK : mCx K μ) (hd : decode μ.2.1 pc = .ok (.if_icmp .ge off, 3)) (ht : (pc : Int) + off = (tgt : Int)) (kt : y ≤ x → mJ K cells slots tgt L S h) (kf : ¬ y ≤ x → mJ K cells slots (pc + 3) L S h) : mJ K cells slots pc L (.int y :: .int x :: S) h := fun H locs ls hH hS hL => lv_icmp_ge hK.1 hK.2.1 hd ht (fun c9 => kt c9 H locs ls hH hS hL) (fun c9 => kf c9 H locs ls hH hS hL)
theorem mJ_if_gt {K : mK} {μ : mM} {cells slots pc : Nat} {L : List (Option Value)} {S : List Value} {h : mH} {x : Int32} {off : Int} {tgt : Nat} (hK : mCx K μ) (hd : decode μ.2.1 pc = .ok (.ifCond .gt off, 3)) (ht : (pc : Int) + off = (tgt : Int)) (kt : 0 < x → mJ K cells slots tgt L S h) (kf : ¬ 0 < x → mJ K cells slots (pc + 3) L S h) : mJ K cells slots pc L (.int x :: S) h := fun H locs ls hH hS hL => lv_if_gt hK.1 hK.2.1 hd ht (fun c9 => kt c9 H locs ls hH hS hL) (fun c9 => kf c9 H locs ls hH hS hL)
theorem mJ_icmp_gt {K : mK} {μ : mM} {cells slots pc : Nat} {L : List (Option Value)} {S : List Value} {h : mH} {x y : Int32} {off : Int} {tgt : Nat} (hK : mCx K μ) (hd : decode μ.2.1 pc = .ok (.if_icmp .gt off, 3)) (ht : (pc : Int) + off = (tgt : Int)) (kt : y < x → mJ K cells slots tgt L S h) (kf : ¬ y < x → mJ K cells slots (pc + 3) L S h) : mJ K cells slots pc L (.int y :: .int x :: S) h := fun H locs ls hH hS hL => lv_icmp_gt hK.1 hK.2.1 hd ht (fun c9 => kt c9 H locs ls hH hS hL) (fun c9 => kf c9 H locs ls hH hS hL)
theorem mJ_if_le {K : mK} {μ : mM} {cells slots pc : Nat} {L : List (Option Value)} {S : List Value} {h : mH} {x : Int32} {off : Int} {tgt : Nat} (hK : mCx K μ) (hd : decode μ.2.1 pc = .ok (.ifCond .le off, 3)) (ht : (pc : Int) + off = (tgt : Int)) (kt : x ≤ 0 → mJ K cells slots tgt L S h) (kf : ¬ x ≤ 0 → mJ K cells slots (pc + 3) L S h) : mJ K cells slots pc L (.int x :: S) h := fun H locs ls hH hS hL => lv_if_le hK.1 hK.2.1 hd ht (fun c9 => kt c9 H locs ls hH hS hL) (fun c9 => kf c9 H locs ls hH hS hL)
theorem mJ_icmp_le {K : mK} {μ : mM} {cells slots pc : Nat} {L : List (Option Value)} {S : List Value} {h : mH} {x y : Int32} {off : Int} {tgt : Nat} (hK : mCx K μ) (hd : decode μ.2.1 pc = .ok (.if_icmp .le off, 3)) (ht : (pc : Int) + off = (tgt : Int)) (kt : x ≤ y → mJ K cells slots tgt L S h) (kf : ¬ x ≤ y → mJ K cells slots (pc + 3) L S h) : mJ K cells slots pc L (.int y :: .int x :: S) h := fun H locs ls hH hS hL => lv_icmp_le hK.1 hK.2.1 hd ht (fun c9 => kt c9 H locs ls hH hS hL) (fun c9 => kf c9 H locs ls hH hS hL)
theorem mJ_goto {K : mK} {μ : mM} {cells slots pc : Nat} {L : List (Option Value)} {S : List Value} {h : mH} {off : Int} {tgt : Nat} (hK : mCx K μ) (hd : decode μ.2.1 pc = .ok (.goto off, 3)) (ht : (pc : Int) + off = (tgt : Int)) (k : mJ K cells slots tgt L S h) : mJ K cells slots pc L S h := fun H locs ls hH hS hL => lv_goto hK.1 hK.2.1 hd ht (k H locs ls hH hS hL)
theorem mJ_tabOut {K : mK} {μ : mM} {cells slots pc : Nat} {L : List (Option Value)} {S : List Value} {h : mH} {dflt lo hi : Int} {offs : Array Int} {len : Nat} {x : Int32} {tgt : Nat} (hK : mCx K μ) (hd : decode μ.2.1 pc = .ok (.tableswitch dflt lo hi offs, len)) (hx : x.toInt < lo ∨ hi < x.toInt) (ht : (pc : Int) + dflt = (tgt : Int)) (k : mJ K cells slots tgt L S h) : mJ K cells slots pc L (.int x :: S) h := fun H locs ls hH hS hL => lv_tableOut hK.1 hK.2.1 hd hx ht (k H locs ls hH hS hL)
theorem mJ_tabIn {K : mK} {μ : mM} {cells slots pc : Nat} {L : List (Option Value)} {S : List Value} {h : mH} {dflt lo hi : Int} {offs : Array Int} {len : Nat} {x : Int32} {off : Int} {tgt : Nat} (hK : mCx K μ) (hd : decode μ.2.1 pc = .ok (.tableswitch dflt lo hi offs, len)) (h1 : ¬ x.toInt < lo) (h2 : ¬ hi < x.toInt) (ho : offs[(x.toInt - lo).toNat]? = some off) (ht : (pc : Int) + off = (tgt : Int)) (k : mJ K cells slots tgt L S h) : mJ K cells slots pc L (.int x :: S) h := fun H locs ls hH hS hL => lv_tableIn hK.1 hK.2.1 hd h1 h2 ho ht (k H locs ls hH hS hL)

/-- a field's link: class ci of the world, slot k; by the class's own pool or a nest mate's -/
def mFL (own : String) (idx ci k : Nat) : Prop := ∃ (C : String) (T : u_T) (N : Nat), vwCl[ci]? = some (C, T, N) ∧ k < N ∧ (∀ w ∈ u_ws C T N, w ∈ mTB) ∧ (Cond.fieldLink own idx (T k).1 (T k).2.1 (T k).2.2.1 ∈ mTB ∨ ∃ host : String, (own, idx, (T k).1, (T k).2.1, (T k).2.2.1, host) ∈ mNF)
/-- and what a store into it wants -/
def mFS (ci k : Nat) (ty : FieldType) : Prop := ∀ (C : String) (T : u_T) (N : Nat), vwCl[ci]? = some (C, T, N) → (∃ ty0 : Nat → FieldType, ∀ k, k < N → parseFieldDescriptor (T k).2.2.1 = some (ty0 k)) ∧ (∀ a, a < N → ∀ b, b < N → a ≠ b → (T a).2.1 ≠ (T b).2.1) ∧ (T k).2.2.2 = false ∧ parseFieldDescriptor (T k).2.2.1 = some ty
theorem mJ_getf {K : mK} {μ : mM} {cells slots pc : Nat} {L : List (Option Value)} {S : List Value} {h : mH} {idx ci k a : Nat} {fs : List Value} {v : Value} (hK : mCx K μ) (hd : decode μ.2.1 pc = .ok (.getfield idx, 3)) (hl : mFL μ.1.cls idx ci k) (ha : h a = some (.inr (ci, fs))) (hv : fs[k]? = some v) (kk : mJ K cells slots (pc + 3) L (v :: S) h) : mJ K cells slots pc L (.ref a :: S) h := by
  intro H locs ls hH hS hL
  obtain ⟨ws, hP, hD, hs⟩ := id hH
  obtain ⟨q, hq⟩ := hs a _ ha
  obtain ⟨C, T, N, hc, hk, hin, hlk⟩ := hl
  have hE := hK.2.2.2.2.2.2.2.2.1
  rcases hlk with hlk | ⟨host, hlk⟩
  · exact va_get hK.1 hK.2.1 hK.2.2.2.2.2.1 hin hK.2.2.2.2.1 hE.2.1 hP q hq hc k hk (hK.2.2.2.2.2.1 _ hlk) (fun _ h9 => h9) hv hd (kk H locs ls hH hS hL)
  · exact va_getN hK.1 hK.2.1 hK.2.2.2.2.2.1 hin hK.2.2.2.2.1 hE.2.1 hP q hq hc k hk (va_Nw.use rfl (hE.2.2.1 _ hlk)) (fun _ h9 => h9) hv hd (kk H locs ls hH hS hL)
theorem mJ_putf {K : mK} {μ : mM} {cells slots pc : Nat} {L : List (Option Value)} {S : List Value} {h : mH} {idx ci k a : Nat} {fs : List Value} {v : Value} {ty : FieldType} (hK : mCx K μ) (hd : decode μ.2.1 pc = .ok (.putfield idx, 3)) (hl : mFL μ.1.cls idx ci k) (hf : mFS ci k ty) (hn : narrow ty v = v) (hfit : fits ty v = true) (ha : h a = some (.inr (ci, fs))) (hk9 : k < fs.length) (kk : mJ K cells slots (pc + 3) L S (mset h a (.inr (ci, fs.set k v)))) : mJ K cells slots pc L (v :: .ref a :: S) h := by
  intro H locs ls hH hS hL
  obtain ⟨ws, hP, hD, hs⟩ := id hH
  obtain ⟨q, hq⟩ := hs a _ ha
  obtain ⟨C, T, N, hc, hk, hin, hlk⟩ := hl
  obtain ⟨⟨ty0, h1⟩, h2, h3, h4⟩ := hf C T N hc
  have hE := hK.2.2.2.2.2.2.2.2.1
  rcases hlk with hlk | ⟨host, hlk⟩
  · exact va_put hK.1 hK.2.1 hK.2.2.2.2.2.1 hin ty0 h1 h2 hK.2.2.2.2.1 hE.2.1 hP hD hS q hq hc k hk (hK.2.2.2.2.2.1 _ hlk) (fun _ h9 => h9) h3 h4 hn hfit hk9 hd (fun H1 locs1 hP1 hD1 hS1 => kk H1 locs1 ls ⟨_, hP1, hD1, hs.set (e := .inr (ci, fs.set k v)) hq⟩ hS1 hL)
  · exact va_putN hK.1 hK.2.1 hK.2.2.2.2.2.1 hin ty0 h1 h2 hK.2.2.2.2.1 hE.2.1 hP hD hS q hq hc k hk (va_Nw.use rfl (hE.2.2.1 _ hlk)) (fun _ h9 => h9) h3 h4 hn hfit hk9 hd (fun H1 locs1 hP1 hD1 hS1 => kk H1 locs1 ls ⟨_, hP1, hD1, hs.set (e := .inr (ci, fs.set k v)) hq⟩ hS1 hL)

theorem mJ_iald {K : mK} {μ : mM} {cells slots pc : Nat} {L : List (Option Value)} {S : List Value} {h : mH} {a n : Nat} {f : Nat → Int32} {i : Int32} (hK : mCx K μ) (hd : decode μ.2.1 pc = .ok (.iaload, 1)) (ha : h a = some (.inl (0, n, .inl f))) (hin : vp_in i n) (kk : mJ K cells slots (pc + 1) L (.int (f i.toNatClampNeg) :: S) h) : mJ K cells slots pc L (.int i :: .ref a :: S) h := by
  intro H locs ls hH hS hL
  obtain ⟨ws, hP, hD, hs⟩ := id hH
  obtain ⟨q, hq⟩ := hs a _ ha
  exact va_iald hK.1 hK.2.1 hK.2.2.2.2.2.2.2.2.1.2.1 hP q 0 hq rfl hin hd (kk H locs ls hH hS hL)
theorem mJ_lald {K : mK} {μ : mM} {cells slots pc : Nat} {L : List (Option Value)} {S : List Value} {h : mH} {a n : Nat} {f : Nat → Int64} {i : Int32} (hK : mCx K μ) (hd : decode μ.2.1 pc = .ok (.laload, 1)) (ha : h a = some (.inl (1, n, .inr (.inl f)))) (hin : vp_in i n) (kk : mJ K cells slots (pc + 1) L (.long (f i.toNatClampNeg) :: S) h) : mJ K cells slots pc L (.int i :: .ref a :: S) h := by
  intro H locs ls hH hS hL
  obtain ⟨ws, hP, hD, hs⟩ := id hH
  obtain ⟨q, hq⟩ := hs a _ ha
  exact va_lald hK.1 hK.2.1 hK.2.2.2.2.2.2.2.2.1.2.1 hP q 1 hq rfl hin hd (kk H locs ls hH hS hL)
theorem mJ_zald {K : mK} {μ : mM} {cells slots pc : Nat} {L : List (Option Value)} {S : List Value} {h : mH} {a n : Nat} {f : Nat → Int32} {i : Int32} (hK : mCx K μ) (hd : decode μ.2.1 pc = .ok (.baload, 1)) (ha : h a = some (.inl (2, n, .inl f))) (hin : vp_in i n) (kk : mJ K cells slots (pc + 1) L (.int (f i.toNatClampNeg) :: S) h) : mJ K cells slots pc L (.int i :: .ref a :: S) h := by
  intro H locs ls hH hS hL
  obtain ⟨ws, hP, hD, hs⟩ := id hH
  obtain ⟨q, hq⟩ := hs a _ ha
  exact va_zald hK.1 hK.2.1 hK.2.2.2.2.2.2.2.2.1.2.1 hP q 2 hq rfl hin hd (kk H locs ls hH hS hL)
theorem mJ_aaldR {K : mK} {μ : mM} {cells slots pc : Nat} {L : List (Option Value)} {S : List Value} {h : mH} {a n v : Nat} {f : Nat → Option Nat} {i : Int32} (hK : mCx K μ) (hd : decode μ.2.1 pc = .ok (.aaload, 1)) (ha : h a = some (.inl (3, n, .inr (.inr (.inr (.inr f)))))) (hin : vp_in i n) (hv : f i.toNatClampNeg = some v) (kk : mJ K cells slots (pc + 1) L (.ref v :: S) h) : mJ K cells slots pc L (.int i :: .ref a :: S) h := by
  intro H locs ls hH hS hL
  obtain ⟨ws, hP, hD, hs⟩ := id hH
  obtain ⟨q, hq⟩ := hs a _ ha
  refine va_aldq hK.1 hK.2.1 hK.2.2.2.2.2.2.2.2.1.2.1 hP q 3 hq rfl hin hd ?_
  rw [hv]
  exact kk H locs ls hH hS hL
theorem mJ_aaldC {K : mK} {μ : mM} {cells slots pc : Nat} {L : List (Option Value)} {S : List Value} {h : mH} {a n v : Nat} {f : Nat → Option Nat} {i : Int32} (hK : mCx K μ) (hd : decode μ.2.1 pc = .ok (.aaload, 1)) (ha : h a = some (.inl (4, n, .inr (.inr (.inr (.inr f)))))) (hin : vp_in i n) (hv : f i.toNatClampNeg = some v) (kk : mJ K cells slots (pc + 1) L (.ref v :: S) h) : mJ K cells slots pc L (.int i :: .ref a :: S) h := by
  intro H locs ls hH hS hL
  obtain ⟨ws, hP, hD, hs⟩ := id hH
  obtain ⟨q, hq⟩ := hs a _ ha
  refine va_aldq hK.1 hK.2.1 hK.2.2.2.2.2.2.2.2.1.2.1 hP q 4 hq rfl hin hd ?_
  rw [hv]
  exact kk H locs ls hH hS hL
theorem mJ_iast {K : mK} {μ : mM} {cells slots pc : Nat} {L : List (Option Value)} {S : List Value} {h : mH} {a n : Nat} {f : Nat → Int32} {i : Int32} {x : Int32} (hK : mCx K μ) (hd : decode μ.2.1 pc = .ok (.iastore, 1)) (ha : h a = some (.inl (0, n, .inl (f)))) (hin : vp_in i n) (kk : mJ K cells slots (pc + 1) L S (mset h a (.inl (0, n, .inl (upd f i.toNatClampNeg x))))) : mJ K cells slots pc L (.int x :: .int i :: .ref a :: S) h := by
  intro H locs ls hH hS hL
  obtain ⟨ws, hP, hD, hs⟩ := id hH
  obtain ⟨q, hq⟩ := hs a _ ha
  exact va_iast hK.1 hK.2.1 hK.2.2.2.2.2.2.2.2.1.2.1 hP hD hS q 0 hq rfl hin hd (fun H1 locs1 hP1 hD1 hS1 => kk H1 locs1 ls ⟨_, hP1, hD1, hs.set (e := .inl (0, n, .inl (upd f i.toNatClampNeg x))) hq⟩ hS1 hL)
theorem mJ_last {K : mK} {μ : mM} {cells slots pc : Nat} {L : List (Option Value)} {S : List Value} {h : mH} {a n : Nat} {f : Nat → Int64} {i : Int32} {x : Int64} (hK : mCx K μ) (hd : decode μ.2.1 pc = .ok (.lastore, 1)) (ha : h a = some (.inl (1, n, .inr (.inl (f))))) (hin : vp_in i n) (kk : mJ K cells slots (pc + 1) L S (mset h a (.inl (1, n, .inr (.inl (vp_updL f i.toNatClampNeg x)))))) : mJ K cells slots pc L (.long x :: .int i :: .ref a :: S) h := by
  intro H locs ls hH hS hL
  obtain ⟨ws, hP, hD, hs⟩ := id hH
  obtain ⟨q, hq⟩ := hs a _ ha
  exact va_last hK.1 hK.2.1 hK.2.2.2.2.2.2.2.2.1.2.1 hP hD hS q 1 hq rfl hin hd (fun H1 locs1 hP1 hD1 hS1 => kk H1 locs1 ls ⟨_, hP1, hD1, hs.set (e := .inl (1, n, .inr (.inl (vp_updL f i.toNatClampNeg x)))) hq⟩ hS1 hL)
theorem mJ_zast {K : mK} {μ : mM} {cells slots pc : Nat} {L : List (Option Value)} {S : List Value} {h : mH} {a n : Nat} {f : Nat → Int32} {i : Int32} {x : Int32} (hK : mCx K μ) (hd : decode μ.2.1 pc = .ok (.bastore, 1)) (ha : h a = some (.inl (2, n, .inl (f)))) (hin : vp_in i n) (kk : mJ K cells slots (pc + 1) L S (mset h a (.inl (2, n, .inl (upd f i.toNatClampNeg (vp_nar .boolean x)))))) : mJ K cells slots pc L (.int x :: .int i :: .ref a :: S) h := by
  intro H locs ls hH hS hL
  obtain ⟨ws, hP, hD, hs⟩ := id hH
  obtain ⟨q, hq⟩ := hs a _ ha
  exact va_zast hK.1 hK.2.1 hK.2.2.2.2.2.2.2.2.1.2.1 hP hD hS q 2 hq rfl hin hd (fun H1 locs1 hP1 hD1 hS1 => kk H1 locs1 ls ⟨_, hP1, hD1, hs.set (e := .inl (2, n, .inl (upd f i.toNatClampNeg (vp_nar .boolean x)))) hq⟩ hS1 hL)
theorem mJ_aastR {K : mK} {μ : mM} {cells slots pc : Nat} {L : List (Option Value)} {S : List Value} {h : mH} {a n v : Nat} {f : Nat → Option Nat} {i : Int32} {vs : List Value} (hK : mCx K μ) (hd : decode μ.2.1 pc = .ok (.aastore, 1)) (ha : h a = some (.inl (3, n, .inr (.inr (.inr (.inr f)))))) (hv : h v = some (.inr (1, vs))) (hin : vp_in i n) (kk : mJ K cells slots (pc + 1) L S (mset h a (.inl (3, n, .inr (.inr (.inr (.inr (va_up f i.toNatClampNeg (some v))))))))) : mJ K cells slots pc L (.ref v :: .int i :: .ref a :: S) h := by
  intro H locs ls hH hS hL
  obtain ⟨ws, hP, hD, hs⟩ := id hH
  obtain ⟨q, hq⟩ := hs a _ ha
  obtain ⟨q2, hq2⟩ := hs v _ hv
  exact va_astq hK.1 hK.2.1 hK.2.2.2.2.2.2.2.2.1.2.1 hP hD hS q 3 q2 1 (r := (RX1, TX1, 11)) hq rfl hq2 rfl hin hd (fun H1 locs1 hP1 hD1 hS1 => kk H1 locs1 ls ⟨_, hP1, hD1, hs.set (e := .inl (3, n, .inr (.inr (.inr (.inr (va_up f i.toNatClampNeg (some v))))))) hq⟩ hS1 hL)
theorem mJ_alen {K : mK} {μ : mM} {cells slots pc : Nat} {L : List (Option Value)} {S : List Value} {h : mH} {a t : Nat} {x : vp_A} {ty : FieldType} {v : Int32} (hK : mCx K μ) (hd : decode μ.2.1 pc = .ok (.arraylength, 1)) (ha : h a = some (.inl (t, x))) (ht : ∀ aC : Nat → ClassId, (mtys aC)[t]? = some (aC t, ty)) (hv : Int32.ofNat x.1 = v) (kk : mJ K cells slots (pc + 1) L (.int v :: S) h) : mJ K cells slots pc L (.ref a :: S) h := by
  intro H locs ls hH hS hL
  obtain ⟨ws, hP, hD, hs⟩ := id hH
  obtain ⟨q, hq⟩ := hs a _ ha
  exact va_alen hK.1 hK.2.1 hK.2.2.2.2.2.2.2.2.1.2.1 hP q t hq (ht _) hv hd (kk H locs ls hH hS hL)
theorem mJ_copy {K : mK} {μ : mM} {cells slots pc : Nat} {L : List (Option Value)} {S : List Value} {h : mH} {idx a0 a n0 n1 : Nat} {f g : Nat → Int32} {n : Int32} {N : Nat} (hK : mCx K μ) (hd : decode μ.2.1 pc = .ok (.invokestatic idx, 3)) (hl : Cond.methodLink μ.1.cls idx arraycopyName ∈ mTB) (h1 : Cond.native arraycopyName ∈ mTB) (h2 : Cond.static arraycopyName ∈ mTB) (h3 : Cond.initialized "java/lang/System" ∈ mTB)
    (ha0 : h a0 = some (.inl (0, n0, .inl f))) (ha : h a = some (.inl (0, n1, .inl g))) (hN : n.toNatClampNeg = N) (hn : ¬ n < 0) (h4 : N ≤ n0) (h5 : N ≤ n1) (hfr : 1 ≤ (mRm μ).frames) (hlo : (S.map fun v => v.category).sum + (nativeFrameWords "java/lang/System" "arraycopy" 5 + 11) ≤ (mRm μ).locals)
    (kk : mJ K cells slots (pc + 3) L S (mset h a (.inl (0, n1, .inl (va_cpy f g 0 0 N))))) : mJ K cells slots pc L (.int n :: .int 0 :: .ref a :: .int 0 :: .ref a0 :: S) h := by
  intro H locs ls hH hS hL
  obtain ⟨ws, hP, hD, hs⟩ := id hH
  obtain ⟨q0, hq0⟩ := hs a0 _ ha0
  obtain ⟨q, hq⟩ := hs a _ ha
  have hw := hK.2.2.2.2.2.1
  have hR := hK.2.2.2.2.2.2.2.1
  have z0 : (0 : Int32).toNatClampNeg = 0 := sb_cl0
  subst hN
  refine va_copyi hK.1 hK.2.1 hL.1.symm hK.2.2.2.2.1 (hw _ hl) (hw _ h1) (hw _ h2) (hw _ h3) hK.2.2.2.2.2.2.2.2.1.2.1 hP hD hS q0 q 0 0 (ty := .int) hq0 hq rfl rfl rfl (by decide) (by decide) hn (by rw [z0]; omega) (by rw [z0]; omega) (fun i _ => rfl) (by rw [hR]; exact hfr) (by rw [hR]; exact hlo) hd (fun H1 locs1 hP1 hD1 hS1 => kk H1 locs1 ls ⟨_, hP1, hD1, ?_⟩ hS1 hL)
  rw [z0]
  exact hs.set (e := .inl (0, n1, .inl (va_cpy f g 0 0 n.toNatClampNeg))) hq
theorem mJ_iret {K : mK} {μ : mM} {cells slots pc : Nat} {L : List (Option Value)} {h : mH} {Q : Option Value → mH → Prop} {v : Int32} (hK : mCx K μ) (hd : decode μ.2.1 pc = .ok (.ireturn, 1)) (hr : μ.2.2.2.1 = some .int) (hZ : mRt K μ Q) (hc : cells ≤ (mRm μ).cells) (hs9 : slots ≤ (mRm μ).slots) (hq : Q (some (.int v)) h) : mJ K cells slots pc L [.int v] h := by
  intro H locs ls hH hS hL
  refine mW_mono hZ (W.widen hc hs9 ?_)
  exact W.iret hK.1 hK.2.1 (hK.2.2.2.1.trans hr) (fun t ht hW => ⟨_, h, rfl, hq, by rw [ht]; exact hH, hS.F ht⟩) hS.2.2 hd hK.2.2.2.2.2.2.1
theorem mJ_zret {K : mK} {μ : mM} {cells slots pc : Nat} {L : List (Option Value)} {h : mH} {Q : Option Value → mH → Prop} {v : Int32} {ty : FieldType} (hK : mCx K μ) (hd : decode μ.2.1 pc = .ok (.ireturn, 1)) (hr : μ.2.2.2.1 = some ty) (hn : narrow ty (.int v) = .int v) (hZ : mRt K μ Q) (hc : cells ≤ (mRm μ).cells) (hs9 : slots ≤ (mRm μ).slots) (hq : Q (some (.int v)) h) : mJ K cells slots pc L [.int v] h := by
  intro H locs ls hH hS hL
  refine mW_mono hZ (W.widen hc hs9 ?_)
  exact W.zret hK.1 hK.2.1 (hK.2.2.2.1.trans hr) hn (fun t ht hW => ⟨_, h, rfl, hq, by rw [ht]; exact hH, hS.F ht⟩) hS.2.2 hd hK.2.2.2.2.2.2.1
theorem mJ_lret {K : mK} {μ : mM} {cells slots pc : Nat} {L : List (Option Value)} {h : mH} {Q : Option Value → mH → Prop} {v : Int64} (hK : mCx K μ) (hd : decode μ.2.1 pc = .ok (.lreturn, 1)) (hr : μ.2.2.2.1 = some .long) (hZ : mRt K μ Q) (hc : cells ≤ (mRm μ).cells) (hs9 : slots ≤ (mRm μ).slots) (hq : Q (some (.long v)) h) : mJ K cells slots pc L [.long v] h := by
  intro H locs ls hH hS hL
  refine mW_mono hZ (W.widen hc hs9 ?_)
  exact W.lret hK.1 hK.2.1 (hK.2.2.2.1.trans hr) (fun t ht hW => ⟨_, h, rfl, hq, by rw [ht]; exact hH, hS.F ht⟩) hS.2.2 hd hK.2.2.2.2.2.2.1
theorem mJ_vret {K : mK} {μ : mM} {cells slots pc : Nat} {L : List (Option Value)} {h : mH} {Q : Option Value → mH → Prop} (hK : mCx K μ) (hd : decode μ.2.1 pc = .ok (.return_, 1)) (hr : μ.2.2.2.1 = none) (hZ : mRt K μ Q) (hc : cells ≤ (mRm μ).cells) (hs9 : slots ≤ (mRm μ).slots) (hq : Q (none) h) : mJ K cells slots pc L [] h := by
  intro H locs ls hH hS hL
  refine mW_mono hZ (W.widen hc hs9 ?_)
  exact W.vret hK.1 hK.2.1 (hK.2.2.2.1.trans hr) (fun t ht hW => ⟨_, h, rfl, hq, by rw [ht]; exact hH, hS.F ht⟩) hS.2.2 hd hK.2.2.2.2.2.2.1
theorem mJ_aret {K : mK} {μ : mM} {cells slots pc : Nat} {L : List (Option Value)} {h : mH} {Q : Option Value → mH → Prop} {v : Nat} {rt : FieldType} (hK : mCx K μ) (hd : decode μ.2.1 pc = .ok (.areturn, 1)) (hr : μ.2.2.2.1 = some rt) (hrt : (∃ n, rt = .object n) ∨ ∃ t, rt = .array t) (hZ : mRt K μ Q) (hc : cells ≤ (mRm μ).cells) (hs9 : slots ≤ (mRm μ).slots) (hq : Q (some (.ref v)) h) : mJ K cells slots pc L [.ref v] h := by
  intro H locs ls hH hS hL
  refine mW_mono hZ (W.widen hc hs9 ?_)
  exact W.aret hK.1 hK.2.1 (hK.2.2.2.1.trans hr) hrt (Or.inr ⟨v, rfl⟩) (fun t ht hW => ⟨_, h, rfl, hq, by rw [ht]; exact hH, hS.F ht⟩) hS.2.2 hd hK.2.2.2.2.2.2.1
end
section
/-! ===== calls ===== -/
theorem mGI {ws : List Cond} (h : ∀ w ∈ ws, w ∈ mTB) : GoodIn mTB ws := fun w hw => ⟨h w hw, mTB_good (h w hw)⟩
def mLB (own : String) (idx : Nat) (ν : mM) (n : Nat) : Prop := Cond.methodLink own idx ν.1 ∈ mTB ∧ Cond.initialized ν.1.cls ∈ mTB ∧ Cond.code ν.1 ν.2.1 ν.2.2.1 ν.2.2.2.1 ∈ mTB ∧ (ν.1.cls ≠ "java/lang/invoke/MethodHandle" ∧ ν.1.cls ≠ "java/lang/invoke/VarHandle" ∧ (parseMethodDescriptor ν.1.desc).map (fun d => d.parameters.length) = some n)
def mLV (own : String) (idx : Nat) (ν : mM) (n : Nat) : Prop := mLB own idx ν n ∧ Cond.instanceMethod ν.1 ∈ mTB ∧ Cond.selects ν.1.cls ν.1 ν.1 ∈ mTB
def mLS (own : String) (idx : Nat) (ν : mM) (n : Nat) : Prop := mLB own idx ν n ∧ Cond.static ν.1 ∈ mTB
def mLN (own : String) (idx : Nat) (ν : mM) (n : Nat) : Prop := (∃ host : String, (own, idx, ν.1, host) ∈ mNM) ∧ Cond.initialized ν.1.cls ∈ mTB ∧ Cond.code ν.1 ν.2.1 ν.2.2.1 ν.2.2.2.1 ∈ mTB ∧ (ν.1.cls ≠ "java/lang/invoke/MethodHandle" ∧ ν.1.cls ≠ "java/lang/invoke/VarHandle" ∧ (parseMethodDescriptor ν.1.desc).map (fun d => d.parameters.length) = some n) ∧ Cond.static ν.1 ∈ mTB
def mFit (μ ν : mM) : Prop := (mRm ν).frames + 1 ≤ (mRm μ).frames ∧ 8 + (ν.2.2.1 + 11) + (mRm ν).locals ≤ (mRm μ).locals
theorem mWs_in {ν : mM} (h : Cond.code ν.1 ν.2.1 ν.2.2.1 ν.2.2.2.1 ∈ mTB) : ∀ w ∈ mWs ν, w ∈ mTB := by
  intro w hw
  rcases List.mem_cons.mp hw with rfl | hw
  · exact h
  · exact hw
theorem mCB {K : mK} {μ ν : mM} {idx n : Nat} (hK : mCx K μ) (hl : mLB μ.1.cls idx ν n) (hR : mFit μ ν) : CallB (kR K) (ks K) (ka K) μ.1.cls idx ν.1 ν.2.1 ν.2.2.1 ν.2.2.2.1 (mWs ν) (mRm ν) (mRm ν).cells (mRm ν).slots n := by
  have hw := hK.2.2.2.2.2.1
  exact callB_of n hw (mGI (mWs_in hl.2.2.1)) rfl rfl rfl (hw _ hl.2.1) (hw _ hl.1) hl.2.2.2 (by rw [hK.2.2.2.2.2.2.2.1]; exact hR)
theorem mHR.weaken {D : va_G} {aC : Nat → ClassId} {A B : Nat → Prop} {h : mH} {H : Heap} (hH : mHR D aC A h H) (hAB : ∀ q, A q → B q) : mHR D aC B h H := by
  obtain ⟨w, h1, h2, h3⟩ := hH
  exact ⟨w, h1, h2.weaken (fun _ q _ z => hAB q.1 z), h3⟩
theorem mFree {A : Nat → Prop} {ws : va_W} {H0 H : Heap} {locs : List Loc} (hD : va_D A ws) (hS : va_S A H0 H locs) (hA : ∀ q, H0.size ≤ q → A q) : ∀ q, va_A ws H.size q → A q := by
  intro q hq
  rcases hq with ⟨k, e, h⟩ | h
  · exact hD.2 k _ h
  · exact hA q (Nat.le_trans hS.1 h)
theorem mS_call {A A1 : Nat → Prop} {H0 H H1 : Heap} {locs L : List Loc} (hS : va_S A H0 H locs) (hf : ∀ q, A1 q → A q) (hz : H.size ≤ H1.size) (hk : ∀ q : Nat, q < H.size → ¬ A1 q → H1[q]? = H[q]?) (hL : ∀ q ∈ L, A1 q.base) : va_S A H0 H1 (locs ++ L) := by
  refine ⟨Nat.le_trans hS.1 hz, fun q h1 h2 => ?_, fun q hq => ?_⟩
  · rw [hk q (Nat.lt_of_lt_of_le h1 hS.1) (fun z => h2 (hf q z))]
    exact hS.2.1 q h1 h2
  · rcases List.mem_append.mp hq with h | h
    · exact hS.2.2 q h
    · exact hf _ (hL q h)
theorem mJ_run {K : mK} {ν : mM} {cells slots pc : Nat} {L : List (Option Value)} {S st : List Value} {h : mH} {Q' : Option Value → mH → Prop} {ws : va_W} {H : Heap} {locs : List Loc} {ls : Array Slot} {a : Array Value}
    (hS : va_S (kA K) (ks K).heap H locs) (hL : mLR ls (kc K).maxLocals L) (hfree : ∀ q, va_A ws H.size q → kA K q)
    (hr : va_Run (kp K) (kl K) (ke K) (kR K) (ks K) (km K) (ka K) (kb K) (kme K) (kc K) H locs cells slots (mRm ν).cells (mRm ν).slots (F0 (km K) pc ls st) S (mQc (kD K) (kC K) Q' (va_A ws H.size) a) (va_A ws H.size))
    (kk : ∀ (r : Option Value) (h' : mH), Q' r h' → mJ K (cells + (mRm ν).cells) (slots + (mRm ν).slots) (pc + 3) L (r.toList ++ S) h') : W (kp K) (kl K) (ke K) (kR K) (ks K) (km K) (ka K) (kb K) (kme K) (kc K) H locs cells slots (kZ K) (F0 (km K) pc ls st) := by
  intro T9 hT9 X9
  obtain ⟨v, st₀, t, T', L9, h0, X', hL9, e1, e2, ⟨r, h', hv, hQ, hH', hz, hk⟩, stp⟩ := hr T9 hT9 X9
  cases hv
  rw [h0] at hz hk
  obtain ⟨t2, a1, b1⟩ := kk v h' hQ T'.heap (locs ++ L9) ls (by rw [e1]; exact hH'.weaken hfree) (mS_call hS hfree (by rw [e1]; exact hz) (fun q h1 h2 => by rw [e1]; exact hk q h1 h2) hL9) hL T' rfl X'
  exact ⟨t2, stp t2 a1, b1⟩
theorem mJ_runX {K : mK} {μ ν : mM} {cells slots pc : Nat} {L : List (Option Value)} {S st : List Value} {h : mH} {Q' : Option Value → mH → Prop} {QX QX' : String → mH → Prop} {ws : va_W} {H : Heap} {locs : List Loc} {ls : Array Slot} {a : Array Value}
    (hK : mCx K μ) (hX : mRx K μ QX) (hXX : ∀ E h', QX' E h' → QX E h') (hf : cells + (mRm ν).cells ≤ (mRm μ).cells ∧ slots + (mRm ν).slots ≤ (mRm μ).slots) (hS : va_S (kA K) (ks K).heap H locs) (hL : mLR ls (kc K).maxLocals L) (hfree : ∀ q, va_A ws H.size q → kA K q)
    (hr : vx_Run (kp K) (kl K) (ke K) (kR K) (ks K) (km K) (ka K) (kb K) (kme K) (kc K) H locs cells slots (mRm ν).cells (mRm ν).slots (F0 (km K) pc ls st) S (mQc (kD K) (kC K) Q' (va_A ws H.size) a) (mXc (kD K) (kC K) QX' (va_A ws H.size)) (va_A ws H.size))
    (kk : ∀ (r : Option Value) (h' : mH), Q' r h' → mJ K (cells + (mRm ν).cells) (slots + (mRm ν).slots) (pc + 3) L (r.toList ++ S) h') : W (kp K) (kl K) (ke K) (kR K) (ks K) (km K) (ka K) (kb K) (kme K) (kc K) H locs cells slots (kZ K) (F0 (km K) pc ls st) := by
  intro T9 hT9 X9
  rcases hr T9 hT9 X9 with ⟨v, st₀, t, T', L9, h0, X', hL9, e1, e2, ⟨r, h', hv, hQ, hH', hz, hk⟩, stp⟩ | ⟨q, st₀, t, T', L9, E, ce, h0, X', hL9, e1, e2, ⟨h', hQ, hH', hz, hk⟩, hce, hcv, hcl, stp⟩
  · cases hv
    rw [h0] at hz hk
    obtain ⟨t2, a1, b1⟩ := kk v h' hQ T'.heap (locs ++ L9) ls (by rw [e1]; exact hH'.weaken hfree) (mS_call hS hfree (by rw [e1]; exact hz) (fun q h1 h2 => by rw [e1]; exact hk q h1 h2) hL9) hL T' rfl X'
    exact ⟨t2, stp t2 a1, b1⟩
  · rw [h0] at hz hk
    obtain ⟨htab, Q, hZ⟩ := hX
    have hS1 : va_S (kA K) (ks K).heap T'.heap (locs ++ L9) := mS_call hS hfree (by rw [e1]; exact hz) (fun q h1 h2 => by rw [e1]; exact hk q h1 h2) hL9
    obtain ⟨t2, a1, b1⟩ := vx_out (pc := pc) (ls := ls) (rest := S) (Qc := mQc (kD K) (kC K) Q (kA K)) (XC := mXc (kD K) (kC K) QX (kA K)) (free := kA K) (mc := (mRm μ).cells) (ms := (mRm μ).slots) (fun x hx => absurd hx (htab x)) hK.2.2.2.2.2.2.1 (by rw [e1]; exact hce) hcv hcl
      (fun t3 ht3 _ => ⟨h', hXX E h' hQ, by rw [ht3, e1]; exact hH'.weaken hfree, hS1.F ht3⟩) hS1.2.2 hf.1 hf.2 T' rfl X'
    refine ⟨t2, Steps.trans stp a1, ?_⟩
    rw [hZ]
    exact b1
section MC
variable {K : mK} {μ ν : mM} {cells slots pc : Nat} {L : List (Option Value)} {S st : List Value} {h : mH} {idx n b ci : Nat} {fs As : List Value} {Q' : Option Value → mH → Prop} {QX QX' : String → mH → Prop}
theorem mJ_callV (hK : mCx K μ) (hd : decode μ.2.1 pc = .ok (.invokevirtual idx, 3)) (hl : mLV μ.1.cls idx ν n) (hR : mFit μ ν) (hf : cells + (mRm ν).cells ≤ (mRm μ).cells ∧ slots + (mRm ν).slots ≤ (mRm μ).slots) (hn : As.length = n) (hst : st = As.reverse ++ .ref b :: S) (h8 : (S.map fun v => v.category).sum ≤ 8) (hb : h b = some (.inr (ci, fs))) (hci : ∃ (T : u_T) (N : Nat), vwCl[ci]? = some (ν.1.cls, T, N))
    (hM : mCon (kl K) (kD K) (kC K) ν (.ref b :: As) h Q') (kk : ∀ (r : Option Value) (h' : mH), Q' r h' → mJ K (cells + (mRm ν).cells) (slots + (mRm ν).slots) (pc + 3) L (r.toList ++ S) h') : mJ K cells slots pc L st h := by
  intro H locs ls hH hS hL
  obtain ⟨ws, hP, hD, hs⟩ := id hH
  obtain ⟨q, hq⟩ := hs b _ hb
  obtain ⟨T, N, hc⟩ := hci
  have hE := hK.2.2.2.2.2.2.2.2.1
  have hw := hK.2.2.2.2.2.1
  have hfree := mFree hD hS hK.2.2.2.2.2.2.2.2.2
  subst hst
  exact mJ_run (ν := ν) (h := h) hS hL hfree (va_runV (cc := μ.2.1) (nL := μ.2.2.1) (Ts := mTB) (C := ν.1.cls) (b := b) (As := As) (rest := S) ⟨hK.1, hK.2.1, hK.2.2.1, hK.2.2.2.2.1, hw⟩ (hM ws H.size hs) ⟨mCB hK hl.1 hR, hw _ hl.2.1, hw _ hl.2.2⟩
    ⟨mPre.blind, va_recv hE.2.1 hP hc hq, fun U hU hW => ⟨rfl, by rw [hU], by rw [hU]; exact hP, hD.weaken (fun _ _ _ _ => trivial), hE.next hS hU hW hfree⟩⟩ rfl hn (hL.1.trans hK.2.2.1) rfl (lv_room h8) hd (by rw [hK.2.2.2.2.2.2.2.1]; exact hf)) kk
theorem mJ_callVX (hK : mCx K μ) (hX : mRx K μ QX) (hd : decode μ.2.1 pc = .ok (.invokevirtual idx, 3)) (hl : mLV μ.1.cls idx ν n) (hR : mFit μ ν) (hf : cells + (mRm ν).cells ≤ (mRm μ).cells ∧ slots + (mRm ν).slots ≤ (mRm μ).slots) (hn : As.length = n) (hst : st = As.reverse ++ .ref b :: S) (h8 : (S.map fun v => v.category).sum ≤ 8) (hb : h b = some (.inr (ci, fs))) (hci : ∃ (T : u_T) (N : Nat), vwCl[ci]? = some (ν.1.cls, T, N))
    (hM : mXon (kl K) (kD K) (kC K) ν (.ref b :: As) h Q' QX') (hXX : ∀ E h', QX' E h' → QX E h') (kk : ∀ (r : Option Value) (h' : mH), Q' r h' → mJ K (cells + (mRm ν).cells) (slots + (mRm ν).slots) (pc + 3) L (r.toList ++ S) h') : mJ K cells slots pc L st h := by
  intro H locs ls hH hS hL
  obtain ⟨ws, hP, hD, hs⟩ := id hH
  obtain ⟨q, hq⟩ := hs b _ hb
  obtain ⟨T, N, hc⟩ := hci
  have hE := hK.2.2.2.2.2.2.2.2.1
  have hw := hK.2.2.2.2.2.1
  have hfree := mFree hD hS hK.2.2.2.2.2.2.2.2.2
  subst hst
  exact mJ_runX (μ := μ) (ν := ν) (h := h) hK hX hXX hf hS hL hfree (vx_runV (cc := μ.2.1) (nL := μ.2.2.1) (Ts := mTB) (C := ν.1.cls) (b := b) (As := As) (rest := S) ⟨hK.1, hK.2.1, hK.2.2.1, hK.2.2.2.2.1, hw⟩ (hM ws H.size hs) ⟨mCB hK hl.1 hR, hw _ hl.2.1, hw _ hl.2.2⟩
    ⟨mPre.blind, va_recv hE.2.1 hP hc hq, fun U hU hW => ⟨rfl, by rw [hU], by rw [hU]; exact hP, hD.weaken (fun _ _ _ _ => trivial), hE.next hS hU hW hfree⟩⟩ rfl hn (hL.1.trans hK.2.2.1) rfl (lv_room h8) hd (by rw [hK.2.2.2.2.2.2.2.1]; exact hf)) kk
theorem mJ_callS (hK : mCx K μ) (hd : decode μ.2.1 pc = .ok (.invokestatic idx, 3)) (hl : mLS μ.1.cls idx ν n) (hR : mFit μ ν) (hf : cells + (mRm ν).cells ≤ (mRm μ).cells ∧ slots + (mRm ν).slots ≤ (mRm μ).slots) (hn : As.length = n) (hst : st = As.reverse ++ S) (h8 : (S.map fun v => v.category).sum ≤ 8)
    (hM : mCon (kl K) (kD K) (kC K) ν As h Q') (kk : ∀ (r : Option Value) (h' : mH), Q' r h' → mJ K (cells + (mRm ν).cells) (slots + (mRm ν).slots) (pc + 3) L (r.toList ++ S) h') : mJ K cells slots pc L st h := by
  intro H locs ls hH hS hL
  obtain ⟨ws, hP, hD, hs⟩ := id hH
  have hE := hK.2.2.2.2.2.2.2.2.1
  have hw := hK.2.2.2.2.2.1
  have hfree := mFree hD hS hK.2.2.2.2.2.2.2.2.2
  subst hst
  exact mJ_run (ν := ν) (h := h) hS hL hfree (va_runS (cc := μ.2.1) (nL := μ.2.2.1) (Ts := mTB) (As := As) (rest := S) ⟨hK.1, hK.2.1, hK.2.2.1, hK.2.2.2.2.1, hw⟩ (hM ws H.size hs) ⟨mCB hK hl.1 hR, hw _ hl.2⟩
    ⟨mPre.blind, fun U hU hW => ⟨rfl, by rw [hU], by rw [hU]; exact hP, hD.weaken (fun _ _ _ _ => trivial), hE.next hS hU hW hfree⟩⟩ rfl hn (hL.1.trans hK.2.2.1) rfl (lv_room h8) hd (by rw [hK.2.2.2.2.2.2.2.1]; exact hf)) kk
theorem mJ_callSX (hK : mCx K μ) (hX : mRx K μ QX) (hd : decode μ.2.1 pc = .ok (.invokestatic idx, 3)) (hl : mLS μ.1.cls idx ν n) (hR : mFit μ ν) (hf : cells + (mRm ν).cells ≤ (mRm μ).cells ∧ slots + (mRm ν).slots ≤ (mRm μ).slots) (hn : As.length = n) (hst : st = As.reverse ++ S) (h8 : (S.map fun v => v.category).sum ≤ 8)
    (hM : mXon (kl K) (kD K) (kC K) ν As h Q' QX') (hXX : ∀ E h', QX' E h' → QX E h') (kk : ∀ (r : Option Value) (h' : mH), Q' r h' → mJ K (cells + (mRm ν).cells) (slots + (mRm ν).slots) (pc + 3) L (r.toList ++ S) h') : mJ K cells slots pc L st h := by
  intro H locs ls hH hS hL
  obtain ⟨ws, hP, hD, hs⟩ := id hH
  have hE := hK.2.2.2.2.2.2.2.2.1
  have hw := hK.2.2.2.2.2.1
  have hfree := mFree hD hS hK.2.2.2.2.2.2.2.2.2
  subst hst
  exact mJ_runX (μ := μ) (ν := ν) (h := h) hK hX hXX hf hS hL hfree (vx_runS (cc := μ.2.1) (nL := μ.2.2.1) (Ts := mTB) (As := As) (rest := S) ⟨hK.1, hK.2.1, hK.2.2.1, hK.2.2.2.2.1, hw⟩ (hM ws H.size hs) ⟨mCB hK hl.1 hR, hw _ hl.2⟩
    ⟨mPre.blind, fun U hU hW => ⟨rfl, by rw [hU], by rw [hU]; exact hP, hD.weaken (fun _ _ _ _ => trivial), hE.next hS hU hW hfree⟩⟩ rfl hn (hL.1.trans hK.2.2.1) rfl (lv_room h8) hd (by rw [hK.2.2.2.2.2.2.2.1]; exact hf)) kk
theorem mJ_callN (hK : mCx K μ) (hd : decode μ.2.1 pc = .ok (.invokestatic idx, 3)) (hl : mLN μ.1.cls idx ν n) (hR : mFit μ ν) (hf : cells + (mRm ν).cells ≤ (mRm μ).cells ∧ slots + (mRm ν).slots ≤ (mRm μ).slots) (hn : As.length = n) (hst : st = As.reverse ++ S) (h8 : (S.map fun v => v.category).sum ≤ 8)
    (hM : mCon (kl K) (kD K) (kC K) ν As h Q') (kk : ∀ (r : Option Value) (h' : mH), Q' r h' → mJ K (cells + (mRm ν).cells) (slots + (mRm ν).slots) (pc + 3) L (r.toList ++ S) h') : mJ K cells slots pc L st h := by
  intro H locs ls hH hS hL
  obtain ⟨ws, hP, hD, hs⟩ := id hH
  have hE := hK.2.2.2.2.2.2.2.2.1
  have hw := hK.2.2.2.2.2.1
  have hfree := mFree hD hS hK.2.2.2.2.2.2.2.2.2
  obtain ⟨⟨host, l1⟩, l2, l3, l4, l5⟩ := hl
  subst hst
  exact mJ_run (ν := ν) (h := h) hS hL hfree (va_runSN (cc := μ.2.1) (nL := μ.2.2.1) (Ts := mTB) (host := host) (As := As) (rest := S) ⟨hK.1, hK.2.1, hK.2.2.1, hK.2.2.2.2.1, hw⟩ (hM ws H.size hs) ⟨va_cnB n hw (mGI (mWs_in l3)) rfl rfl rfl (hE.2.2.2.1 _ l1) (hw _ l2) l4 (by rw [hK.2.2.2.2.2.2.2.1]; exact hR), hw _ l5, trivial⟩
    ⟨mPre.blind, fun U hU hW => ⟨rfl, by rw [hU], by rw [hU]; exact hP, hD.weaken (fun _ _ _ _ => trivial), hE.next hS hU hW hfree⟩⟩ rfl hn (hL.1.trans hK.2.2.1) rfl (lv_room h8) hd (by rw [hK.2.2.2.2.2.2.2.1]; exact hf)) kk
end MC
/-! ===== a throw ===== -/
def mXn : List String := ["java/lang/RuntimeException", "java/lang/Exception"]
def mTW (own : String) (ik ic : Nat) (X : String) : Prop := Cond.classLink own ik X ∈ mTB ∧ Cond.initialized X ∈ mTB ∧ (∀ w ∈ (vx_atS own ic X mXn).filter goodWord, w ∈ mTB) ∧ (∀ w ∈ (vx_atS own ic X mXn).filter (fun w => !goodWord w), w ∈ Cond.castable X X :: mYs.map Cond.declares) ∧ (∀ w ∈ Cond.classLink own ik X :: Cond.initialized X :: vx_atS own ic X mXn, vx_ot w = true) ∧ Bundle.fit X = true ∧ X ∈ mXs
theorem mJ_throw {K : mK} {μ : mM} {cells slots pc : Nat} {L : List (Option Value)} {S : List Value} {h : mH} {QX : String → mH → Prop} {ik is ic : Nat} {X text : String} (hK : mCx K μ) (hX : mRx K μ QX) (hT : mTW μ.1.cls ik ic X) (hst : (μ.1.cls, is, text) ∈ mSt)
    (d0 : decode μ.2.1 pc = .ok (.new ik, 3)) (d3 : decode μ.2.1 (pc + 3) = .ok (.dup, 1)) (d4 : decode μ.2.1 (pc + 4) = .ok (.ldc is, 2)) (d6 : decode μ.2.1 (pc + 6) = .ok (.invokespecial ic, 3)) (d9 : decode μ.2.1 (pc + 9) = .ok (.athrow, 1))
    (hfr : 5 < (mRm μ).frames) (hlo : (S.map fun v => v.category).sum + 82 ≤ (mRm μ).locals) (hc : cells + 1 ≤ (mRm μ).cells) (hs9 : slots + 6 ≤ (mRm μ).slots) (hq : QX X h) : mJ K cells slots pc L S h := by
  intro H locs ls hH hS hL
  obtain ⟨t1, t2, t3, t4, t5, t6, t7⟩ := hT
  obtain ⟨htab, Q, hZ⟩ := hX
  have hE := hK.2.2.2.2.2.2.2.2.1
  have hw := hK.2.2.2.2.2.1
  have hR := hK.2.2.2.2.2.2.2.1
  obtain ⟨sa, hsa⟩ := hE.2.2.2.2.2.1 _ hst
  obtain ⟨ws, hP, hD, hs⟩ := id hH
  rw [hZ]
  refine vx_throwS (names := mXn) (A := kA K) hK.1 hK.2.1 hE.1 hK.2.2.2.2.1 t6 (by decide +kernel) (hw _ t1) (hw _ t2) hsa (vx_hat (B := Cond.castable X X :: mYs.map Cond.declares) (fun w h9 => hw w (t3 w h9)) t4 (fun w h9 => ?_)) t5 hE.2.2.2.2.2.2.1 hE.2.2.2.2.2.2.2.1 hS (hL.1.trans rfl) d0 d3 d4 d6 d9 (fun x hx => absurd hx (htab x)) (by rw [hR]; exact hfr) (by rw [hR]; exact hlo) (by rw [hR]; exact hc) (by rw [hR]; exact hs9) hK.2.2.2.2.2.2.1 (fun t _ hz hk => ?_) hS.2.2 hc hs9
  · rcases List.mem_cons.mp h9 with rfl | h9
    · exact va_Nw.use rfl (hE.2.2.2.2.1 X t7)
    · obtain ⟨Y, hY, rfl⟩ := List.mem_map.mp h9
      exact va_Nw.use rfl (hE.2.2.2.2.2.2.2.2 Y hY)
  · refine ⟨h, hq, ⟨ws, hP.kept (fun k q hk9 => hk q.1 (hP k q hk9).lt), hD, hs⟩, Nat.le_trans hS.1 hz, fun q h1 h2 => ?_⟩
    rw [hk q (Nat.lt_of_lt_of_le h1 hS.1)]
    exact hS.2.1 q h1 h2
end
section
abbrev mX0_isFull : mM := (yX0_isFull, cX0_isFull, 1, (some .boolean), { frames := 0, cells := 0, slots := 0, locals := 0 })
abbrev mX0_has : mM := (yX0_has, cX0_has, 2, (some .boolean), { frames := 0, cells := 0, slots := 0, locals := 0 })
abbrev mX0_valueAt : mM := (yX0_valueAt, cX0_valueAt, 2, (some .int), { frames := 0, cells := 0, slots := 0, locals := 0 })
abbrev mX0_ticketAt : mM := (yX0_ticketAt, cX0_ticketAt, 2, (some .int), { frames := 1, cells := 0, slots := 0, locals := 21 })
abbrev mX0_put : mM := (yX0_put, cX0_put, 4, none, { frames := 1, cells := 0, slots := 0, locals := 20 })
abbrev mX0_take : mM := (yX0_take, cX0_take, 4, none, { frames := 1, cells := 0, slots := 0, locals := 21 })
abbrev mX0_copyFrom : mM := (yX0_copyFrom, cX0_copyFrom, 2, none, { frames := 1, cells := 0, slots := 0, locals := 18 })
abbrev mX5_mix : mM := (yX5_mix, cX5_mix, 4, (some .long), { frames := 0, cells := 0, slots := 0, locals := 0 })
abbrev mX0_mixMessages : mM := (yX0_mixMessages, cX0_mixMessages, 6, (some .long), { frames := 1, cells := 0, slots := 0, locals := 23 })
abbrev mX1_mirrored : mM := (yX1_mirrored, cX1_mirrored, 1, (some .int), { frames := 0, cells := 0, slots := 0, locals := 0 })
abbrev mX1_setGuard : mM := (yX1_setGuard, cX1_setGuard, 5, none, { frames := 1, cells := 0, slots := 0, locals := 20 })
abbrev mX1_clear : mM := (yX1_clear, cX1_clear, 1, none, { frames := 2, cells := 0, slots := 0, locals := 44 })
abbrev mX1_uses : mM := (yX1_uses, cX1_uses, 2, (some .boolean), { frames := 0, cells := 0, slots := 0, locals := 0 })
abbrev mX1_repliesTo : mM := (yX1_repliesTo, cX1_repliesTo, 2, (some .boolean), { frames := 0, cells := 0, slots := 0, locals := 0 })
abbrev mX1_isReady : mM := (yX1_isReady, cX1_isReady, 2, (some .boolean), { frames := 0, cells := 0, slots := 0, locals := 0 })
abbrev mX1_addChannel : mM := (yX1_addChannel, cX1_addChannel, 2, none, { frames := 0, cells := 0, slots := 0, locals := 0 })
abbrev mX1_guardHolds : mM := (yX1_guardHolds, cX1_guardHolds, 3, (some .boolean), { frames := 0, cells := 0, slots := 0, locals := 0 })
abbrev mX1_addOutput : mM := (yX1_addOutput, cX1_addOutput, 3, none, { frames := 0, cells := 0, slots := 0, locals := 0 })
abbrev mX1_lastOperandCount : mM := (yX1_lastOperandCount, cX1_lastOperandCount, 1, (some .int), { frames := 0, cells := 0, slots := 0, locals := 0 })
abbrev mX1_addOperand : mM := (yX1_addOperand, cX1_addOperand, 5, none, { frames := 1, cells := 0, slots := 0, locals := 20 })
abbrev mX1_sentTo : mM := (yX1_sentTo, cX1_sentTo, 4, (some .int), { frames := 0, cells := 0, slots := 0, locals := 0 })
abbrev mX5_isChannel : mM := (yX5_isChannel, cX5_isChannel, 1, (some .boolean), { frames := 0, cells := 0, slots := 0, locals := 0 })
abbrev mJ9_min_f86c9 : mM := (yJ9_min_f86c9, cJ9_min_f86c9, 4, (some .long), { frames := 0, cells := 0, slots := 0, locals := 0 })
abbrev mJ9_max_f86c9 : mM := (yJ9_max_f86c9, cJ9_max_f86c9, 4, (some .long), { frames := 0, cells := 0, slots := 0, locals := 0 })
abbrev mX1_outputValue : mM := (yX1_outputValue, cX1_outputValue, 9, (some .int), { frames := 1, cells := 0, slots := 0, locals := 23 })
abbrev mX2_begin : mM := (yX2_begin, cX2_begin, 1, none, { frames := 3, cells := 0, slots := 0, locals := 64 })
abbrev mX2_isComplete : mM := (yX2_isComplete, cX2_isComplete, 1, (some .boolean), { frames := 0, cells := 0, slots := 0, locals := 0 })
abbrev mX2_exchange : mM := (yX2_exchange, cX2_exchange, 3, (some (.object "JoinRuntime$Rule")), { frames := 0, cells := 0, slots := 0, locals := 0 })
abbrev mX2_isLetter : mM := (yX2_isLetter, cX2_isLetter, 1, (some .boolean), { frames := 1, cells := 0, slots := 0, locals := 20 })
abbrev mJ6_bitCount_0f7a4 : mM := (yJ6_bitCount_0f7a4, cJ6_bitCount_0f7a4, 1, (some .int), { frames := 0, cells := 0, slots := 0, locals := 0 })
abbrev mX2_goTo : mM := (yX2_goTo, cX2_goTo, 2, (some .boolean), { frames := 0, cells := 0, slots := 0, locals := 0 })
abbrev mX2_acceptInPattern : mM := (yX2_acceptInPattern, cX2_acceptInPattern, 3, (some .boolean), { frames := 2, cells := 0, slots := 0, locals := 40 })
abbrev mX2_operandOf : mM := (yX2_operandOf, cX2_operandOf, 2, (some .int), { frames := 2, cells := 0, slots := 0, locals := 40 })
abbrev mX2_acceptOperand : mM := (yX2_acceptOperand, cX2_acceptOperand, 2, (some .boolean), { frames := 2, cells := 0, slots := 0, locals := 44 })
abbrev mX2_acceptGuardSign : mM := (yX2_acceptGuardSign, cX2_acceptGuardSign, 2, (some .boolean), { frames := 1, cells := 0, slots := 0, locals := 21 })
abbrev mX2_acceptTarget : mM := (yX2_acceptTarget, cX2_acceptTarget, 2, (some .boolean), { frames := 2, cells := 0, slots := 0, locals := 40 })
abbrev mX2_acceptReplyChannel : mM := (yX2_acceptReplyChannel, cX2_acceptReplyChannel, 3, (some .boolean), { frames := 2, cells := 0, slots := 0, locals := 40 })
abbrev mX2_goToOperand : mM := (yX2_goToOperand, cX2_goToOperand, 2, (some .boolean), { frames := 1, cells := 0, slots := 0, locals := 21 })
abbrev mX2_acceptBehindOperand : mM := (yX2_acceptBehindOperand, cX2_acceptBehindOperand, 3, (some .boolean), { frames := 2, cells := 0, slots := 0, locals := 42 })
abbrev mX2_accept : mM := (yX2_accept, cX2_accept, 2, (some .boolean), { frames := 3, cells := 0, slots := 0, locals := 65 })
abbrev mX4_copyFrom : mM := (yX4_copyFrom, cX4_copyFrom, 2, none, { frames := 1, cells := 0, slots := 0, locals := 18 })
abbrev mX3_copyFrom : mM := (yX3_copyFrom, cX3_copyFrom, 3, none, { frames := 2, cells := 0, slots := 0, locals := 39 })
abbrev mX3_messageCount : mM := (yX3_messageCount, cX3_messageCount, 3, (some .int), { frames := 0, cells := 0, slots := 0, locals := 0 })
abbrev mX4_give : mM := (yX4_give, cX4_give, 2, (some .int), { frames := 0, cells := 0, slots := 0, locals := 0 })
abbrev mX4_firstKnown : mM := (yX4_firstKnown, cX4_firstKnown, 1, (some .int), { frames := 0, cells := 0, slots := 0, locals := 0 })
abbrev mX4_knows : mM := (yX4_knows, cX4_knows, 2, (some .boolean), { frames := 1, cells := 0, slots := 0, locals := 20 })
abbrev mX4_stateOf : mM := (yX4_stateOf, cX4_stateOf, 2, (some .int), { frames := 2, cells := 0, slots := 0, locals := 41 })
abbrev mX4_answerTo : mM := (yX4_answerTo, cX4_answerTo, 2, (some .int), { frames := 2, cells := 0, slots := 0, locals := 41 })
abbrev mX4_settle : mM := (yX4_settle, cX4_settle, 4, none, { frames := 2, cells := 0, slots := 0, locals := 41 })
abbrev mX4_mixTickets : mM := (yX4_mixTickets, cX4_mixTickets, 6, (some .long), { frames := 3, cells := 0, slots := 0, locals := 62 })
abbrev mX5_append : mM := (yX5_append, cX5_append, 2, (some .int), { frames := 6, cells := 1, slots := 6, locals := 82 })
abbrev mX5_clearBuffer : mM := (yX5_clearBuffer, cX5_clearBuffer, 2, (some .int), { frames := 0, cells := 0, slots := 0, locals := 0 })
abbrev mX5_readBuffer : mM := (yX5_readBuffer, cX5_readBuffer, 2, (some .int), { frames := 4, cells := 0, slots := 0, locals := 86 })
abbrev mX5_firstError : mM := (yX5_firstError, cX5_firstError, 1, (some .int), { frames := 5, cells := 0, slots := 0, locals := 107 })
abbrev mX5_addRule : mM := (yX5_addRule, cX5_addRule, 2, (some .int), { frames := 6, cells := 1, slots := 6, locals := 107 })
abbrev mX5_requireRule : mM := (yX5_requireRule, cX5_requireRule, 2, none, { frames := 6, cells := 1, slots := 6, locals := 82 })
abbrev mX5_removeRule : mM := (yX5_removeRule, cX5_removeRule, 4, (some .int), { frames := 7, cells := 1, slots := 6, locals := 103 })
abbrev mX5_ruleCount : mM := (yX5_ruleCount, cX5_ruleCount, 1, (some .int), { frames := 0, cells := 0, slots := 0, locals := 0 })
abbrev mX5_patternOf : mM := (yX5_patternOf, cX5_patternOf, 2, (some .int), { frames := 7, cells := 1, slots := 6, locals := 103 })
abbrev mX5_setPolicy : mM := (yX5_setPolicy, cX5_setPolicy, 3, (some .int), { frames := 6, cells := 1, slots := 6, locals := 82 })
abbrev mX5_requireChannel : mM := (yX5_requireChannel, cX5_requireChannel, 1, none, { frames := 6, cells := 1, slots := 6, locals := 82 })
abbrev mX5_send : mM := (yX5_send, cX5_send, 5, (some .int), { frames := 7, cells := 2, slots := 12, locals := 102 })
abbrev mX5_queueLength : mM := (yX5_queueLength, cX5_queueLength, 2, (some .int), { frames := 7, cells := 1, slots := 6, locals := 102 })
abbrev mX5_messageAt : mM := (yX5_messageAt, cX5_messageAt, 3, (some .int), { frames := 7, cells := 2, slots := 12, locals := 102 })
abbrev mX5_waitingChannels : mM := (yX5_waitingChannels, cX5_waitingChannels, 3, (some .int), { frames := 0, cells := 0, slots := 0, locals := 0 })
abbrev mX5_readyRules : mM := (yX5_readyRules, cX5_readyRules, 4, (some .int), { frames := 1, cells := 0, slots := 0, locals := 22 })
abbrev mJ7_fill_53178 : mM := (yJ7_fill_53178, cJ7_fill_53178, 4, none, { frames := 0, cells := 0, slots := 0, locals := 0 })
abbrev mX5_choicesOf : mM := (yX5_choicesOf, cX5_choicesOf, 2, (some .int), { frames := 1, cells := 0, slots := 0, locals := 20 })
abbrev mX5_valueOf : mM := (yX5_valueOf, cX5_valueOf, 3, (some .int), { frames := 1, cells := 0, slots := 0, locals := 21 })
abbrev mX5_choose : mM := (yX5_choose, cX5_choose, 3, none, { frames := 1, cells := 0, slots := 0, locals := 20 })
abbrev mX5_findMatch : mM := (yX5_findMatch, cX5_findMatch, 9, (some .boolean), { frames := 2, cells := 0, slots := 0, locals := 43 })
abbrev mX5_hasRoom : mM := (yX5_hasRoom, cX5_hasRoom, 4, (some .boolean), { frames := 1, cells := 0, slots := 0, locals := 23 })
abbrev mX5_isEnabled : mM := (yX5_isEnabled, cX5_isEnabled, 2, (some .boolean), { frames := 3, cells := 0, slots := 0, locals := 71 })
abbrev mX5_enabledRules : mM := (yX5_enabledRules, cX5_enabledRules, 3, (some .int), { frames := 4, cells := 0, slots := 0, locals := 92 })
abbrev mX5_matchOf : mM := (yX5_matchOf, cX5_matchOf, 3, (some .int), { frames := 7, cells := 2, slots := 12, locals := 103 })
abbrev mX5_nextRule : mM := (yX5_nextRule, cX5_nextRule, 5, (some .int), { frames := 4, cells := 0, slots := 0, locals := 92 })
abbrev mX5_takeMessages : mM := (yX5_takeMessages, cX5_takeMessages, 4, none, { frames := 3, cells := 0, slots := 0, locals := 64 })
abbrev mX5_carryOut : mM := (yX5_carryOut, cX5_carryOut, 5, none, { frames := 3, cells := 0, slots := 0, locals := 64 })
abbrev mX5_fireEnabled : mM := (yX5_fireEnabled, cX5_fireEnabled, 4, none, { frames := 4, cells := 0, slots := 0, locals := 88 })
abbrev mX5_fire : mM := (yX5_fire, cX5_fire, 2, (some .int), { frames := 5, cells := 0, slots := 0, locals := 116 })
abbrev mX5_fireRule : mM := (yX5_fireRule, cX5_fireRule, 2, (some .int), { frames := 7, cells := 2, slots := 12, locals := 111 })
abbrev mX5_run : mM := (yX5_run, cX5_run, 3, (some .int), { frames := 6, cells := 1, slots := 6, locals := 137 })
abbrev mX5_isStuck : mM := (yX5_isStuck, cX5_isStuck, 1, (some .boolean), { frames := 5, cells := 0, slots := 0, locals := 114 })
abbrev mX5_requireTicket : mM := (yX5_requireTicket, cX5_requireTicket, 2, none, { frames := 6, cells := 1, slots := 6, locals := 82 })
abbrev mX5_ticketState : mM := (yX5_ticketState, cX5_ticketState, 2, (some .int), { frames := 7, cells := 1, slots := 6, locals := 103 })
abbrev mX5_replyOf : mM := (yX5_replyOf, cX5_replyOf, 2, (some .int), { frames := 7, cells := 2, slots := 12, locals := 103 })
abbrev mX5_firings : mM := (yX5_firings, cX5_firings, 2, (some .int), { frames := 7, cells := 1, slots := 6, locals := 103 })
abbrev mX5_consumed : mM := (yX5_consumed, cX5_consumed, 2, (some .int), { frames := 7, cells := 1, slots := 6, locals := 102 })
abbrev mX5_meanWait : mM := (yX5_meanWait, cX5_meanWait, 3, (some .double), { frames := 7, cells := 1, slots := 6, locals := 102 })
abbrev mX5_shareOf : mM := (yX5_shareOf, cX5_shareOf, 4, (some .float), { frames := 7, cells := 1, slots := 6, locals := 103 })
abbrev mX5_clock : mM := (yX5_clock, cX5_clock, 1, (some .int), { frames := 0, cells := 0, slots := 0, locals := 0 })
abbrev mX5_save : mM := (yX5_save, cX5_save, 1, (some .int), { frames := 3, cells := 0, slots := 0, locals := 61 })
abbrev mX5_restore : mM := (yX5_restore, cX5_restore, 1, (some .int), { frames := 6, cells := 1, slots := 6, locals := 82 })
abbrev mX5_mixRules : mM := (yX5_mixRules, cX5_mixRules, 6, (some .long), { frames := 1, cells := 0, slots := 0, locals := 23 })
abbrev mX5_mixBuffer : mM := (yX5_mixBuffer, cX5_mixBuffer, 6, (some .long), { frames := 1, cells := 0, slots := 0, locals := 23 })
abbrev mX5_digest : mM := (yX5_digest, cX5_digest, 4, (some .long), { frames := 5, cells := 0, slots := 0, locals := 116 })
abbrev mX6_thrown : mM := (yX6_thrown, cX6_thrown, 1, (some .int), { frames := 0, cells := 0, slots := 0, locals := 0 })
abbrev mX6_within : mM := (yX6_within, cX6_within, 3, (some .boolean), { frames := 0, cells := 0, slots := 0, locals := 0 })
abbrev mX6_append : mM := (yX6_append, cX6_append, 2, (some .int), { frames := 1, cells := 0, slots := 0, locals := 22 })
abbrev mX6_clearBuffer : mM := (yX6_clearBuffer, cX6_clearBuffer, 2, (some .int), { frames := 0, cells := 0, slots := 0, locals := 0 })
abbrev mX6_isOfPattern : mM := (yX6_isOfPattern, cX6_isOfPattern, 2, (some .boolean), { frames := 1, cells := 0, slots := 0, locals := 22 })
abbrev mX6_isOperand : mM := (yX6_isOperand, cX6_isOperand, 2, (some .boolean), { frames := 2, cells := 0, slots := 0, locals := 43 })
abbrev mX6_operandOf : mM := (yX6_operandOf, cX6_operandOf, 1, (some .int), { frames := 0, cells := 0, slots := 0, locals := 0 })
abbrev mX6_takesPattern : mM := (yX6_takesPattern, cX6_takesPattern, 2, (some .boolean), { frames := 1, cells := 0, slots := 0, locals := 22 })
abbrev mX6_takesOutput : mM := (yX6_takesOutput, cX6_takesOutput, 2, (some .boolean), { frames := 1, cells := 0, slots := 0, locals := 22 })
abbrev mX6_takesReply : mM := (yX6_takesReply, cX6_takesReply, 3, (some .boolean), { frames := 2, cells := 0, slots := 0, locals := 43 })
abbrev mX6_takesOperand : mM := (yX6_takesOperand, cX6_takesOperand, 2, (some .boolean), { frames := 3, cells := 0, slots := 0, locals := 64 })
abbrev mX6_takesBehind : mM := (yX6_takesBehind, cX6_takesBehind, 2, (some .boolean), { frames := 0, cells := 0, slots := 0, locals := 0 })
abbrev mX6_takesGuard : mM := (yX6_takesGuard, cX6_takesGuard, 3, (some .boolean), { frames := 3, cells := 0, slots := 0, locals := 64 })
abbrev mX6_takes : mM := (yX6_takes, cX6_takes, 2, (some .boolean), { frames := 4, cells := 0, slots := 0, locals := 86 })
abbrev mX6_rightLength : mM := (yX6_rightLength, cX6_rightLength, 2, (some .int), { frames := 5, cells := 0, slots := 0, locals := 107 })
abbrev mX6_firstError : mM := (yX6_firstError, cX6_firstError, 1, (some .int), { frames := 6, cells := 0, slots := 0, locals := 128 })
abbrev mX6_wholeOutputs : mM := (yX6_wholeOutputs, cX6_wholeOutputs, 1, (some .int), { frames := 6, cells := 0, slots := 0, locals := 128 })
abbrev mX6_addRule : mM := (yX6_addRule, cX6_addRule, 4, (some .int), { frames := 7, cells := 0, slots := 0, locals := 148 })
abbrev mX6_isRule : mM := (yX6_isRule, cX6_isRule, 2, (some .boolean), { frames := 1, cells := 0, slots := 0, locals := 22 })
abbrev mX6_copyRule : mM := (yX6_copyRule, cX6_copyRule, 4, none, { frames := 0, cells := 0, slots := 0, locals := 0 })
abbrev mX6_removeRule : mM := (yX6_removeRule, cX6_removeRule, 3, (some .int), { frames := 2, cells := 0, slots := 0, locals := 43 })
abbrev mX6_ruleCount : mM := (yX6_ruleCount, cX6_ruleCount, 1, (some .int), { frames := 0, cells := 0, slots := 0, locals := 0 })
abbrev mX6_patternOf : mM := (yX6_patternOf, cX6_patternOf, 2, (some .int), { frames := 2, cells := 0, slots := 0, locals := 43 })
abbrev mX6_setPolicy : mM := (yX6_setPolicy, cX6_setPolicy, 3, (some .int), { frames := 1, cells := 0, slots := 0, locals := 22 })
abbrev mX6_isChannel : mM := (yX6_isChannel, cX6_isChannel, 1, (some .boolean), { frames := 1, cells := 0, slots := 0, locals := 22 })
abbrev mX6_put : mM := (yX6_put, cX6_put, 5, none, { frames := 0, cells := 0, slots := 0, locals := 0 })
abbrev mX6_send : mM := (yX6_send, cX6_send, 4, (some .int), { frames := 2, cells := 0, slots := 0, locals := 42 })
abbrev mX6_queueLength : mM := (yX6_queueLength, cX6_queueLength, 2, (some .int), { frames := 2, cells := 0, slots := 0, locals := 42 })
abbrev mX6_messageAt : mM := (yX6_messageAt, cX6_messageAt, 3, (some .int), { frames := 2, cells := 0, slots := 0, locals := 42 })
abbrev mX6_waitingNow : mM := (yX6_waitingNow, cX6_waitingNow, 3, (some .int), { frames := 0, cells := 0, slots := 0, locals := 0 })
abbrev mX6_waitingChannels : mM := (yX6_waitingChannels, cX6_waitingChannels, 1, (some .int), { frames := 1, cells := 0, slots := 0, locals := 22 })
abbrev mX6_readyNow : mM := (yX6_readyNow, cX6_readyNow, 4, (some .int), { frames := 1, cells := 0, slots := 0, locals := 22 })
abbrev mX6_readyRules : mM := (yX6_readyRules, cX6_readyRules, 1, (some .int), { frames := 2, cells := 0, slots := 0, locals := 45 })
abbrev mX6_operand : mM := (yX6_operand, cX6_operand, 2, (some .long), { frames := 0, cells := 0, slots := 0, locals := 0 })
abbrev mX6_isGuarded : mM := (yX6_isGuarded, cX6_isGuarded, 7, (some .boolean), { frames := 1, cells := 0, slots := 0, locals := 21 })
abbrev mX6_goOn : mM := (yX6_goOn, cX6_goOn, 3, (some .boolean), { frames := 0, cells := 0, slots := 0, locals := 0 })
abbrev mX6_matches : mM := (yX6_matches, cX6_matches, 4, (some .boolean), { frames := 2, cells := 0, slots := 0, locals := 47 })
abbrev mX6_hasRoom : mM := (yX6_hasRoom, cX6_hasRoom, 6, (some .boolean), { frames := 0, cells := 0, slots := 0, locals := 0 })
abbrev mX6_isEnabled : mM := (yX6_isEnabled, cX6_isEnabled, 2, (some .boolean), { frames := 3, cells := 0, slots := 0, locals := 70 })
abbrev mX6_enabledNow : mM := (yX6_enabledNow, cX6_enabledNow, 3, (some .int), { frames := 4, cells := 0, slots := 0, locals := 91 })
abbrev mX6_enabledRules : mM := (yX6_enabledRules, cX6_enabledRules, 1, (some .int), { frames := 5, cells := 0, slots := 0, locals := 113 })
abbrev mX6_matchOf : mM := (yX6_matchOf, cX6_matchOf, 3, (some .int), { frames := 3, cells := 0, slots := 0, locals := 70 })
abbrev mX6_nextNow : mM := (yX6_nextNow, cX6_nextNow, 6, (some .int), { frames := 5, cells := 0, slots := 0, locals := 113 })
abbrev mX6_nextRule : mM := (yX6_nextRule, cX6_nextRule, 1, (some .int), { frames := 6, cells := 0, slots := 0, locals := 138 })
abbrev mX6_consume : mM := (yX6_consume, cX6_consume, 5, none, { frames := 0, cells := 0, slots := 0, locals := 0 })
abbrev mX6_computed : mM := (yX6_computed, cX6_computed, 11, (some .int), { frames := 0, cells := 0, slots := 0, locals := 0 })
abbrev mX6_isKnown : mM := (yX6_isKnown, cX6_isKnown, 2, (some .boolean), { frames := 0, cells := 0, slots := 0, locals := 0 })
abbrev mX6_settle : mM := (yX6_settle, cX6_settle, 4, none, { frames := 1, cells := 0, slots := 0, locals := 21 })
abbrev mX6_fireNow : mM := (yX6_fireNow, cX6_fireNow, 6, none, { frames := 3, cells := 0, slots := 0, locals := 70 })
abbrev mX6_fire : mM := (yX6_fire, cX6_fire, 2, (some .int), { frames := 6, cells := 0, slots := 0, locals := 138 })
abbrev mX6_fireRule : mM := (yX6_fireRule, cX6_fireRule, 2, (some .int), { frames := 4, cells := 0, slots := 0, locals := 95 })
abbrev mX6_run : mM := (yX6_run, cX6_run, 4, (some .int), { frames := 6, cells := 0, slots := 0, locals := 138 })
abbrev mX6_isStuck : mM := (yX6_isStuck, cX6_isStuck, 1, (some .boolean), { frames := 5, cells := 0, slots := 0, locals := 113 })
abbrev mX6_ticketState : mM := (yX6_ticketState, cX6_ticketState, 2, (some .int), { frames := 1, cells := 0, slots := 0, locals := 21 })
abbrev mX6_replyOf : mM := (yX6_replyOf, cX6_replyOf, 2, (some .int), { frames := 1, cells := 0, slots := 0, locals := 21 })
abbrev mX6_firings : mM := (yX6_firings, cX6_firings, 2, (some .int), { frames := 2, cells := 0, slots := 0, locals := 43 })
abbrev mX6_consumed : mM := (yX6_consumed, cX6_consumed, 2, (some .int), { frames := 2, cells := 0, slots := 0, locals := 42 })
abbrev mX6_meanWait : mM := (yX6_meanWait, cX6_meanWait, 2, (some .double), { frames := 2, cells := 0, slots := 0, locals := 42 })
abbrev mX6_shareOf : mM := (yX6_shareOf, cX6_shareOf, 4, (some .float), { frames := 2, cells := 0, slots := 0, locals := 43 })
abbrev mX6_clock : mM := (yX6_clock, cX6_clock, 1, (some .int), { frames := 0, cells := 0, slots := 0, locals := 0 })
abbrev mX6_copy : mM := (yX6_copy, cX6_copy, 3, none, { frames := 0, cells := 0, slots := 0, locals := 0 })
abbrev mX6_copyLongs : mM := (yX6_copyLongs, cX6_copyLongs, 3, none, { frames := 0, cells := 0, slots := 0, locals := 0 })
abbrev mX6_messages : mM := (yX6_messages, cX6_messages, 3, (some .int), { frames := 0, cells := 0, slots := 0, locals := 0 })
abbrev mX6_save : mM := (yX6_save, cX6_save, 1, (some .int), { frames := 1, cells := 0, slots := 0, locals := 22 })
abbrev mX6_restore : mM := (yX6_restore, cX6_restore, 1, (some .int), { frames := 1, cells := 0, slots := 0, locals := 22 })
abbrev mX6_mix : mM := (yX6_mix, cX6_mix, 3, none, { frames := 0, cells := 0, slots := 0, locals := 0 })
abbrev mX6_mixMessages : mM := (yX6_mixMessages, cX6_mixMessages, 3, none, { frames := 1, cells := 0, slots := 0, locals := 22 })
abbrev mX6_mixTickets : mM := (yX6_mixTickets, cX6_mixTickets, 2, none, { frames := 1, cells := 0, slots := 0, locals := 22 })
abbrev mX6_digest : mM := (yX6_digest, cX6_digest, 2, (some .long), { frames := 6, cells := 0, slots := 0, locals := 138 })
theorem iX0_t : ∀ w ∈ u_ws RX0 TX0 6, w ∈ tables_1 := by decide +kernel
theorem iX0_g : ∀ w ∈ u_ws RX0 TX0 6, goodWord w = true := by decide +kernel
theorem iX0 : ∀ w ∈ u_ws RX0 TX0 6, w ∈ mTB := fun w h => mTB_of (List.mem_append_right _ (iX0_t w h)) (iX0_g w h)
theorem iX1_t : ∀ w ∈ u_ws RX1 TX1 11, w ∈ tables_1 := by decide +kernel
theorem iX1_g : ∀ w ∈ u_ws RX1 TX1 11, goodWord w = true := by decide +kernel
theorem iX1 : ∀ w ∈ u_ws RX1 TX1 11, w ∈ mTB := fun w h => mTB_of (List.mem_append_right _ (iX1_t w h)) (iX1_g w h)
theorem iX2_t : ∀ w ∈ u_ws RX2 TX2 4, w ∈ tables_1 := by decide +kernel
theorem iX2_g : ∀ w ∈ u_ws RX2 TX2 4, goodWord w = true := by decide +kernel
theorem iX2 : ∀ w ∈ u_ws RX2 TX2 4, w ∈ mTB := fun w h => mTB_of (List.mem_append_right _ (iX2_t w h)) (iX2_g w h)
theorem iX3_t : ∀ w ∈ u_ws RX3 TX3 5, w ∈ tables_1 := by decide +kernel
theorem iX3_g : ∀ w ∈ u_ws RX3 TX3 5, goodWord w = true := by decide +kernel
theorem iX3 : ∀ w ∈ u_ws RX3 TX3 5, w ∈ mTB := fun w h => mTB_of (List.mem_append_right _ (iX3_t w h)) (iX3_g w h)
theorem iX4_t : ∀ w ∈ u_ws RX4 TX4 3, w ∈ tables_1 := by decide +kernel
theorem iX4_g : ∀ w ∈ u_ws RX4 TX4 3, goodWord w = true := by decide +kernel
theorem iX4 : ∀ w ∈ u_ws RX4 TX4 3, w ∈ mTB := fun w h => mTB_of (List.mem_append_right _ (iX4_t w h)) (iX4_g w h)
theorem iX5_t : ∀ w ∈ u_ws RX5 TX5 12, w ∈ tables_1 := by decide +kernel
theorem iX5_g : ∀ w ∈ u_ws RX5 TX5 12, goodWord w = true := by decide +kernel
theorem iX5 : ∀ w ∈ u_ws RX5 TX5 12, w ∈ mTB := fun w h => mTB_of (List.mem_append_right _ (iX5_t w h)) (iX5_g w h)
theorem iX6_t : ∀ w ∈ u_ws RX6 TX6 53, w ∈ tables_1 := by decide +kernel
theorem iX6_g : ∀ w ∈ u_ws RX6 TX6 53, goodWord w = true := by decide +kernel
theorem iX6 : ∀ w ∈ u_ws RX6 TX6 53, w ∈ mTB := fun w h => mTB_of (List.mem_append_right _ (iX6_t w h)) (iX6_g w h)
theorem fX5_9 : mFL RX5 9 5 0 := ⟨RX5, TX5, 12, rfl, by decide, iX5, Or.inl (mTB_t 171 (by decide +kernel) (by decide +kernel))⟩
theorem fX5_16 : mFL RX5 16 5 2 := ⟨RX5, TX5, 12, rfl, by decide, iX5, Or.inl (mTB_t 173 (by decide +kernel) (by decide +kernel))⟩
theorem fX5_22 : mFL RX5 22 5 3 := ⟨RX5, TX5, 12, rfl, by decide, iX5, Or.inl (mTB_t 174 (by decide +kernel) (by decide +kernel))⟩
theorem fX5_29 : mFL RX5 29 5 6 := ⟨RX5, TX5, 12, rfl, by decide, iX5, Or.inl (mTB_t 177 (by decide +kernel) (by decide +kernel))⟩
theorem fX5_33 : mFL RX5 33 5 7 := ⟨RX5, TX5, 12, rfl, by decide, iX5, Or.inl (mTB_t 178 (by decide +kernel) (by decide +kernel))⟩
theorem fX5_36 : mFL RX5 36 5 9 := ⟨RX5, TX5, 12, rfl, by decide, iX5, Or.inl (mTB_t 180 (by decide +kernel) (by decide +kernel))⟩
theorem fX5_39 : mFL RX5 39 5 10 := ⟨RX5, TX5, 12, rfl, by decide, iX5, Or.inl (mTB_t 181 (by decide +kernel) (by decide +kernel))⟩
theorem fX5_42 : mFL RX5 42 5 11 := ⟨RX5, TX5, 12, rfl, by decide, iX5, Or.inl (mTB_t 182 (by decide +kernel) (by decide +kernel))⟩
theorem fX5_53 : mFL RX5 53 5 1 := ⟨RX5, TX5, 12, rfl, by decide, iX5, Or.inl (mTB_t 172 (by decide +kernel) (by decide +kernel))⟩
theorem fX5_72 : mFL RX5 72 5 4 := ⟨RX5, TX5, 12, rfl, by decide, iX5, Or.inl (mTB_t 175 (by decide +kernel) (by decide +kernel))⟩
theorem fX5_81 : mFL RX5 81 3 2 := ⟨RX3, TX3, 5, rfl, by decide, iX3, Or.inr ⟨"JoinRuntime", by decide +kernel⟩⟩
theorem fX5_84 : mFL RX5 84 5 8 := ⟨RX5, TX5, 12, rfl, by decide, iX5, Or.inl (mTB_t 179 (by decide +kernel) (by decide +kernel))⟩
theorem fX5_92 : mFL RX5 92 3 4 := ⟨RX3, TX3, 5, rfl, by decide, iX3, Or.inr ⟨"JoinRuntime", by decide +kernel⟩⟩
theorem fX5_95 : mFL RX5 95 1 0 := ⟨RX1, TX1, 11, rfl, by decide, iX1, Or.inr ⟨"JoinRuntime", by decide +kernel⟩⟩
theorem fX5_100 : mFL RX5 100 5 5 := ⟨RX5, TX5, 12, rfl, by decide, iX5, Or.inl (mTB_t 176 (by decide +kernel) (by decide +kernel))⟩
theorem fX5_108 : mFL RX5 108 3 0 := ⟨RX3, TX3, 5, rfl, by decide, iX3, Or.inr ⟨"JoinRuntime", by decide +kernel⟩⟩
theorem fX5_119 : mFL RX5 119 3 3 := ⟨RX3, TX3, 5, rfl, by decide, iX3, Or.inr ⟨"JoinRuntime", by decide +kernel⟩⟩
theorem fX5_122 : mFL RX5 122 3 1 := ⟨RX3, TX3, 5, rfl, by decide, iX3, Or.inr ⟨"JoinRuntime", by decide +kernel⟩⟩
theorem fX5_135 : mFL RX5 135 0 3 := ⟨RX0, TX0, 6, rfl, by decide, iX0, Or.inr ⟨"JoinRuntime", by decide +kernel⟩⟩
theorem fX5_199 : mFL RX5 199 0 4 := ⟨RX0, TX0, 6, rfl, by decide, iX0, Or.inr ⟨"JoinRuntime", by decide +kernel⟩⟩
theorem fX5_202 : mFL RX5 202 0 5 := ⟨RX0, TX0, 6, rfl, by decide, iX0, Or.inr ⟨"JoinRuntime", by decide +kernel⟩⟩
theorem fX5_264 : mFL RX5 264 1 1 := ⟨RX1, TX1, 11, rfl, by decide, iX1, Or.inr ⟨"JoinRuntime", by decide +kernel⟩⟩
theorem fX5_267 : mFL RX5 267 1 3 := ⟨RX1, TX1, 11, rfl, by decide, iX1, Or.inr ⟨"JoinRuntime", by decide +kernel⟩⟩
theorem fX5_289 : mFL RX5 289 1 5 := ⟨RX1, TX1, 11, rfl, by decide, iX1, Or.inr ⟨"JoinRuntime", by decide +kernel⟩⟩
theorem fX5_308 : mFL RX5 308 1 6 := ⟨RX1, TX1, 11, rfl, by decide, iX1, Or.inr ⟨"JoinRuntime", by decide +kernel⟩⟩
theorem fX5_315 : mFL RX5 315 1 7 := ⟨RX1, TX1, 11, rfl, by decide, iX1, Or.inr ⟨"JoinRuntime", by decide +kernel⟩⟩
theorem fX0_9 : mFL RX0 9 0 0 := ⟨RX0, TX0, 6, rfl, by decide, iX0, Or.inl (mTB_t 126 (by decide +kernel) (by decide +kernel))⟩
theorem fX0_15 : mFL RX0 15 0 1 := ⟨RX0, TX0, 6, rfl, by decide, iX0, Or.inl (mTB_t 127 (by decide +kernel) (by decide +kernel))⟩
theorem fX0_18 : mFL RX0 18 0 2 := ⟨RX0, TX0, 6, rfl, by decide, iX0, Or.inl (mTB_t 128 (by decide +kernel) (by decide +kernel))⟩
theorem fX0_21 : mFL RX0 21 0 3 := ⟨RX0, TX0, 6, rfl, by decide, iX0, Or.inl (mTB_t 129 (by decide +kernel) (by decide +kernel))⟩
theorem fX0_33 : mFL RX0 33 0 4 := ⟨RX0, TX0, 6, rfl, by decide, iX0, Or.inl (mTB_t 132 (by decide +kernel) (by decide +kernel))⟩
theorem fX0_36 : mFL RX0 36 0 5 := ⟨RX0, TX0, 6, rfl, by decide, iX0, Or.inl (mTB_t 134 (by decide +kernel) (by decide +kernel))⟩
theorem fX1_9 : mFL RX1 9 1 6 := ⟨RX1, TX1, 11, rfl, by decide, iX1, Or.inl (mTB_t 50 (by decide +kernel) (by decide +kernel))⟩
theorem fX1_15 : mFL RX1 15 1 7 := ⟨RX1, TX1, 11, rfl, by decide, iX1, Or.inl (mTB_t 52 (by decide +kernel) (by decide +kernel))⟩
theorem fX1_19 : mFL RX1 19 1 8 := ⟨RX1, TX1, 11, rfl, by decide, iX1, Or.inl (mTB_t 54 (by decide +kernel) (by decide +kernel))⟩
theorem fX1_22 : mFL RX1 22 1 9 := ⟨RX1, TX1, 11, rfl, by decide, iX1, Or.inl (mTB_t 55 (by decide +kernel) (by decide +kernel))⟩
theorem fX1_25 : mFL RX1 25 1 10 := ⟨RX1, TX1, 11, rfl, by decide, iX1, Or.inl (mTB_t 56 (by decide +kernel) (by decide +kernel))⟩
theorem fX1_28 : mFL RX1 28 1 0 := ⟨RX1, TX1, 11, rfl, by decide, iX1, Or.inl (mTB_t 38 (by decide +kernel) (by decide +kernel))⟩
theorem fX1_32 : mFL RX1 32 1 4 := ⟨RX1, TX1, 11, rfl, by decide, iX1, Or.inl (mTB_t 46 (by decide +kernel) (by decide +kernel))⟩
theorem fX1_35 : mFL RX1 35 1 5 := ⟨RX1, TX1, 11, rfl, by decide, iX1, Or.inl (mTB_t 47 (by decide +kernel) (by decide +kernel))⟩
theorem fX1_42 : mFL RX1 42 1 1 := ⟨RX1, TX1, 11, rfl, by decide, iX1, Or.inl (mTB_t 41 (by decide +kernel) (by decide +kernel))⟩
theorem fX1_45 : mFL RX1 45 1 3 := ⟨RX1, TX1, 11, rfl, by decide, iX1, Or.inl (mTB_t 44 (by decide +kernel) (by decide +kernel))⟩
theorem fX1_52 : mFL RX1 52 1 2 := ⟨RX1, TX1, 11, rfl, by decide, iX1, Or.inl (mTB_t 43 (by decide +kernel) (by decide +kernel))⟩
theorem fX2_12 : mFL RX2 12 2 0 := ⟨RX2, TX2, 4, rfl, by decide, iX2, Or.inl (mTB_t 82 (by decide +kernel) (by decide +kernel))⟩
theorem fX2_21 : mFL RX2 21 2 1 := ⟨RX2, TX2, 4, rfl, by decide, iX2, Or.inl (mTB_t 83 (by decide +kernel) (by decide +kernel))⟩
theorem fX2_54 : mFL RX2 54 2 3 := ⟨RX2, TX2, 4, rfl, by decide, iX2, Or.inl (mTB_t 85 (by decide +kernel) (by decide +kernel))⟩
theorem fX2_60 : mFL RX2 60 1 0 := ⟨RX1, TX1, 11, rfl, by decide, iX1, Or.inr ⟨"JoinRuntime", by decide +kernel⟩⟩
theorem fX2_72 : mFL RX2 72 2 2 := ⟨RX2, TX2, 4, rfl, by decide, iX2, Or.inl (mTB_t 84 (by decide +kernel) (by decide +kernel))⟩
theorem fX2_93 : mFL RX2 93 1 5 := ⟨RX1, TX1, 11, rfl, by decide, iX1, Or.inr ⟨"JoinRuntime", by decide +kernel⟩⟩
theorem fX3_11 : mFL RX3 11 3 0 := ⟨RX3, TX3, 5, rfl, by decide, iX3, Or.inl (mTB_t 149 (by decide +kernel) (by decide +kernel))⟩
theorem fX3_20 : mFL RX3 20 3 1 := ⟨RX3, TX3, 5, rfl, by decide, iX3, Or.inl (mTB_t 151 (by decide +kernel) (by decide +kernel))⟩
theorem fX3_24 : mFL RX3 24 3 2 := ⟨RX3, TX3, 5, rfl, by decide, iX3, Or.inl (mTB_t 153 (by decide +kernel) (by decide +kernel))⟩
theorem fX3_28 : mFL RX3 28 3 4 := ⟨RX3, TX3, 5, rfl, by decide, iX3, Or.inl (mTB_t 157 (by decide +kernel) (by decide +kernel))⟩
theorem fX3_46 : mFL RX3 46 3 3 := ⟨RX3, TX3, 5, rfl, by decide, iX3, Or.inl (mTB_t 155 (by decide +kernel) (by decide +kernel))⟩
theorem fX3_49 : mFL RX3 49 0 3 := ⟨RX0, TX0, 6, rfl, by decide, iX0, Or.inr ⟨"JoinRuntime", by decide +kernel⟩⟩
theorem fX4_9 : mFL RX4 9 4 0 := ⟨RX4, TX4, 3, rfl, by decide, iX4, Or.inl (mTB_t 111 (by decide +kernel) (by decide +kernel))⟩
theorem fX4_15 : mFL RX4 15 4 1 := ⟨RX4, TX4, 3, rfl, by decide, iX4, Or.inl (mTB_t 112 (by decide +kernel) (by decide +kernel))⟩
theorem fX4_18 : mFL RX4 18 4 2 := ⟨RX4, TX4, 3, rfl, by decide, iX4, Or.inl (mTB_t 113 (by decide +kernel) (by decide +kernel))⟩
theorem fX6_7 : mFL RX6 7 6 2 := ⟨RX6, TX6, 53, rfl, by decide, iX6, Or.inl (mTB_t 791 (by decide +kernel) (by decide +kernel))⟩
theorem fX6_13 : mFL RX6 13 6 4 := ⟨RX6, TX6, 53, rfl, by decide, iX6, Or.inl (mTB_t 793 (by decide +kernel) (by decide +kernel))⟩
theorem fX6_16 : mFL RX6 16 6 5 := ⟨RX6, TX6, 53, rfl, by decide, iX6, Or.inl (mTB_t 794 (by decide +kernel) (by decide +kernel))⟩
theorem fX6_19 : mFL RX6 19 6 6 := ⟨RX6, TX6, 53, rfl, by decide, iX6, Or.inl (mTB_t 795 (by decide +kernel) (by decide +kernel))⟩
theorem fX6_22 : mFL RX6 22 6 7 := ⟨RX6, TX6, 53, rfl, by decide, iX6, Or.inl (mTB_t 796 (by decide +kernel) (by decide +kernel))⟩
theorem fX6_25 : mFL RX6 25 6 8 := ⟨RX6, TX6, 53, rfl, by decide, iX6, Or.inl (mTB_t 797 (by decide +kernel) (by decide +kernel))⟩
theorem fX6_28 : mFL RX6 28 6 9 := ⟨RX6, TX6, 53, rfl, by decide, iX6, Or.inl (mTB_t 798 (by decide +kernel) (by decide +kernel))⟩
theorem fX6_31 : mFL RX6 31 6 10 := ⟨RX6, TX6, 53, rfl, by decide, iX6, Or.inl (mTB_t 799 (by decide +kernel) (by decide +kernel))⟩
theorem fX6_34 : mFL RX6 34 6 11 := ⟨RX6, TX6, 53, rfl, by decide, iX6, Or.inl (mTB_t 800 (by decide +kernel) (by decide +kernel))⟩
theorem fX6_37 : mFL RX6 37 6 12 := ⟨RX6, TX6, 53, rfl, by decide, iX6, Or.inl (mTB_t 801 (by decide +kernel) (by decide +kernel))⟩
theorem fX6_41 : mFL RX6 41 6 14 := ⟨RX6, TX6, 53, rfl, by decide, iX6, Or.inl (mTB_t 803 (by decide +kernel) (by decide +kernel))⟩
theorem fX6_44 : mFL RX6 44 6 15 := ⟨RX6, TX6, 53, rfl, by decide, iX6, Or.inl (mTB_t 804 (by decide +kernel) (by decide +kernel))⟩
theorem fX6_47 : mFL RX6 47 6 16 := ⟨RX6, TX6, 53, rfl, by decide, iX6, Or.inl (mTB_t 805 (by decide +kernel) (by decide +kernel))⟩
theorem fX6_50 : mFL RX6 50 6 17 := ⟨RX6, TX6, 53, rfl, by decide, iX6, Or.inl (mTB_t 806 (by decide +kernel) (by decide +kernel))⟩
theorem fX6_53 : mFL RX6 53 6 20 := ⟨RX6, TX6, 53, rfl, by decide, iX6, Or.inl (mTB_t 809 (by decide +kernel) (by decide +kernel))⟩
theorem fX6_56 : mFL RX6 56 6 21 := ⟨RX6, TX6, 53, rfl, by decide, iX6, Or.inl (mTB_t 810 (by decide +kernel) (by decide +kernel))⟩
theorem fX6_59 : mFL RX6 59 6 22 := ⟨RX6, TX6, 53, rfl, by decide, iX6, Or.inl (mTB_t 811 (by decide +kernel) (by decide +kernel))⟩
theorem fX6_62 : mFL RX6 62 6 23 := ⟨RX6, TX6, 53, rfl, by decide, iX6, Or.inl (mTB_t 812 (by decide +kernel) (by decide +kernel))⟩
theorem fX6_66 : mFL RX6 66 6 28 := ⟨RX6, TX6, 53, rfl, by decide, iX6, Or.inl (mTB_t 817 (by decide +kernel) (by decide +kernel))⟩
theorem fX6_69 : mFL RX6 69 6 32 := ⟨RX6, TX6, 53, rfl, by decide, iX6, Or.inl (mTB_t 821 (by decide +kernel) (by decide +kernel))⟩
theorem fX6_72 : mFL RX6 72 6 33 := ⟨RX6, TX6, 53, rfl, by decide, iX6, Or.inl (mTB_t 822 (by decide +kernel) (by decide +kernel))⟩
theorem fX6_75 : mFL RX6 75 6 34 := ⟨RX6, TX6, 53, rfl, by decide, iX6, Or.inl (mTB_t 823 (by decide +kernel) (by decide +kernel))⟩
theorem fX6_78 : mFL RX6 78 6 35 := ⟨RX6, TX6, 53, rfl, by decide, iX6, Or.inl (mTB_t 824 (by decide +kernel) (by decide +kernel))⟩
theorem fX6_81 : mFL RX6 81 6 36 := ⟨RX6, TX6, 53, rfl, by decide, iX6, Or.inl (mTB_t 825 (by decide +kernel) (by decide +kernel))⟩
theorem fX6_84 : mFL RX6 84 6 37 := ⟨RX6, TX6, 53, rfl, by decide, iX6, Or.inl (mTB_t 826 (by decide +kernel) (by decide +kernel))⟩
theorem fX6_87 : mFL RX6 87 6 38 := ⟨RX6, TX6, 53, rfl, by decide, iX6, Or.inl (mTB_t 827 (by decide +kernel) (by decide +kernel))⟩
theorem fX6_90 : mFL RX6 90 6 43 := ⟨RX6, TX6, 53, rfl, by decide, iX6, Or.inl (mTB_t 832 (by decide +kernel) (by decide +kernel))⟩
theorem fX6_93 : mFL RX6 93 6 44 := ⟨RX6, TX6, 53, rfl, by decide, iX6, Or.inl (mTB_t 833 (by decide +kernel) (by decide +kernel))⟩
theorem fX6_96 : mFL RX6 96 6 45 := ⟨RX6, TX6, 53, rfl, by decide, iX6, Or.inl (mTB_t 834 (by decide +kernel) (by decide +kernel))⟩
theorem fX6_99 : mFL RX6 99 6 46 := ⟨RX6, TX6, 53, rfl, by decide, iX6, Or.inl (mTB_t 835 (by decide +kernel) (by decide +kernel))⟩
theorem fX6_102 : mFL RX6 102 6 47 := ⟨RX6, TX6, 53, rfl, by decide, iX6, Or.inl (mTB_t 836 (by decide +kernel) (by decide +kernel))⟩
theorem fX6_105 : mFL RX6 105 6 48 := ⟨RX6, TX6, 53, rfl, by decide, iX6, Or.inl (mTB_t 837 (by decide +kernel) (by decide +kernel))⟩
theorem fX6_108 : mFL RX6 108 6 49 := ⟨RX6, TX6, 53, rfl, by decide, iX6, Or.inl (mTB_t 838 (by decide +kernel) (by decide +kernel))⟩
theorem fX6_111 : mFL RX6 111 6 50 := ⟨RX6, TX6, 53, rfl, by decide, iX6, Or.inl (mTB_t 839 (by decide +kernel) (by decide +kernel))⟩
theorem fX6_114 : mFL RX6 114 6 51 := ⟨RX6, TX6, 53, rfl, by decide, iX6, Or.inl (mTB_t 840 (by decide +kernel) (by decide +kernel))⟩
theorem fX6_117 : mFL RX6 117 6 0 := ⟨RX6, TX6, 53, rfl, by decide, iX6, Or.inl (mTB_t 789 (by decide +kernel) (by decide +kernel))⟩
theorem fX6_124 : mFL RX6 124 6 1 := ⟨RX6, TX6, 53, rfl, by decide, iX6, Or.inl (mTB_t 790 (by decide +kernel) (by decide +kernel))⟩
theorem fX6_127 : mFL RX6 127 6 25 := ⟨RX6, TX6, 53, rfl, by decide, iX6, Or.inl (mTB_t 814 (by decide +kernel) (by decide +kernel))⟩
theorem fX6_134 : mFL RX6 134 6 27 := ⟨RX6, TX6, 53, rfl, by decide, iX6, Or.inl (mTB_t 816 (by decide +kernel) (by decide +kernel))⟩
theorem fX6_137 : mFL RX6 137 6 26 := ⟨RX6, TX6, 53, rfl, by decide, iX6, Or.inl (mTB_t 815 (by decide +kernel) (by decide +kernel))⟩
theorem fX6_140 : mFL RX6 140 6 24 := ⟨RX6, TX6, 53, rfl, by decide, iX6, Or.inl (mTB_t 813 (by decide +kernel) (by decide +kernel))⟩
theorem fX6_143 : mFL RX6 143 6 29 := ⟨RX6, TX6, 53, rfl, by decide, iX6, Or.inl (mTB_t 818 (by decide +kernel) (by decide +kernel))⟩
theorem fX6_146 : mFL RX6 146 6 30 := ⟨RX6, TX6, 53, rfl, by decide, iX6, Or.inl (mTB_t 819 (by decide +kernel) (by decide +kernel))⟩
theorem fX6_156 : mFL RX6 156 6 31 := ⟨RX6, TX6, 53, rfl, by decide, iX6, Or.inl (mTB_t 820 (by decide +kernel) (by decide +kernel))⟩
theorem fX6_188 : mFL RX6 188 6 3 := ⟨RX6, TX6, 53, rfl, by decide, iX6, Or.inl (mTB_t 792 (by decide +kernel) (by decide +kernel))⟩
theorem fX6_191 : mFL RX6 191 6 39 := ⟨RX6, TX6, 53, rfl, by decide, iX6, Or.inl (mTB_t 828 (by decide +kernel) (by decide +kernel))⟩
theorem fX6_201 : mFL RX6 201 6 13 := ⟨RX6, TX6, 53, rfl, by decide, iX6, Or.inl (mTB_t 802 (by decide +kernel) (by decide +kernel))⟩
theorem fX6_204 : mFL RX6 204 6 18 := ⟨RX6, TX6, 53, rfl, by decide, iX6, Or.inl (mTB_t 807 (by decide +kernel) (by decide +kernel))⟩
theorem fX6_210 : mFL RX6 210 6 19 := ⟨RX6, TX6, 53, rfl, by decide, iX6, Or.inl (mTB_t 808 (by decide +kernel) (by decide +kernel))⟩
theorem fX6_269 : mFL RX6 269 6 40 := ⟨RX6, TX6, 53, rfl, by decide, iX6, Or.inl (mTB_t 829 (by decide +kernel) (by decide +kernel))⟩
theorem fX6_272 : mFL RX6 272 6 41 := ⟨RX6, TX6, 53, rfl, by decide, iX6, Or.inl (mTB_t 830 (by decide +kernel) (by decide +kernel))⟩
theorem fX6_275 : mFL RX6 275 6 42 := ⟨RX6, TX6, 53, rfl, by decide, iX6, Or.inl (mTB_t 831 (by decide +kernel) (by decide +kernel))⟩
theorem fX6_291 : mFL RX6 291 6 52 := ⟨RX6, TX6, 53, rfl, by decide, iX6, Or.inl (mTB_t 841 (by decide +kernel) (by decide +kernel))⟩
theorem sX5_1 : mFS 5 1 .int := by
  intro C T N h
  cases h
  exact ⟨⟨tyX5, tyX5_ok⟩, nmX5, rfl, by decide +kernel⟩
theorem sX5_8 : mFS 5 8 .boolean := by
  intro C T N h
  cases h
  exact ⟨⟨tyX5, tyX5_ok⟩, nmX5, rfl, by decide +kernel⟩
theorem sX5_5 : mFS 5 5 .int := by
  intro C T N h
  cases h
  exact ⟨⟨tyX5, tyX5_ok⟩, nmX5, rfl, by decide +kernel⟩
theorem sX5_4 : mFS 5 4 .int := by
  intro C T N h
  cases h
  exact ⟨⟨tyX5, tyX5_ok⟩, nmX5, rfl, by decide +kernel⟩
theorem sX0_3 : mFS 0 3 .int := by
  intro C T N h
  cases h
  exact ⟨⟨tyX0, tyX0_ok⟩, nmX0, rfl, by decide +kernel⟩
theorem sX0_4 : mFS 0 4 .int := by
  intro C T N h
  cases h
  exact ⟨⟨tyX0, tyX0_ok⟩, nmX0, rfl, by decide +kernel⟩
theorem sX0_5 : mFS 0 5 .long := by
  intro C T N h
  cases h
  exact ⟨⟨tyX0, tyX0_ok⟩, nmX0, rfl, by decide +kernel⟩
theorem sX1_1 : mFS 1 1 .int := by
  intro C T N h
  cases h
  exact ⟨⟨tyX1, tyX1_ok⟩, nmX1, rfl, by decide +kernel⟩
theorem sX1_3 : mFS 1 3 .int := by
  intro C T N h
  cases h
  exact ⟨⟨tyX1, tyX1_ok⟩, nmX1, rfl, by decide +kernel⟩
theorem sX1_2 : mFS 1 2 .int := by
  intro C T N h
  cases h
  exact ⟨⟨tyX1, tyX1_ok⟩, nmX1, rfl, by decide +kernel⟩
theorem sX1_5 : mFS 1 5 .int := by
  intro C T N h
  cases h
  exact ⟨⟨tyX1, tyX1_ok⟩, nmX1, rfl, by decide +kernel⟩
theorem sX1_0 : mFS 1 0 .int := by
  intro C T N h
  cases h
  exact ⟨⟨tyX1, tyX1_ok⟩, nmX1, rfl, by decide +kernel⟩
theorem sX1_4 : mFS 1 4 .int := by
  intro C T N h
  cases h
  exact ⟨⟨tyX1, tyX1_ok⟩, nmX1, rfl, by decide +kernel⟩
theorem sX2_2 : mFS 2 2 .int := by
  intro C T N h
  cases h
  exact ⟨⟨tyX2, tyX2_ok⟩, nmX2, rfl, by decide +kernel⟩
theorem sX2_1 : mFS 2 1 .int := by
  intro C T N h
  cases h
  exact ⟨⟨tyX2, tyX2_ok⟩, nmX2, rfl, by decide +kernel⟩
theorem sX2_0 : mFS 2 0 (.object "JoinRuntime$Rule") := by
  intro C T N h
  cases h
  exact ⟨⟨tyX2, tyX2_ok⟩, nmX2, rfl, by decide +kernel⟩
theorem sX2_3 : mFS 2 3 .int := by
  intro C T N h
  cases h
  exact ⟨⟨tyX2, tyX2_ok⟩, nmX2, rfl, by decide +kernel⟩
theorem sX3_4 : mFS 3 4 .int := by
  intro C T N h
  cases h
  exact ⟨⟨tyX3, tyX3_ok⟩, nmX3, rfl, by decide +kernel⟩
theorem sX3_3 : mFS 3 3 .int := by
  intro C T N h
  cases h
  exact ⟨⟨tyX3, tyX3_ok⟩, nmX3, rfl, by decide +kernel⟩
theorem sX4_2 : mFS 4 2 .int := by
  intro C T N h
  cases h
  exact ⟨⟨tyX4, tyX4_ok⟩, nmX4, rfl, by decide +kernel⟩
theorem sX6_18 : mFS 6 18 .int := by
  intro C T N h
  cases h
  exact ⟨⟨tyX6, tyX6_ok⟩, nmX6, rfl, by decide +kernel⟩
theorem sX6_19 : mFS 6 19 .int := by
  intro C T N h
  cases h
  exact ⟨⟨tyX6, tyX6_ok⟩, nmX6, rfl, by decide +kernel⟩
theorem sX6_52 : mFS 6 52 .long := by
  intro C T N h
  cases h
  exact ⟨⟨tyX6, tyX6_ok⟩, nmX6, rfl, by decide +kernel⟩
theorem sX6_31 : mFS 6 31 .boolean := by
  intro C T N h
  cases h
  exact ⟨⟨tyX6, tyX6_ok⟩, nmX6, rfl, by decide +kernel⟩
theorem sX6_39 : mFS 6 39 .boolean := by
  intro C T N h
  cases h
  exact ⟨⟨tyX6, tyX6_ok⟩, nmX6, rfl, by decide +kernel⟩
theorem sX6_12 : mFS 6 12 .int := by
  intro C T N h
  cases h
  exact ⟨⟨tyX6, tyX6_ok⟩, nmX6, rfl, by decide +kernel⟩
theorem sX6_1 : mFS 6 1 .int := by
  intro C T N h
  cases h
  exact ⟨⟨tyX6, tyX6_ok⟩, nmX6, rfl, by decide +kernel⟩
theorem sX6_13 : mFS 6 13 .int := by
  intro C T N h
  cases h
  exact ⟨⟨tyX6, tyX6_ok⟩, nmX6, rfl, by decide +kernel⟩
theorem sX6_27 : mFS 6 27 .int := by
  intro C T N h
  cases h
  exact ⟨⟨tyX6, tyX6_ok⟩, nmX6, rfl, by decide +kernel⟩
theorem sX6_26 : mFS 6 26 .int := by
  intro C T N h
  cases h
  exact ⟨⟨tyX6, tyX6_ok⟩, nmX6, rfl, by decide +kernel⟩
theorem sX6_29 : mFS 6 29 .int := by
  intro C T N h
  cases h
  exact ⟨⟨tyX6, tyX6_ok⟩, nmX6, rfl, by decide +kernel⟩
theorem sX6_25 : mFS 6 25 .int := by
  intro C T N h
  cases h
  exact ⟨⟨tyX6, tyX6_ok⟩, nmX6, rfl, by decide +kernel⟩
theorem sX6_30 : mFS 6 30 .int := by
  intro C T N h
  cases h
  exact ⟨⟨tyX6, tyX6_ok⟩, nmX6, rfl, by decide +kernel⟩
theorem sX6_3 : mFS 6 3 .int := by
  intro C T N h
  cases h
  exact ⟨⟨tyX6, tyX6_ok⟩, nmX6, rfl, by decide +kernel⟩
theorem sX6_40 : mFS 6 40 .int := by
  intro C T N h
  cases h
  exact ⟨⟨tyX6, tyX6_ok⟩, nmX6, rfl, by decide +kernel⟩
theorem sX6_41 : mFS 6 41 .int := by
  intro C T N h
  cases h
  exact ⟨⟨tyX6, tyX6_ok⟩, nmX6, rfl, by decide +kernel⟩
theorem sX6_42 : mFS 6 42 .int := by
  intro C T N h
  cases h
  exact ⟨⟨tyX6, tyX6_ok⟩, nmX6, rfl, by decide +kernel⟩
theorem sX6_24 : mFS 6 24 .int := by
  intro C T N h
  cases h
  exact ⟨⟨tyX6, tyX6_ok⟩, nmX6, rfl, by decide +kernel⟩
theorem sX6_0 : mFS 6 0 .int := by
  intro C T N h
  cases h
  exact ⟨⟨tyX6, tyX6_ok⟩, nmX6, rfl, by decide +kernel⟩
theorem lX0_25 : mLV RX0 25 mX0_has 1 := ⟨⟨mTB_t 396 (by decide +kernel) (by decide +kernel), mTB_t 6 (by decide +kernel) (by decide +kernel), mTB_t 399 (by decide +kernel) (by decide +kernel), ⟨by decide +kernel, by decide +kernel, by decide +kernel⟩⟩, mTB_t 397 (by decide +kernel) (by decide +kernel), mTB_t 398 (by decide +kernel) (by decide +kernel)⟩
theorem lX0_29 : mLV RX0 29 mX0_isFull 0 := ⟨⟨mTB_t 438 (by decide +kernel) (by decide +kernel), mTB_t 6 (by decide +kernel) (by decide +kernel), mTB_t 441 (by decide +kernel) (by decide +kernel), ⟨by decide +kernel, by decide +kernel, by decide +kernel⟩⟩, mTB_t 439 (by decide +kernel) (by decide +kernel), mTB_t 440 (by decide +kernel) (by decide +kernel)⟩
theorem lX0_40 : Cond.methodLink RX0 40 arraycopyName ∈ mTB := mTB_t 463 (by decide +kernel) (by decide +kernel)
theorem lX0_46 : mLN RX0 46 mX5_mix 2 := ⟨⟨"JoinRuntime", by decide +kernel⟩, mTB_t 1 (by decide +kernel) (by decide +kernel), mTB_t 487 (by decide +kernel) (by decide +kernel), ⟨by decide +kernel, by decide +kernel, by decide +kernel⟩, mTB_t 486 (by decide +kernel) (by decide +kernel)⟩
theorem lX1_38 : mLV RX1 38 mX1_setGuard 3 := ⟨⟨mTB_t 228 (by decide +kernel) (by decide +kernel), mTB_t 3 (by decide +kernel) (by decide +kernel), mTB_t 231 (by decide +kernel) (by decide +kernel), ⟨by decide +kernel, by decide +kernel, by decide +kernel⟩⟩, mTB_t 229 (by decide +kernel) (by decide +kernel), mTB_t 230 (by decide +kernel) (by decide +kernel)⟩
theorem lX1_48 : mLS RX1 48 mX1_mirrored 1 := ⟨⟨mTB_t 232 (by decide +kernel) (by decide +kernel), mTB_t 3 (by decide +kernel) (by decide +kernel), mTB_t 234 (by decide +kernel) (by decide +kernel), ⟨by decide +kernel, by decide +kernel, by decide +kernel⟩⟩, mTB_t 233 (by decide +kernel) (by decide +kernel)⟩
theorem lX1_55 : mLV RX1 55 mX1_lastOperandCount 0 := ⟨⟨mTB_t 280 (by decide +kernel) (by decide +kernel), mTB_t 3 (by decide +kernel) (by decide +kernel), mTB_t 283 (by decide +kernel) (by decide +kernel), ⟨by decide +kernel, by decide +kernel, by decide +kernel⟩⟩, mTB_t 281 (by decide +kernel) (by decide +kernel), mTB_t 282 (by decide +kernel) (by decide +kernel)⟩
theorem lX1_59 : mLN RX1 59 mX5_isChannel 1 := ⟨⟨"JoinRuntime", by decide +kernel⟩, mTB_t 1 (by decide +kernel) (by decide +kernel), mTB_t 248 (by decide +kernel) (by decide +kernel), ⟨by decide +kernel, by decide +kernel, by decide +kernel⟩, mTB_t 247 (by decide +kernel) (by decide +kernel)⟩
theorem lX1_67 : mLS RX1 67 mJ9_min_f86c9 2 := ⟨⟨mTB_t 428 (by decide +kernel) (by decide +kernel), mTB_t 16 (by decide +kernel) (by decide +kernel), mTB_t 430 (by decide +kernel) (by decide +kernel), ⟨by decide +kernel, by decide +kernel, by decide +kernel⟩⟩, mTB_t 429 (by decide +kernel) (by decide +kernel)⟩
theorem lX1_73 : mLS RX1 73 mJ9_max_f86c9 2 := ⟨⟨mTB_t 431 (by decide +kernel) (by decide +kernel), mTB_t 16 (by decide +kernel) (by decide +kernel), mTB_t 433 (by decide +kernel) (by decide +kernel), ⟨by decide +kernel, by decide +kernel, by decide +kernel⟩⟩, mTB_t 432 (by decide +kernel) (by decide +kernel)⟩
theorem lX2_100 : mLN RX2 100 mX5_isChannel 1 := ⟨⟨"JoinRuntime", by decide +kernel⟩, mTB_t 1 (by decide +kernel) (by decide +kernel), mTB_t 248 (by decide +kernel) (by decide +kernel), ⟨by decide +kernel, by decide +kernel, by decide +kernel⟩, mTB_t 247 (by decide +kernel) (by decide +kernel)⟩
theorem lX2_18 : mLV RX2 18 mX1_clear 0 := ⟨⟨mTB_t 224 (by decide +kernel) (by decide +kernel), mTB_t 3 (by decide +kernel) (by decide +kernel), mTB_t 227 (by decide +kernel) (by decide +kernel), ⟨by decide +kernel, by decide +kernel, by decide +kernel⟩⟩, mTB_t 225 (by decide +kernel) (by decide +kernel), mTB_t 226 (by decide +kernel) (by decide +kernel)⟩
theorem lX2_25 : mLV RX2 25 mX2_acceptInPattern 1 := ⟨⟨mTB_t 239 (by decide +kernel) (by decide +kernel), mTB_t 2 (by decide +kernel) (by decide +kernel), mTB_t 242 (by decide +kernel) (by decide +kernel), ⟨by decide +kernel, by decide +kernel, by decide +kernel⟩⟩, mTB_t 241 (by decide +kernel) (by decide +kernel), mTB_s 1 (by decide +kernel) (by decide +kernel)⟩
theorem lX2_29 : mLV RX2 29 mX2_operandOf 1 := ⟨⟨mTB_t 263 (by decide +kernel) (by decide +kernel), mTB_t 2 (by decide +kernel) (by decide +kernel), mTB_t 266 (by decide +kernel) (by decide +kernel), ⟨by decide +kernel, by decide +kernel, by decide +kernel⟩⟩, mTB_t 265 (by decide +kernel) (by decide +kernel), mTB_s 3 (by decide +kernel) (by decide +kernel)⟩
theorem lX2_33 : mLV RX2 33 mX2_acceptOperand 1 := ⟨⟨mTB_t 271 (by decide +kernel) (by decide +kernel), mTB_t 2 (by decide +kernel) (by decide +kernel), mTB_t 274 (by decide +kernel) (by decide +kernel), ⟨by decide +kernel, by decide +kernel, by decide +kernel⟩⟩, mTB_t 273 (by decide +kernel) (by decide +kernel), mTB_s 4 (by decide +kernel) (by decide +kernel)⟩
theorem lX2_36 : mLV RX2 36 mX2_acceptGuardSign 1 := ⟨⟨mTB_t 284 (by decide +kernel) (by decide +kernel), mTB_t 2 (by decide +kernel) (by decide +kernel), mTB_t 287 (by decide +kernel) (by decide +kernel), ⟨by decide +kernel, by decide +kernel, by decide +kernel⟩⟩, mTB_t 286 (by decide +kernel) (by decide +kernel), mTB_s 5 (by decide +kernel) (by decide +kernel)⟩
theorem lX2_39 : mLV RX2 39 mX2_goTo 1 := ⟨⟨mTB_t 259 (by decide +kernel) (by decide +kernel), mTB_t 2 (by decide +kernel) (by decide +kernel), mTB_t 262 (by decide +kernel) (by decide +kernel), ⟨by decide +kernel, by decide +kernel, by decide +kernel⟩⟩, mTB_t 261 (by decide +kernel) (by decide +kernel), mTB_s 2 (by decide +kernel) (by decide +kernel)⟩
theorem lX2_42 : mLV RX2 42 mX2_acceptTarget 1 := ⟨⟨mTB_t 288 (by decide +kernel) (by decide +kernel), mTB_t 2 (by decide +kernel) (by decide +kernel), mTB_t 291 (by decide +kernel) (by decide +kernel), ⟨by decide +kernel, by decide +kernel, by decide +kernel⟩⟩, mTB_t 290 (by decide +kernel) (by decide +kernel), mTB_s 6 (by decide +kernel) (by decide +kernel)⟩
theorem lX2_45 : mLV RX2 45 mX2_acceptReplyChannel 1 := ⟨⟨mTB_t 296 (by decide +kernel) (by decide +kernel), mTB_t 2 (by decide +kernel) (by decide +kernel), mTB_t 299 (by decide +kernel) (by decide +kernel), ⟨by decide +kernel, by decide +kernel, by decide +kernel⟩⟩, mTB_t 298 (by decide +kernel) (by decide +kernel), mTB_s 7 (by decide +kernel) (by decide +kernel)⟩
theorem lX2_48 : mLV RX2 48 mX2_goToOperand 1 := ⟨⟨mTB_t 304 (by decide +kernel) (by decide +kernel), mTB_t 2 (by decide +kernel) (by decide +kernel), mTB_t 307 (by decide +kernel) (by decide +kernel), ⟨by decide +kernel, by decide +kernel, by decide +kernel⟩⟩, mTB_t 306 (by decide +kernel) (by decide +kernel), mTB_s 8 (by decide +kernel) (by decide +kernel)⟩
theorem lX2_51 : mLV RX2 51 mX2_acceptBehindOperand 1 := ⟨⟨mTB_t 308 (by decide +kernel) (by decide +kernel), mTB_t 2 (by decide +kernel) (by decide +kernel), mTB_t 311 (by decide +kernel) (by decide +kernel), ⟨by decide +kernel, by decide +kernel, by decide +kernel⟩⟩, mTB_t 310 (by decide +kernel) (by decide +kernel), mTB_s 9 (by decide +kernel) (by decide +kernel)⟩
theorem lX2_57 : mLS RX2 57 mX2_isLetter 1 := ⟨⟨mTB_t 243 (by decide +kernel) (by decide +kernel), mTB_t 2 (by decide +kernel) (by decide +kernel), mTB_t 245 (by decide +kernel) (by decide +kernel), ⟨by decide +kernel, by decide +kernel, by decide +kernel⟩⟩, mTB_t 244 (by decide +kernel) (by decide +kernel)⟩
theorem lX2_63 : mLS RX2 63 mJ6_bitCount_0f7a4 1 := ⟨⟨mTB_t 249 (by decide +kernel) (by decide +kernel), mTB_t 13 (by decide +kernel) (by decide +kernel), mTB_t 251 (by decide +kernel) (by decide +kernel), ⟨by decide +kernel, by decide +kernel, by decide +kernel⟩⟩, mTB_t 250 (by decide +kernel) (by decide +kernel)⟩
theorem lX2_68 : mLV RX2 68 mX1_addChannel 1 := ⟨⟨mTB_t 255 (by decide +kernel) (by decide +kernel), mTB_t 3 (by decide +kernel) (by decide +kernel), mTB_t 258 (by decide +kernel) (by decide +kernel), ⟨by decide +kernel, by decide +kernel, by decide +kernel⟩⟩, mTB_t 256 (by decide +kernel) (by decide +kernel), mTB_t 257 (by decide +kernel) (by decide +kernel)⟩
theorem lX2_75 : mLV RX2 75 mX1_setGuard 3 := ⟨⟨mTB_t 275 (by decide +kernel) (by decide +kernel), mTB_t 3 (by decide +kernel) (by decide +kernel), mTB_t 231 (by decide +kernel) (by decide +kernel), ⟨by decide +kernel, by decide +kernel, by decide +kernel⟩⟩, mTB_t 229 (by decide +kernel) (by decide +kernel), mTB_t 230 (by decide +kernel) (by decide +kernel)⟩
theorem lX2_79 : mLV RX2 79 mX1_addOperand 2 := ⟨⟨mTB_t 276 (by decide +kernel) (by decide +kernel), mTB_t 3 (by decide +kernel) (by decide +kernel), mTB_t 279 (by decide +kernel) (by decide +kernel), ⟨by decide +kernel, by decide +kernel, by decide +kernel⟩⟩, mTB_t 277 (by decide +kernel) (by decide +kernel), mTB_t 278 (by decide +kernel) (by decide +kernel)⟩
theorem lX2_83 : mLV RX2 83 mX1_addOutput 2 := ⟨⟨mTB_t 292 (by decide +kernel) (by decide +kernel), mTB_t 3 (by decide +kernel) (by decide +kernel), mTB_t 295 (by decide +kernel) (by decide +kernel), ⟨by decide +kernel, by decide +kernel, by decide +kernel⟩⟩, mTB_t 293 (by decide +kernel) (by decide +kernel), mTB_t 294 (by decide +kernel) (by decide +kernel)⟩
theorem lX2_87 : mLV RX2 87 mX1_uses 1 := ⟨⟨mTB_t 267 (by decide +kernel) (by decide +kernel), mTB_t 3 (by decide +kernel) (by decide +kernel), mTB_t 270 (by decide +kernel) (by decide +kernel), ⟨by decide +kernel, by decide +kernel, by decide +kernel⟩⟩, mTB_t 268 (by decide +kernel) (by decide +kernel), mTB_t 269 (by decide +kernel) (by decide +kernel)⟩
theorem lX2_90 : mLV RX2 90 mX1_repliesTo 1 := ⟨⟨mTB_t 300 (by decide +kernel) (by decide +kernel), mTB_t 3 (by decide +kernel) (by decide +kernel), mTB_t 303 (by decide +kernel) (by decide +kernel), ⟨by decide +kernel, by decide +kernel, by decide +kernel⟩⟩, mTB_t 301 (by decide +kernel) (by decide +kernel), mTB_t 302 (by decide +kernel) (by decide +kernel)⟩
theorem lX2_96 : mLV RX2 96 mX1_lastOperandCount 0 := ⟨⟨mTB_t 312 (by decide +kernel) (by decide +kernel), mTB_t 3 (by decide +kernel) (by decide +kernel), mTB_t 283 (by decide +kernel) (by decide +kernel), ⟨by decide +kernel, by decide +kernel, by decide +kernel⟩⟩, mTB_t 281 (by decide +kernel) (by decide +kernel), mTB_t 282 (by decide +kernel) (by decide +kernel)⟩
theorem lX3_33 : mLV RX3 33 mX0_copyFrom 1 := ⟨⟨mTB_t 459 (by decide +kernel) (by decide +kernel), mTB_t 6 (by decide +kernel) (by decide +kernel), mTB_t 462 (by decide +kernel) (by decide +kernel), ⟨by decide +kernel, by decide +kernel, by decide +kernel⟩⟩, mTB_t 460 (by decide +kernel) (by decide +kernel), mTB_t 461 (by decide +kernel) (by decide +kernel)⟩
theorem lX3_37 : mLV RX3 37 mX4_copyFrom 1 := ⟨⟨mTB_t 466 (by decide +kernel) (by decide +kernel), mTB_t 5 (by decide +kernel) (by decide +kernel), mTB_t 469 (by decide +kernel) (by decide +kernel), ⟨by decide +kernel, by decide +kernel, by decide +kernel⟩⟩, mTB_t 467 (by decide +kernel) (by decide +kernel), mTB_t 468 (by decide +kernel) (by decide +kernel)⟩
theorem lX3_40 : Cond.methodLink RX3 40 arraycopyName ∈ mTB := mTB_t 471 (by decide +kernel) (by decide +kernel)
theorem lX4_22 : mLV RX4 22 mX4_firstKnown 0 := ⟨⟨mTB_t 413 (by decide +kernel) (by decide +kernel), mTB_t 5 (by decide +kernel) (by decide +kernel), mTB_t 416 (by decide +kernel) (by decide +kernel), ⟨by decide +kernel, by decide +kernel, by decide +kernel⟩⟩, mTB_t 415 (by decide +kernel) (by decide +kernel), mTB_s 18 (by decide +kernel) (by decide +kernel)⟩
theorem lX4_26 : mLV RX4 26 mX4_knows 1 := ⟨⟨mTB_t 409 (by decide +kernel) (by decide +kernel), mTB_t 5 (by decide +kernel) (by decide +kernel), mTB_t 412 (by decide +kernel) (by decide +kernel), ⟨by decide +kernel, by decide +kernel, by decide +kernel⟩⟩, mTB_t 410 (by decide +kernel) (by decide +kernel), mTB_t 411 (by decide +kernel) (by decide +kernel)⟩
theorem lX4_30 : Cond.methodLink RX4 30 arraycopyName ∈ mTB := mTB_t 470 (by decide +kernel) (by decide +kernel)
theorem lX4_36 : mLN RX4 36 mX5_mix 2 := ⟨⟨"JoinRuntime", by decide +kernel⟩, mTB_t 1 (by decide +kernel) (by decide +kernel), mTB_t 487 (by decide +kernel) (by decide +kernel), ⟨by decide +kernel, by decide +kernel, by decide +kernel⟩, mTB_t 486 (by decide +kernel) (by decide +kernel)⟩
theorem lX4_40 : mLV RX4 40 mX4_stateOf 1 := ⟨⟨mTB_t 499 (by decide +kernel) (by decide +kernel), mTB_t 5 (by decide +kernel) (by decide +kernel), mTB_t 502 (by decide +kernel) (by decide +kernel), ⟨by decide +kernel, by decide +kernel, by decide +kernel⟩⟩, mTB_t 500 (by decide +kernel) (by decide +kernel), mTB_t 501 (by decide +kernel) (by decide +kernel)⟩
theorem lX4_44 : mLV RX4 44 mX4_answerTo 1 := ⟨⟨mTB_t 503 (by decide +kernel) (by decide +kernel), mTB_t 5 (by decide +kernel) (by decide +kernel), mTB_t 506 (by decide +kernel) (by decide +kernel), ⟨by decide +kernel, by decide +kernel, by decide +kernel⟩⟩, mTB_t 504 (by decide +kernel) (by decide +kernel), mTB_t 505 (by decide +kernel) (by decide +kernel)⟩
theorem lX5_103 : mLS RX5 103 mX5_requireChannel 1 := ⟨⟨mTB_t 672 (by decide +kernel) (by decide +kernel), mTB_t 1 (by decide +kernel) (by decide +kernel), mTB_t 674 (by decide +kernel) (by decide +kernel), ⟨by decide +kernel, by decide +kernel, by decide +kernel⟩⟩, mTB_t 673 (by decide +kernel) (by decide +kernel)⟩
theorem lX5_112 : mLV RX5 112 mX0_isFull 0 := ⟨⟨mTB_t 677 (by decide +kernel) (by decide +kernel), mTB_t 6 (by decide +kernel) (by decide +kernel), mTB_t 441 (by decide +kernel) (by decide +kernel), ⟨by decide +kernel, by decide +kernel, by decide +kernel⟩⟩, mTB_t 439 (by decide +kernel) (by decide +kernel), mTB_t 440 (by decide +kernel) (by decide +kernel)⟩
theorem lX5_126 : mLV RX5 126 mX4_give 0 := ⟨⟨mTB_t 679 (by decide +kernel) (by decide +kernel), mTB_t 5 (by decide +kernel) (by decide +kernel), mTB_t 682 (by decide +kernel) (by decide +kernel), ⟨by decide +kernel, by decide +kernel, by decide +kernel⟩⟩, mTB_t 680 (by decide +kernel) (by decide +kernel), mTB_t 681 (by decide +kernel) (by decide +kernel)⟩
theorem lX5_131 : mLV RX5 131 mX0_put 3 := ⟨⟨mTB_t 434 (by decide +kernel) (by decide +kernel), mTB_t 6 (by decide +kernel) (by decide +kernel), mTB_t 437 (by decide +kernel) (by decide +kernel), ⟨by decide +kernel, by decide +kernel, by decide +kernel⟩⟩, mTB_t 435 (by decide +kernel) (by decide +kernel), mTB_t 436 (by decide +kernel) (by decide +kernel)⟩
theorem lX5_138 : mLV RX5 138 mX0_has 1 := ⟨⟨mTB_t 697 (by decide +kernel) (by decide +kernel), mTB_t 6 (by decide +kernel) (by decide +kernel), mTB_t 399 (by decide +kernel) (by decide +kernel), ⟨by decide +kernel, by decide +kernel, by decide +kernel⟩⟩, mTB_t 397 (by decide +kernel) (by decide +kernel), mTB_t 398 (by decide +kernel) (by decide +kernel)⟩
theorem lX5_147 : mLV RX5 147 mX0_valueAt 1 := ⟨⟨mTB_t 354 (by decide +kernel) (by decide +kernel), mTB_t 6 (by decide +kernel) (by decide +kernel), mTB_t 357 (by decide +kernel) (by decide +kernel), ⟨by decide +kernel, by decide +kernel, by decide +kernel⟩⟩, mTB_t 355 (by decide +kernel) (by decide +kernel), mTB_t 356 (by decide +kernel) (by decide +kernel)⟩
theorem lX5_151 : mLV RX5 151 mX5_waitingChannels 0 := ⟨⟨mTB_t 325 (by decide +kernel) (by decide +kernel), mTB_t 1 (by decide +kernel) (by decide +kernel), mTB_t 320 (by decide +kernel) (by decide +kernel), ⟨by decide +kernel, by decide +kernel, by decide +kernel⟩⟩, mTB_t 318 (by decide +kernel) (by decide +kernel), mTB_t 319 (by decide +kernel) (by decide +kernel)⟩
theorem lX5_154 : mLV RX5 154 mX1_isReady 1 := ⟨⟨mTB_t 326 (by decide +kernel) (by decide +kernel), mTB_t 3 (by decide +kernel) (by decide +kernel), mTB_t 329 (by decide +kernel) (by decide +kernel), ⟨by decide +kernel, by decide +kernel, by decide +kernel⟩⟩, mTB_t 327 (by decide +kernel) (by decide +kernel), mTB_t 328 (by decide +kernel) (by decide +kernel)⟩
theorem lX5_157 : mLV RX5 157 mX5_isEnabled 1 := ⟨⟨mTB_t 334 (by decide +kernel) (by decide +kernel), mTB_t 1 (by decide +kernel) (by decide +kernel), mTB_t 337 (by decide +kernel) (by decide +kernel), ⟨by decide +kernel, by decide +kernel, by decide +kernel⟩⟩, mTB_t 336 (by decide +kernel) (by decide +kernel), mTB_s 10 (by decide +kernel) (by decide +kernel)⟩
theorem lX5_161 : mLS RX5 161 mX5_isChannel 1 := ⟨⟨mTB_t 349 (by decide +kernel) (by decide +kernel), mTB_t 1 (by decide +kernel) (by decide +kernel), mTB_t 248 (by decide +kernel) (by decide +kernel), ⟨by decide +kernel, by decide +kernel, by decide +kernel⟩⟩, mTB_t 247 (by decide +kernel) (by decide +kernel)⟩
theorem lX5_164 : mLV RX5 164 mX1_uses 1 := ⟨⟨mTB_t 370 (by decide +kernel) (by decide +kernel), mTB_t 3 (by decide +kernel) (by decide +kernel), mTB_t 270 (by decide +kernel) (by decide +kernel), ⟨by decide +kernel, by decide +kernel, by decide +kernel⟩⟩, mTB_t 268 (by decide +kernel) (by decide +kernel), mTB_t 269 (by decide +kernel) (by decide +kernel)⟩
theorem lX5_169 : mLV RX5 169 mX5_findMatch 1 := ⟨⟨mTB_t 338 (by decide +kernel) (by decide +kernel), mTB_t 1 (by decide +kernel) (by decide +kernel), mTB_t 341 (by decide +kernel) (by decide +kernel), ⟨by decide +kernel, by decide +kernel, by decide +kernel⟩⟩, mTB_t 340 (by decide +kernel) (by decide +kernel), mTB_s 11 (by decide +kernel) (by decide +kernel)⟩
theorem lX5_172 : mLV RX5 172 mX5_nextRule 0 := ⟨⟨mTB_t 383 (by decide +kernel) (by decide +kernel), mTB_t 1 (by decide +kernel) (by decide +kernel), mTB_t 378 (by decide +kernel) (by decide +kernel), ⟨by decide +kernel, by decide +kernel, by decide +kernel⟩⟩, mTB_t 376 (by decide +kernel) (by decide +kernel), mTB_t 377 (by decide +kernel) (by decide +kernel)⟩
theorem lX5_175 : mLV RX5 175 mX5_fireEnabled 1 := ⟨⟨mTB_t 384 (by decide +kernel) (by decide +kernel), mTB_t 1 (by decide +kernel) (by decide +kernel), mTB_t 387 (by decide +kernel) (by decide +kernel), ⟨by decide +kernel, by decide +kernel, by decide +kernel⟩⟩, mTB_t 386 (by decide +kernel) (by decide +kernel), mTB_s 16 (by decide +kernel) (by decide +kernel)⟩
theorem lX5_182 : mLV RX5 182 mX5_fire 0 := ⟨⟨mTB_t 723 (by decide +kernel) (by decide +kernel), mTB_t 1 (by decide +kernel) (by decide +kernel), mTB_t 382 (by decide +kernel) (by decide +kernel), ⟨by decide +kernel, by decide +kernel, by decide +kernel⟩⟩, mTB_t 380 (by decide +kernel) (by decide +kernel), mTB_t 381 (by decide +kernel) (by decide +kernel)⟩
theorem lX5_185 : mLV RX5 185 mX5_enabledRules 0 := ⟨⟨mTB_t 446 (by decide +kernel) (by decide +kernel), mTB_t 1 (by decide +kernel) (by decide +kernel), mTB_t 333 (by decide +kernel) (by decide +kernel), ⟨by decide +kernel, by decide +kernel, by decide +kernel⟩⟩, mTB_t 331 (by decide +kernel) (by decide +kernel), mTB_t 332 (by decide +kernel) (by decide +kernel)⟩
theorem lX5_188 : mLV RX5 188 mX5_requireTicket 1 := ⟨⟨mTB_t 731 (by decide +kernel) (by decide +kernel), mTB_t 1 (by decide +kernel) (by decide +kernel), mTB_t 734 (by decide +kernel) (by decide +kernel), ⟨by decide +kernel, by decide +kernel, by decide +kernel⟩⟩, mTB_t 733 (by decide +kernel) (by decide +kernel), mTB_s 24 (by decide +kernel) (by decide +kernel)⟩
theorem lX5_191 : mLV RX5 191 mX4_stateOf 1 := ⟨⟨mTB_t 737 (by decide +kernel) (by decide +kernel), mTB_t 5 (by decide +kernel) (by decide +kernel), mTB_t 502 (by decide +kernel) (by decide +kernel), ⟨by decide +kernel, by decide +kernel, by decide +kernel⟩⟩, mTB_t 500 (by decide +kernel) (by decide +kernel), mTB_t 501 (by decide +kernel) (by decide +kernel)⟩
theorem lX5_196 : mLV RX5 196 mX4_answerTo 1 := ⟨⟨mTB_t 746 (by decide +kernel) (by decide +kernel), mTB_t 5 (by decide +kernel) (by decide +kernel), mTB_t 506 (by decide +kernel) (by decide +kernel), ⟨by decide +kernel, by decide +kernel, by decide +kernel⟩⟩, mTB_t 504 (by decide +kernel) (by decide +kernel), mTB_t 505 (by decide +kernel) (by decide +kernel)⟩
theorem lX5_206 : mLV RX5 206 mX3_copyFrom 1 := ⟨⟨mTB_t 455 (by decide +kernel) (by decide +kernel), mTB_t 4 (by decide +kernel) (by decide +kernel), mTB_t 458 (by decide +kernel) (by decide +kernel), ⟨by decide +kernel, by decide +kernel, by decide +kernel⟩⟩, mTB_t 456 (by decide +kernel) (by decide +kernel), mTB_t 457 (by decide +kernel) (by decide +kernel)⟩
theorem lX5_210 : mLV RX5 210 mX3_messageCount 0 := ⟨⟨mTB_t 472 (by decide +kernel) (by decide +kernel), mTB_t 4 (by decide +kernel) (by decide +kernel), mTB_t 475 (by decide +kernel) (by decide +kernel), ⟨by decide +kernel, by decide +kernel, by decide +kernel⟩⟩, mTB_t 473 (by decide +kernel) (by decide +kernel), mTB_t 474 (by decide +kernel) (by decide +kernel)⟩
theorem lX5_217 : mLV RX5 217 mX5_mixRules 1 := ⟨⟨mTB_t 481 (by decide +kernel) (by decide +kernel), mTB_t 1 (by decide +kernel) (by decide +kernel), mTB_t 484 (by decide +kernel) (by decide +kernel), ⟨by decide +kernel, by decide +kernel, by decide +kernel⟩⟩, mTB_t 483 (by decide +kernel) (by decide +kernel), mTB_s 20 (by decide +kernel) (by decide +kernel)⟩
theorem lX5_221 : mLV RX5 221 mX0_mixMessages 1 := ⟨⟨mTB_t 489 (by decide +kernel) (by decide +kernel), mTB_t 6 (by decide +kernel) (by decide +kernel), mTB_t 492 (by decide +kernel) (by decide +kernel), ⟨by decide +kernel, by decide +kernel, by decide +kernel⟩⟩, mTB_t 490 (by decide +kernel) (by decide +kernel), mTB_t 491 (by decide +kernel) (by decide +kernel)⟩
theorem lX5_224 : mLS RX5 224 mX5_mix 2 := ⟨⟨mTB_t 485 (by decide +kernel) (by decide +kernel), mTB_t 1 (by decide +kernel) (by decide +kernel), mTB_t 487 (by decide +kernel) (by decide +kernel), ⟨by decide +kernel, by decide +kernel, by decide +kernel⟩⟩, mTB_t 486 (by decide +kernel) (by decide +kernel)⟩
theorem lX5_228 : mLV RX5 228 mX4_mixTickets 1 := ⟨⟨mTB_t 494 (by decide +kernel) (by decide +kernel), mTB_t 5 (by decide +kernel) (by decide +kernel), mTB_t 497 (by decide +kernel) (by decide +kernel), ⟨by decide +kernel, by decide +kernel, by decide +kernel⟩⟩, mTB_t 495 (by decide +kernel) (by decide +kernel), mTB_t 496 (by decide +kernel) (by decide +kernel)⟩
theorem lX5_231 : mLV RX5 231 mX5_readyRules 0 := ⟨⟨mTB_t 507 (by decide +kernel) (by decide +kernel), mTB_t 1 (by decide +kernel) (by decide +kernel), mTB_t 324 (by decide +kernel) (by decide +kernel), ⟨by decide +kernel, by decide +kernel, by decide +kernel⟩⟩, mTB_t 322 (by decide +kernel) (by decide +kernel), mTB_t 323 (by decide +kernel) (by decide +kernel)⟩
theorem lX5_234 : mLV RX5 234 mX5_mixBuffer 1 := ⟨⟨mTB_t 508 (by decide +kernel) (by decide +kernel), mTB_t 1 (by decide +kernel) (by decide +kernel), mTB_t 511 (by decide +kernel) (by decide +kernel), ⟨by decide +kernel, by decide +kernel, by decide +kernel⟩⟩, mTB_t 510 (by decide +kernel) (by decide +kernel), mTB_s 21 (by decide +kernel) (by decide +kernel)⟩
theorem lX5_239 : mLV RX5 239 mX4_knows 1 := ⟨⟨mTB_t 735 (by decide +kernel) (by decide +kernel), mTB_t 5 (by decide +kernel) (by decide +kernel), mTB_t 412 (by decide +kernel) (by decide +kernel), ⟨by decide +kernel, by decide +kernel, by decide +kernel⟩⟩, mTB_t 410 (by decide +kernel) (by decide +kernel), mTB_t 411 (by decide +kernel) (by decide +kernel)⟩
theorem lX5_246 : mLV RX5 246 mX2_begin 0 := ⟨⟨mTB_t 220 (by decide +kernel) (by decide +kernel), mTB_t 2 (by decide +kernel) (by decide +kernel), mTB_t 223 (by decide +kernel) (by decide +kernel), ⟨by decide +kernel, by decide +kernel, by decide +kernel⟩⟩, mTB_t 221 (by decide +kernel) (by decide +kernel), mTB_t 222 (by decide +kernel) (by decide +kernel)⟩
theorem lX5_249 : mLV RX5 249 mX2_accept 1 := ⟨⟨mTB_t 235 (by decide +kernel) (by decide +kernel), mTB_t 2 (by decide +kernel) (by decide +kernel), mTB_t 238 (by decide +kernel) (by decide +kernel), ⟨by decide +kernel, by decide +kernel, by decide +kernel⟩⟩, mTB_t 236 (by decide +kernel) (by decide +kernel), mTB_t 237 (by decide +kernel) (by decide +kernel)⟩
theorem lX5_252 : mLV RX5 252 mX5_hasRoom 1 := ⟨⟨mTB_t 366 (by decide +kernel) (by decide +kernel), mTB_t 1 (by decide +kernel) (by decide +kernel), mTB_t 369 (by decide +kernel) (by decide +kernel), ⟨by decide +kernel, by decide +kernel, by decide +kernel⟩⟩, mTB_t 368 (by decide +kernel) (by decide +kernel), mTB_s 15 (by decide +kernel) (by decide +kernel)⟩
theorem lX5_255 : mLV RX5 255 mX1_sentTo 1 := ⟨⟨mTB_t 371 (by decide +kernel) (by decide +kernel), mTB_t 3 (by decide +kernel) (by decide +kernel), mTB_t 374 (by decide +kernel) (by decide +kernel), ⟨by decide +kernel, by decide +kernel, by decide +kernel⟩⟩, mTB_t 372 (by decide +kernel) (by decide +kernel), mTB_t 373 (by decide +kernel) (by decide +kernel)⟩
theorem lX5_258 : mLS RX5 258 mJ7_fill_53178 2 := ⟨⟨mTB_t 342 (by decide +kernel) (by decide +kernel), mTB_t 15 (by decide +kernel) (by decide +kernel), mTB_t 344 (by decide +kernel) (by decide +kernel), ⟨by decide +kernel, by decide +kernel, by decide +kernel⟩⟩, mTB_t 343 (by decide +kernel) (by decide +kernel)⟩
theorem lX5_270 : mLV RX5 270 mX5_choicesOf 1 := ⟨⟨mTB_t 345 (by decide +kernel) (by decide +kernel), mTB_t 1 (by decide +kernel) (by decide +kernel), mTB_t 348 (by decide +kernel) (by decide +kernel), ⟨by decide +kernel, by decide +kernel, by decide +kernel⟩⟩, mTB_t 347 (by decide +kernel) (by decide +kernel), mTB_s 12 (by decide +kernel) (by decide +kernel)⟩
theorem lX5_273 : mLV RX5 273 mX5_valueOf 2 := ⟨⟨mTB_t 350 (by decide +kernel) (by decide +kernel), mTB_t 1 (by decide +kernel) (by decide +kernel), mTB_t 353 (by decide +kernel) (by decide +kernel), ⟨by decide +kernel, by decide +kernel, by decide +kernel⟩⟩, mTB_t 352 (by decide +kernel) (by decide +kernel), mTB_s 13 (by decide +kernel) (by decide +kernel)⟩
theorem lX5_277 : mLV RX5 277 mX1_guardHolds 2 := ⟨⟨mTB_t 358 (by decide +kernel) (by decide +kernel), mTB_t 3 (by decide +kernel) (by decide +kernel), mTB_t 361 (by decide +kernel) (by decide +kernel), ⟨by decide +kernel, by decide +kernel, by decide +kernel⟩⟩, mTB_t 359 (by decide +kernel) (by decide +kernel), mTB_t 360 (by decide +kernel) (by decide +kernel)⟩
theorem lX5_281 : mLV RX5 281 mX5_choose 2 := ⟨⟨mTB_t 362 (by decide +kernel) (by decide +kernel), mTB_t 1 (by decide +kernel) (by decide +kernel), mTB_t 365 (by decide +kernel) (by decide +kernel), ⟨by decide +kernel, by decide +kernel, by decide +kernel⟩⟩, mTB_t 364 (by decide +kernel) (by decide +kernel), mTB_s 14 (by decide +kernel) (by decide +kernel)⟩
theorem lX5_285 : mLV RX5 285 mX5_takeMessages 1 := ⟨⟨mTB_t 388 (by decide +kernel) (by decide +kernel), mTB_t 1 (by decide +kernel) (by decide +kernel), mTB_t 391 (by decide +kernel) (by decide +kernel), ⟨by decide +kernel, by decide +kernel, by decide +kernel⟩⟩, mTB_t 390 (by decide +kernel) (by decide +kernel), mTB_s 17 (by decide +kernel) (by decide +kernel)⟩
theorem lX5_292 : mLV RX5 292 mX5_carryOut 2 := ⟨⟨mTB_t 417 (by decide +kernel) (by decide +kernel), mTB_t 1 (by decide +kernel) (by decide +kernel), mTB_t 420 (by decide +kernel) (by decide +kernel), ⟨by decide +kernel, by decide +kernel, by decide +kernel⟩⟩, mTB_t 419 (by decide +kernel) (by decide +kernel), mTB_s 19 (by decide +kernel) (by decide +kernel)⟩
theorem lX5_296 : mLV RX5 296 mX0_ticketAt 1 := ⟨⟨mTB_t 392 (by decide +kernel) (by decide +kernel), mTB_t 6 (by decide +kernel) (by decide +kernel), mTB_t 395 (by decide +kernel) (by decide +kernel), ⟨by decide +kernel, by decide +kernel, by decide +kernel⟩⟩, mTB_t 393 (by decide +kernel) (by decide +kernel), mTB_t 394 (by decide +kernel) (by decide +kernel)⟩
theorem lX5_299 : mLV RX5 299 mX0_take 2 := ⟨⟨mTB_t 400 (by decide +kernel) (by decide +kernel), mTB_t 6 (by decide +kernel) (by decide +kernel), mTB_t 403 (by decide +kernel) (by decide +kernel), ⟨by decide +kernel, by decide +kernel, by decide +kernel⟩⟩, mTB_t 401 (by decide +kernel) (by decide +kernel), mTB_t 402 (by decide +kernel) (by decide +kernel)⟩
theorem lX5_302 : mLV RX5 302 mX1_repliesTo 1 := ⟨⟨mTB_t 404 (by decide +kernel) (by decide +kernel), mTB_t 3 (by decide +kernel) (by decide +kernel), mTB_t 303 (by decide +kernel) (by decide +kernel), ⟨by decide +kernel, by decide +kernel, by decide +kernel⟩⟩, mTB_t 301 (by decide +kernel) (by decide +kernel), mTB_t 302 (by decide +kernel) (by decide +kernel)⟩
theorem lX5_305 : mLV RX5 305 mX4_settle 3 := ⟨⟨mTB_t 405 (by decide +kernel) (by decide +kernel), mTB_t 5 (by decide +kernel) (by decide +kernel), mTB_t 408 (by decide +kernel) (by decide +kernel), ⟨by decide +kernel, by decide +kernel, by decide +kernel⟩⟩, mTB_t 406 (by decide +kernel) (by decide +kernel), mTB_t 407 (by decide +kernel) (by decide +kernel)⟩
theorem lX5_311 : mLV RX5 311 mX1_outputValue 2 := ⟨⟨mTB_t 421 (by decide +kernel) (by decide +kernel), mTB_t 3 (by decide +kernel) (by decide +kernel), mTB_t 424 (by decide +kernel) (by decide +kernel), ⟨by decide +kernel, by decide +kernel, by decide +kernel⟩⟩, mTB_t 422 (by decide +kernel) (by decide +kernel), mTB_t 423 (by decide +kernel) (by decide +kernel)⟩
theorem lX5_62 : mLV RX5 62 mX5_readBuffer 0 := ⟨⟨mTB_t 216 (by decide +kernel) (by decide +kernel), mTB_t 1 (by decide +kernel) (by decide +kernel), mTB_t 219 (by decide +kernel) (by decide +kernel), ⟨by decide +kernel, by decide +kernel, by decide +kernel⟩⟩, mTB_t 218 (by decide +kernel) (by decide +kernel), mTB_s 0 (by decide +kernel) (by decide +kernel)⟩
theorem lX5_66 : mLV RX5 66 mX2_isComplete 0 := ⟨⟨mTB_t 612 (by decide +kernel) (by decide +kernel), mTB_t 2 (by decide +kernel) (by decide +kernel), mTB_t 615 (by decide +kernel) (by decide +kernel), ⟨by decide +kernel, by decide +kernel, by decide +kernel⟩⟩, mTB_t 613 (by decide +kernel) (by decide +kernel), mTB_t 614 (by decide +kernel) (by decide +kernel)⟩
theorem lX5_77 : mLV RX5 77 mX2_exchange 1 := ⟨⟨mTB_t 618 (by decide +kernel) (by decide +kernel), mTB_t 2 (by decide +kernel) (by decide +kernel), mTB_t 621 (by decide +kernel) (by decide +kernel), ⟨by decide +kernel, by decide +kernel, by decide +kernel⟩⟩, mTB_t 619 (by decide +kernel) (by decide +kernel), mTB_t 620 (by decide +kernel) (by decide +kernel)⟩
theorem lX5_88 : mLV RX5 88 mX5_requireRule 1 := ⟨⟨mTB_t 630 (by decide +kernel) (by decide +kernel), mTB_t 1 (by decide +kernel) (by decide +kernel), mTB_t 633 (by decide +kernel) (by decide +kernel), ⟨by decide +kernel, by decide +kernel, by decide +kernel⟩⟩, mTB_t 632 (by decide +kernel) (by decide +kernel), mTB_s 23 (by decide +kernel) (by decide +kernel)⟩
theorem lX6_120 : mLS RX6 120 mX6_within 3 := ⟨⟨mTB_t 958 (by decide +kernel) (by decide +kernel), mTB_t 7 (by decide +kernel) (by decide +kernel), mTB_t 960 (by decide +kernel) (by decide +kernel), ⟨by decide +kernel, by decide +kernel, by decide +kernel⟩⟩, mTB_t 959 (by decide +kernel) (by decide +kernel)⟩
theorem lX6_130 : mLV RX6 130 mX6_isOfPattern 1 := ⟨⟨mTB_t 992 (by decide +kernel) (by decide +kernel), mTB_t 7 (by decide +kernel) (by decide +kernel), mTB_t 995 (by decide +kernel) (by decide +kernel), ⟨by decide +kernel, by decide +kernel, by decide +kernel⟩⟩, mTB_t 994 (by decide +kernel) (by decide +kernel), mTB_s 30 (by decide +kernel) (by decide +kernel)⟩
theorem lX6_149 : mLV RX6 149 mX6_isOperand 1 := ⟨⟨mTB_t 988 (by decide +kernel) (by decide +kernel), mTB_t 7 (by decide +kernel) (by decide +kernel), mTB_t 991 (by decide +kernel) (by decide +kernel), ⟨by decide +kernel, by decide +kernel, by decide +kernel⟩⟩, mTB_t 990 (by decide +kernel) (by decide +kernel), mTB_s 29 (by decide +kernel) (by decide +kernel)⟩
theorem lX6_152 : mLS RX6 152 mX6_operandOf 1 := ⟨⟨mTB_t 985 (by decide +kernel) (by decide +kernel), mTB_t 7 (by decide +kernel) (by decide +kernel), mTB_t 987 (by decide +kernel) (by decide +kernel), ⟨by decide +kernel, by decide +kernel, by decide +kernel⟩⟩, mTB_t 986 (by decide +kernel) (by decide +kernel)⟩
theorem lX6_160 : mLV RX6 160 mX6_takesPattern 1 := ⟨⟨mTB_t 977 (by decide +kernel) (by decide +kernel), mTB_t 7 (by decide +kernel) (by decide +kernel), mTB_t 980 (by decide +kernel) (by decide +kernel), ⟨by decide +kernel, by decide +kernel, by decide +kernel⟩⟩, mTB_t 979 (by decide +kernel) (by decide +kernel), mTB_s 27 (by decide +kernel) (by decide +kernel)⟩
theorem lX6_163 : mLV RX6 163 mX6_takesGuard 1 := ⟨⟨mTB_t 981 (by decide +kernel) (by decide +kernel), mTB_t 7 (by decide +kernel) (by decide +kernel), mTB_t 984 (by decide +kernel) (by decide +kernel), ⟨by decide +kernel, by decide +kernel, by decide +kernel⟩⟩, mTB_t 983 (by decide +kernel) (by decide +kernel), mTB_s 28 (by decide +kernel) (by decide +kernel)⟩
theorem lX6_166 : mLV RX6 166 mX6_takesOutput 1 := ⟨⟨mTB_t 996 (by decide +kernel) (by decide +kernel), mTB_t 7 (by decide +kernel) (by decide +kernel), mTB_t 999 (by decide +kernel) (by decide +kernel), ⟨by decide +kernel, by decide +kernel, by decide +kernel⟩⟩, mTB_t 998 (by decide +kernel) (by decide +kernel), mTB_s 31 (by decide +kernel) (by decide +kernel)⟩
theorem lX6_169 : mLV RX6 169 mX6_takesReply 1 := ⟨⟨mTB_t 1000 (by decide +kernel) (by decide +kernel), mTB_t 7 (by decide +kernel) (by decide +kernel), mTB_t 1003 (by decide +kernel) (by decide +kernel), ⟨by decide +kernel, by decide +kernel, by decide +kernel⟩⟩, mTB_t 1002 (by decide +kernel) (by decide +kernel), mTB_s 32 (by decide +kernel) (by decide +kernel)⟩
theorem lX6_172 : mLV RX6 172 mX6_takesOperand 1 := ⟨⟨mTB_t 1004 (by decide +kernel) (by decide +kernel), mTB_t 7 (by decide +kernel) (by decide +kernel), mTB_t 1007 (by decide +kernel) (by decide +kernel), ⟨by decide +kernel, by decide +kernel, by decide +kernel⟩⟩, mTB_t 1006 (by decide +kernel) (by decide +kernel), mTB_s 33 (by decide +kernel) (by decide +kernel)⟩
theorem lX6_175 : mLV RX6 175 mX6_takesBehind 1 := ⟨⟨mTB_t 1008 (by decide +kernel) (by decide +kernel), mTB_t 7 (by decide +kernel) (by decide +kernel), mTB_t 1011 (by decide +kernel) (by decide +kernel), ⟨by decide +kernel, by decide +kernel, by decide +kernel⟩⟩, mTB_t 1010 (by decide +kernel) (by decide +kernel), mTB_s 34 (by decide +kernel) (by decide +kernel)⟩
theorem lX6_178 : mLV RX6 178 mX6_takes 1 := ⟨⟨mTB_t 973 (by decide +kernel) (by decide +kernel), mTB_t 7 (by decide +kernel) (by decide +kernel), mTB_t 976 (by decide +kernel) (by decide +kernel), ⟨by decide +kernel, by decide +kernel, by decide +kernel⟩⟩, mTB_t 975 (by decide +kernel) (by decide +kernel), mTB_s 26 (by decide +kernel) (by decide +kernel)⟩
theorem lX6_181 : mLV RX6 181 mX6_rightLength 0 := ⟨⟨mTB_t 969 (by decide +kernel) (by decide +kernel), mTB_t 7 (by decide +kernel) (by decide +kernel), mTB_t 972 (by decide +kernel) (by decide +kernel), ⟨by decide +kernel, by decide +kernel, by decide +kernel⟩⟩, mTB_t 971 (by decide +kernel) (by decide +kernel), mTB_s 25 (by decide +kernel) (by decide +kernel)⟩
theorem lX6_185 : mLV RX6 185 mX6_wholeOutputs 0 := ⟨⟨mTB_t 1016 (by decide +kernel) (by decide +kernel), mTB_t 7 (by decide +kernel) (by decide +kernel), mTB_t 1019 (by decide +kernel) (by decide +kernel), ⟨by decide +kernel, by decide +kernel, by decide +kernel⟩⟩, mTB_t 1018 (by decide +kernel) (by decide +kernel), mTB_s 35 (by decide +kernel) (by decide +kernel)⟩
theorem lX6_194 : mLV RX6 194 mX6_isRule 1 := ⟨⟨mTB_t 1024 (by decide +kernel) (by decide +kernel), mTB_t 7 (by decide +kernel) (by decide +kernel), mTB_t 1027 (by decide +kernel) (by decide +kernel), ⟨by decide +kernel, by decide +kernel, by decide +kernel⟩⟩, mTB_t 1026 (by decide +kernel) (by decide +kernel), mTB_s 36 (by decide +kernel) (by decide +kernel)⟩
theorem lX6_197 : mLV RX6 197 mX6_copyRule 2 := ⟨⟨mTB_t 1028 (by decide +kernel) (by decide +kernel), mTB_t 7 (by decide +kernel) (by decide +kernel), mTB_t 1031 (by decide +kernel) (by decide +kernel), ⟨by decide +kernel, by decide +kernel, by decide +kernel⟩⟩, mTB_t 1030 (by decide +kernel) (by decide +kernel), mTB_s 37 (by decide +kernel) (by decide +kernel)⟩
theorem lX6_207 : mLS RX6 207 mX6_isChannel 1 := ⟨⟨mTB_t 1048 (by decide +kernel) (by decide +kernel), mTB_t 7 (by decide +kernel) (by decide +kernel), mTB_t 1050 (by decide +kernel) (by decide +kernel), ⟨by decide +kernel, by decide +kernel, by decide +kernel⟩⟩, mTB_t 1049 (by decide +kernel) (by decide +kernel)⟩
theorem lX6_213 : mLV RX6 213 mX6_put 3 := ⟨⟨mTB_t 1051 (by decide +kernel) (by decide +kernel), mTB_t 7 (by decide +kernel) (by decide +kernel), mTB_t 1054 (by decide +kernel) (by decide +kernel), ⟨by decide +kernel, by decide +kernel, by decide +kernel⟩⟩, mTB_t 1053 (by decide +kernel) (by decide +kernel), mTB_s 38 (by decide +kernel) (by decide +kernel)⟩
theorem lX6_217 : mLV RX6 217 mX6_waitingNow 0 := ⟨⟨mTB_t 1067 (by decide +kernel) (by decide +kernel), mTB_t 7 (by decide +kernel) (by decide +kernel), mTB_t 1070 (by decide +kernel) (by decide +kernel), ⟨by decide +kernel, by decide +kernel, by decide +kernel⟩⟩, mTB_t 1069 (by decide +kernel) (by decide +kernel), mTB_s 39 (by decide +kernel) (by decide +kernel)⟩
theorem lX6_220 : mLV RX6 220 mX6_readyNow 0 := ⟨⟨mTB_t 1075 (by decide +kernel) (by decide +kernel), mTB_t 7 (by decide +kernel) (by decide +kernel), mTB_t 1078 (by decide +kernel) (by decide +kernel), ⟨by decide +kernel, by decide +kernel, by decide +kernel⟩⟩, mTB_t 1077 (by decide +kernel) (by decide +kernel), mTB_s 40 (by decide +kernel) (by decide +kernel)⟩
theorem lX6_223 : mLV RX6 223 mX6_operand 1 := ⟨⟨mTB_t 1099 (by decide +kernel) (by decide +kernel), mTB_t 7 (by decide +kernel) (by decide +kernel), mTB_t 1102 (by decide +kernel) (by decide +kernel), ⟨by decide +kernel, by decide +kernel, by decide +kernel⟩⟩, mTB_t 1101 (by decide +kernel) (by decide +kernel), mTB_s 45 (by decide +kernel) (by decide +kernel)⟩
theorem lX6_227 : mLV RX6 227 mX6_isGuarded 1 := ⟨⟨mTB_t 1095 (by decide +kernel) (by decide +kernel), mTB_t 7 (by decide +kernel) (by decide +kernel), mTB_t 1098 (by decide +kernel) (by decide +kernel), ⟨by decide +kernel, by decide +kernel, by decide +kernel⟩⟩, mTB_t 1097 (by decide +kernel) (by decide +kernel), mTB_s 44 (by decide +kernel) (by decide +kernel)⟩
theorem lX6_230 : mLV RX6 230 mX6_goOn 1 := ⟨⟨mTB_t 1103 (by decide +kernel) (by decide +kernel), mTB_t 7 (by decide +kernel) (by decide +kernel), mTB_t 1106 (by decide +kernel) (by decide +kernel), ⟨by decide +kernel, by decide +kernel, by decide +kernel⟩⟩, mTB_t 1105 (by decide +kernel) (by decide +kernel), mTB_s 46 (by decide +kernel) (by decide +kernel)⟩
theorem lX6_233 : mLV RX6 233 mX6_matches 1 := ⟨⟨mTB_t 1091 (by decide +kernel) (by decide +kernel), mTB_t 7 (by decide +kernel) (by decide +kernel), mTB_t 1094 (by decide +kernel) (by decide +kernel), ⟨by decide +kernel, by decide +kernel, by decide +kernel⟩⟩, mTB_t 1093 (by decide +kernel) (by decide +kernel), mTB_s 43 (by decide +kernel) (by decide +kernel)⟩
theorem lX6_236 : mLV RX6 236 mX6_hasRoom 1 := ⟨⟨mTB_t 1107 (by decide +kernel) (by decide +kernel), mTB_t 7 (by decide +kernel) (by decide +kernel), mTB_t 1110 (by decide +kernel) (by decide +kernel), ⟨by decide +kernel, by decide +kernel, by decide +kernel⟩⟩, mTB_t 1109 (by decide +kernel) (by decide +kernel), mTB_s 47 (by decide +kernel) (by decide +kernel)⟩
theorem lX6_239 : mLV RX6 239 mX6_isEnabled 1 := ⟨⟨mTB_t 1087 (by decide +kernel) (by decide +kernel), mTB_t 7 (by decide +kernel) (by decide +kernel), mTB_t 1090 (by decide +kernel) (by decide +kernel), ⟨by decide +kernel, by decide +kernel, by decide +kernel⟩⟩, mTB_t 1089 (by decide +kernel) (by decide +kernel), mTB_s 42 (by decide +kernel) (by decide +kernel)⟩
theorem lX6_242 : mLV RX6 242 mX6_enabledNow 0 := ⟨⟨mTB_t 1083 (by decide +kernel) (by decide +kernel), mTB_t 7 (by decide +kernel) (by decide +kernel), mTB_t 1086 (by decide +kernel) (by decide +kernel), ⟨by decide +kernel, by decide +kernel, by decide +kernel⟩⟩, mTB_t 1085 (by decide +kernel) (by decide +kernel), mTB_s 41 (by decide +kernel) (by decide +kernel)⟩
theorem lX6_245 : mLV RX6 245 mX6_nextNow 0 := ⟨⟨mTB_t 1119 (by decide +kernel) (by decide +kernel), mTB_t 7 (by decide +kernel) (by decide +kernel), mTB_t 1122 (by decide +kernel) (by decide +kernel), ⟨by decide +kernel, by decide +kernel, by decide +kernel⟩⟩, mTB_t 1121 (by decide +kernel) (by decide +kernel), mTB_s 48 (by decide +kernel) (by decide +kernel)⟩
theorem lX6_252 : mLV RX6 252 mX6_isKnown 1 := ⟨⟨mTB_t 1139 (by decide +kernel) (by decide +kernel), mTB_t 7 (by decide +kernel) (by decide +kernel), mTB_t 1142 (by decide +kernel) (by decide +kernel), ⟨by decide +kernel, by decide +kernel, by decide +kernel⟩⟩, mTB_t 1141 (by decide +kernel) (by decide +kernel), mTB_s 52 (by decide +kernel) (by decide +kernel)⟩
theorem lX6_255 : mLV RX6 255 mX6_consume 1 := ⟨⟨mTB_t 1131 (by decide +kernel) (by decide +kernel), mTB_t 7 (by decide +kernel) (by decide +kernel), mTB_t 1134 (by decide +kernel) (by decide +kernel), ⟨by decide +kernel, by decide +kernel, by decide +kernel⟩⟩, mTB_t 1133 (by decide +kernel) (by decide +kernel), mTB_s 50 (by decide +kernel) (by decide +kernel)⟩
theorem lX6_259 : mLV RX6 259 mX6_settle 3 := ⟨⟨mTB_t 1135 (by decide +kernel) (by decide +kernel), mTB_t 7 (by decide +kernel) (by decide +kernel), mTB_t 1138 (by decide +kernel) (by decide +kernel), ⟨by decide +kernel, by decide +kernel, by decide +kernel⟩⟩, mTB_t 1137 (by decide +kernel) (by decide +kernel), mTB_s 51 (by decide +kernel) (by decide +kernel)⟩
theorem lX6_262 : mLV RX6 262 mX6_computed 2 := ⟨⟨mTB_t 1143 (by decide +kernel) (by decide +kernel), mTB_t 7 (by decide +kernel) (by decide +kernel), mTB_t 1146 (by decide +kernel) (by decide +kernel), ⟨by decide +kernel, by decide +kernel, by decide +kernel⟩⟩, mTB_t 1145 (by decide +kernel) (by decide +kernel), mTB_s 53 (by decide +kernel) (by decide +kernel)⟩
theorem lX6_266 : mLV RX6 266 mX6_fireNow 1 := ⟨⟨mTB_t 1127 (by decide +kernel) (by decide +kernel), mTB_t 7 (by decide +kernel) (by decide +kernel), mTB_t 1130 (by decide +kernel) (by decide +kernel), ⟨by decide +kernel, by decide +kernel, by decide +kernel⟩⟩, mTB_t 1129 (by decide +kernel) (by decide +kernel), mTB_s 49 (by decide +kernel) (by decide +kernel)⟩
theorem lX6_278 : mLS RX6 278 mX6_copy 2 := ⟨⟨mTB_t 1193 (by decide +kernel) (by decide +kernel), mTB_t 7 (by decide +kernel) (by decide +kernel), mTB_t 1195 (by decide +kernel) (by decide +kernel), ⟨by decide +kernel, by decide +kernel, by decide +kernel⟩⟩, mTB_t 1194 (by decide +kernel) (by decide +kernel)⟩
theorem lX6_282 : mLS RX6 282 mX6_copyLongs 2 := ⟨⟨mTB_t 1196 (by decide +kernel) (by decide +kernel), mTB_t 7 (by decide +kernel) (by decide +kernel), mTB_t 1198 (by decide +kernel) (by decide +kernel), ⟨by decide +kernel, by decide +kernel, by decide +kernel⟩⟩, mTB_t 1197 (by decide +kernel) (by decide +kernel)⟩
theorem lX6_286 : mLV RX6 286 mX6_messages 0 := ⟨⟨mTB_t 1199 (by decide +kernel) (by decide +kernel), mTB_t 7 (by decide +kernel) (by decide +kernel), mTB_t 1202 (by decide +kernel) (by decide +kernel), ⟨by decide +kernel, by decide +kernel, by decide +kernel⟩⟩, mTB_t 1201 (by decide +kernel) (by decide +kernel), mTB_s 54 (by decide +kernel) (by decide +kernel)⟩
theorem lX6_295 : mLV RX6 295 mX6_mix 1 := ⟨⟨mTB_t 1212 (by decide +kernel) (by decide +kernel), mTB_t 7 (by decide +kernel) (by decide +kernel), mTB_t 1215 (by decide +kernel) (by decide +kernel), ⟨by decide +kernel, by decide +kernel, by decide +kernel⟩⟩, mTB_t 1214 (by decide +kernel) (by decide +kernel), mTB_s 55 (by decide +kernel) (by decide +kernel)⟩
theorem lX6_301 : mLV RX6 301 mX6_mixMessages 0 := ⟨⟨mTB_t 1217 (by decide +kernel) (by decide +kernel), mTB_t 7 (by decide +kernel) (by decide +kernel), mTB_t 1220 (by decide +kernel) (by decide +kernel), ⟨by decide +kernel, by decide +kernel, by decide +kernel⟩⟩, mTB_t 1219 (by decide +kernel) (by decide +kernel), mTB_s 56 (by decide +kernel) (by decide +kernel)⟩
theorem lX6_304 : mLV RX6 304 mX6_mixTickets 0 := ⟨⟨mTB_t 1221 (by decide +kernel) (by decide +kernel), mTB_t 7 (by decide +kernel) (by decide +kernel), mTB_t 1224 (by decide +kernel) (by decide +kernel), ⟨by decide +kernel, by decide +kernel, by decide +kernel⟩⟩, mTB_t 1223 (by decide +kernel) (by decide +kernel), mTB_s 57 (by decide +kernel) (by decide +kernel)⟩
theorem lcp_1 : Cond.native arraycopyName ∈ mTB := mTB_t 465 (by decide +kernel) (by decide +kernel)
theorem lcp_2 : Cond.static arraycopyName ∈ mTB := mTB_t 464 (by decide +kernel) (by decide +kernel)
theorem lcp_3 : Cond.initialized "java/lang/System" ∈ mTB := mTB_t 17 (by decide +kernel) (by decide +kernel)
theorem cJ6_265 : Cond.constant RJ6 265 (1431655765) ∈ mTB := mTB_t 252 (by decide +kernel) (by decide +kernel)
theorem cJ6_266 : Cond.constant RJ6 266 (858993459) ∈ mTB := mTB_t 253 (by decide +kernel) (by decide +kernel)
theorem cJ6_267 : Cond.constant RJ6 267 (252645135) ∈ mTB := mTB_t 254 (by decide +kernel) (by decide +kernel)
theorem cX1_63 : Cond.constantLong RX1 63 (-9999) ∈ mTB := mTB_t 426 (by decide +kernel) (by decide +kernel)
theorem cX1_65 : Cond.constantLong RX1 65 (9999) ∈ mTB := mTB_t 427 (by decide +kernel) (by decide +kernel)
theorem cX5_215 : Cond.constantLong RX5 215 (1847) ∈ mTB := mTB_t 480 (by decide +kernel) (by decide +kernel)
theorem cX5_319 : Cond.constantLong RX5 319 (31) ∈ mTB := mTB_t 488 (by decide +kernel) (by decide +kernel)
theorem cX6_248 : Cond.constantLong RX6 248 (9999) ∈ mTB := mTB_t 1147 (by decide +kernel) (by decide +kernel)
theorem cX6_250 : Cond.constantLong RX6 250 (-9999) ∈ mTB := mTB_t 1148 (by decide +kernel) (by decide +kernel)
theorem cX6_299 : Cond.constantLong RX6 299 (1847) ∈ mTB := mTB_t 1211 (by decide +kernel) (by decide +kernel)
theorem cX6_289 : Cond.constantLong RX6 289 (31) ∈ mTB := mTB_t 1216 (by decide +kernel) (by decide +kernel)
theorem tw_46_t : ∀ w ∈ (vx_atS RX5 50 "java/lang/IllegalArgumentException" mXn).filter goodWord, w ∈ lw_tbl := by decide +kernel
theorem tw_46 : mTW RX5 46 50 "java/lang/IllegalArgumentException" := ⟨mTB_t 521 (by decide +kernel) (by decide +kernel), mTB_t 11 (by decide +kernel) (by decide +kernel), fun w h => mTB_of (tw_46_t w h) (List.mem_filter.mp h).2, by decide +kernel, by decide +kernel, by decide +kernel, by decide +kernel⟩
theorem tw_57_t : ∀ w ∈ (vx_atS RX5 61 "java/lang/IllegalStateException" mXn).filter goodWord, w ∈ lw_tbl := by decide +kernel
theorem tw_57 : mTW RX5 57 61 "java/lang/IllegalStateException" := ⟨mTB_t 589 (by decide +kernel) (by decide +kernel), mTB_t 12 (by decide +kernel) (by decide +kernel), fun w h => mTB_of (tw_57_t w h) (List.mem_filter.mp h).2, by decide +kernel, by decide +kernel, by decide +kernel, by decide +kernel⟩
theorem tw_142_t : ∀ w ∈ (vx_atS RX5 146 "java/lang/IndexOutOfBoundsException" mXn).filter goodWord, w ∈ lw_tbl := by decide +kernel
theorem tw_142 : mTW RX5 142 146 "java/lang/IndexOutOfBoundsException" := ⟨mTB_t 634 (by decide +kernel) (by decide +kernel), mTB_t 14 (by decide +kernel) (by decide +kernel), fun w h => mTB_of (tw_142_t w h) (List.mem_filter.mp h).2, by decide +kernel, by decide +kernel, by decide +kernel, by decide +kernel⟩
end
section
/-! ===== objects as rows of fields; rules with numbers ===== -/
theorem lr_get {α : Type} {f : Nat → α} {N k : Nat} (hk : k < N) : ((List.range N).map f)[k]? = some (f k) := by
  rw [List.getElem?_map, List.getElem?_range hk]
  rfl
theorem lr_set {α : Type} {f : Nat → α} {N k : Nat} {v : α} : ((List.range N).map f).set k v = (List.range N).map (va_up f k v) := by
  apply List.ext_getElem?
  intro j
  rw [List.getElem?_set]
  by_cases hj : j < N
  · rw [lr_get (f := va_up f k v) hj]
    by_cases e : k = j
    · subst e
      simp [hj, va_up]
    · rw [if_neg e, lr_get hj]
      simp [va_up, Ne.symm e]
  · have h1 : ((List.range N).map f)[j]? = none := by simp; omega
    have h2 : ((List.range N).map (va_up f k v))[j]? = none := by simp; omega
    rw [h1, h2]
    simp
    omega
theorem lr_ext {α : Type} {f g : Nat → α} {N : Nat} (h : ∀ n, n < N → f n = g n) : (List.range N).map f = (List.range N).map g := by
  apply List.map_congr_left
  intro n hn
  exact h n (List.mem_range.mp hn)
section
variable {K : mK} {μ : mM} {cells slots pc : Nat} {L : List (Option Value)} {S : List Value} {h : mH}
theorem mJ_get {idx ci k a N : Nat} {f : Nat → Value} (v : Value) (hK : mCx K μ) (hd : decode μ.2.1 pc = .ok (.getfield idx, 3)) (hl : mFL μ.1.cls idx ci k) (ha : h a = some (.inr (ci, (List.range N).map f))) (hk : k < N) (hv : f k = v) (kk : mJ K cells slots (pc + 3) L (v :: S) h) : mJ K cells slots pc L (.ref a :: S) h :=
  mJ_getf hK hd hl ha (by rw [lr_get hk, hv]) kk
theorem mJ_put {idx ci k a N : Nat} {f : Nat → Value} {v : Value} {ty : FieldType} (hK : mCx K μ) (hd : decode μ.2.1 pc = .ok (.putfield idx, 3)) (hl : mFL μ.1.cls idx ci k) (hf : mFS ci k ty) (hn : narrow ty v = v) (hfit : fits ty v = true) (ha : h a = some (.inr (ci, (List.range N).map f))) (hk : k < N) (kk : mJ K cells slots (pc + 3) L S (mset h a (.inr (ci, (List.range N).map (va_up f k v))))) : mJ K cells slots pc L (v :: .ref a :: S) h :=
  mJ_putf hK hd hl hf hn hfit ha (by simpa using hk) (by rw [lr_set]; exact kk)
theorem mJ_ialdN {a n : Nat} {f : Nat → Int32} {i : Int32} (j : Nat) (hK : mCx K μ) (hd : decode μ.2.1 pc = .ok (.iaload, 1)) (ha : h a = some (.inl (0, n, .inl f))) (hi : i = nI j) (hj : j < n) (hn : n < 2 ^ 31) (kk : mJ K cells slots (pc + 1) L (.int (f j) :: S) h) : mJ K cells slots pc L (.int i :: .ref a :: S) h := by
  subst hi
  exact mJ_iald hK hd ha (vp_in_nI hj hn) (by rw [nI_clamp (Nat.lt_trans hj hn)]; exact kk)
theorem mJ_laldN {a n : Nat} {f : Nat → Int64} {i : Int32} (j : Nat) (hK : mCx K μ) (hd : decode μ.2.1 pc = .ok (.laload, 1)) (ha : h a = some (.inl (1, n, .inr (.inl f)))) (hi : i = nI j) (hj : j < n) (hn : n < 2 ^ 31) (kk : mJ K cells slots (pc + 1) L (.long (f j) :: S) h) : mJ K cells slots pc L (.int i :: .ref a :: S) h := by
  subst hi
  exact mJ_lald hK hd ha (vp_in_nI hj hn) (by rw [nI_clamp (Nat.lt_trans hj hn)]; exact kk)
theorem mJ_zaldN {a n : Nat} {f : Nat → Int32} {i : Int32} (j : Nat) (hK : mCx K μ) (hd : decode μ.2.1 pc = .ok (.baload, 1)) (ha : h a = some (.inl (2, n, .inl f))) (hi : i = nI j) (hj : j < n) (hn : n < 2 ^ 31) (kk : mJ K cells slots (pc + 1) L (.int (f j) :: S) h) : mJ K cells slots pc L (.int i :: .ref a :: S) h := by
  subst hi
  exact mJ_zald hK hd ha (vp_in_nI hj hn) (by rw [nI_clamp (Nat.lt_trans hj hn)]; exact kk)
theorem mJ_aaldRN {a n v : Nat} {f : Nat → Option Nat} {i : Int32} (j : Nat) (hK : mCx K μ) (hd : decode μ.2.1 pc = .ok (.aaload, 1)) (ha : h a = some (.inl (3, n, .inr (.inr (.inr (.inr f)))))) (hi : i = nI j) (hj : j < n) (hn : n < 2 ^ 31) (hv : f j = some v) (kk : mJ K cells slots (pc + 1) L (.ref v :: S) h) : mJ K cells slots pc L (.int i :: .ref a :: S) h := by
  subst hi
  exact mJ_aaldR hK hd ha (vp_in_nI hj hn) (by rw [nI_clamp (Nat.lt_trans hj hn)]; exact hv) kk
theorem mJ_aaldCN {a n v : Nat} {f : Nat → Option Nat} {i : Int32} (j : Nat) (hK : mCx K μ) (hd : decode μ.2.1 pc = .ok (.aaload, 1)) (ha : h a = some (.inl (4, n, .inr (.inr (.inr (.inr f)))))) (hi : i = nI j) (hj : j < n) (hn : n < 2 ^ 31) (hv : f j = some v) (kk : mJ K cells slots (pc + 1) L (.ref v :: S) h) : mJ K cells slots pc L (.int i :: .ref a :: S) h := by
  subst hi
  exact mJ_aaldC hK hd ha (vp_in_nI hj hn) (by rw [nI_clamp (Nat.lt_trans hj hn)]; exact hv) kk
theorem mJ_iastN {a n : Nat} {f : Nat → Int32} {i x : Int32} (j : Nat) (hK : mCx K μ) (hd : decode μ.2.1 pc = .ok (.iastore, 1)) (ha : h a = some (.inl (0, n, .inl f))) (hi : i = nI j) (hj : j < n) (hn : n < 2 ^ 31) (kk : mJ K cells slots (pc + 1) L S (mset h a (.inl (0, n, .inl (upd f j x))))) : mJ K cells slots pc L (.int x :: .int i :: .ref a :: S) h := by
  subst hi
  exact mJ_iast hK hd ha (vp_in_nI hj hn) (by rw [nI_clamp (Nat.lt_trans hj hn)]; exact kk)
theorem mJ_lastN {a n : Nat} {f : Nat → Int64} {i : Int32} {x : Int64} (j : Nat) (hK : mCx K μ) (hd : decode μ.2.1 pc = .ok (.lastore, 1)) (ha : h a = some (.inl (1, n, .inr (.inl f)))) (hi : i = nI j) (hj : j < n) (hn : n < 2 ^ 31) (kk : mJ K cells slots (pc + 1) L S (mset h a (.inl (1, n, .inr (.inl (vp_updL f j x)))))) : mJ K cells slots pc L (.long x :: .int i :: .ref a :: S) h := by
  subst hi
  exact mJ_last hK hd ha (vp_in_nI hj hn) (by rw [nI_clamp (Nat.lt_trans hj hn)]; exact kk)
theorem mJ_zastN {a n : Nat} {f : Nat → Int32} {i x : Int32} (j : Nat) (hK : mCx K μ) (hd : decode μ.2.1 pc = .ok (.bastore, 1)) (ha : h a = some (.inl (2, n, .inl f))) (hx : vp_nar .boolean x = x) (hi : i = nI j) (hj : j < n) (hn : n < 2 ^ 31) (kk : mJ K cells slots (pc + 1) L S (mset h a (.inl (2, n, .inl (upd f j x))))) : mJ K cells slots pc L (.int x :: .int i :: .ref a :: S) h := by
  subst hi
  exact mJ_zast hK hd ha (vp_in_nI hj hn) (by rw [nI_clamp (Nat.lt_trans hj hn), hx]; exact kk)
theorem mJ_aastRN {a n v : Nat} {f : Nat → Option Nat} {i : Int32} {vs : List Value} (j : Nat) (hK : mCx K μ) (hd : decode μ.2.1 pc = .ok (.aastore, 1)) (ha : h a = some (.inl (3, n, .inr (.inr (.inr (.inr f)))))) (hv : h v = some (.inr (1, vs))) (hi : i = nI j) (hj : j < n) (hn : n < 2 ^ 31) (kk : mJ K cells slots (pc + 1) L S (mset h a (.inl (3, n, .inr (.inr (.inr (.inr (va_up f j (some v))))))))) : mJ K cells slots pc L (.ref v :: .int i :: .ref a :: S) h := by
  subst hi
  exact mJ_aastR hK hd ha hv (vp_in_nI hj hn) (by rw [nI_clamp (Nat.lt_trans hj hn)]; exact kk)
/-- a truth value as the machine has it -/
def bI (p : Prop) [Decidable p] : Int32 := if p then 1 else 0
theorem bI_t {p : Prop} [Decidable p] (h : p) : bI p = 1 := if_pos h
theorem bI_f {p : Prop} [Decidable p] (h : ¬ p) : bI p = 0 := if_neg h
theorem bI_0 {p : Prop} [Decidable p] : bI p = 0 ↔ ¬ p := by
  unfold bI
  split <;> simp_all
theorem bI_n0 {p : Prop} [Decidable p] : ¬ bI p = 0 ↔ p := by
  rw [bI_0, Decidable.not_not]
theorem bI_iff {p q : Prop} [Decidable p] [Decidable q] (h : p ↔ q) : bI p = bI q := by
  unfold bI
  simp [h]
theorem bI_nar {p : Prop} [Decidable p] : narrow .boolean (.int (bI p)) = .int (bI p) := by
  unfold bI
  split <;> decide
theorem bI_vnar {p : Prop} [Decidable p] : vp_nar .boolean (bI p) = bI p := by
  unfold bI
  split <;> decide
theorem bI_fits {p : Prop} [Decidable p] : fits .boolean (.int (bI p)) = true := by
  unfold bI
  split <;> decide
theorem mJ_ifb_eq {p : Prop} [Decidable p] {off : Int} {tgt : Nat} (hK : mCx K μ) (hd : decode μ.2.1 pc = .ok (.ifCond .eq off, 3)) (ht : (pc : Int) + off = (tgt : Int)) (kt : ¬ p → mJ K cells slots tgt L S h) (kf : p → mJ K cells slots (pc + 3) L S h) : mJ K cells slots pc L (.int (bI p) :: S) h :=
  mJ_if_eq hK hd ht (fun c => kt (bI_0.mp c)) (fun c => kf (bI_n0.mp c))
theorem mJ_ifb_ne {p : Prop} [Decidable p] {off : Int} {tgt : Nat} (hK : mCx K μ) (hd : decode μ.2.1 pc = .ok (.ifCond .ne off, 3)) (ht : (pc : Int) + off = (tgt : Int)) (kt : p → mJ K cells slots tgt L S h) (kf : ¬ p → mJ K cells slots (pc + 3) L S h) : mJ K cells slots pc L (.int (bI p) :: S) h :=
  mJ_if_ne hK hd ht (fun c => kt (bI_n0.mp c)) (fun c => kf (bI_0.mp c))
theorem mJ_nlt {a b : Nat} {off : Int} {tgt : Nat} (hK : mCx K μ) (hd : decode μ.2.1 pc = .ok (.if_icmp .lt off, 3)) (ht : (pc : Int) + off = (tgt : Int)) (ha : a < 2 ^ 31) (hb : b < 2 ^ 31) (kt : a < b → mJ K cells slots tgt L S h) (kf : b ≤ a → mJ K cells slots (pc + 3) L S h) : mJ K cells slots pc L (.int (nI b) :: .int (nI a) :: S) h :=
  mJ_icmp_lt hK hd ht (fun c => kt ((nI_ltI ha hb).mp c)) (fun c => kf (Nat.le_of_not_lt fun z => c ((nI_ltI ha hb).mpr z)))
theorem mJ_nge {a b : Nat} {off : Int} {tgt : Nat} (hK : mCx K μ) (hd : decode μ.2.1 pc = .ok (.if_icmp .ge off, 3)) (ht : (pc : Int) + off = (tgt : Int)) (ha : a < 2 ^ 31) (hb : b < 2 ^ 31) (kt : b ≤ a → mJ K cells slots tgt L S h) (kf : a < b → mJ K cells slots (pc + 3) L S h) : mJ K cells slots pc L (.int (nI b) :: .int (nI a) :: S) h :=
  mJ_icmp_ge hK hd ht (fun c => kt ((nI_leI hb ha).mp c)) (fun c => kf (Nat.lt_of_not_le fun z => c ((nI_leI hb ha).mpr z)))
theorem mJ_ngt {a b : Nat} {off : Int} {tgt : Nat} (hK : mCx K μ) (hd : decode μ.2.1 pc = .ok (.if_icmp .gt off, 3)) (ht : (pc : Int) + off = (tgt : Int)) (ha : a < 2 ^ 31) (hb : b < 2 ^ 31) (kt : b < a → mJ K cells slots tgt L S h) (kf : a ≤ b → mJ K cells slots (pc + 3) L S h) : mJ K cells slots pc L (.int (nI b) :: .int (nI a) :: S) h :=
  mJ_icmp_gt hK hd ht (fun c => kt ((nI_ltI hb ha).mp c)) (fun c => kf (Nat.le_of_not_lt fun z => c ((nI_ltI hb ha).mpr z)))
theorem mJ_nle {a b : Nat} {off : Int} {tgt : Nat} (hK : mCx K μ) (hd : decode μ.2.1 pc = .ok (.if_icmp .le off, 3)) (ht : (pc : Int) + off = (tgt : Int)) (ha : a < 2 ^ 31) (hb : b < 2 ^ 31) (kt : a ≤ b → mJ K cells slots tgt L S h) (kf : b < a → mJ K cells slots (pc + 3) L S h) : mJ K cells slots pc L (.int (nI b) :: .int (nI a) :: S) h :=
  mJ_icmp_le hK hd ht (fun c => kt ((nI_leI ha hb).mp c)) (fun c => kf (Nat.lt_of_not_le fun z => c ((nI_leI ha hb).mpr z)))
theorem mJ_neq {a b : Nat} {off : Int} {tgt : Nat} (hK : mCx K μ) (hd : decode μ.2.1 pc = .ok (.if_icmp .eq off, 3)) (ht : (pc : Int) + off = (tgt : Int)) (ha : a < 2 ^ 31) (hb : b < 2 ^ 31) (kt : a = b → mJ K cells slots tgt L S h) (kf : a ≠ b → mJ K cells slots (pc + 3) L S h) : mJ K cells slots pc L (.int (nI b) :: .int (nI a) :: S) h :=
  mJ_icmp_eq hK hd ht (fun c => kt ((nI_eq ha hb).mp c)) (fun c => kf (fun z => c ((nI_eq ha hb).mpr z)))
theorem mJ_nne {a b : Nat} {off : Int} {tgt : Nat} (hK : mCx K μ) (hd : decode μ.2.1 pc = .ok (.if_icmp .ne off, 3)) (ht : (pc : Int) + off = (tgt : Int)) (ha : a < 2 ^ 31) (hb : b < 2 ^ 31) (kt : a ≠ b → mJ K cells slots tgt L S h) (kf : a = b → mJ K cells slots (pc + 3) L S h) : mJ K cells slots pc L (.int (nI b) :: .int (nI a) :: S) h :=
  mJ_icmp_ne hK hd ht (fun c => kt (fun z => c ((nI_eq ha hb).mpr z))) (fun c => kf ((nI_eq ha hb).mp c))
theorem mJ_iincN {i j : Nat} {x : Int32} (hK : mCx K μ) (hd : decode μ.2.1 pc = .ok (.iinc i 1, 3)) (hl : L[i]? = some (some (.int x))) (hx : x = nI j) (hn : i < μ.2.2.1) (ho : mOk L i = true) (kk : mJ K cells slots (pc + 3) (L.set i (some (.int (nI (j + 1))))) S h) : mJ K cells slots pc L S h :=
  mJ_iinc hK hd hl (by rw [hx]; exact nI_1 j) hn ho kk
/-- the local list by another name -/
theorem mJ_L {L' : List (Option Value)} (e : L = L') (k : mJ K cells slots pc L' S h) : mJ K cells slots pc L S h := e ▸ k
theorem mJ_S {S' : List Value} (e : S = S') (k : mJ K cells slots pc L S' h) : mJ K cells slots pc L S h := e ▸ k
end
/-- a row of a state in another's place -/
def fr {α : Type} (F : Nat → Nat → Nat → α) (k i j : Nat) (g : α) : Nat → Nat → Nat → α := fun k' i' j' => if k' = k ∧ i' = i ∧ j' = j then g else F k' i' j'
theorem fr_s {α : Type} {F : Nat → Nat → Nat → α} {k i j : Nat} {g : α} : fr F k i j g k i j = g := if_pos ⟨rfl, rfl, rfl⟩
theorem fr_n {α : Type} {F : Nat → Nat → Nat → α} {k i j k' i' j' : Nat} {g : α} (h : ¬ (k' = k ∧ i' = i ∧ j' = j)) : fr F k i j g k' i' j' = F k' i' j' := if_neg h
theorem fr_k {α : Type} {F : Nat → Nat → Nat → α} {k i j k' i' j' : Nat} {g : α} (h : k' ≠ k) : fr F k i j g k' i' j' = F k' i' j' := if_neg fun z => h z.1
theorem fr_self {α : Type} {F : Nat → Nat → Nat → α} {k i j : Nat} : fr F k i j (F k i j) = F := by
  funext a b c
  unfold fr
  split
  · rename_i h
    obtain ⟨rfl, rfl, rfl⟩ := h
    rfl
  · rfl
end
section
def xI (k n : Nat) : Bool := match k, n with
  | 0, 1 => true
  | 0, 4 => true
  | 0, 5 => true
  | 0, 8 => true
  | 2, 1 => true
  | 2, 2 => true
  | 2, 3 => true
  | 7, 3 => true
  | 7, 4 => true
  | 9, 2 => true
  | 13, 3 => true
  | 13, 4 => true
  | 17, 0 => true
  | 17, 1 => true
  | 17, 2 => true
  | 17, 3 => true
  | 17, 4 => true
  | 17, 5 => true
  | 30, 0 => true
  | 30, 1 => true
  | 30, 3 => true
  | 30, 12 => true
  | 30, 13 => true
  | 30, 18 => true
  | 30, 19 => true
  | 30, 24 => true
  | 30, 25 => true
  | 30, 26 => true
  | 30, 27 => true
  | 30, 29 => true
  | 30, 30 => true
  | 30, 31 => true
  | 30, 39 => true
  | 30, 40 => true
  | 30, 41 => true
  | 30, 42 => true
  | _, _ => false
def xO (ad : Nat → Nat → Nat → Nat) (pm : Nat → Nat) (w : Nat → Int64) (k i j n : Nat) : Value := match k, n with
  | 0, 0 => .ref (ad 1 0 0)
  | 0, 2 => .ref (ad 2 0 0)
  | 0, 3 => .ref (ad 3 0 0)
  | 0, 6 => .ref (ad 7 0 0)
  | 0, 7 => .ref (ad 7 1 0)
  | 0, 9 => .ref (ad 4 0 0)
  | 0, 10 => .ref (ad 5 0 0)
  | 0, 11 => .ref (ad 6 0 0)
  | 2, 0 => .ref (ad 17 (pm 8) 0)
  | 7, 0 => .ref (ad 8 i 0)
  | 7, 1 => .ref (ad 9 i 0)
  | 7, 2 => .ref (ad 12 i 0)
  | 9, 0 => .ref (ad 10 i 0)
  | 9, 1 => .ref (ad 11 i 0)
  | 13, 0 => .ref (ad 14 i j)
  | 13, 1 => .ref (ad 15 i j)
  | 13, 2 => .ref (ad 16 i j)
  | 17, 6 => .ref (ad 18 i 0)
  | 17, 7 => .ref (ad 19 i 0)
  | 17, 8 => .ref (ad 20 i 0)
  | 17, 9 => .ref (ad 21 i 0)
  | 17, 10 => .ref (ad 22 i 0)
  | 13, 5 => .long (w 0)
  | 30, 2 => .ref (ad 32 0 0)
  | 30, 4 => .ref (ad 34 0 0)
  | 30, 5 => .ref (ad 35 0 0)
  | 30, 6 => .ref (ad 36 0 0)
  | 30, 7 => .ref (ad 37 0 0)
  | 30, 8 => .ref (ad 38 0 0)
  | 30, 9 => .ref (ad 39 0 0)
  | 30, 10 => .ref (ad 40 0 0)
  | 30, 11 => .ref (ad 41 0 0)
  | 30, 14 => .ref (ad 44 0 0)
  | 30, 15 => .ref (ad 45 0 0)
  | 30, 16 => .ref (ad 46 0 0)
  | 30, 17 => .ref (ad 47 0 0)
  | 30, 20 => .ref (ad 50 0 0)
  | 30, 21 => .ref (ad 51 0 0)
  | 30, 22 => .ref (ad 52 0 0)
  | 30, 23 => .ref (ad 53 0 0)
  | 30, 28 => .ref (ad 58 0 0)
  | 30, 32 => .ref (ad 62 0 0)
  | 30, 33 => .ref (ad 63 0 0)
  | 30, 34 => .ref (ad 64 0 0)
  | 30, 35 => .ref (ad 65 0 0)
  | 30, 36 => .ref (ad 66 0 0)
  | 30, 37 => .ref (ad 67 0 0)
  | 30, 38 => .ref (ad 68 0 0)
  | 30, 43 => .ref (ad 73 0 0)
  | 30, 44 => .ref (ad 74 0 0)
  | 30, 45 => .ref (ad 75 0 0)
  | 30, 46 => .ref (ad 76 0 0)
  | 30, 47 => .ref (ad 77 0 0)
  | 30, 48 => .ref (ad 78 0 0)
  | 30, 49 => .ref (ad 79 0 0)
  | 30, 50 => .ref (ad 80 0 0)
  | 30, 51 => .ref (ad 81 0 0)
  | 30, 52 => .long (w 0)
  | _, _ => .null
def xF (ad : Nat → Nat → Nat → Nat) (pm : Nat → Nat) (r : Nat → Int32) (w : Nat → Int64) (k i j n : Nat) : Value := match xI k n with
  | true => .int (r n)
  | false => xO ad pm w k i j n
def xC (ad : Nat → Nat → Nat → Nat) (pm : Nat → Nat) (r : Nat → Int32) (w : Nat → Int64) (k i j : Nat) : mC := match k with
  | 0 => .inr (5, (List.range 12).map (xF ad pm r w 0 i j))
  | 2 => .inr (2, (List.range 4).map (xF ad pm r w 2 i j))
  | 7 => .inr (3, (List.range 5).map (xF ad pm r w 7 i j))
  | 9 => .inr (4, (List.range 3).map (xF ad pm r w 9 i j))
  | 13 => .inr (0, (List.range 6).map (xF ad pm r w 13 i j))
  | 17 => .inr (1, (List.range 11).map (xF ad pm r w 17 i j))
  | 30 => .inr (6, (List.range 53).map (xF ad pm r w 30 i j))
  | 1 => .inl (0, 40, .inl r)
  | 4 => .inl (0, 8, .inl r)
  | 5 => .inl (0, 8, .inl r)
  | 6 => .inl (0, 8, .inl r)
  | 10 => .inl (0, 24, .inl r)
  | 11 => .inl (0, 24, .inl r)
  | 12 => .inl (0, 8, .inl r)
  | 14 => .inl (0, 8, .inl r)
  | 15 => .inl (0, 8, .inl r)
  | 16 => .inl (0, 8, .inl r)
  | 18 => .inl (0, 4, .inl r)
  | 20 => .inl (0, 4, .inl r)
  | 21 => .inl (0, 12, .inl r)
  | 22 => .inl (0, 12, .inl r)
  | 19 => .inl (2, 4, .inl r)
  | 3 => .inl (3, 8, .inr (.inr (.inr (.inr (fun n => some (ad 17 (pm n) 0))))))
  | 8 => .inl (4, 8, .inr (.inr (.inr (.inr (fun n => some (ad 13 i n))))))
  | 32 => .inl (0, 40, .inl r)
  | 34 => .inl (0, 8, .inl r)
  | 35 => .inl (0, 24, .inl r)
  | 36 => .inl (0, 8, .inl r)
  | 37 => .inl (0, 32, .inl r)
  | 38 => .inl (0, 32, .inl r)
  | 39 => .inl (0, 96, .inl r)
  | 40 => .inl (0, 96, .inl r)
  | 41 => .inl (0, 8, .inl r)
  | 44 => .inl (0, 8, .inl r)
  | 45 => .inl (0, 64, .inl r)
  | 46 => .inl (0, 64, .inl r)
  | 47 => .inl (0, 64, .inl r)
  | 50 => .inl (0, 24, .inl r)
  | 51 => .inl (0, 24, .inl r)
  | 52 => .inl (0, 8, .inl r)
  | 53 => .inl (1, 8, .inr (.inl w))
  | 58 => .inl (0, 3, .inl r)
  | 62 => .inl (0, 4, .inl r)
  | 63 => .inl (0, 4, .inl r)
  | 64 => .inl (0, 12, .inl r)
  | 65 => .inl (0, 12, .inl r)
  | 66 => .inl (0, 8, .inl r)
  | 67 => .inl (0, 8, .inl r)
  | 68 => .inl (0, 8, .inl r)
  | 73 => .inl (0, 8, .inl r)
  | 74 => .inl (0, 64, .inl r)
  | 75 => .inl (0, 64, .inl r)
  | 76 => .inl (0, 64, .inl r)
  | 77 => .inl (0, 24, .inl r)
  | 78 => .inl (0, 24, .inl r)
  | 79 => .inl (0, 8, .inl r)
  | 80 => .inl (0, 8, .inl r)
  | 81 => .inl (1, 8, .inr (.inl w))
  | _ => .inl (0, 0, .inl r)
abbrev xFm : Type := Nat → Nat → Nat → Nat → Int32
abbrev xWm : Type := Nat → Nat → Nat → Nat → Int64
abbrev xAd : Type := Nat → Nat → Nat → Nat
/-- which cells the class's state has; which the reference's -/
def xV (k i j : Nat) : Prop := (k < 7 ∧ i = 0 ∧ j = 0) ∨ (7 ≤ k ∧ k < 13 ∧ i < 2 ∧ j = 0) ∨ (13 ≤ k ∧ k < 17 ∧ i < 2 ∧ j < 8) ∨ (17 ≤ k ∧ k < 23 ∧ i < 9 ∧ j = 0)
def yV (k i j : Nat) : Prop := 30 ≤ k ∧ k < 82 ∧ i = 0 ∧ j = 0
def xR (V : Nat → Nat → Nat → Prop) (ad : xAd) (h0 : mH) (F : xFm) (W : xWm) (pm : Nat → Nat) (h : mH) : Prop :=
  (∀ k i j, V k i j → h (ad k i j) = some (xC ad pm (F k i j) (W k i j) k i j)) ∧ (∀ k i j k' i' j', V k i j → V k' i' j' → ad k i j = ad k' i' j' → k = k' ∧ i = i' ∧ j = j') ∧ ∀ a, (∀ k i j, V k i j → a ≠ ad k i j) → h a = h0 a
section
variable {V : Nat → Nat → Nat → Prop} {ad : xAd} {h0 : mH} {F : xFm} {W : xWm} {pm : Nat → Nat} {h : mH} {k i j : Nat}
theorem xR.row (hR : xR V ad h0 F W pm h) (hv : V k i j) (g : Nat → Int32) (w : Nat → Int64) {e : mC} (he : xC ad pm g w k i j = e) : xR V ad h0 (fr F k i j g) (fr W k i j w) pm (mset h (ad k i j) e) := by
  subst he
  refine ⟨fun k' i' j' hv' => ?_, hR.2.1, fun a ha => ?_⟩
  · by_cases e : k' = k ∧ i' = i ∧ j' = j
    · obtain ⟨rfl, rfl, rfl⟩ := e
      rw [mset_s, fr_s, fr_s]
    · rw [mset_n (fun z => e (hR.2.1 _ _ _ _ _ _ hv' hv z)), fr_n e, fr_n e]
      exact hR.1 k' i' j' hv'
  · rw [mset_n (ha k i j hv)]
    exact hR.2.2 a ha
theorem xR.rowF (hR : xR V ad h0 F W pm h) (hv : V k i j) (g : Nat → Int32) {e : mC} (he : xC ad pm g (W k i j) k i j = e) : xR V ad h0 (fr F k i j g) W pm (mset h (ad k i j) e) := by
  have := hR.row hv g (W k i j) he
  rwa [fr_self] at this
theorem xR.rowW (hR : xR V ad h0 F W pm h) (hv : V k i j) (w : Nat → Int64) {e : mC} (he : xC ad pm (F k i j) w k i j = e) : xR V ad h0 F (fr W k i j w) pm (mset h (ad k i j) e) := by
  have := hR.row hv (F k i j) w he
  rwa [fr_self] at this
theorem xF_int {r : Nat → Int32} {w : Nat → Int64} {n : Nat} (hn : xI k n = true) : xF ad pm r w k i j n = .int (r n) := by
  unfold xF
  rw [hn]
theorem xF_upd {r : Nat → Int32} {w : Nat → Int64} {n : Nat} {x : Int32} (hn : xI k n = true) : va_up (xF ad pm r w k i j) n (.int x) = xF ad pm (upd r n x) w k i j := by
  funext m
  by_cases e : m = n
  · subst e
    rw [xF_int hn]
    simp [va_up, upd]
  · unfold xF
    simp [va_up, upd, e]
end
section
variable {K : mK} {μ : mM} {cells slots pc : Nat} {L : List (Option Value)} {S : List Value} {h : mH} {V : Nat → Nat → Nat → Prop} {ad : xAd} {h0 : mH} {F : xFm} {W : xWm} {pm : Nat → Nat} {k i j : Nat}
theorem xJ_geti {idx ci n N : Nat} (hR : xR V ad h0 F W pm h) (hK : mCx K μ) (hd : decode μ.2.1 pc = .ok (.getfield idx, 3)) (hl : mFL μ.1.cls idx ci n) (hv : V k i j) (hc : ∀ g w, xC ad pm g w k i j = .inr (ci, (List.range N).map (xF ad pm g w k i j))) (hn : n < N) (hi : xI k n = true) (kk : mJ K cells slots (pc + 3) L (.int (F k i j n) :: S) h) : mJ K cells slots pc L (.ref (ad k i j) :: S) h :=
  mJ_get (.int (F k i j n)) hK hd hl ((hR.1 k i j hv).trans (congrArg some (hc _ _))) hn (xF_int hi) kk
theorem xJ_getr {idx ci n N a : Nat} (hR : xR V ad h0 F W pm h) (hK : mCx K μ) (hd : decode μ.2.1 pc = .ok (.getfield idx, 3)) (hl : mFL μ.1.cls idx ci n) (hv : V k i j) (hc : ∀ g w, xC ad pm g w k i j = .inr (ci, (List.range N).map (xF ad pm g w k i j))) (hn : n < N) (ha : ∀ g w, xF ad pm g w k i j n = .ref a) (kk : mJ K cells slots (pc + 3) L (.ref a :: S) h) : mJ K cells slots pc L (.ref (ad k i j) :: S) h :=
  mJ_get (.ref a) hK hd hl ((hR.1 k i j hv).trans (congrArg some (hc _ _))) hn (ha _ _) kk
theorem xJ_getl {idx ci n N : Nat} (hR : xR V ad h0 F W pm h) (hK : mCx K μ) (hd : decode μ.2.1 pc = .ok (.getfield idx, 3)) (hl : mFL μ.1.cls idx ci n) (hv : V k i j) (hc : ∀ g w, xC ad pm g w k i j = .inr (ci, (List.range N).map (xF ad pm g w k i j))) (hn : n < N) (ha : ∀ g w, xF ad pm g w k i j n = .long (w 0)) (kk : mJ K cells slots (pc + 3) L (.long (W k i j 0) :: S) h) : mJ K cells slots pc L (.ref (ad k i j) :: S) h :=
  mJ_get (.long (W k i j 0)) hK hd hl ((hR.1 k i j hv).trans (congrArg some (hc _ _))) hn (ha _ _) kk
theorem xJ_puti {idx ci n N : Nat} {x : Int32} {ty : FieldType} (hR : xR V ad h0 F W pm h) (hK : mCx K μ) (hd : decode μ.2.1 pc = .ok (.putfield idx, 3)) (hl : mFL μ.1.cls idx ci n) (hf : mFS ci n ty) (hnr : narrow ty (.int x) = .int x) (hfit : fits ty (.int x) = true) (hv : V k i j) (hc : ∀ g w, xC ad pm g w k i j = .inr (ci, (List.range N).map (xF ad pm g w k i j))) (hn : n < N) (hi : xI k n = true) (kk : ∀ h', xR V ad h0 (fr F k i j (upd (F k i j) n x)) W pm h' → mJ K cells slots (pc + 3) L S h') : mJ K cells slots pc L (.int x :: .ref (ad k i j) :: S) h :=
  mJ_put hK hd hl hf hnr hfit ((hR.1 k i j hv).trans (congrArg some (hc _ _))) hn (kk _ (hR.rowF hv (upd (F k i j) n x) (by rw [hc, xF_upd hi])))
theorem xJ_putl {idx ci n N : Nat} {x : Int64} (hR : xR V ad h0 F W pm h) (hK : mCx K μ) (hd : decode μ.2.1 pc = .ok (.putfield idx, 3)) (hl : mFL μ.1.cls idx ci n) (hf : mFS ci n .long) (hv : V k i j) (hc : ∀ g w, xC ad pm g w k i j = .inr (ci, (List.range N).map (xF ad pm g w k i j))) (hn : n < N) (ha : ∀ g w, va_up (xF ad pm g w k i j) n (.long x) = xF ad pm g (vp_updL w 0 x) k i j) (kk : ∀ h', xR V ad h0 F (fr W k i j (vp_updL (W k i j) 0 x)) pm h' → mJ K cells slots (pc + 3) L S h') : mJ K cells slots pc L (.long x :: .ref (ad k i j) :: S) h :=
  mJ_put hK hd hl hf rfl rfl ((hR.1 k i j hv).trans (congrArg some (hc _ _))) hn (kk _ (hR.rowW hv (vp_updL (W k i j) 0 x) (by rw [hc, ha])))
theorem xJ_iald {n : Nat} {x : Int32} (m : Nat) (hR : xR V ad h0 F W pm h) (hK : mCx K μ) (hd : decode μ.2.1 pc = .ok (.iaload, 1)) (hv : V k i j) (hc : ∀ g w, xC ad pm g w k i j = .inl (0, n, .inl g)) (hx : x = nI m) (hm : m < n) (hn : n < 2 ^ 31) (kk : mJ K cells slots (pc + 1) L (.int (F k i j m) :: S) h) : mJ K cells slots pc L (.int x :: .ref (ad k i j) :: S) h :=
  mJ_ialdN m hK hd ((hR.1 k i j hv).trans (congrArg some (hc _ _))) hx hm hn kk
theorem xJ_zald {n : Nat} {x : Int32} (m : Nat) (hR : xR V ad h0 F W pm h) (hK : mCx K μ) (hd : decode μ.2.1 pc = .ok (.baload, 1)) (hv : V k i j) (hc : ∀ g w, xC ad pm g w k i j = .inl (2, n, .inl g)) (hx : x = nI m) (hm : m < n) (hn : n < 2 ^ 31) (kk : mJ K cells slots (pc + 1) L (.int (F k i j m) :: S) h) : mJ K cells slots pc L (.int x :: .ref (ad k i j) :: S) h :=
  mJ_zaldN m hK hd ((hR.1 k i j hv).trans (congrArg some (hc _ _))) hx hm hn kk
theorem xJ_lald {n : Nat} {x : Int32} (m : Nat) (hR : xR V ad h0 F W pm h) (hK : mCx K μ) (hd : decode μ.2.1 pc = .ok (.laload, 1)) (hv : V k i j) (hc : ∀ g w, xC ad pm g w k i j = .inl (1, n, .inr (.inl w))) (hx : x = nI m) (hm : m < n) (hn : n < 2 ^ 31) (kk : mJ K cells slots (pc + 1) L (.long (W k i j m) :: S) h) : mJ K cells slots pc L (.int x :: .ref (ad k i j) :: S) h :=
  mJ_laldN m hK hd ((hR.1 k i j hv).trans (congrArg some (hc _ _))) hx hm hn kk
theorem xJ_iast {n : Nat} {x y : Int32} (m : Nat) (hR : xR V ad h0 F W pm h) (hK : mCx K μ) (hd : decode μ.2.1 pc = .ok (.iastore, 1)) (hv : V k i j) (hc : ∀ g w, xC ad pm g w k i j = .inl (0, n, .inl g)) (hx : x = nI m) (hm : m < n) (hn : n < 2 ^ 31) (kk : ∀ h', xR V ad h0 (fr F k i j (upd (F k i j) m y)) W pm h' → mJ K cells slots (pc + 1) L S h') : mJ K cells slots pc L (.int y :: .int x :: .ref (ad k i j) :: S) h :=
  mJ_iastN m hK hd ((hR.1 k i j hv).trans (congrArg some (hc _ _))) hx hm hn (kk _ (hR.rowF hv (upd (F k i j) m y) (hc _ _)))
theorem xJ_zast {n : Nat} {x y : Int32} (m : Nat) (hR : xR V ad h0 F W pm h) (hK : mCx K μ) (hd : decode μ.2.1 pc = .ok (.bastore, 1)) (hv : V k i j) (hc : ∀ g w, xC ad pm g w k i j = .inl (2, n, .inl g)) (hy : vp_nar .boolean y = y) (hx : x = nI m) (hm : m < n) (hn : n < 2 ^ 31) (kk : ∀ h', xR V ad h0 (fr F k i j (upd (F k i j) m y)) W pm h' → mJ K cells slots (pc + 1) L S h') : mJ K cells slots pc L (.int y :: .int x :: .ref (ad k i j) :: S) h :=
  mJ_zastN m hK hd ((hR.1 k i j hv).trans (congrArg some (hc _ _))) hy hx hm hn (kk _ (hR.rowF hv (upd (F k i j) m y) (hc _ _)))
theorem xJ_last {n : Nat} {x : Int32} {y : Int64} (m : Nat) (hR : xR V ad h0 F W pm h) (hK : mCx K μ) (hd : decode μ.2.1 pc = .ok (.lastore, 1)) (hv : V k i j) (hc : ∀ g w, xC ad pm g w k i j = .inl (1, n, .inr (.inl w))) (hx : x = nI m) (hm : m < n) (hn : n < 2 ^ 31) (kk : ∀ h', xR V ad h0 F (fr W k i j (vp_updL (W k i j) m y)) pm h' → mJ K cells slots (pc + 1) L S h') : mJ K cells slots pc L (.long y :: .int x :: .ref (ad k i j) :: S) h :=
  mJ_lastN m hK hd ((hR.1 k i j hv).trans (congrArg some (hc _ _))) hx hm hn (kk _ (hR.rowW hv (vp_updL (W k i j) m y) (hc _ _)))
theorem xJ_aldC {x : Int32} (m : Nat) (hR : xR V ad h0 F W pm h) (hK : mCx K μ) (hd : decode μ.2.1 pc = .ok (.aaload, 1)) (hv : V 8 i j) (hx : x = nI m) (hm : m < 8) (kk : mJ K cells slots (pc + 1) L (.ref (ad 13 i m) :: S) h) : mJ K cells slots pc L (.int x :: .ref (ad 8 i j) :: S) h :=
  mJ_aaldCN m hK hd ((hR.1 8 i j hv).trans rfl) hx hm (by decide) rfl kk
theorem xJ_aldR {x : Int32} (m : Nat) (hR : xR V ad h0 F W pm h) (hK : mCx K μ) (hd : decode μ.2.1 pc = .ok (.aaload, 1)) (hv : V 3 i j) (hx : x = nI m) (hm : m < 8) (kk : mJ K cells slots (pc + 1) L (.ref (ad 17 (pm m) 0) :: S) h) : mJ K cells slots pc L (.int x :: .ref (ad 3 i j) :: S) h :=
  mJ_aaldRN m hK hd ((hR.1 3 i j hv).trans rfl) hx hm (by decide) rfl kk
theorem xJ_copy {idx k' i' j' n0 n1 N : Nat} {x : Int32} (hR : xR V ad h0 F W pm h) (hK : mCx K μ) (hd : decode μ.2.1 pc = .ok (.invokestatic idx, 3)) (hl : Cond.methodLink μ.1.cls idx arraycopyName ∈ mTB) (hv : V k i j) (hv' : V k' i' j') (hc : ∀ g w, xC ad pm g w k i j = .inl (0, n0, .inl g)) (hc' : ∀ g w, xC ad pm g w k' i' j' = .inl (0, n1, .inl g)) (hx : x = nI N) (hN : N < 2 ^ 31) (h4 : N ≤ n0) (h5 : N ≤ n1) (hfr : 1 ≤ (mRm μ).frames) (hlo : (S.map fun v => v.category).sum + 18 ≤ (mRm μ).locals)
    (kk : ∀ h', xR V ad h0 (fr F k' i' j' (va_cpy (F k i j) (F k' i' j') 0 0 N)) W pm h' → mJ K cells slots (pc + 3) L S h') : mJ K cells slots pc L (.int x :: .int 0 :: .ref (ad k' i' j') :: .int 0 :: .ref (ad k i j) :: S) h := by
  subst hx
  exact mJ_copy hK hd hl lcp_1 lcp_2 lcp_3 ((hR.1 k i j hv).trans (congrArg some (hc _ _))) ((hR.1 k' i' j' hv').trans (congrArg some (hc' _ _))) (nI_clamp hN) (nI_pos hN) h4 h5 hfr hlo (kk _ (hR.rowF hv' _ (hc' _ _)))
end
end
section
def mRi (x : Int32) (P : mH → Prop) : Option Value → mH → Prop := fun r h' => r = some (.int x) ∧ P h'
def mRl (x : Int64) (P : mH → Prop) : Option Value → mH → Prop := fun r h' => r = some (.long x) ∧ P h'
def mRa (x : Nat) (P : mH → Prop) : Option Value → mH → Prop := fun r h' => r = some (.ref x) ∧ P h'
def mRv (P : mH → Prop) : Option Value → mH → Prop := fun r h' => r = none ∧ P h'
theorem mJ_cVi {K : mK} {μ ν : mM} {cells slots pc : Nat} {L : List (Option Value)} {S st : List Value} {h : mH} {idx n b ci : Nat} {fs As : List Value} {P : mH → Prop} {x : Int32} (hK : mCx K μ) (hd : decode μ.2.1 pc = .ok (.invokevirtual idx, 3)) (hl : mLV μ.1.cls idx ν n) (hR : mFit μ ν) (hf : cells + (mRm ν).cells ≤ (mRm μ).cells ∧ slots + (mRm ν).slots ≤ (mRm μ).slots) (hM : mCon (kl K) (kD K) (kC K) ν (.ref b :: As) h (mRi x P)) (hn : As.length = n) (hst : st = As.reverse ++ .ref b :: S) (h8 : (S.map fun v => v.category).sum ≤ 8) (hb : h b = some (.inr (ci, fs))) (hci : ∃ (T : u_T) (N : Nat), vwCl[ci]? = some (ν.1.cls, T, N)) (kk : ∀ h', P h' → mJ K (cells + (mRm ν).cells) (slots + (mRm ν).slots) (pc + 3) L (.int x :: S) h') : mJ K cells slots pc L st h :=
  mJ_callV hK hd hl hR hf hn hst h8 hb hci hM (fun r h' hq => by
    obtain ⟨rfl, hp⟩ := hq
    exact kk h' hp)
theorem mJ_cVXi {K : mK} {μ ν : mM} {cells slots pc : Nat} {L : List (Option Value)} {S st : List Value} {h : mH} {idx n b ci : Nat} {fs As : List Value} {P : mH → Prop} {QX QX' : String → mH → Prop} {x : Int32} (hK : mCx K μ) (hX : mRx K μ QX) (hd : decode μ.2.1 pc = .ok (.invokevirtual idx, 3)) (hl : mLV μ.1.cls idx ν n) (hR : mFit μ ν) (hf : cells + (mRm ν).cells ≤ (mRm μ).cells ∧ slots + (mRm ν).slots ≤ (mRm μ).slots) (hM : mXon (kl K) (kD K) (kC K) ν (.ref b :: As) h (mRi x P) QX') (hXX : ∀ E h', QX' E h' → QX E h') (hn : As.length = n) (hst : st = As.reverse ++ .ref b :: S) (h8 : (S.map fun v => v.category).sum ≤ 8) (hb : h b = some (.inr (ci, fs))) (hci : ∃ (T : u_T) (N : Nat), vwCl[ci]? = some (ν.1.cls, T, N)) (kk : ∀ h', P h' → mJ K (cells + (mRm ν).cells) (slots + (mRm ν).slots) (pc + 3) L (.int x :: S) h') : mJ K cells slots pc L st h :=
  mJ_callVX hK hX hd hl hR hf hn hst h8 hb hci hM hXX (fun r h' hq => by
    obtain ⟨rfl, hp⟩ := hq
    exact kk h' hp)
theorem mJ_cSi {K : mK} {μ ν : mM} {cells slots pc : Nat} {L : List (Option Value)} {S st : List Value} {h : mH} {idx n : Nat} {As : List Value} {P : mH → Prop} {x : Int32} (hK : mCx K μ) (hd : decode μ.2.1 pc = .ok (.invokestatic idx, 3)) (hl : mLS μ.1.cls idx ν n) (hR : mFit μ ν) (hf : cells + (mRm ν).cells ≤ (mRm μ).cells ∧ slots + (mRm ν).slots ≤ (mRm μ).slots) (hM : mCon (kl K) (kD K) (kC K) ν As h (mRi x P)) (hn : As.length = n) (hst : st = As.reverse ++ S) (h8 : (S.map fun v => v.category).sum ≤ 8)  (kk : ∀ h', P h' → mJ K (cells + (mRm ν).cells) (slots + (mRm ν).slots) (pc + 3) L (.int x :: S) h') : mJ K cells slots pc L st h :=
  mJ_callS hK hd hl hR hf hn hst h8 hM (fun r h' hq => by
    obtain ⟨rfl, hp⟩ := hq
    exact kk h' hp)
theorem mJ_cSXi {K : mK} {μ ν : mM} {cells slots pc : Nat} {L : List (Option Value)} {S st : List Value} {h : mH} {idx n : Nat} {As : List Value} {P : mH → Prop} {QX QX' : String → mH → Prop} {x : Int32} (hK : mCx K μ) (hX : mRx K μ QX) (hd : decode μ.2.1 pc = .ok (.invokestatic idx, 3)) (hl : mLS μ.1.cls idx ν n) (hR : mFit μ ν) (hf : cells + (mRm ν).cells ≤ (mRm μ).cells ∧ slots + (mRm ν).slots ≤ (mRm μ).slots) (hM : mXon (kl K) (kD K) (kC K) ν As h (mRi x P) QX') (hXX : ∀ E h', QX' E h' → QX E h') (hn : As.length = n) (hst : st = As.reverse ++ S) (h8 : (S.map fun v => v.category).sum ≤ 8)  (kk : ∀ h', P h' → mJ K (cells + (mRm ν).cells) (slots + (mRm ν).slots) (pc + 3) L (.int x :: S) h') : mJ K cells slots pc L st h :=
  mJ_callSX hK hX hd hl hR hf hn hst h8 hM hXX (fun r h' hq => by
    obtain ⟨rfl, hp⟩ := hq
    exact kk h' hp)
theorem mJ_cNi {K : mK} {μ ν : mM} {cells slots pc : Nat} {L : List (Option Value)} {S st : List Value} {h : mH} {idx n : Nat} {As : List Value} {P : mH → Prop} {x : Int32} (hK : mCx K μ) (hd : decode μ.2.1 pc = .ok (.invokestatic idx, 3)) (hl : mLN μ.1.cls idx ν n) (hR : mFit μ ν) (hf : cells + (mRm ν).cells ≤ (mRm μ).cells ∧ slots + (mRm ν).slots ≤ (mRm μ).slots) (hM : mCon (kl K) (kD K) (kC K) ν As h (mRi x P)) (hn : As.length = n) (hst : st = As.reverse ++ S) (h8 : (S.map fun v => v.category).sum ≤ 8)  (kk : ∀ h', P h' → mJ K (cells + (mRm ν).cells) (slots + (mRm ν).slots) (pc + 3) L (.int x :: S) h') : mJ K cells slots pc L st h :=
  mJ_callN hK hd hl hR hf hn hst h8 hM (fun r h' hq => by
    obtain ⟨rfl, hp⟩ := hq
    exact kk h' hp)
theorem mJ_cVl {K : mK} {μ ν : mM} {cells slots pc : Nat} {L : List (Option Value)} {S st : List Value} {h : mH} {idx n b ci : Nat} {fs As : List Value} {P : mH → Prop} {x : Int64} (hK : mCx K μ) (hd : decode μ.2.1 pc = .ok (.invokevirtual idx, 3)) (hl : mLV μ.1.cls idx ν n) (hR : mFit μ ν) (hf : cells + (mRm ν).cells ≤ (mRm μ).cells ∧ slots + (mRm ν).slots ≤ (mRm μ).slots) (hM : mCon (kl K) (kD K) (kC K) ν (.ref b :: As) h (mRl x P)) (hn : As.length = n) (hst : st = As.reverse ++ .ref b :: S) (h8 : (S.map fun v => v.category).sum ≤ 8) (hb : h b = some (.inr (ci, fs))) (hci : ∃ (T : u_T) (N : Nat), vwCl[ci]? = some (ν.1.cls, T, N)) (kk : ∀ h', P h' → mJ K (cells + (mRm ν).cells) (slots + (mRm ν).slots) (pc + 3) L (.long x :: S) h') : mJ K cells slots pc L st h :=
  mJ_callV hK hd hl hR hf hn hst h8 hb hci hM (fun r h' hq => by
    obtain ⟨rfl, hp⟩ := hq
    exact kk h' hp)
theorem mJ_cVXl {K : mK} {μ ν : mM} {cells slots pc : Nat} {L : List (Option Value)} {S st : List Value} {h : mH} {idx n b ci : Nat} {fs As : List Value} {P : mH → Prop} {QX QX' : String → mH → Prop} {x : Int64} (hK : mCx K μ) (hX : mRx K μ QX) (hd : decode μ.2.1 pc = .ok (.invokevirtual idx, 3)) (hl : mLV μ.1.cls idx ν n) (hR : mFit μ ν) (hf : cells + (mRm ν).cells ≤ (mRm μ).cells ∧ slots + (mRm ν).slots ≤ (mRm μ).slots) (hM : mXon (kl K) (kD K) (kC K) ν (.ref b :: As) h (mRl x P) QX') (hXX : ∀ E h', QX' E h' → QX E h') (hn : As.length = n) (hst : st = As.reverse ++ .ref b :: S) (h8 : (S.map fun v => v.category).sum ≤ 8) (hb : h b = some (.inr (ci, fs))) (hci : ∃ (T : u_T) (N : Nat), vwCl[ci]? = some (ν.1.cls, T, N)) (kk : ∀ h', P h' → mJ K (cells + (mRm ν).cells) (slots + (mRm ν).slots) (pc + 3) L (.long x :: S) h') : mJ K cells slots pc L st h :=
  mJ_callVX hK hX hd hl hR hf hn hst h8 hb hci hM hXX (fun r h' hq => by
    obtain ⟨rfl, hp⟩ := hq
    exact kk h' hp)
theorem mJ_cSl {K : mK} {μ ν : mM} {cells slots pc : Nat} {L : List (Option Value)} {S st : List Value} {h : mH} {idx n : Nat} {As : List Value} {P : mH → Prop} {x : Int64} (hK : mCx K μ) (hd : decode μ.2.1 pc = .ok (.invokestatic idx, 3)) (hl : mLS μ.1.cls idx ν n) (hR : mFit μ ν) (hf : cells + (mRm ν).cells ≤ (mRm μ).cells ∧ slots + (mRm ν).slots ≤ (mRm μ).slots) (hM : mCon (kl K) (kD K) (kC K) ν As h (mRl x P)) (hn : As.length = n) (hst : st = As.reverse ++ S) (h8 : (S.map fun v => v.category).sum ≤ 8)  (kk : ∀ h', P h' → mJ K (cells + (mRm ν).cells) (slots + (mRm ν).slots) (pc + 3) L (.long x :: S) h') : mJ K cells slots pc L st h :=
  mJ_callS hK hd hl hR hf hn hst h8 hM (fun r h' hq => by
    obtain ⟨rfl, hp⟩ := hq
    exact kk h' hp)
theorem mJ_cSXl {K : mK} {μ ν : mM} {cells slots pc : Nat} {L : List (Option Value)} {S st : List Value} {h : mH} {idx n : Nat} {As : List Value} {P : mH → Prop} {QX QX' : String → mH → Prop} {x : Int64} (hK : mCx K μ) (hX : mRx K μ QX) (hd : decode μ.2.1 pc = .ok (.invokestatic idx, 3)) (hl : mLS μ.1.cls idx ν n) (hR : mFit μ ν) (hf : cells + (mRm ν).cells ≤ (mRm μ).cells ∧ slots + (mRm ν).slots ≤ (mRm μ).slots) (hM : mXon (kl K) (kD K) (kC K) ν As h (mRl x P) QX') (hXX : ∀ E h', QX' E h' → QX E h') (hn : As.length = n) (hst : st = As.reverse ++ S) (h8 : (S.map fun v => v.category).sum ≤ 8)  (kk : ∀ h', P h' → mJ K (cells + (mRm ν).cells) (slots + (mRm ν).slots) (pc + 3) L (.long x :: S) h') : mJ K cells slots pc L st h :=
  mJ_callSX hK hX hd hl hR hf hn hst h8 hM hXX (fun r h' hq => by
    obtain ⟨rfl, hp⟩ := hq
    exact kk h' hp)
theorem mJ_cNl {K : mK} {μ ν : mM} {cells slots pc : Nat} {L : List (Option Value)} {S st : List Value} {h : mH} {idx n : Nat} {As : List Value} {P : mH → Prop} {x : Int64} (hK : mCx K μ) (hd : decode μ.2.1 pc = .ok (.invokestatic idx, 3)) (hl : mLN μ.1.cls idx ν n) (hR : mFit μ ν) (hf : cells + (mRm ν).cells ≤ (mRm μ).cells ∧ slots + (mRm ν).slots ≤ (mRm μ).slots) (hM : mCon (kl K) (kD K) (kC K) ν As h (mRl x P)) (hn : As.length = n) (hst : st = As.reverse ++ S) (h8 : (S.map fun v => v.category).sum ≤ 8)  (kk : ∀ h', P h' → mJ K (cells + (mRm ν).cells) (slots + (mRm ν).slots) (pc + 3) L (.long x :: S) h') : mJ K cells slots pc L st h :=
  mJ_callN hK hd hl hR hf hn hst h8 hM (fun r h' hq => by
    obtain ⟨rfl, hp⟩ := hq
    exact kk h' hp)
theorem mJ_cVa {K : mK} {μ ν : mM} {cells slots pc : Nat} {L : List (Option Value)} {S st : List Value} {h : mH} {idx n b ci : Nat} {fs As : List Value} {P : mH → Prop} {x : Nat} (hK : mCx K μ) (hd : decode μ.2.1 pc = .ok (.invokevirtual idx, 3)) (hl : mLV μ.1.cls idx ν n) (hR : mFit μ ν) (hf : cells + (mRm ν).cells ≤ (mRm μ).cells ∧ slots + (mRm ν).slots ≤ (mRm μ).slots) (hM : mCon (kl K) (kD K) (kC K) ν (.ref b :: As) h (mRa x P)) (hn : As.length = n) (hst : st = As.reverse ++ .ref b :: S) (h8 : (S.map fun v => v.category).sum ≤ 8) (hb : h b = some (.inr (ci, fs))) (hci : ∃ (T : u_T) (N : Nat), vwCl[ci]? = some (ν.1.cls, T, N)) (kk : ∀ h', P h' → mJ K (cells + (mRm ν).cells) (slots + (mRm ν).slots) (pc + 3) L (.ref x :: S) h') : mJ K cells slots pc L st h :=
  mJ_callV hK hd hl hR hf hn hst h8 hb hci hM (fun r h' hq => by
    obtain ⟨rfl, hp⟩ := hq
    exact kk h' hp)
theorem mJ_cVXa {K : mK} {μ ν : mM} {cells slots pc : Nat} {L : List (Option Value)} {S st : List Value} {h : mH} {idx n b ci : Nat} {fs As : List Value} {P : mH → Prop} {QX QX' : String → mH → Prop} {x : Nat} (hK : mCx K μ) (hX : mRx K μ QX) (hd : decode μ.2.1 pc = .ok (.invokevirtual idx, 3)) (hl : mLV μ.1.cls idx ν n) (hR : mFit μ ν) (hf : cells + (mRm ν).cells ≤ (mRm μ).cells ∧ slots + (mRm ν).slots ≤ (mRm μ).slots) (hM : mXon (kl K) (kD K) (kC K) ν (.ref b :: As) h (mRa x P) QX') (hXX : ∀ E h', QX' E h' → QX E h') (hn : As.length = n) (hst : st = As.reverse ++ .ref b :: S) (h8 : (S.map fun v => v.category).sum ≤ 8) (hb : h b = some (.inr (ci, fs))) (hci : ∃ (T : u_T) (N : Nat), vwCl[ci]? = some (ν.1.cls, T, N)) (kk : ∀ h', P h' → mJ K (cells + (mRm ν).cells) (slots + (mRm ν).slots) (pc + 3) L (.ref x :: S) h') : mJ K cells slots pc L st h :=
  mJ_callVX hK hX hd hl hR hf hn hst h8 hb hci hM hXX (fun r h' hq => by
    obtain ⟨rfl, hp⟩ := hq
    exact kk h' hp)
theorem mJ_cSa {K : mK} {μ ν : mM} {cells slots pc : Nat} {L : List (Option Value)} {S st : List Value} {h : mH} {idx n : Nat} {As : List Value} {P : mH → Prop} {x : Nat} (hK : mCx K μ) (hd : decode μ.2.1 pc = .ok (.invokestatic idx, 3)) (hl : mLS μ.1.cls idx ν n) (hR : mFit μ ν) (hf : cells + (mRm ν).cells ≤ (mRm μ).cells ∧ slots + (mRm ν).slots ≤ (mRm μ).slots) (hM : mCon (kl K) (kD K) (kC K) ν As h (mRa x P)) (hn : As.length = n) (hst : st = As.reverse ++ S) (h8 : (S.map fun v => v.category).sum ≤ 8)  (kk : ∀ h', P h' → mJ K (cells + (mRm ν).cells) (slots + (mRm ν).slots) (pc + 3) L (.ref x :: S) h') : mJ K cells slots pc L st h :=
  mJ_callS hK hd hl hR hf hn hst h8 hM (fun r h' hq => by
    obtain ⟨rfl, hp⟩ := hq
    exact kk h' hp)
theorem mJ_cSXa {K : mK} {μ ν : mM} {cells slots pc : Nat} {L : List (Option Value)} {S st : List Value} {h : mH} {idx n : Nat} {As : List Value} {P : mH → Prop} {QX QX' : String → mH → Prop} {x : Nat} (hK : mCx K μ) (hX : mRx K μ QX) (hd : decode μ.2.1 pc = .ok (.invokestatic idx, 3)) (hl : mLS μ.1.cls idx ν n) (hR : mFit μ ν) (hf : cells + (mRm ν).cells ≤ (mRm μ).cells ∧ slots + (mRm ν).slots ≤ (mRm μ).slots) (hM : mXon (kl K) (kD K) (kC K) ν As h (mRa x P) QX') (hXX : ∀ E h', QX' E h' → QX E h') (hn : As.length = n) (hst : st = As.reverse ++ S) (h8 : (S.map fun v => v.category).sum ≤ 8)  (kk : ∀ h', P h' → mJ K (cells + (mRm ν).cells) (slots + (mRm ν).slots) (pc + 3) L (.ref x :: S) h') : mJ K cells slots pc L st h :=
  mJ_callSX hK hX hd hl hR hf hn hst h8 hM hXX (fun r h' hq => by
    obtain ⟨rfl, hp⟩ := hq
    exact kk h' hp)
theorem mJ_cNa {K : mK} {μ ν : mM} {cells slots pc : Nat} {L : List (Option Value)} {S st : List Value} {h : mH} {idx n : Nat} {As : List Value} {P : mH → Prop} {x : Nat} (hK : mCx K μ) (hd : decode μ.2.1 pc = .ok (.invokestatic idx, 3)) (hl : mLN μ.1.cls idx ν n) (hR : mFit μ ν) (hf : cells + (mRm ν).cells ≤ (mRm μ).cells ∧ slots + (mRm ν).slots ≤ (mRm μ).slots) (hM : mCon (kl K) (kD K) (kC K) ν As h (mRa x P)) (hn : As.length = n) (hst : st = As.reverse ++ S) (h8 : (S.map fun v => v.category).sum ≤ 8)  (kk : ∀ h', P h' → mJ K (cells + (mRm ν).cells) (slots + (mRm ν).slots) (pc + 3) L (.ref x :: S) h') : mJ K cells slots pc L st h :=
  mJ_callN hK hd hl hR hf hn hst h8 hM (fun r h' hq => by
    obtain ⟨rfl, hp⟩ := hq
    exact kk h' hp)
theorem mJ_cVv {K : mK} {μ ν : mM} {cells slots pc : Nat} {L : List (Option Value)} {S st : List Value} {h : mH} {idx n b ci : Nat} {fs As : List Value} {P : mH → Prop}  (hK : mCx K μ) (hd : decode μ.2.1 pc = .ok (.invokevirtual idx, 3)) (hl : mLV μ.1.cls idx ν n) (hR : mFit μ ν) (hf : cells + (mRm ν).cells ≤ (mRm μ).cells ∧ slots + (mRm ν).slots ≤ (mRm μ).slots) (hM : mCon (kl K) (kD K) (kC K) ν (.ref b :: As) h (mRv P)) (hn : As.length = n) (hst : st = As.reverse ++ .ref b :: S) (h8 : (S.map fun v => v.category).sum ≤ 8) (hb : h b = some (.inr (ci, fs))) (hci : ∃ (T : u_T) (N : Nat), vwCl[ci]? = some (ν.1.cls, T, N)) (kk : ∀ h', P h' → mJ K (cells + (mRm ν).cells) (slots + (mRm ν).slots) (pc + 3) L (S) h') : mJ K cells slots pc L st h :=
  mJ_callV hK hd hl hR hf hn hst h8 hb hci hM (fun r h' hq => by
    obtain ⟨rfl, hp⟩ := hq
    exact kk h' hp)
theorem mJ_cVXv {K : mK} {μ ν : mM} {cells slots pc : Nat} {L : List (Option Value)} {S st : List Value} {h : mH} {idx n b ci : Nat} {fs As : List Value} {P : mH → Prop} {QX QX' : String → mH → Prop}  (hK : mCx K μ) (hX : mRx K μ QX) (hd : decode μ.2.1 pc = .ok (.invokevirtual idx, 3)) (hl : mLV μ.1.cls idx ν n) (hR : mFit μ ν) (hf : cells + (mRm ν).cells ≤ (mRm μ).cells ∧ slots + (mRm ν).slots ≤ (mRm μ).slots) (hM : mXon (kl K) (kD K) (kC K) ν (.ref b :: As) h (mRv P) QX') (hXX : ∀ E h', QX' E h' → QX E h') (hn : As.length = n) (hst : st = As.reverse ++ .ref b :: S) (h8 : (S.map fun v => v.category).sum ≤ 8) (hb : h b = some (.inr (ci, fs))) (hci : ∃ (T : u_T) (N : Nat), vwCl[ci]? = some (ν.1.cls, T, N)) (kk : ∀ h', P h' → mJ K (cells + (mRm ν).cells) (slots + (mRm ν).slots) (pc + 3) L (S) h') : mJ K cells slots pc L st h :=
  mJ_callVX hK hX hd hl hR hf hn hst h8 hb hci hM hXX (fun r h' hq => by
    obtain ⟨rfl, hp⟩ := hq
    exact kk h' hp)
theorem mJ_cSv {K : mK} {μ ν : mM} {cells slots pc : Nat} {L : List (Option Value)} {S st : List Value} {h : mH} {idx n : Nat} {As : List Value} {P : mH → Prop}  (hK : mCx K μ) (hd : decode μ.2.1 pc = .ok (.invokestatic idx, 3)) (hl : mLS μ.1.cls idx ν n) (hR : mFit μ ν) (hf : cells + (mRm ν).cells ≤ (mRm μ).cells ∧ slots + (mRm ν).slots ≤ (mRm μ).slots) (hM : mCon (kl K) (kD K) (kC K) ν As h (mRv P)) (hn : As.length = n) (hst : st = As.reverse ++ S) (h8 : (S.map fun v => v.category).sum ≤ 8)  (kk : ∀ h', P h' → mJ K (cells + (mRm ν).cells) (slots + (mRm ν).slots) (pc + 3) L (S) h') : mJ K cells slots pc L st h :=
  mJ_callS hK hd hl hR hf hn hst h8 hM (fun r h' hq => by
    obtain ⟨rfl, hp⟩ := hq
    exact kk h' hp)
theorem mJ_cSXv {K : mK} {μ ν : mM} {cells slots pc : Nat} {L : List (Option Value)} {S st : List Value} {h : mH} {idx n : Nat} {As : List Value} {P : mH → Prop} {QX QX' : String → mH → Prop}  (hK : mCx K μ) (hX : mRx K μ QX) (hd : decode μ.2.1 pc = .ok (.invokestatic idx, 3)) (hl : mLS μ.1.cls idx ν n) (hR : mFit μ ν) (hf : cells + (mRm ν).cells ≤ (mRm μ).cells ∧ slots + (mRm ν).slots ≤ (mRm μ).slots) (hM : mXon (kl K) (kD K) (kC K) ν As h (mRv P) QX') (hXX : ∀ E h', QX' E h' → QX E h') (hn : As.length = n) (hst : st = As.reverse ++ S) (h8 : (S.map fun v => v.category).sum ≤ 8)  (kk : ∀ h', P h' → mJ K (cells + (mRm ν).cells) (slots + (mRm ν).slots) (pc + 3) L (S) h') : mJ K cells slots pc L st h :=
  mJ_callSX hK hX hd hl hR hf hn hst h8 hM hXX (fun r h' hq => by
    obtain ⟨rfl, hp⟩ := hq
    exact kk h' hp)
theorem mJ_cNv {K : mK} {μ ν : mM} {cells slots pc : Nat} {L : List (Option Value)} {S st : List Value} {h : mH} {idx n : Nat} {As : List Value} {P : mH → Prop}  (hK : mCx K μ) (hd : decode μ.2.1 pc = .ok (.invokestatic idx, 3)) (hl : mLN μ.1.cls idx ν n) (hR : mFit μ ν) (hf : cells + (mRm ν).cells ≤ (mRm μ).cells ∧ slots + (mRm ν).slots ≤ (mRm μ).slots) (hM : mCon (kl K) (kD K) (kC K) ν As h (mRv P)) (hn : As.length = n) (hst : st = As.reverse ++ S) (h8 : (S.map fun v => v.category).sum ≤ 8)  (kk : ∀ h', P h' → mJ K (cells + (mRm ν).cells) (slots + (mRm ν).slots) (pc + 3) L (S) h') : mJ K cells slots pc L st h :=
  mJ_callN hK hd hl hR hf hn hst h8 hM (fun r h' hq => by
    obtain ⟨rfl, hp⟩ := hq
    exact kk h' hp)
section
variable {K : mK} {μ : mM} {cells slots pc : Nat} {L : List (Option Value)} {S : List Value} {h : mH} {a b : Nat}
theorem mJ_iaddN (hK : mCx K μ) (hd : decode μ.2.1 pc = .ok (.iadd, 1)) (k : mJ K cells slots (pc + 1) L (.int (nI (a + b)) :: S) h) : mJ K cells slots pc L (.int (nI b) :: .int (nI a) :: S) h := mJ_iadd hK hd (by rw [nI_add]; exact k)
theorem mJ_imulN (hK : mCx K μ) (hd : decode μ.2.1 pc = .ok (.imul, 1)) (k : mJ K cells slots (pc + 1) L (.int (nI (a * b)) :: S) h) : mJ K cells slots pc L (.int (nI b) :: .int (nI a) :: S) h := mJ_imul hK hd (by rw [pk_mul]; exact k)
theorem mJ_isubN (hK : mCx K μ) (hd : decode μ.2.1 pc = .ok (.isub, 1)) (hab : b ≤ a) (k : mJ K cells slots (pc + 1) L (.int (nI (a - b)) :: S) h) : mJ K cells slots pc L (.int (nI b) :: .int (nI a) :: S) h := mJ_isub hK hd (by rw [pk_sub hab]; exact k)
theorem mJ_iremN (hK : mCx K μ) (hd : decode μ.2.1 pc = .ok (.irem, 1)) (ha : a < 2 ^ 31) (h0 : 0 < b) (hb : b < 2 ^ 31) (k : mJ K cells slots (pc + 1) L (.int (nI (a % b)) :: S) h) : mJ K cells slots pc L (.int (nI b) :: .int (nI a) :: S) h := mJ_irem hK hd (nI_ne0 h0 hb) (by rw [pk_rem ha h0 hb]; exact k)
theorem mJ_nif_eq {off : Int} {tgt : Nat} (hK : mCx K μ) (hd : decode μ.2.1 pc = .ok (.ifCond .eq off, 3)) (ht : (pc : Int) + off = (tgt : Int)) (ha : a < 2 ^ 31) (kt : a = 0 → mJ K cells slots tgt L S h) (kf : 0 < a → mJ K cells slots (pc + 3) L S h) : mJ K cells slots pc L (.int (nI a) :: S) h :=
  mJ_if_eq hK hd ht (fun c => kt ((nI_eq ha (by decide)).mp (c.trans nI_0.symm))) (fun c => kf (Nat.pos_of_ne_zero fun z => c (by rw [z]; exact nI_0)))
theorem mJ_nif_ne {off : Int} {tgt : Nat} (hK : mCx K μ) (hd : decode μ.2.1 pc = .ok (.ifCond .ne off, 3)) (ht : (pc : Int) + off = (tgt : Int)) (ha : a < 2 ^ 31) (kt : 0 < a → mJ K cells slots tgt L S h) (kf : a = 0 → mJ K cells slots (pc + 3) L S h) : mJ K cells slots pc L (.int (nI a) :: S) h :=
  mJ_if_ne hK hd ht (fun c => kt (Nat.pos_of_ne_zero fun z => c (by rw [z]; exact nI_0))) (fun c => kf ((nI_eq ha (by decide)).mp (c.trans nI_0.symm)))
theorem mJ_nif_le {off : Int} {tgt : Nat} (hK : mCx K μ) (hd : decode μ.2.1 pc = .ok (.ifCond .le off, 3)) (ht : (pc : Int) + off = (tgt : Int)) (ha : a < 2 ^ 31) (kt : a = 0 → mJ K cells slots tgt L S h) (kf : 0 < a → mJ K cells slots (pc + 3) L S h) : mJ K cells slots pc L (.int (nI a) :: S) h :=
  mJ_if_le hK hd ht (fun c => kt (by rcases Nat.eq_zero_or_pos a with z | z; exact z; exact absurd c (nI_nle z ha))) (fun c => kf (Nat.pos_of_ne_zero fun z => c (by rw [z, nI_0]; decide)))
theorem mJ_nif_gt {off : Int} {tgt : Nat} (hK : mCx K μ) (hd : decode μ.2.1 pc = .ok (.ifCond .gt off, 3)) (ht : (pc : Int) + off = (tgt : Int)) (ha : a < 2 ^ 31) (kt : 0 < a → mJ K cells slots tgt L S h) (kf : a = 0 → mJ K cells slots (pc + 3) L S h) : mJ K cells slots pc L (.int (nI a) :: S) h :=
  mJ_if_gt hK hd ht (fun c => kt (Nat.pos_of_ne_zero fun z => by rw [z, nI_0] at c; exact absurd c (by decide))) (fun c => kf (by rcases Nat.eq_zero_or_pos a with z | z; exact z; exact absurd (by rw [← nI_0]; exact nI_lt z ha) c))
theorem mJ_nif_ge {off : Int} {tgt : Nat} (hK : mCx K μ) (hd : decode μ.2.1 pc = .ok (.ifCond .ge off, 3)) (ht : (pc : Int) + off = (tgt : Int)) (ha : a < 2 ^ 31) (kt : mJ K cells slots tgt L S h) : mJ K cells slots pc L (.int (nI a) :: S) h :=
  mJ_if_ge hK hd ht (fun c => kt) (fun c => absurd (nI_pos' ha) c)
theorem mJ_nif_lt {off : Int} {tgt : Nat} (hK : mCx K μ) (hd : decode μ.2.1 pc = .ok (.ifCond .lt off, 3)) (ht : (pc : Int) + off = (tgt : Int)) (ha : a < 2 ^ 31) (kf : mJ K cells slots (pc + 3) L S h) : mJ K cells slots pc L (.int (nI a) :: S) h :=
  mJ_if_lt hK hd ht (fun c => absurd c (nI_pos ha)) (fun c => kf)
end
end
section
section
variable {K : mK} {μ : mM} {cells slots pc : Nat} {L : List (Option Value)} {S : List Value} {h : mH} {V : Nat → Nat → Nat → Prop} {ad : xAd} {h0 : mH} {F : xFm} {W : xWm} {pm : Nat → Nat} {k i j : Nat}
theorem xJ_getx {idx ci n N : Nat} (x : Int32) (hR : xR V ad h0 F W pm h) (hK : mCx K μ) (hd : decode μ.2.1 pc = .ok (.getfield idx, 3)) (hl : mFL μ.1.cls idx ci n) (hv : V k i j) (hc : ∀ g w, xC ad pm g w k i j = .inr (ci, (List.range N).map (xF ad pm g w k i j))) (hn : n < N) (hi : xI k n = true) (hx : F k i j n = x) (kk : mJ K cells slots (pc + 3) L (.int x :: S) h) : mJ K cells slots pc L (.ref (ad k i j) :: S) h := by
  subst hx
  exact xJ_geti hR hK hd hl hv hc hn hi kk
theorem xJ_ialdx {n : Nat} {y : Int32} (m : Nat) (x : Int32) (hR : xR V ad h0 F W pm h) (hK : mCx K μ) (hd : decode μ.2.1 pc = .ok (.iaload, 1)) (hv : V k i j) (hc : ∀ g w, xC ad pm g w k i j = .inl (0, n, .inl g)) (hy : y = nI m) (hm : m < n) (hn : n < 2 ^ 31) (hx : F k i j m = x) (kk : mJ K cells slots (pc + 1) L (.int x :: S) h) : mJ K cells slots pc L (.int y :: .ref (ad k i j) :: S) h := by
  subst hx
  exact xJ_iald m hR hK hd hv hc hy hm hn kk
theorem xL_0 {g : Nat → Int32} {w : Nat → Int64} {x : Int64} : va_up (xF ad pm g w 13 i j) 5 (.long x) = xF ad pm g (vp_updL w 0 x) 13 i j := by
  funext n
  match n with
  | 0 => rfl
  | 1 => rfl
  | 2 => rfl
  | 3 => rfl
  | 4 => rfl
  | 5 => rfl
  | n + 6 => rfl
theorem xL_6 {g : Nat → Int32} {w : Nat → Int64} {x : Int64} : va_up (xF ad pm g w 30 i j) 52 (.long x) = xF ad pm g (vp_updL w 0 x) 30 i j := by
  funext n
  by_cases e : n = 52
  · subst e
    rfl
  · have h1 : va_up (xF ad pm g w 30 i j) 52 (.long x) n = xF ad pm g w 30 i j n := by simp [va_up, e]
    rw [h1]
    match n, e with
    | 0, _ => rfl
    | 1, _ => rfl
    | 2, _ => rfl
    | 3, _ => rfl
    | 4, _ => rfl
    | 5, _ => rfl
    | 6, _ => rfl
    | 7, _ => rfl
    | 8, _ => rfl
    | 9, _ => rfl
    | 10, _ => rfl
    | 11, _ => rfl
    | 12, _ => rfl
    | 13, _ => rfl
    | 14, _ => rfl
    | 15, _ => rfl
    | 16, _ => rfl
    | 17, _ => rfl
    | 18, _ => rfl
    | 19, _ => rfl
    | 20, _ => rfl
    | 21, _ => rfl
    | 22, _ => rfl
    | 23, _ => rfl
    | 24, _ => rfl
    | 25, _ => rfl
    | 26, _ => rfl
    | 27, _ => rfl
    | 28, _ => rfl
    | 29, _ => rfl
    | 30, _ => rfl
    | 31, _ => rfl
    | 32, _ => rfl
    | 33, _ => rfl
    | 34, _ => rfl
    | 35, _ => rfl
    | 36, _ => rfl
    | 37, _ => rfl
    | 38, _ => rfl
    | 39, _ => rfl
    | 40, _ => rfl
    | 41, _ => rfl
    | 42, _ => rfl
    | 43, _ => rfl
    | 44, _ => rfl
    | 45, _ => rfl
    | 46, _ => rfl
    | 47, _ => rfl
    | 48, _ => rfl
    | 49, _ => rfl
    | 50, _ => rfl
    | 51, _ => rfl
    | 52, e => exact absurd rfl e
    | n + 53, _ => rfl
theorem xR_ext {F' : xFm} (hR : xR V ad h0 F W pm h) (e : F = F') : xR V ad h0 F' W pm h := e ▸ hR
theorem xR_ext2 {F' : xFm} {W' : xWm} (hR : xR V ad h0 F W pm h) (e : F = F') (e2 : W = W') : xR V ad h0 F' W' pm h := by
  subst e e2
  exact hR
theorem b0 {p : Prop} [Decidable p] (h : ¬ p) : nI 0 = bI p := (bI_f h).symm
theorem b1 {p : Prop} [Decidable p] (h : p) : nI 1 = bI p := (bI_t h).symm
theorem bi8 : (nI 8).toInt = 8 := by decide
theorem bi0 : (0 : Int32).toInt = 0 := by decide
end
set_option maxRecDepth 100000 in
set_option maxHeartbeats 4000000 in
theorem k_X6_within {l : Launch} {D : va_G} {aC : Nat → ClassId} {h : mH} (v a b : Int32) : mCon l D aC mX6_within [.int v, .int a, .int b] h (mRi (bI (a ≤ v ∧ v ≤ b)) (fun h' => h' = h)) := by
  refine mCon.of [some (.int v), some (.int a), some (.int b)] (by decide +kernel) rfl (Nat.le_of_ble_eq_true rfl) ?_
  intro K el eD eC hK hZ
  subst el eD eC
  refine mJ_iload_n hK dX6_within_0 rfl ?_
  refine mJ_iload_n hK dX6_within_1 rfl ?_
  refine mJ_icmp_lt (tgt := 14) hK dX6_within_2 (by decide) (fun c_2 => ?_) (fun c_2 => ?_)
  · refine mJ_iconst (v := nI 0) hK dX6_within_14 (by decide) ?_
    refine mJ_zret hK dX6_within_15 rfl (by decide) hZ (by decide) (by decide) ?_
    refine ⟨congrArg (fun z => some (Value.int z)) ?_, rfl⟩
    first | exact b0 (by simp only [Int32.le_iff_toInt_le, Int32.lt_iff_toInt_lt, bi8, bi0] at *; omega) | exact b1 (by simp only [Int32.le_iff_toInt_le, Int32.lt_iff_toInt_lt, bi8, bi0] at *; omega)
  · refine mJ_iload_n hK dX6_within_5 rfl ?_
    refine mJ_iload_n hK dX6_within_6 rfl ?_
    refine mJ_icmp_gt (tgt := 14) hK dX6_within_7 (by decide) (fun c_7 => ?_) (fun c_7 => ?_)
    · refine mJ_iconst (v := nI 0) hK dX6_within_14 (by decide) ?_
      refine mJ_zret hK dX6_within_15 rfl (by decide) hZ (by decide) (by decide) ?_
      refine ⟨congrArg (fun z => some (Value.int z)) ?_, rfl⟩
      first | exact b0 (by simp only [Int32.le_iff_toInt_le, Int32.lt_iff_toInt_lt, bi8, bi0] at *; omega) | exact b1 (by simp only [Int32.le_iff_toInt_le, Int32.lt_iff_toInt_lt, bi8, bi0] at *; omega)
    · refine mJ_iconst (v := nI 1) hK dX6_within_10 (by decide) ?_
      refine mJ_goto (tgt := 15) hK dX6_within_11 (by decide) ?_
      refine mJ_zret hK dX6_within_15 rfl (by decide) hZ (by decide) (by decide) ?_
      refine ⟨congrArg (fun z => some (Value.int z)) ?_, rfl⟩
      first | exact b0 (by simp only [Int32.le_iff_toInt_le, Int32.lt_iff_toInt_lt, bi8, bi0] at *; omega) | exact b1 (by simp only [Int32.le_iff_toInt_le, Int32.lt_iff_toInt_lt, bi8, bi0] at *; omega)

set_option maxRecDepth 100000 in
set_option maxHeartbeats 4000000 in
theorem k_X5_isChannel {l : Launch} {D : va_G} {aC : Nat → ClassId} {h : mH} (v : Int32) : mCon l D aC mX5_isChannel [.int v] h (mRi (bI (0 ≤ v ∧ v < nI 8)) (fun h' => h' = h)) := by
  refine mCon.of [some (.int v)] (by decide +kernel) rfl (Nat.le_of_ble_eq_true rfl) ?_
  intro K el eD eC hK hZ
  subst el eD eC
  refine mJ_iload_n hK dX5_isChannel_0 rfl ?_
  refine mJ_if_lt (tgt := 14) hK dX5_isChannel_1 (by decide) (fun c_1 => ?_) (fun c_1 => ?_)
  · refine mJ_iconst (v := nI 0) hK dX5_isChannel_14 (by decide) ?_
    refine mJ_zret hK dX5_isChannel_15 rfl (by decide) hZ (by decide) (by decide) ?_
    refine ⟨congrArg (fun z => some (Value.int z)) ?_, rfl⟩
    first | exact b0 (by simp only [Int32.le_iff_toInt_le, Int32.lt_iff_toInt_lt, bi8, bi0] at *; omega) | exact b1 (by simp only [Int32.le_iff_toInt_le, Int32.lt_iff_toInt_lt, bi8, bi0] at *; omega)
  · refine mJ_iload_n hK dX5_isChannel_4 rfl ?_
    refine mJ_bipush (v := nI 8) hK dX5_isChannel_5 (by decide) ?_
    refine mJ_icmp_ge (tgt := 14) hK dX5_isChannel_7 (by decide) (fun c_7 => ?_) (fun c_7 => ?_)
    · refine mJ_iconst (v := nI 0) hK dX5_isChannel_14 (by decide) ?_
      refine mJ_zret hK dX5_isChannel_15 rfl (by decide) hZ (by decide) (by decide) ?_
      refine ⟨congrArg (fun z => some (Value.int z)) ?_, rfl⟩
      first | exact b0 (by simp only [Int32.le_iff_toInt_le, Int32.lt_iff_toInt_lt, bi8, bi0] at *; omega) | exact b1 (by simp only [Int32.le_iff_toInt_le, Int32.lt_iff_toInt_lt, bi8, bi0] at *; omega)
    · refine mJ_iconst (v := nI 1) hK dX5_isChannel_10 (by decide) ?_
      refine mJ_goto (tgt := 15) hK dX5_isChannel_11 (by decide) ?_
      refine mJ_zret hK dX5_isChannel_15 rfl (by decide) hZ (by decide) (by decide) ?_
      refine ⟨congrArg (fun z => some (Value.int z)) ?_, rfl⟩
      first | exact b0 (by simp only [Int32.le_iff_toInt_le, Int32.lt_iff_toInt_lt, bi8, bi0] at *; omega) | exact b1 (by simp only [Int32.le_iff_toInt_le, Int32.lt_iff_toInt_lt, bi8, bi0] at *; omega)

set_option maxRecDepth 100000 in
set_option maxHeartbeats 4000000 in
theorem k_X5_mix {l : Launch} {D : va_G} {aC : Nat → ClassId} {h : mH} (v w : Int64) : mCon l D aC mX5_mix [.long v, .long w] h (mRl (31 * v + w) (fun h' => h' = h)) := by
  refine mCon.of [some (.long v), none, some (.long w), none] (by decide +kernel) rfl (Nat.le_of_ble_eq_true rfl) ?_
  intro K el eD eC hK hZ
  subst el eD eC
  refine mJ_ldc2 hK dX5_mix_0 cX5_319 ?_
  refine mJ_lload_n hK dX5_mix_3 rfl ?_
  refine mJ_lmul hK dX5_mix_4 ?_
  refine mJ_lload_n hK dX5_mix_5 rfl ?_
  refine mJ_ladd hK dX5_mix_6 ?_
  refine mJ_lret hK dX5_mix_7 rfl hZ (by decide) (by decide) ?_
  exact ⟨rfl, rfl⟩

def bcI (v : Int32) : Int32 :=
  let a := v - ((v.toUInt32 >>> (Int32.toUInt32 (nI 1) &&& Int32.toUInt32 31)).toInt32 &&& 1431655765)
  let b := (a &&& 858993459) + ((a.toUInt32 >>> (Int32.toUInt32 (nI 2) &&& Int32.toUInt32 31)).toInt32 &&& 858993459)
  let c := (b + (b.toUInt32 >>> (Int32.toUInt32 (nI 4) &&& Int32.toUInt32 31)).toInt32) &&& 252645135
  let d := c + (c.toUInt32 >>> (Int32.toUInt32 (nI 8) &&& Int32.toUInt32 31)).toInt32
  let e := d + (d.toUInt32 >>> (Int32.toUInt32 (nI 16) &&& Int32.toUInt32 31)).toInt32
  e &&& nI 63
set_option maxRecDepth 100000 in
set_option maxHeartbeats 4000000 in
theorem k_J6_bitCount {l : Launch} {D : va_G} {aC : Nat → ClassId} {h : mH} (v : Int32) : mCon l D aC mJ6_bitCount_0f7a4 [.int v] h (mRi (bcI v) (fun h' => h' = h)) := by
  refine mCon.of [some (.int v)] (by decide +kernel) rfl (Nat.le_of_ble_eq_true rfl) ?_
  intro K el eD eC hK hZ
  subst el eD eC
  refine mJ_iload_n hK dJ6_bitCount_0f7a4_0 rfl ?_
  refine mJ_iload_n hK dJ6_bitCount_0f7a4_1 rfl ?_
  refine mJ_iconst (v := nI 1) hK dJ6_bitCount_0f7a4_2 (by decide) ?_
  refine mJ_iushr hK dJ6_bitCount_0f7a4_3 rfl ?_
  refine mJ_ldcw hK dJ6_bitCount_0f7a4_4 cJ6_265 ?_
  refine mJ_iand hK dJ6_bitCount_0f7a4_7 ?_
  refine mJ_isub hK dJ6_bitCount_0f7a4_8 ?_
  refine mJ_istore_n hK dJ6_bitCount_0f7a4_9 (by decide) rfl ?_
  refine mJ_iload_n hK dJ6_bitCount_0f7a4_10 rfl ?_
  refine mJ_ldcw hK dJ6_bitCount_0f7a4_11 cJ6_266 ?_
  refine mJ_iand hK dJ6_bitCount_0f7a4_14 ?_
  refine mJ_iload_n hK dJ6_bitCount_0f7a4_15 rfl ?_
  refine mJ_iconst (v := nI 2) hK dJ6_bitCount_0f7a4_16 (by decide) ?_
  refine mJ_iushr hK dJ6_bitCount_0f7a4_17 rfl ?_
  refine mJ_ldcw hK dJ6_bitCount_0f7a4_18 cJ6_266 ?_
  refine mJ_iand hK dJ6_bitCount_0f7a4_21 ?_
  refine mJ_iadd hK dJ6_bitCount_0f7a4_22 ?_
  refine mJ_istore_n hK dJ6_bitCount_0f7a4_23 (by decide) rfl ?_
  refine mJ_iload_n hK dJ6_bitCount_0f7a4_24 rfl ?_
  refine mJ_iload_n hK dJ6_bitCount_0f7a4_25 rfl ?_
  refine mJ_iconst (v := nI 4) hK dJ6_bitCount_0f7a4_26 (by decide) ?_
  refine mJ_iushr hK dJ6_bitCount_0f7a4_27 rfl ?_
  refine mJ_iadd hK dJ6_bitCount_0f7a4_28 ?_
  refine mJ_ldcw hK dJ6_bitCount_0f7a4_29 cJ6_267 ?_
  refine mJ_iand hK dJ6_bitCount_0f7a4_32 ?_
  refine mJ_istore_n hK dJ6_bitCount_0f7a4_33 (by decide) rfl ?_
  refine mJ_iload_n hK dJ6_bitCount_0f7a4_34 rfl ?_
  refine mJ_iload_n hK dJ6_bitCount_0f7a4_35 rfl ?_
  refine mJ_bipush (v := nI 8) hK dJ6_bitCount_0f7a4_36 (by decide) ?_
  refine mJ_iushr hK dJ6_bitCount_0f7a4_38 rfl ?_
  refine mJ_iadd hK dJ6_bitCount_0f7a4_39 ?_
  refine mJ_istore_n hK dJ6_bitCount_0f7a4_40 (by decide) rfl ?_
  refine mJ_iload_n hK dJ6_bitCount_0f7a4_41 rfl ?_
  refine mJ_iload_n hK dJ6_bitCount_0f7a4_42 rfl ?_
  refine mJ_bipush (v := nI 16) hK dJ6_bitCount_0f7a4_43 (by decide) ?_
  refine mJ_iushr hK dJ6_bitCount_0f7a4_45 rfl ?_
  refine mJ_iadd hK dJ6_bitCount_0f7a4_46 ?_
  refine mJ_istore_n hK dJ6_bitCount_0f7a4_47 (by decide) rfl ?_
  refine mJ_iload_n hK dJ6_bitCount_0f7a4_48 rfl ?_
  refine mJ_bipush (v := nI 63) hK dJ6_bitCount_0f7a4_49 (by decide) ?_
  refine mJ_iand hK dJ6_bitCount_0f7a4_51 ?_
  refine mJ_iret hK dJ6_bitCount_0f7a4_52 rfl hZ (by decide) (by decide) ?_
  exact ⟨rfl, rfl⟩

theorem mJ_lmax {K : mK} {μ : mM} {cells slots pc : Nat} {L : List (Option Value)} {S : List Value} {h : mH} {idx : Nat} {x y : Int64} (hK : mCx K μ) (hd : decode μ.2.1 pc = .ok (.invokestatic idx, 3)) (hl : mLS μ.1.cls idx mJ9_max_f86c9 2) (hfr : 1 ≤ (mRm μ).frames) (hlo : (S.map fun v => v.category).sum + 15 ≤ (mRm μ).locals) (hc : cells ≤ (mRm μ).cells) (hs9 : slots ≤ (mRm μ).slots) (kk : mJ K cells slots (pc + 3) L (.long (if y < x then x else y) :: S) h) : mJ K cells slots pc L (.long y :: .long x :: S) h := by
  intro H locs ls hH hS hL
  have hw := hK.2.2.2.2.2.1
  have hR := hK.2.2.2.2.2.2.2.1
  exact va_mmax_long hK.1 hK.2.1 hL.1.symm hK.2.2.2.2.1 (hw _ hl.1.1) (hw _ hl.2) (hw _ hl.1.2.1) (hw _ hl.1.2.2.1) (by rw [hR]; exact hfr) (by rw [hR]; exact hlo) (by rw [hR]; exact hc) (by rw [hR]; exact hs9) hd (kk H locs ls hH hS hL)
theorem mJ_lmin {K : mK} {μ : mM} {cells slots pc : Nat} {L : List (Option Value)} {S : List Value} {h : mH} {idx : Nat} {x y : Int64} (hK : mCx K μ) (hd : decode μ.2.1 pc = .ok (.invokestatic idx, 3)) (hl : mLS μ.1.cls idx mJ9_min_f86c9 2) (hfr : 1 ≤ (mRm μ).frames) (hlo : (S.map fun v => v.category).sum + 15 ≤ (mRm μ).locals) (hc : cells ≤ (mRm μ).cells) (hs9 : slots ≤ (mRm μ).slots) (kk : mJ K cells slots (pc + 3) L (.long (if y < x then y else x) :: S) h) : mJ K cells slots pc L (.long y :: .long x :: S) h := by
  intro H locs ls hH hS hL
  have hw := hK.2.2.2.2.2.1
  have hR := hK.2.2.2.2.2.2.2.1
  exact va_mmin_long hK.1 hK.2.1 hL.1.symm hK.2.2.2.2.1 (hw _ hl.1.1) (hw _ hl.2) (hw _ hl.1.2.1) (hw _ hl.1.2.2.1) (by rw [hR]; exact hfr) (by rw [hR]; exact hlo) (by rw [hR]; exact hc) (by rw [hR]; exact hs9) hd (kk H locs ls hH hS hL)
end
section
set_option maxRecDepth 100000 in
set_option maxHeartbeats 4000000 in
theorem k_X0_isFull {l : Launch} {D : va_G} {aC : Nat → ClassId} {ad : xAd} {h0 h : mH} {F : xFm} {W : xWm} {pm : Nat → Nat} (hR : xR xV ad h0 F W pm h) {s c : Nat} (hs : s < 2) (hc : c < 8) {n : Nat} (hn : F 13 s c 3 = nI n) (hn8 : n ≤ 8) : mCon l D aC mX0_isFull [.ref (ad 13 s c)] h (mRi (bI (8 ≤ n)) (fun h' => h' = h)) := by
  refine mCon.of [some (.ref (ad 13 s c))] (by decide +kernel) rfl (Nat.le_of_ble_eq_true rfl) ?_
  intro K el eD eC hK hZ
  subst el eD eC
  refine mJ_aload_n hK dX0_isFull_0 rfl ?_
  refine xJ_getx (nI n) hR hK dX0_isFull_1 fX0_21 (by unfold xV; omega) (fun _ _ => rfl) (by decide) rfl (by first | exact hn | (simp [fr, upd]; exact hn)) ?_
  refine mJ_bipush (v := nI 8) hK dX0_isFull_4 (by decide) ?_
  refine mJ_nlt (tgt := 13) hK dX0_isFull_6 (by decide) (by omega) (by omega) (fun c_6 => ?_) (fun c_6 => ?_)
  · refine mJ_iconst (v := nI 0) hK dX0_isFull_13 (by decide) ?_
    refine mJ_zret hK dX0_isFull_14 rfl (by decide) hZ (by decide) (by decide) ?_
    first | exact ⟨congrArg (fun z => some (Value.int z)) (b0 (by omega)), rfl⟩ | exact ⟨congrArg (fun z => some (Value.int z)) (b1 (by omega)), rfl⟩
  · refine mJ_iconst (v := nI 1) hK dX0_isFull_9 (by decide) ?_
    refine mJ_goto (tgt := 14) hK dX0_isFull_10 (by decide) ?_
    refine mJ_zret hK dX0_isFull_14 rfl (by decide) hZ (by decide) (by decide) ?_
    first | exact ⟨congrArg (fun z => some (Value.int z)) (b0 (by omega)), rfl⟩ | exact ⟨congrArg (fun z => some (Value.int z)) (b1 (by omega)), rfl⟩

set_option maxRecDepth 100000 in
set_option maxHeartbeats 4000000 in
theorem k_X0_has {l : Launch} {D : va_G} {aC : Nat → ClassId} {ad : xAd} {h0 h : mH} {F : xFm} {W : xWm} {pm : Nat → Nat} (hR : xR xV ad h0 F W pm h) {s c : Nat} (hs : s < 2) (hc : c < 8) {n : Nat} (hn : F 13 s c 3 = nI n) (hn8 : n ≤ 8) (x : Int32) : mCon l D aC mX0_has [.ref (ad 13 s c), .int x] h (mRi (bI (0 ≤ x ∧ x < nI n)) (fun h' => h' = h)) := by
  refine mCon.of [some (.ref (ad 13 s c)), some (.int x)] (by decide +kernel) rfl (Nat.le_of_ble_eq_true rfl) ?_
  intro K el eD eC hK hZ
  subst el eD eC
  refine mJ_iload_n hK dX0_has_0 rfl ?_
  refine mJ_if_lt (tgt := 16) hK dX0_has_1 (by decide) (fun c_1 => ?_) (fun c_1 => ?_)
  · refine mJ_iconst (v := nI 0) hK dX0_has_16 (by decide) ?_
    refine mJ_zret hK dX0_has_17 rfl (by decide) hZ (by decide) (by decide) ?_
    first | exact ⟨congrArg (fun z => some (Value.int z)) (b0 (by simp only [Int32.le_iff_toInt_le, Int32.lt_iff_toInt_lt, bi8, bi0] at *; omega)), rfl⟩ | exact ⟨congrArg (fun z => some (Value.int z)) (b1 (by simp only [Int32.le_iff_toInt_le, Int32.lt_iff_toInt_lt, bi8, bi0] at *; omega)), rfl⟩
  · refine mJ_iload_n hK dX0_has_4 rfl ?_
    refine mJ_aload_n hK dX0_has_5 rfl ?_
    refine xJ_getx (nI n) hR hK dX0_has_6 fX0_21 (by unfold xV; omega) (fun _ _ => rfl) (by decide) rfl (by first | exact hn | (simp [fr, upd]; exact hn)) ?_
    refine mJ_icmp_ge (tgt := 16) hK dX0_has_9 (by decide) (fun c_9 => ?_) (fun c_9 => ?_)
    · refine mJ_iconst (v := nI 0) hK dX0_has_16 (by decide) ?_
      refine mJ_zret hK dX0_has_17 rfl (by decide) hZ (by decide) (by decide) ?_
      first | exact ⟨congrArg (fun z => some (Value.int z)) (b0 (by simp only [Int32.le_iff_toInt_le, Int32.lt_iff_toInt_lt, bi8, bi0] at *; omega)), rfl⟩ | exact ⟨congrArg (fun z => some (Value.int z)) (b1 (by simp only [Int32.le_iff_toInt_le, Int32.lt_iff_toInt_lt, bi8, bi0] at *; omega)), rfl⟩
    · refine mJ_iconst (v := nI 1) hK dX0_has_12 (by decide) ?_
      refine mJ_goto (tgt := 17) hK dX0_has_13 (by decide) ?_
      refine mJ_zret hK dX0_has_17 rfl (by decide) hZ (by decide) (by decide) ?_
      first | exact ⟨congrArg (fun z => some (Value.int z)) (b0 (by simp only [Int32.le_iff_toInt_le, Int32.lt_iff_toInt_lt, bi8, bi0] at *; omega)), rfl⟩ | exact ⟨congrArg (fun z => some (Value.int z)) (b1 (by simp only [Int32.le_iff_toInt_le, Int32.lt_iff_toInt_lt, bi8, bi0] at *; omega)), rfl⟩

set_option maxRecDepth 100000 in
set_option maxHeartbeats 4000000 in
theorem k_X0_valueAt {l : Launch} {D : va_G} {aC : Nat → ClassId} {ad : xAd} {h0 h : mH} {F : xFm} {W : xWm} {pm : Nat → Nat} (hR : xR xV ad h0 F W pm h) {s c : Nat} (hs : s < 2) (hc : c < 8) {n : Nat} (hn : F 13 s c 3 = nI n) (hn8 : n ≤ 8) {i : Nat} (hi : i < n) : mCon l D aC mX0_valueAt [.ref (ad 13 s c), .int (nI i)] h (mRi (F 14 s c i) (fun h' => h' = h)) := by
  refine mCon.of [some (.ref (ad 13 s c)), some (.int (nI i))] (by decide +kernel) rfl (Nat.le_of_ble_eq_true rfl) ?_
  intro K el eD eC hK hZ
  subst el eD eC
  refine mJ_iload_n hK dX0_valueAt_0 rfl ?_
  refine mJ_nif_lt (tgt := 21) hK dX0_valueAt_1 (by decide) (by omega) ?_
  refine mJ_iload_n hK dX0_valueAt_4 rfl ?_
  refine mJ_aload_n hK dX0_valueAt_5 rfl ?_
  refine xJ_getx (nI n) hR hK dX0_valueAt_6 fX0_21 (by unfold xV; omega) (fun _ _ => rfl) (by decide) rfl (by first | exact hn | (simp [fr, upd]; exact hn)) ?_
  refine mJ_nge (tgt := 21) hK dX0_valueAt_9 (by decide) (by omega) (by omega) (fun c_9 => ?_) (fun c_9 => ?_)
  · exact absurd c_9 (by omega)
  · refine mJ_aload_n hK dX0_valueAt_12 rfl ?_
    refine xJ_getr hR hK dX0_valueAt_13 fX0_9 (by unfold xV; omega) (fun _ _ => rfl) (by decide) (fun _ _ => rfl) ?_
    refine mJ_iload_n hK dX0_valueAt_16 rfl ?_
    refine xJ_iald i hR hK dX0_valueAt_17 (by unfold xV; omega) (fun _ _ => rfl) rfl (by omega) (by decide) ?_
    refine mJ_goto (tgt := 22) hK dX0_valueAt_18 (by decide) ?_
    refine mJ_iret hK dX0_valueAt_22 rfl hZ (by decide) (by decide) ?_
    exact ⟨rfl, rfl⟩

set_option maxRecDepth 100000 in
set_option maxHeartbeats 4000000 in
theorem k_X0_ticketAt {l : Launch} {D : va_G} {aC : Nat → ClassId} {ad : xAd} {h0 h : mH} {F : xFm} {W : xWm} {pm : Nat → Nat} (hR : xR xV ad h0 F W pm h) {s c : Nat} (hs : s < 2) (hc : c < 8) {n : Nat} (hn : F 13 s c 3 = nI n) (hn8 : n ≤ 8) {i : Nat} (hi : i < n) : mCon l D aC mX0_ticketAt [.ref (ad 13 s c), .int (nI i)] h (mRi (F 16 s c i) (fun h' => h' = h)) := by
  refine mCon.of [some (.ref (ad 13 s c)), some (.int (nI i))] (by decide +kernel) rfl (Nat.le_of_ble_eq_true rfl) ?_
  intro K el eD eC hK hZ
  subst el eD eC
  refine mJ_aload_n hK dX0_ticketAt_0 rfl ?_
  refine mJ_iload_n hK dX0_ticketAt_1 rfl ?_
  refine mJ_cVi hK dX0_ticketAt_2 lX0_25 (by unfold mFit; decide) (by decide) (k_X0_has hR hs hc hn hn8 (nI i)) rfl rfl (Nat.le_of_ble_eq_true rfl) (hR.1 _ _ _ (by unfold xV; omega)) ⟨_, _, rfl⟩ (fun h e9 => ?_)
  subst e9
  refine mJ_ifb_eq (tgt := 17) hK dX0_ticketAt_5 (by decide) (fun c_5 => ?_) (fun c_5 => ?_)
  · exact (c_5 ⟨nI_pos' (by omega), nI_lt hi (by omega)⟩).elim
  · refine mJ_aload_n hK dX0_ticketAt_8 rfl ?_
    refine xJ_getr hR hK dX0_ticketAt_9 fX0_18 (by unfold xV; omega) (fun _ _ => rfl) (by decide) (fun _ _ => rfl) ?_
    refine mJ_iload_n hK dX0_ticketAt_12 rfl ?_
    refine xJ_iald i hR hK dX0_ticketAt_13 (by unfold xV; omega) (fun _ _ => rfl) rfl (by omega) (by decide) ?_
    refine mJ_goto (tgt := 18) hK dX0_ticketAt_14 (by decide) ?_
    refine mJ_iret hK dX0_ticketAt_18 rfl hZ (by decide) (by decide) ?_
    exact ⟨rfl, rfl⟩

def xPut (F : xFm) (s c n : Nat) (v t k : Int32) : xFm := fr (fr (fr (fr F 14 s c (upd (F 14 s c) n v)) 15 s c (upd (F 15 s c) n t)) 16 s c (upd (F 16 s c) n k)) 13 s c (upd (F 13 s c) 3 (nI (n + 1)))
def sh {α : Type} (a : Nat → α) (b e : Nat) : Nat → α := fun j => if b ≤ j ∧ j < e then a (j + 1) else a j
theorem sh_0 {α : Type} {a : Nat → α} {b : Nat} : sh a b b = a := by
  funext j
  unfold sh
  rw [if_neg (by omega)]
theorem sh_step {a : Nat → Int32} {b e : Nat} (h : b ≤ e) : upd (sh a b e) e (sh a b e (e + 1)) = sh a b (e + 1) := by
  funext j
  unfold upd sh
  by_cases h1 : j = e
  · subst h1
    rw [if_pos rfl, if_neg (by omega), if_pos (by omega)]
  · rw [if_neg h1]
    by_cases h2 : b ≤ j ∧ j < e
    · rw [if_pos h2, if_pos (by omega)]
    · rw [if_neg h2, if_neg (by omega)]
def xTk (F : xFm) (s c b e n : Nat) : xFm := fr (fr (fr (fr F 13 s c (upd (upd (F 13 s c) 4 (F 13 s c 4 + nI 1)) 3 (nI (n - 1)))) 14 s c (sh (F 14 s c) b e)) 15 s c (sh (F 15 s c) b e)) 16 s c (sh (F 16 s c) b e)
set_option maxRecDepth 100000 in
set_option maxHeartbeats 4000000 in
theorem k_X0_put {l : Launch} {D : va_G} {aC : Nat → ClassId} {ad : xAd} {h0 h : mH} {F : xFm} {W : xWm} {pm : Nat → Nat} (hR : xR xV ad h0 F W pm h) {s c : Nat} (hs : s < 2) (hc : c < 8) {n : Nat} (hn : F 13 s c 3 = nI n) (hn8 : n < 8) (v t k : Int32) : mCon l D aC mX0_put [.ref (ad 13 s c), .int v, .int t, .int k] h (mRv (fun h' => xR xV ad h0 (xPut F s c n v t k) W pm h')) := by
  refine mCon.of [some (.ref (ad 13 s c)), some (.int v), some (.int t), some (.int k)] (by decide +kernel) rfl (Nat.le_of_ble_eq_true rfl) ?_
  intro K el eD eC hK hZ
  subst el eD eC
  refine mJ_aload_n hK dX0_put_0 rfl ?_
  refine mJ_cVi hK dX0_put_1 lX0_29 (by unfold mFit; decide) (by decide) (k_X0_isFull hR hs hc hn (by omega)) rfl rfl (Nat.le_of_ble_eq_true rfl) (hR.1 _ _ _ (by unfold xV; omega)) ⟨_, _, rfl⟩ (fun h e9 => ?_)
  subst e9
  refine mJ_ifb_eq (tgt := 8) hK dX0_put_4 (by decide) (fun c_4 => ?_) (fun c_4 => ?_)
  · refine mJ_aload_n hK dX0_put_8 rfl ?_
    refine xJ_getr hR hK dX0_put_9 fX0_9 (by unfold xV; omega) (fun _ _ => rfl) (by decide) (fun _ _ => rfl) ?_
    refine mJ_aload_n hK dX0_put_12 rfl ?_
    refine xJ_getx (nI n) hR hK dX0_put_13 fX0_21 (by unfold xV; omega) (fun _ _ => rfl) (by decide) rfl (by first | exact hn | (simp [fr, upd]; exact hn)) ?_
    refine mJ_iload_n hK dX0_put_16 rfl ?_
    refine xJ_iast n hR hK dX0_put_17 (by unfold xV; omega) (fun _ _ => rfl) rfl (by omega) (by decide) (fun h hR => ?_)
    refine mJ_aload_n hK dX0_put_18 rfl ?_
    refine xJ_getr hR hK dX0_put_19 fX0_15 (by unfold xV; omega) (fun _ _ => rfl) (by decide) (fun _ _ => rfl) ?_
    refine mJ_aload_n hK dX0_put_22 rfl ?_
    refine xJ_getx (nI n) hR hK dX0_put_23 fX0_21 (by unfold xV; omega) (fun _ _ => rfl) (by decide) rfl (by first | exact hn | (simp [fr, upd]; exact hn)) ?_
    refine mJ_iload_n hK dX0_put_26 rfl ?_
    refine xJ_iast n hR hK dX0_put_27 (by unfold xV; omega) (fun _ _ => rfl) rfl (by omega) (by decide) (fun h hR => ?_)
    refine mJ_aload_n hK dX0_put_28 rfl ?_
    refine xJ_getr hR hK dX0_put_29 fX0_18 (by unfold xV; omega) (fun _ _ => rfl) (by decide) (fun _ _ => rfl) ?_
    refine mJ_aload_n hK dX0_put_32 rfl ?_
    refine xJ_getx (nI n) hR hK dX0_put_33 fX0_21 (by unfold xV; omega) (fun _ _ => rfl) (by decide) rfl (by first | exact hn | (simp [fr, upd]; exact hn)) ?_
    refine mJ_iload_n hK dX0_put_36 rfl ?_
    refine xJ_iast n hR hK dX0_put_37 (by unfold xV; omega) (fun _ _ => rfl) rfl (by omega) (by decide) (fun h hR => ?_)
    refine mJ_aload_n hK dX0_put_38 rfl ?_
    refine mJ_dup hK dX0_put_39 rfl ?_
    refine xJ_getx (nI n) hR hK dX0_put_40 fX0_21 (by unfold xV; omega) (fun _ _ => rfl) (by decide) rfl (by first | exact hn | (simp [fr, upd]; exact hn)) ?_
    refine mJ_iconst (v := nI 1) hK dX0_put_43 (by decide) ?_
    refine mJ_iaddN hK dX0_put_44 ?_
    refine xJ_puti hR hK dX0_put_45 fX0_21 sX0_3 rfl rfl (by unfold xV; omega) (fun _ _ => rfl) (by decide) rfl (fun h hR => ?_)
    refine mJ_vret hK dX0_put_48 rfl hZ (by decide) (by decide) ?_
    exact ⟨rfl, hR⟩
  · exact absurd c_4 (by omega)

theorem xTk_step {F : xFm} {s c b e n : Nat} (h : b ≤ e) : fr (fr (fr (xTk F s c b e n) 14 s c (upd (xTk F s c b e n 14 s c) e (xTk F s c b e n 14 s c (e + 1)))) 15 s c (upd (xTk F s c b e n 15 s c) e (xTk F s c b e n 15 s c (e + 1)))) 16 s c (upd (xTk F s c b e n 16 s c) e (xTk F s c b e n 16 s c (e + 1))) = xTk F s c b (e + 1) n := by
  funext k i j
  by_cases h1 : k = 14 ∧ i = s ∧ j = c
  · obtain ⟨rfl, rfl, rfl⟩ := h1
    simp [xTk, fr, sh_step h]
  · by_cases h2 : k = 15 ∧ i = s ∧ j = c
    · obtain ⟨rfl, rfl, rfl⟩ := h2
      simp [xTk, fr, sh_step h]
    · by_cases h3 : k = 16 ∧ i = s ∧ j = c
      · obtain ⟨rfl, rfl, rfl⟩ := h3
        simp [xTk, fr, sh_step h]
      · simp only [xTk, fr, if_neg h1, if_neg h2, if_neg h3]
theorem xTk_0 {F : xFm} {s c b n : Nat} : fr (fr F 13 s c (upd (F 13 s c) 4 (F 13 s c 4 + nI 1))) 13 s c (upd (upd (F 13 s c) 4 (F 13 s c 4 + nI 1)) 3 (nI (n - 1))) = xTk F s c b b n := by
  funext k i j
  simp only [xTk, sh_0, fr]
  repeat' split
  all_goals first | rfl | simp_all
set_option maxRecDepth 100000 in
set_option maxHeartbeats 4000000 in
theorem lp_X0_take {K : mK} (hK : mCx K mX0_take) {ad : xAd} {h0 : mH} {F : xFm} {W : xWm} {pm : Nat → Nat} {s c : Nat} (hs : s < 2) (hc : c < 8) {n b : Nat} (hn8 : n ≤ 8) {x t : Int32} (hZ : mRt K mX0_take (mRv (fun h' => xR xV ad h0 (xTk F s c b (n - 1) n) W pm h'))) : ∀ (m : Nat) (e : Nat) (h : mH), n - e < m → b ≤ e → e ≤ n - 1 → xR xV ad h0 (xTk F s c b e n) W pm h → mJ K 0 0 49 [some (.ref (ad 13 s c)), some (.int x), some (.int t), some (.int (nI e))] [] h := by
  intro m
  induction m with
  | zero =>
    intro e h hm0
    exact absurd hm0 (by omega)
  | succ m ih =>
    intro e h hm0 hb he hR
    refine mJ_iload_n hK dX0_take_49 rfl ?_
    refine mJ_aload_n hK dX0_take_50 rfl ?_
    refine xJ_getx (nI (n - 1)) hR hK dX0_take_51 fX0_21 (by unfold xV; omega) (fun _ _ => rfl) (by decide) rfl (by simp [xTk, fr, upd]) ?_
    refine mJ_nge (tgt := 105) hK dX0_take_54 (by decide) (by omega) (by omega) (fun c_54 => ?_) (fun c_54 => ?_)
    · refine mJ_vret hK dX0_take_105 rfl hZ (by decide) (by decide) ?_
      have : e = n - 1 := by omega
      subst this
      exact ⟨rfl, hR⟩
    · refine mJ_aload_n hK dX0_take_57 rfl ?_
      refine xJ_getr hR hK dX0_take_58 fX0_9 (by unfold xV; omega) (fun _ _ => rfl) (by decide) (fun _ _ => rfl) ?_
      refine mJ_iload_n hK dX0_take_61 rfl ?_
      refine mJ_aload_n hK dX0_take_62 rfl ?_
      refine xJ_getr hR hK dX0_take_63 fX0_9 (by unfold xV; omega) (fun _ _ => rfl) (by decide) (fun _ _ => rfl) ?_
      refine mJ_iload_n hK dX0_take_66 rfl ?_
      refine mJ_iconst (v := nI 1) hK dX0_take_67 (by decide) ?_
      refine mJ_iaddN hK dX0_take_68 ?_
      refine xJ_iald (e + 1) hR hK dX0_take_69 (by unfold xV; omega) (fun _ _ => rfl) rfl (by omega) (by decide) ?_
      refine xJ_iast e hR hK dX0_take_70 (by unfold xV; omega) (fun _ _ => rfl) rfl (by omega) (by decide) (fun h hR => ?_)
      refine mJ_aload_n hK dX0_take_71 rfl ?_
      refine xJ_getr hR hK dX0_take_72 fX0_15 (by unfold xV; omega) (fun _ _ => rfl) (by decide) (fun _ _ => rfl) ?_
      refine mJ_iload_n hK dX0_take_75 rfl ?_
      refine mJ_aload_n hK dX0_take_76 rfl ?_
      refine xJ_getr hR hK dX0_take_77 fX0_15 (by unfold xV; omega) (fun _ _ => rfl) (by decide) (fun _ _ => rfl) ?_
      refine mJ_iload_n hK dX0_take_80 rfl ?_
      refine mJ_iconst (v := nI 1) hK dX0_take_81 (by decide) ?_
      refine mJ_iaddN hK dX0_take_82 ?_
      refine xJ_iald (e + 1) hR hK dX0_take_83 (by unfold xV; omega) (fun _ _ => rfl) rfl (by omega) (by decide) ?_
      refine xJ_iast e hR hK dX0_take_84 (by unfold xV; omega) (fun _ _ => rfl) rfl (by omega) (by decide) (fun h hR => ?_)
      refine mJ_aload_n hK dX0_take_85 rfl ?_
      refine xJ_getr hR hK dX0_take_86 fX0_18 (by unfold xV; omega) (fun _ _ => rfl) (by decide) (fun _ _ => rfl) ?_
      refine mJ_iload_n hK dX0_take_89 rfl ?_
      refine mJ_aload_n hK dX0_take_90 rfl ?_
      refine xJ_getr hR hK dX0_take_91 fX0_18 (by unfold xV; omega) (fun _ _ => rfl) (by decide) (fun _ _ => rfl) ?_
      refine mJ_iload_n hK dX0_take_94 rfl ?_
      refine mJ_iconst (v := nI 1) hK dX0_take_95 (by decide) ?_
      refine mJ_iaddN hK dX0_take_96 ?_
      refine xJ_iald (e + 1) hR hK dX0_take_97 (by unfold xV; omega) (fun _ _ => rfl) rfl (by omega) (by decide) ?_
      refine xJ_iast e hR hK dX0_take_98 (by unfold xV; omega) (fun _ _ => rfl) rfl (by omega) (by decide) (fun h hR => ?_)
      refine mJ_iincN hK dX0_take_99 rfl rfl (by decide) rfl ?_
      refine mJ_goto (tgt := 49) hK dX0_take_102 (by decide) ?_
      exact ih (e + 1) _ (by omega) (by omega) (by omega) (xR_ext hR (xTk_step hb))

set_option maxRecDepth 100000 in
set_option maxHeartbeats 4000000 in
theorem k_X0_take {l : Launch} {D : va_G} {aC : Nat → ClassId} {ad : xAd} {h0 h : mH} {F : xFm} {W : xWm} {pm : Nat → Nat} (hR : xR xV ad h0 F W pm h) {s c : Nat} (hs : s < 2) (hc : c < 8) {n i : Nat} (hn : F 13 s c 3 = nI n) (hn8 : n ≤ 8) (hi : i < n) (t : Int32) : mCon l D aC mX0_take [.ref (ad 13 s c), .int (nI i), .int t] h (mRv (fun h' => xR xV ad h0 (xTk F s c i (n - 1) n) (fr W 13 s c (vp_updL (W 13 s c) 0 (W 13 s c 0 + (t - F 15 s c i).toInt64))) pm h')) := by
  refine mCon.of [some (.ref (ad 13 s c)), some (.int (nI i)), some (.int t), none] (by decide +kernel) rfl (Nat.le_of_ble_eq_true rfl) ?_
  intro K el eD eC hK hZ
  subst el eD eC
  refine mJ_aload_n hK dX0_take_0 rfl ?_
  refine mJ_iload_n hK dX0_take_1 rfl ?_
  refine mJ_cVi hK dX0_take_2 lX0_25 (by unfold mFit; decide) (by decide) (k_X0_has hR hs hc hn hn8 (nI i)) rfl rfl (Nat.le_of_ble_eq_true rfl) (hR.1 _ _ _ (by unfold xV; omega)) ⟨_, _, rfl⟩ (fun h e9 => ?_)
  subst e9
  refine mJ_ifb_ne (tgt := 9) hK dX0_take_5 (by decide) (fun c_5 => ?_) (fun c_5 => ?_)
  · refine mJ_aload_n hK dX0_take_9 rfl ?_
    refine mJ_dup hK dX0_take_10 rfl ?_
    refine xJ_geti hR hK dX0_take_11 fX0_33 (by unfold xV; omega) (fun _ _ => rfl) (by decide) rfl ?_
    refine mJ_iconst (v := nI 1) hK dX0_take_14 (by decide) ?_
    refine mJ_iadd hK dX0_take_15 ?_
    refine xJ_puti hR hK dX0_take_16 fX0_33 sX0_4 rfl rfl (by unfold xV; omega) (fun _ _ => rfl) (by decide) rfl (fun h hR => ?_)
    refine mJ_aload_n hK dX0_take_19 rfl ?_
    refine mJ_dup hK dX0_take_20 rfl ?_
    refine xJ_getl hR hK dX0_take_21 fX0_36 (by unfold xV; omega) (fun _ _ => rfl) (by decide) (fun _ _ => rfl) ?_
    refine mJ_iload_n hK dX0_take_24 rfl ?_
    refine mJ_aload_n hK dX0_take_25 rfl ?_
    refine xJ_getr hR hK dX0_take_26 fX0_15 (by unfold xV; omega) (fun _ _ => rfl) (by decide) (fun _ _ => rfl) ?_
    refine mJ_iload_n hK dX0_take_29 rfl ?_
    refine xJ_iald i hR hK dX0_take_30 (by unfold xV; omega) (fun _ _ => rfl) rfl (by omega) (by decide) ?_
    refine mJ_isub hK dX0_take_31 ?_
    refine mJ_i2l hK dX0_take_32 ?_
    refine mJ_ladd hK dX0_take_33 ?_
    refine xJ_putl hR hK dX0_take_34 fX0_36 sX0_5 (by unfold xV; omega) (fun _ _ => rfl) (by decide) (fun _ _ => xL_0) (fun h hR => ?_)
    refine mJ_aload_n hK dX0_take_37 rfl ?_
    refine mJ_dup hK dX0_take_38 rfl ?_
    refine xJ_getx (nI n) hR hK dX0_take_39 fX0_21 (by unfold xV; omega) (fun _ _ => rfl) (by decide) rfl (by first | exact hn | (simp [fr, upd]; exact hn)) ?_
    refine mJ_iconst (v := nI 1) hK dX0_take_42 (by decide) ?_
    refine mJ_isubN hK dX0_take_43 (by omega) ?_
    refine xJ_puti hR hK dX0_take_44 fX0_21 sX0_3 rfl rfl (by unfold xV; omega) (fun _ _ => rfl) (by decide) rfl (fun h hR => ?_)
    refine mJ_iload_n hK dX0_take_47 rfl ?_
    refine mJ_istore_n hK dX0_take_48 (by decide) rfl ?_
    refine lp_X0_take hK hs hc hn8 hZ (n + 1) i _ (by omega) (by omega) (by omega) (xR_ext hR (by simp only [fr_s]; exact xTk_0))
  · exact (c_5 ⟨nI_pos' (by omega), nI_lt hi (by omega)⟩).elim
end
section
def xCp (F : xFm) (s t c : Nat) : xFm := fr (fr (fr (fr F 14 s c (va_cpy (F 14 t c) (F 14 s c) 0 0 8)) 15 s c (va_cpy (F 15 t c) (F 15 s c) 0 0 8)) 16 s c (va_cpy (F 16 t c) (F 16 s c) 0 0 8)) 13 s c (upd (upd (F 13 s c) 3 (F 13 t c 3)) 4 (F 13 t c 4))
def xWp (W : xWm) (s t c : Nat) : xWm := fr W 13 s c (vp_updL (W 13 s c) 0 (W 13 t c 0))
def xCpE (F : xFm) (s t e : Nat) : xFm := fun k i j => if i = s ∧ j < e ∧ (k = 14 ∨ k = 15 ∨ k = 16) then va_cpy (F k t j) (F k s j) 0 0 8 else if i = s ∧ j < e ∧ k = 13 then upd (upd (F 13 s j) 3 (F 13 t j 3)) 4 (F 13 t j 4) else F k i j
def xWpE (W : xWm) (s t e : Nat) : xWm := fun k i j => if i = s ∧ j < e ∧ k = 13 then vp_updL (W 13 s j) 0 (W 13 t j 0) else W k i j
theorem xCpE_0 {F : xFm} {s t : Nat} : xCpE F s t 0 = F := by
  funext k i j
  simp [xCpE]
theorem xWpE_0 {W : xWm} {s t : Nat} : xWpE W s t 0 = W := by
  funext k i j
  simp [xWpE]
theorem xCpE_o {F : xFm} {s t e k i j : Nat} (h : ¬ (i = s ∧ j < e)) : xCpE F s t e k i j = F k i j := by
  unfold xCpE
  rw [if_neg (fun z => h ⟨z.1, z.2.1⟩), if_neg (fun z => h ⟨z.1, z.2.1⟩)]
theorem xWpE_o {F : xWm} {s t e k i j : Nat} (h : ¬ (i = s ∧ j < e)) : xWpE F s t e k i j = F k i j := by
  unfold xWpE
  rw [if_neg (fun z => h ⟨z.1, z.2.1⟩)]
theorem xCpE_s {F : xFm} {s t e : Nat} (h : t ≠ s) : xCp (xCpE F s t e) s t e = xCpE F s t (e + 1) := by
  have h1 : ∀ k, xCpE F s t e k t e = F k t e := fun k => xCpE_o (fun z => h z.1)
  have h2 : ∀ k, xCpE F s t e k s e = F k s e := fun k => xCpE_o (fun z => absurd z.2 (Nat.lt_irrefl e))
  funext k i j
  simp only [xCp, h1, h2]
  by_cases e1 : i = s ∧ j = e
  · obtain ⟨rfl, rfl⟩ := e1
    unfold fr xCpE
    by_cases a13 : k = 13
    · subst a13; simp
    · by_cases a14 : k = 14
      · subst a14; simp
      · by_cases a15 : k = 15
        · subst a15; simp
        · by_cases a16 : k = 16
          · subst a16; simp
          · simp [a13, a14, a15, a16]
  · have e2 : ∀ z, ¬ (k = z ∧ i = s ∧ j = e) := fun z q => e1 q.2
    rw [fr_n (e2 13), fr_n (e2 16), fr_n (e2 15), fr_n (e2 14)]
    unfold xCpE
    by_cases e3 : i = s
    · have e4 : j ≠ e := fun q => e1 ⟨e3, q⟩
      have e5 : (j < e + 1) ↔ j < e := by omega
      simp only [e5]
    · simp [e3]
theorem xWpE_s {W : xWm} {s t e : Nat} (h : t ≠ s) : xWp (xWpE W s t e) s t e = xWpE W s t (e + 1) := by
  have h1 : xWpE W s t e 13 t e = W 13 t e := xWpE_o (fun z => h z.1)
  have h2 : xWpE W s t e 13 s e = W 13 s e := xWpE_o (fun z => absurd z.2 (Nat.lt_irrefl e))
  funext k i j
  simp only [xWp, h1, h2]
  by_cases e1 : i = s ∧ j = e
  · obtain ⟨rfl, rfl⟩ := e1
    unfold fr xWpE
    by_cases a13 : k = 13
    · subst a13; simp
    · simp [a13]
  · rw [fr_n (fun q => e1 q.2)]
    unfold xWpE
    by_cases e3 : i = s
    · have e4 : j ≠ e := fun q => e1 ⟨e3, q⟩
      have e5 : (j < e + 1) ↔ j < e := by omega
      simp only [e5]
    · simp [e3]
def qmx (v t k : Nat → Int32) (x : Int64) : Nat → Int64
  | 0 => x
  | i + 1 => 31 * (31 * (31 * qmx v t k x i + (v i).toInt64) + (t i).toInt64) + (k i).toInt64
def tmx (st rp : Nat → Int32) (x : Int64) (t0 : Nat) : Nat → Int64
  | 0 => x
  | i + 1 => if st ((t0 + i) % 24) = nI 1 then 31 * (31 * tmx st rp x t0 i + (st ((t0 + i) % 24)).toInt64) + (rp ((t0 + i) % 24)).toInt64 else 31 * tmx st rp x t0 i + (st ((t0 + i) % 24)).toInt64
def msm (f : Nat → Int32) : Nat → Int32
  | 0 => nI 0
  | c + 1 => msm f c + f c
theorem kn_of {a g : Nat} {x : Int32} (h : nI a ≤ x ∧ x < nI g) (ha : a < 2 ^ 31) (hg : g < 2 ^ 31) : ∃ t : Nat, a ≤ t ∧ t < g ∧ x = nI t := by
  have h0 : ¬ x < 0 := fun z => absurd (Int32.le_trans (nI_pos' ha) h.1) (Int32.not_le.mpr z)
  obtain ⟨t, h1, rfl⟩ := nI_of h0
  exact ⟨t, (nI_leI ha h1).mp h.1, (nI_ltI h1 hg).mp h.2, rfl⟩
set_option maxRecDepth 100000 in
set_option maxHeartbeats 4000000 in
theorem k_X0_copyFrom {l : Launch} {D : va_G} {aC : Nat → ClassId} {ad : xAd} {h0 h : mH} {F : xFm} {W : xWm} {pm : Nat → Nat} (hR : xR xV ad h0 F W pm h) {s t : Nat} (hs : s < 2) (ht : t < 2) (hst : t ≠ s) {c : Nat} (hc : c < 8) : mCon l D aC mX0_copyFrom [.ref (ad 13 s c), .ref (ad 13 t c)] h (mRv (fun h' => xR xV ad h0 (xCp F s t c) (xWp W s t c) pm h')) := by
  refine mCon.of [some (.ref (ad 13 s c)), some (.ref (ad 13 t c))] (by decide +kernel) rfl (Nat.le_of_ble_eq_true rfl) ?_
  intro K el eD eC hK hZ
  subst el eD eC
  refine mJ_aload_n hK dX0_copyFrom_0 rfl ?_
  refine xJ_getr hR hK dX0_copyFrom_1 fX0_9 (by unfold xV; omega) (fun _ _ => rfl) (by decide) (fun _ _ => rfl) ?_
  refine mJ_iconst (v := 0) hK dX0_copyFrom_4 (by decide) ?_
  refine mJ_aload_n hK dX0_copyFrom_5 rfl ?_
  refine xJ_getr hR hK dX0_copyFrom_6 fX0_9 (by unfold xV; omega) (fun _ _ => rfl) (by decide) (fun _ _ => rfl) ?_
  refine mJ_iconst (v := 0) hK dX0_copyFrom_9 (by decide) ?_
  refine mJ_bipush (v := nI 8) hK dX0_copyFrom_10 (by decide) ?_
  refine xJ_copy hR hK dX0_copyFrom_12 lX0_40 (by unfold xV; omega) (by unfold xV; omega) (fun _ _ => rfl) (fun _ _ => rfl) rfl (by decide) (by decide) (by decide) (by decide) (Nat.le_of_ble_eq_true rfl) (fun h hR => ?_)
  refine mJ_aload_n hK dX0_copyFrom_15 rfl ?_
  refine xJ_getr hR hK dX0_copyFrom_16 fX0_15 (by unfold xV; omega) (fun _ _ => rfl) (by decide) (fun _ _ => rfl) ?_
  refine mJ_iconst (v := 0) hK dX0_copyFrom_19 (by decide) ?_
  refine mJ_aload_n hK dX0_copyFrom_20 rfl ?_
  refine xJ_getr hR hK dX0_copyFrom_21 fX0_15 (by unfold xV; omega) (fun _ _ => rfl) (by decide) (fun _ _ => rfl) ?_
  refine mJ_iconst (v := 0) hK dX0_copyFrom_24 (by decide) ?_
  refine mJ_bipush (v := nI 8) hK dX0_copyFrom_25 (by decide) ?_
  refine xJ_copy hR hK dX0_copyFrom_27 lX0_40 (by unfold xV; omega) (by unfold xV; omega) (fun _ _ => rfl) (fun _ _ => rfl) rfl (by decide) (by decide) (by decide) (by decide) (Nat.le_of_ble_eq_true rfl) (fun h hR => ?_)
  refine mJ_aload_n hK dX0_copyFrom_30 rfl ?_
  refine xJ_getr hR hK dX0_copyFrom_31 fX0_18 (by unfold xV; omega) (fun _ _ => rfl) (by decide) (fun _ _ => rfl) ?_
  refine mJ_iconst (v := 0) hK dX0_copyFrom_34 (by decide) ?_
  refine mJ_aload_n hK dX0_copyFrom_35 rfl ?_
  refine xJ_getr hR hK dX0_copyFrom_36 fX0_18 (by unfold xV; omega) (fun _ _ => rfl) (by decide) (fun _ _ => rfl) ?_
  refine mJ_iconst (v := 0) hK dX0_copyFrom_39 (by decide) ?_
  refine mJ_bipush (v := nI 8) hK dX0_copyFrom_40 (by decide) ?_
  refine xJ_copy hR hK dX0_copyFrom_42 lX0_40 (by unfold xV; omega) (by unfold xV; omega) (fun _ _ => rfl) (fun _ _ => rfl) rfl (by decide) (by decide) (by decide) (by decide) (Nat.le_of_ble_eq_true rfl) (fun h hR => ?_)
  refine mJ_aload_n hK dX0_copyFrom_45 rfl ?_
  refine mJ_aload_n hK dX0_copyFrom_46 rfl ?_
  refine xJ_geti hR hK dX0_copyFrom_47 fX0_21 (by unfold xV; omega) (fun _ _ => rfl) (by decide) rfl ?_
  refine xJ_puti hR hK dX0_copyFrom_50 fX0_21 sX0_3 rfl rfl (by unfold xV; omega) (fun _ _ => rfl) (by decide) rfl (fun h hR => ?_)
  refine mJ_aload_n hK dX0_copyFrom_53 rfl ?_
  refine mJ_aload_n hK dX0_copyFrom_54 rfl ?_
  refine xJ_geti hR hK dX0_copyFrom_55 fX0_33 (by unfold xV; omega) (fun _ _ => rfl) (by decide) rfl ?_
  refine xJ_puti hR hK dX0_copyFrom_58 fX0_33 sX0_4 rfl rfl (by unfold xV; omega) (fun _ _ => rfl) (by decide) rfl (fun h hR => ?_)
  refine mJ_aload_n hK dX0_copyFrom_61 rfl ?_
  refine mJ_aload_n hK dX0_copyFrom_62 rfl ?_
  refine xJ_getl hR hK dX0_copyFrom_63 fX0_36 (by unfold xV; omega) (fun _ _ => rfl) (by decide) (fun _ _ => rfl) ?_
  refine xJ_putl hR hK dX0_copyFrom_66 fX0_36 sX0_5 (by unfold xV; omega) (fun _ _ => rfl) (by decide) (fun _ _ => xL_0) (fun h hR => ?_)
  refine mJ_vret hK dX0_copyFrom_69 rfl hZ (by decide) (by decide) ?_
  refine ⟨rfl, xR_ext2 hR ?_ rfl⟩
  have e9 : ∀ k (g : Nat → Int32) (G : xFm), fr G k s c g k t c = G k t c := fun k g G => fr_n (fun z => hst z.2.1)
  simp only [e9, fr_s]
  simp only [xCp]
  funext k i j
  by_cases e1 : k = 13 ∧ i = s ∧ j = c
  · obtain ⟨rfl, rfl, rfl⟩ := e1
    simp only [fr_s]
    rfl
  · rw [fr_n e1, fr_n e1, fr_n e1]
    rfl

set_option maxRecDepth 100000 in
set_option maxHeartbeats 4000000 in
theorem lp_X0_mixMessages {K : mK} (hK : mCx K mX0_mixMessages) {ad : xAd} {h0 : mH} {F : xFm} {W : xWm} {pm : Nat → Nat} {s c : Nat} (hs : s < 2) (hc : c < 8) {n : Nat} (hn : F 13 s c 3 = nI n) (hn8 : n ≤ 8) {x : Int64} {h9 : mH} (hZ : mRt K mX0_mixMessages (mRl (qmx (F 14 s c) (F 15 s c) (F 16 s c) (31 * x + (nI n).toInt64) n) (fun h' => h' = h9))) : ∀ (m : Nat) (i : Nat) (h : mH), n - i < m → i ≤ n → h = h9 → xR xV ad h0 F W pm h → mJ K 0 0 13 [some (.ref (ad 13 s c)), some (.long x), none, some (.long (qmx (F 14 s c) (F 15 s c) (F 16 s c) (31 * x + (nI n).toInt64) i)), none, some (.int (nI i))] [] h := by
  intro m
  induction m with
  | zero =>
    intro i h hm0
    exact absurd hm0 (by omega)
  | succ m ih =>
    intro i h hm0 hi eh hR
    refine mJ_iload hK dX0_mixMessages_13 rfl ?_
    refine mJ_aload_n hK dX0_mixMessages_15 rfl ?_
    refine xJ_getx (nI n) hR hK dX0_mixMessages_16 fX0_21 (by unfold xV; omega) (fun _ _ => rfl) (by decide) rfl (by first | exact hn | (simp [fr, upd]; exact hn)) ?_
    refine mJ_nge (tgt := 67) hK dX0_mixMessages_19 (by decide) (by omega) (by omega) (fun c_19 => ?_) (fun c_19 => ?_)
    · refine mJ_lload_n hK dX0_mixMessages_67 rfl ?_
      refine mJ_lret hK dX0_mixMessages_68 rfl hZ (by decide) (by decide) ?_
      have : i = n := by omega
      subst this
      exact ⟨rfl, eh⟩
    · refine mJ_lload_n hK dX0_mixMessages_22 rfl ?_
      refine mJ_aload_n hK dX0_mixMessages_23 rfl ?_
      refine xJ_getr hR hK dX0_mixMessages_24 fX0_9 (by unfold xV; omega) (fun _ _ => rfl) (by decide) (fun _ _ => rfl) ?_
      refine mJ_iload hK dX0_mixMessages_27 rfl ?_
      refine xJ_iald i hR hK dX0_mixMessages_29 (by unfold xV; omega) (fun _ _ => rfl) rfl (by omega) (by decide) ?_
      refine mJ_i2l hK dX0_mixMessages_30 ?_
      refine mJ_cNl hK dX0_mixMessages_31 lX0_46 (by unfold mFit; decide) (by decide) (k_X5_mix _ _) rfl rfl (Nat.le_of_ble_eq_true rfl) (fun h e9 => ?_)
      subst e9
      refine mJ_lstore_n hK dX0_mixMessages_34 (by decide) rfl ?_
      refine mJ_lload_n hK dX0_mixMessages_35 rfl ?_
      refine mJ_aload_n hK dX0_mixMessages_36 rfl ?_
      refine xJ_getr hR hK dX0_mixMessages_37 fX0_15 (by unfold xV; omega) (fun _ _ => rfl) (by decide) (fun _ _ => rfl) ?_
      refine mJ_iload hK dX0_mixMessages_40 rfl ?_
      refine xJ_iald i hR hK dX0_mixMessages_42 (by unfold xV; omega) (fun _ _ => rfl) rfl (by omega) (by decide) ?_
      refine mJ_i2l hK dX0_mixMessages_43 ?_
      refine mJ_cNl hK dX0_mixMessages_44 lX0_46 (by unfold mFit; decide) (by decide) (k_X5_mix _ _) rfl rfl (Nat.le_of_ble_eq_true rfl) (fun h e9 => ?_)
      subst e9
      refine mJ_lstore_n hK dX0_mixMessages_47 (by decide) rfl ?_
      refine mJ_lload_n hK dX0_mixMessages_48 rfl ?_
      refine mJ_aload_n hK dX0_mixMessages_49 rfl ?_
      refine xJ_getr hR hK dX0_mixMessages_50 fX0_18 (by unfold xV; omega) (fun _ _ => rfl) (by decide) (fun _ _ => rfl) ?_
      refine mJ_iload hK dX0_mixMessages_53 rfl ?_
      refine xJ_iald i hR hK dX0_mixMessages_55 (by unfold xV; omega) (fun _ _ => rfl) rfl (by omega) (by decide) ?_
      refine mJ_i2l hK dX0_mixMessages_56 ?_
      refine mJ_cNl hK dX0_mixMessages_57 lX0_46 (by unfold mFit; decide) (by decide) (k_X5_mix _ _) rfl rfl (Nat.le_of_ble_eq_true rfl) (fun h e9 => ?_)
      subst e9
      refine mJ_lstore_n hK dX0_mixMessages_60 (by decide) rfl ?_
      refine mJ_iincN hK dX0_mixMessages_61 rfl rfl (by decide) rfl ?_
      refine mJ_goto (tgt := 13) hK dX0_mixMessages_64 (by decide) ?_
      exact ih (i + 1) _ (by omega) (by omega) eh hR

set_option maxRecDepth 100000 in
set_option maxHeartbeats 4000000 in
theorem k_X0_mixMessages {l : Launch} {D : va_G} {aC : Nat → ClassId} {ad : xAd} {h0 h : mH} {F : xFm} {W : xWm} {pm : Nat → Nat} (hR : xR xV ad h0 F W pm h) {s c : Nat} (hs : s < 2) (hc : c < 8) {n : Nat} (hn : F 13 s c 3 = nI n) (hn8 : n ≤ 8) (x : Int64) : mCon l D aC mX0_mixMessages [.ref (ad 13 s c), .long x] h (mRl (qmx (F 14 s c) (F 15 s c) (F 16 s c) (31 * x + (nI n).toInt64) n) (fun h' => h' = h)) := by
  refine mCon.of [some (.ref (ad 13 s c)), some (.long x), none, none, none, none] (by decide +kernel) rfl (Nat.le_of_ble_eq_true rfl) ?_
  intro K el eD eC hK hZ
  subst el eD eC
  refine mJ_lload_n hK dX0_mixMessages_0 rfl ?_
  refine mJ_aload_n hK dX0_mixMessages_1 rfl ?_
  refine xJ_getx (nI n) hR hK dX0_mixMessages_2 fX0_21 (by unfold xV; omega) (fun _ _ => rfl) (by decide) rfl (by first | exact hn | (simp [fr, upd]; exact hn)) ?_
  refine mJ_i2l hK dX0_mixMessages_5 ?_
  refine mJ_cNl hK dX0_mixMessages_6 lX0_46 (by unfold mFit; decide) (by decide) (k_X5_mix _ _) rfl rfl (Nat.le_of_ble_eq_true rfl) (fun h e9 => ?_)
  subst e9
  refine mJ_lstore_n hK dX0_mixMessages_9 (by decide) rfl ?_
  refine mJ_iconst (v := nI 0) hK dX0_mixMessages_10 (by decide) ?_
  refine mJ_istore hK dX0_mixMessages_11 (by decide) rfl ?_
  exact lp_X0_mixMessages hK hs hc hn hn8 hZ (n + 1) 0 _ (by omega) (by omega) rfl hR

def xGv (F : xFm) (s g : Nat) : xFm := fr (fr (fr F 9 s 0 (upd (F 9 s 0) 2 (nI (g + 1)))) 10 s 0 (upd (F 10 s 0) (g % 24) (nI 0))) 11 s 0 (upd (F 11 s 0) (g % 24) (nI 0))
def xSt (F : xFm) (s g : Nat) (x a r : Int32) : xFm := if nI (g - 24) ≤ x ∧ x < nI g then fr (fr F 10 s 0 (upd (F 10 s 0) (x.toNatClampNeg % 24) a)) 11 s 0 (upd (F 11 s 0) (x.toNatClampNeg % 24) r) else F
set_option maxRecDepth 100000 in
set_option maxHeartbeats 4000000 in
theorem k_X4_give {l : Launch} {D : va_G} {aC : Nat → ClassId} {ad : xAd} {h0 h : mH} {F : xFm} {W : xWm} {pm : Nat → Nat} (hR : xR xV ad h0 F W pm h) {s : Nat} (hs : s < 2) {g : Nat} (hg : F 9 s 0 2 = nI g) (hgb : g < 1000000) : mCon l D aC mX4_give [.ref (ad 9 s 0)] h (mRi (nI g) (fun h' => xR xV ad h0 (xGv F s g) W pm h')) := by
  refine mCon.of [some (.ref (ad 9 s 0)), none] (by decide +kernel) rfl (Nat.le_of_ble_eq_true rfl) ?_
  intro K el eD eC hK hZ
  subst el eD eC
  refine mJ_aload_n hK dX4_give_0 rfl ?_
  refine xJ_getx (nI g) hR hK dX4_give_1 fX4_18 (by unfold xV; omega) (fun _ _ => rfl) (by decide) rfl (by first | exact hg | (simp [fr, upd]; exact hg)) ?_
  refine mJ_istore_n hK dX4_give_4 (by decide) rfl ?_
  refine mJ_aload_n hK dX4_give_5 rfl ?_
  refine mJ_dup hK dX4_give_6 rfl ?_
  refine xJ_getx (nI g) hR hK dX4_give_7 fX4_18 (by unfold xV; omega) (fun _ _ => rfl) (by decide) rfl (by first | exact hg | (simp [fr, upd]; exact hg)) ?_
  refine mJ_iconst (v := nI 1) hK dX4_give_10 (by decide) ?_
  refine mJ_iaddN hK dX4_give_11 ?_
  refine xJ_puti hR hK dX4_give_12 fX4_18 sX4_2 rfl rfl (by unfold xV; omega) (fun _ _ => rfl) (by decide) rfl (fun h hR => ?_)
  refine mJ_aload_n hK dX4_give_15 rfl ?_
  refine xJ_getr hR hK dX4_give_16 fX4_9 (by unfold xV; omega) (fun _ _ => rfl) (by decide) (fun _ _ => rfl) ?_
  refine mJ_iload_n hK dX4_give_19 rfl ?_
  refine mJ_bipush (v := nI 24) hK dX4_give_20 (by decide) ?_
  refine mJ_iremN hK dX4_give_22 (by omega) (by omega) (by omega) ?_
  refine mJ_iconst (v := nI 0) hK dX4_give_23 (by decide) ?_
  refine xJ_iast (g % 24) hR hK dX4_give_24 (by unfold xV; omega) (fun _ _ => rfl) rfl (by omega) (by decide) (fun h hR => ?_)
  refine mJ_aload_n hK dX4_give_25 rfl ?_
  refine xJ_getr hR hK dX4_give_26 fX4_15 (by unfold xV; omega) (fun _ _ => rfl) (by decide) (fun _ _ => rfl) ?_
  refine mJ_iload_n hK dX4_give_29 rfl ?_
  refine mJ_bipush (v := nI 24) hK dX4_give_30 (by decide) ?_
  refine mJ_iremN hK dX4_give_32 (by omega) (by omega) (by omega) ?_
  refine mJ_iconst (v := nI 0) hK dX4_give_33 (by decide) ?_
  refine xJ_iast (g % 24) hR hK dX4_give_34 (by unfold xV; omega) (fun _ _ => rfl) rfl (by omega) (by decide) (fun h hR => ?_)
  refine mJ_iload_n hK dX4_give_35 rfl ?_
  refine mJ_iret hK dX4_give_36 rfl hZ (by decide) (by decide) ?_
  exact ⟨rfl, hR⟩

set_option maxRecDepth 100000 in
set_option maxHeartbeats 4000000 in
theorem k_X4_firstKnown {l : Launch} {D : va_G} {aC : Nat → ClassId} {ad : xAd} {h0 h : mH} {F : xFm} {W : xWm} {pm : Nat → Nat} (hR : xR xV ad h0 F W pm h) {s : Nat} (hs : s < 2) {g : Nat} (hg : F 9 s 0 2 = nI g) (hgb : g < 1000000) : mCon l D aC mX4_firstKnown [.ref (ad 9 s 0)] h (mRi (nI (g - 24)) (fun h' => h' = h)) := by
  refine mCon.of [some (.ref (ad 9 s 0))] (by decide +kernel) rfl (Nat.le_of_ble_eq_true rfl) ?_
  intro K el eD eC hK hZ
  subst el eD eC
  refine mJ_aload_n hK dX4_firstKnown_0 rfl ?_
  refine xJ_getx (nI g) hR hK dX4_firstKnown_1 fX4_18 (by unfold xV; omega) (fun _ _ => rfl) (by decide) rfl (by first | exact hg | (simp [fr, upd]; exact hg)) ?_
  refine mJ_bipush (v := nI 24) hK dX4_firstKnown_4 (by decide) ?_
  refine mJ_nle (tgt := 19) hK dX4_firstKnown_6 (by decide) (by omega) (by omega) (fun c_6 => ?_) (fun c_6 => ?_)
  · refine mJ_iconst (v := nI 0) hK dX4_firstKnown_19 (by decide) ?_
    refine mJ_iret hK dX4_firstKnown_20 rfl hZ (by decide) (by decide) ?_
    first | exact ⟨rfl, rfl⟩ | exact ⟨by rw [Nat.sub_eq_zero_of_le (by omega)], rfl⟩
  · refine mJ_aload_n hK dX4_firstKnown_9 rfl ?_
    refine xJ_getx (nI g) hR hK dX4_firstKnown_10 fX4_18 (by unfold xV; omega) (fun _ _ => rfl) (by decide) rfl (by first | exact hg | (simp [fr, upd]; exact hg)) ?_
    refine mJ_bipush (v := nI 24) hK dX4_firstKnown_13 (by decide) ?_
    refine mJ_isubN hK dX4_firstKnown_15 (by omega) ?_
    refine mJ_goto (tgt := 20) hK dX4_firstKnown_16 (by decide) ?_
    refine mJ_iret hK dX4_firstKnown_20 rfl hZ (by decide) (by decide) ?_
    first | exact ⟨rfl, rfl⟩ | exact ⟨by rw [Nat.sub_eq_zero_of_le (by omega)], rfl⟩

set_option maxRecDepth 100000 in
set_option maxHeartbeats 4000000 in
theorem k_X4_knows {l : Launch} {D : va_G} {aC : Nat → ClassId} {ad : xAd} {h0 h : mH} {F : xFm} {W : xWm} {pm : Nat → Nat} (hR : xR xV ad h0 F W pm h) {s : Nat} (hs : s < 2) {g : Nat} (hg : F 9 s 0 2 = nI g) (hgb : g < 1000000) (x : Int32) : mCon l D aC mX4_knows [.ref (ad 9 s 0), .int x] h (mRi (bI (nI (g - 24) ≤ x ∧ x < nI g)) (fun h' => h' = h)) := by
  refine mCon.of [some (.ref (ad 9 s 0)), some (.int x)] (by decide +kernel) rfl (Nat.le_of_ble_eq_true rfl) ?_
  intro K el eD eC hK hZ
  subst el eD eC
  refine mJ_iload_n hK dX4_knows_0 rfl ?_
  refine mJ_aload_n hK dX4_knows_1 rfl ?_
  refine mJ_cVi hK dX4_knows_2 lX4_22 (by unfold mFit; decide) (by decide) (k_X4_firstKnown hR hs hg hgb) rfl rfl (Nat.le_of_ble_eq_true rfl) (hR.1 _ _ _ (by unfold xV; omega)) ⟨_, _, rfl⟩ (fun h e9 => ?_)
  subst e9
  refine mJ_icmp_lt (tgt := 20) hK dX4_knows_5 (by decide) (fun c_5 => ?_) (fun c_5 => ?_)
  · refine mJ_iconst (v := nI 0) hK dX4_knows_20 (by decide) ?_
    refine mJ_zret hK dX4_knows_21 rfl (by decide) hZ (by decide) (by decide) ?_
    first | exact ⟨congrArg (fun z => some (Value.int z)) (b0 (by simp only [Int32.le_iff_toInt_le, Int32.lt_iff_toInt_lt] at *; omega)), rfl⟩ | exact ⟨congrArg (fun z => some (Value.int z)) (b1 (by simp only [Int32.le_iff_toInt_le, Int32.lt_iff_toInt_lt] at *; omega)), rfl⟩
  · refine mJ_iload_n hK dX4_knows_8 rfl ?_
    refine mJ_aload_n hK dX4_knows_9 rfl ?_
    refine xJ_getx (nI g) hR hK dX4_knows_10 fX4_18 (by unfold xV; omega) (fun _ _ => rfl) (by decide) rfl (by first | exact hg | (simp [fr, upd]; exact hg)) ?_
    refine mJ_icmp_ge (tgt := 20) hK dX4_knows_13 (by decide) (fun c_13 => ?_) (fun c_13 => ?_)
    · refine mJ_iconst (v := nI 0) hK dX4_knows_20 (by decide) ?_
      refine mJ_zret hK dX4_knows_21 rfl (by decide) hZ (by decide) (by decide) ?_
      first | exact ⟨congrArg (fun z => some (Value.int z)) (b0 (by simp only [Int32.le_iff_toInt_le, Int32.lt_iff_toInt_lt] at *; omega)), rfl⟩ | exact ⟨congrArg (fun z => some (Value.int z)) (b1 (by simp only [Int32.le_iff_toInt_le, Int32.lt_iff_toInt_lt] at *; omega)), rfl⟩
    · refine mJ_iconst (v := nI 1) hK dX4_knows_16 (by decide) ?_
      refine mJ_goto (tgt := 21) hK dX4_knows_17 (by decide) ?_
      refine mJ_zret hK dX4_knows_21 rfl (by decide) hZ (by decide) (by decide) ?_
      first | exact ⟨congrArg (fun z => some (Value.int z)) (b0 (by simp only [Int32.le_iff_toInt_le, Int32.lt_iff_toInt_lt] at *; omega)), rfl⟩ | exact ⟨congrArg (fun z => some (Value.int z)) (b1 (by simp only [Int32.le_iff_toInt_le, Int32.lt_iff_toInt_lt] at *; omega)), rfl⟩

set_option maxRecDepth 100000 in
set_option maxHeartbeats 4000000 in
theorem k_X4_stateOf {l : Launch} {D : va_G} {aC : Nat → ClassId} {ad : xAd} {h0 h : mH} {F : xFm} {W : xWm} {pm : Nat → Nat} (hR : xR xV ad h0 F W pm h) {s : Nat} (hs : s < 2) {g : Nat} (hg : F 9 s 0 2 = nI g) (hgb : g < 1000000) {t : Nat} (ht1 : g - 24 ≤ t) (ht2 : t < g) : mCon l D aC mX4_stateOf [.ref (ad 9 s 0), .int (nI t)] h (mRi (F 10 s 0 (t % 24)) (fun h' => h' = h)) := by
  refine mCon.of [some (.ref (ad 9 s 0)), some (.int (nI t))] (by decide +kernel) rfl (Nat.le_of_ble_eq_true rfl) ?_
  intro K el eD eC hK hZ
  subst el eD eC
  refine mJ_aload_n hK dX4_stateOf_0 rfl ?_
  refine mJ_iload_n hK dX4_stateOf_1 rfl ?_
  refine mJ_cVi hK dX4_stateOf_2 lX4_26 (by unfold mFit; decide) (by decide) (k_X4_knows hR hs hg hgb _) rfl rfl (Nat.le_of_ble_eq_true rfl) (hR.1 _ _ _ (by unfold xV; omega)) ⟨_, _, rfl⟩ (fun h e9 => ?_)
  subst e9
  refine mJ_ifb_eq (tgt := 20) hK dX4_stateOf_5 (by decide) (fun c_5 => ?_) (fun c_5 => ?_)
  · exact (c_5 ⟨nI_le ht1 (by omega), nI_lt ht2 (by omega)⟩).elim
  · refine mJ_aload_n hK dX4_stateOf_8 rfl ?_
    refine xJ_getr hR hK dX4_stateOf_9 fX4_9 (by unfold xV; omega) (fun _ _ => rfl) (by decide) (fun _ _ => rfl) ?_
    refine mJ_iload_n hK dX4_stateOf_12 rfl ?_
    refine mJ_bipush (v := nI 24) hK dX4_stateOf_13 (by decide) ?_
    refine mJ_iremN hK dX4_stateOf_15 (by omega) (by omega) (by omega) ?_
    refine xJ_iald (t % 24) hR hK dX4_stateOf_16 (by unfold xV; omega) (fun _ _ => rfl) rfl (by omega) (by decide) ?_
    refine mJ_goto (tgt := 21) hK dX4_stateOf_17 (by decide) ?_
    refine mJ_iret hK dX4_stateOf_21 rfl hZ (by decide) (by decide) ?_
    exact ⟨rfl, rfl⟩

set_option maxRecDepth 100000 in
set_option maxHeartbeats 4000000 in
theorem k_X4_answerTo {l : Launch} {D : va_G} {aC : Nat → ClassId} {ad : xAd} {h0 h : mH} {F : xFm} {W : xWm} {pm : Nat → Nat} (hR : xR xV ad h0 F W pm h) {s : Nat} (hs : s < 2) {g : Nat} (hg : F 9 s 0 2 = nI g) (hgb : g < 1000000) {t : Nat} (ht1 : g - 24 ≤ t) (ht2 : t < g) : mCon l D aC mX4_answerTo [.ref (ad 9 s 0), .int (nI t)] h (mRi (F 11 s 0 (t % 24)) (fun h' => h' = h)) := by
  refine mCon.of [some (.ref (ad 9 s 0)), some (.int (nI t))] (by decide +kernel) rfl (Nat.le_of_ble_eq_true rfl) ?_
  intro K el eD eC hK hZ
  subst el eD eC
  refine mJ_aload_n hK dX4_answerTo_0 rfl ?_
  refine mJ_iload_n hK dX4_answerTo_1 rfl ?_
  refine mJ_cVi hK dX4_answerTo_2 lX4_26 (by unfold mFit; decide) (by decide) (k_X4_knows hR hs hg hgb _) rfl rfl (Nat.le_of_ble_eq_true rfl) (hR.1 _ _ _ (by unfold xV; omega)) ⟨_, _, rfl⟩ (fun h e9 => ?_)
  subst e9
  refine mJ_ifb_eq (tgt := 20) hK dX4_answerTo_5 (by decide) (fun c_5 => ?_) (fun c_5 => ?_)
  · exact (c_5 ⟨nI_le ht1 (by omega), nI_lt ht2 (by omega)⟩).elim
  · refine mJ_aload_n hK dX4_answerTo_8 rfl ?_
    refine xJ_getr hR hK dX4_answerTo_9 fX4_15 (by unfold xV; omega) (fun _ _ => rfl) (by decide) (fun _ _ => rfl) ?_
    refine mJ_iload_n hK dX4_answerTo_12 rfl ?_
    refine mJ_bipush (v := nI 24) hK dX4_answerTo_13 (by decide) ?_
    refine mJ_iremN hK dX4_answerTo_15 (by omega) (by omega) (by omega) ?_
    refine xJ_iald (t % 24) hR hK dX4_answerTo_16 (by unfold xV; omega) (fun _ _ => rfl) rfl (by omega) (by decide) ?_
    refine mJ_goto (tgt := 21) hK dX4_answerTo_17 (by decide) ?_
    refine mJ_iret hK dX4_answerTo_21 rfl hZ (by decide) (by decide) ?_
    exact ⟨rfl, rfl⟩

set_option maxRecDepth 100000 in
set_option maxHeartbeats 4000000 in
theorem k_X4_settle {l : Launch} {D : va_G} {aC : Nat → ClassId} {ad : xAd} {h0 h : mH} {F : xFm} {W : xWm} {pm : Nat → Nat} (hR : xR xV ad h0 F W pm h) {s : Nat} (hs : s < 2) {g : Nat} (hg : F 9 s 0 2 = nI g) (hgb : g < 1000000) (x a r : Int32) : mCon l D aC mX4_settle [.ref (ad 9 s 0), .int x, .int a, .int r] h (mRv (fun h' => xR xV ad h0 (xSt F s g x a r) W pm h')) := by
  refine mCon.of [some (.ref (ad 9 s 0)), some (.int x), some (.int a), some (.int r)] (by decide +kernel) rfl (Nat.le_of_ble_eq_true rfl) ?_
  intro K el eD eC hK hZ
  subst el eD eC
  refine mJ_aload_n hK dX4_settle_0 rfl ?_
  refine mJ_iload_n hK dX4_settle_1 rfl ?_
  refine mJ_cVi hK dX4_settle_2 lX4_26 (by unfold mFit; decide) (by decide) (k_X4_knows hR hs hg hgb _) rfl rfl (Nat.le_of_ble_eq_true rfl) (hR.1 _ _ _ (by unfold xV; omega)) ⟨_, _, rfl⟩ (fun h e9 => ?_)
  subst e9
  refine mJ_ifb_eq (tgt := 28) hK dX4_settle_5 (by decide) (fun c_5 => ?_) (fun c_5 => ?_)
  · refine mJ_vret hK dX4_settle_28 rfl hZ (by decide) (by decide) ?_
    first | (refine ⟨rfl, xR_ext hR ?_⟩; unfold xSt; rw [if_neg c_5]) | (refine ⟨rfl, xR_ext hR ?_⟩; unfold xSt; rw [if_pos c_5, nI_clamp (by omega)]; rfl)
  · obtain ⟨t, ht1, ht2, rfl⟩ := kn_of c_5 (by omega) (by omega)
    refine mJ_aload_n hK dX4_settle_8 rfl ?_
    refine xJ_getr hR hK dX4_settle_9 fX4_9 (by unfold xV; omega) (fun _ _ => rfl) (by decide) (fun _ _ => rfl) ?_
    refine mJ_iload_n hK dX4_settle_12 rfl ?_
    refine mJ_bipush (v := nI 24) hK dX4_settle_13 (by decide) ?_
    refine mJ_iremN hK dX4_settle_15 (by omega) (by omega) (by omega) ?_
    refine mJ_iload_n hK dX4_settle_16 rfl ?_
    refine xJ_iast (t % 24) hR hK dX4_settle_17 (by unfold xV; omega) (fun _ _ => rfl) rfl (by omega) (by decide) (fun h hR => ?_)
    refine mJ_aload_n hK dX4_settle_18 rfl ?_
    refine xJ_getr hR hK dX4_settle_19 fX4_15 (by unfold xV; omega) (fun _ _ => rfl) (by decide) (fun _ _ => rfl) ?_
    refine mJ_iload_n hK dX4_settle_22 rfl ?_
    refine mJ_bipush (v := nI 24) hK dX4_settle_23 (by decide) ?_
    refine mJ_iremN hK dX4_settle_25 (by omega) (by omega) (by omega) ?_
    refine mJ_iload_n hK dX4_settle_26 rfl ?_
    refine xJ_iast (t % 24) hR hK dX4_settle_27 (by unfold xV; omega) (fun _ _ => rfl) rfl (by omega) (by decide) (fun h hR => ?_)
    refine mJ_vret hK dX4_settle_28 rfl hZ (by decide) (by decide) ?_
    first | (refine ⟨rfl, xR_ext hR ?_⟩; unfold xSt; rw [if_neg c_5]) | (refine ⟨rfl, xR_ext hR ?_⟩; unfold xSt; rw [if_pos c_5, nI_clamp (by omega)]; rfl)

set_option maxRecDepth 100000 in
set_option maxHeartbeats 4000000 in
theorem lp_X4_mixTickets {K : mK} (hK : mCx K mX4_mixTickets) {ad : xAd} {h0 : mH} {F : xFm} {W : xWm} {pm : Nat → Nat} {s : Nat} (hs : s < 2) {g : Nat} (hg : F 9 s 0 2 = nI g) (hgb : g < 1000000) {x : Int64} {h9 : mH} (hZ : mRt K mX4_mixTickets (mRl (tmx (F 10 s 0) (F 11 s 0) (31 * x + (nI g).toInt64) (g - 24) (g - (g - 24))) (fun h' => h' = h9))) : ∀ (m : Nat) (i : Nat) (h : mH), g - i < m → i ≤ g - (g - 24) → h = h9 → xR xV ad h0 F W pm h → mJ K 0 0 16 [some (.ref (ad 9 s 0)), some (.long x), none, some (.long (tmx (F 10 s 0) (F 11 s 0) (31 * x + (nI g).toInt64) (g - 24) i)), none, some (.int (nI (g - 24 + i)))] [] h := by
  intro m
  induction m with
  | zero =>
    intro i h hm0
    exact absurd hm0 (by omega)
  | succ m ih =>
    intro i h hm0 hi eh hR
    refine mJ_iload hK dX4_mixTickets_16 rfl ?_
    refine mJ_aload_n hK dX4_mixTickets_18 rfl ?_
    refine xJ_getx (nI g) hR hK dX4_mixTickets_19 fX4_18 (by unfold xV; omega) (fun _ _ => rfl) (by decide) rfl (by first | exact hg | (simp [fr, upd]; exact hg)) ?_
    refine mJ_nge (tgt := 65) hK dX4_mixTickets_22 (by decide) (by omega) (by omega) (fun c_22 => ?_) (fun c_22 => ?_)
    · refine mJ_lload_n hK dX4_mixTickets_65 rfl ?_
      refine mJ_lret hK dX4_mixTickets_66 rfl hZ (by decide) (by decide) ?_
      have : i = g - (g - 24) := by omega
      subst this
      exact ⟨rfl, eh⟩
    · refine mJ_lload_n hK dX4_mixTickets_25 rfl ?_
      refine mJ_aload_n hK dX4_mixTickets_26 rfl ?_
      refine mJ_iload hK dX4_mixTickets_27 rfl ?_
      refine mJ_cVi hK dX4_mixTickets_29 lX4_40 (by unfold mFit; decide) (by decide) (k_X4_stateOf hR hs hg hgb (t := g - 24 + i) (by omega) (by omega)) rfl rfl (Nat.le_of_ble_eq_true rfl) (hR.1 _ _ _ (by unfold xV; omega)) ⟨_, _, rfl⟩ (fun h e9 => ?_)
      subst e9
      refine mJ_i2l hK dX4_mixTickets_32 ?_
      refine mJ_cNl hK dX4_mixTickets_33 lX4_36 (by unfold mFit; decide) (by decide) (k_X5_mix _ _) rfl rfl (Nat.le_of_ble_eq_true rfl) (fun h e9 => ?_)
      subst e9
      refine mJ_lstore_n hK dX4_mixTickets_36 (by decide) rfl ?_
      refine mJ_aload_n hK dX4_mixTickets_37 rfl ?_
      refine mJ_iload hK dX4_mixTickets_38 rfl ?_
      refine mJ_cVi hK dX4_mixTickets_40 lX4_40 (by unfold mFit; decide) (by decide) (k_X4_stateOf hR hs hg hgb (t := g - 24 + i) (by omega) (by omega)) rfl rfl (Nat.le_of_ble_eq_true rfl) (hR.1 _ _ _ (by unfold xV; omega)) ⟨_, _, rfl⟩ (fun h e9 => ?_)
      subst e9
      refine mJ_iconst (v := nI 1) hK dX4_mixTickets_43 (by decide) ?_
      refine mJ_icmp_ne (tgt := 59) hK dX4_mixTickets_44 (by decide) (fun c_44 => ?_) (fun c_44 => ?_)
      · refine mJ_iincN hK dX4_mixTickets_59 rfl rfl (by decide) rfl ?_
        refine mJ_goto (tgt := 16) hK dX4_mixTickets_62 (by decide) ?_
        refine mJ_L ?_ (ih (i + 1) _ (by omega) (by omega) eh hR)
        first | (simp only [tmx, if_pos c_44]; rfl) | (simp only [tmx, if_neg c_44]; rfl)
      · refine mJ_lload_n hK dX4_mixTickets_47 rfl ?_
        refine mJ_aload_n hK dX4_mixTickets_48 rfl ?_
        refine mJ_iload hK dX4_mixTickets_49 rfl ?_
        refine mJ_cVi hK dX4_mixTickets_51 lX4_44 (by unfold mFit; decide) (by decide) (k_X4_answerTo hR hs hg hgb (t := g - 24 + i) (by omega) (by omega)) rfl rfl (Nat.le_of_ble_eq_true rfl) (hR.1 _ _ _ (by unfold xV; omega)) ⟨_, _, rfl⟩ (fun h e9 => ?_)
        subst e9
        refine mJ_i2l hK dX4_mixTickets_54 ?_
        refine mJ_cNl hK dX4_mixTickets_55 lX4_36 (by unfold mFit; decide) (by decide) (k_X5_mix _ _) rfl rfl (Nat.le_of_ble_eq_true rfl) (fun h e9 => ?_)
        subst e9
        refine mJ_lstore_n hK dX4_mixTickets_58 (by decide) rfl ?_
        refine mJ_iincN hK dX4_mixTickets_59 rfl rfl (by decide) rfl ?_
        refine mJ_goto (tgt := 16) hK dX4_mixTickets_62 (by decide) ?_
        refine mJ_L ?_ (ih (i + 1) _ (by omega) (by omega) eh hR)
        first | (simp only [tmx, if_pos c_44]; rfl) | (simp only [tmx, if_neg c_44]; rfl)

set_option maxRecDepth 100000 in
set_option maxHeartbeats 4000000 in
theorem k_X4_mixTickets {l : Launch} {D : va_G} {aC : Nat → ClassId} {ad : xAd} {h0 h : mH} {F : xFm} {W : xWm} {pm : Nat → Nat} (hR : xR xV ad h0 F W pm h) {s : Nat} (hs : s < 2) {g : Nat} (hg : F 9 s 0 2 = nI g) (hgb : g < 1000000) (x : Int64) : mCon l D aC mX4_mixTickets [.ref (ad 9 s 0), .long x] h (mRl (tmx (F 10 s 0) (F 11 s 0) (31 * x + (nI g).toInt64) (g - 24) (g - (g - 24))) (fun h' => h' = h)) := by
  refine mCon.of [some (.ref (ad 9 s 0)), some (.long x), none, none, none, none] (by decide +kernel) rfl (Nat.le_of_ble_eq_true rfl) ?_
  intro K el eD eC hK hZ
  subst el eD eC
  refine mJ_lload_n hK dX4_mixTickets_0 rfl ?_
  refine mJ_aload_n hK dX4_mixTickets_1 rfl ?_
  refine xJ_getx (nI g) hR hK dX4_mixTickets_2 fX4_18 (by unfold xV; omega) (fun _ _ => rfl) (by decide) rfl (by first | exact hg | (simp [fr, upd]; exact hg)) ?_
  refine mJ_i2l hK dX4_mixTickets_5 ?_
  refine mJ_cNl hK dX4_mixTickets_6 lX4_36 (by unfold mFit; decide) (by decide) (k_X5_mix _ _) rfl rfl (Nat.le_of_ble_eq_true rfl) (fun h e9 => ?_)
  subst e9
  refine mJ_lstore_n hK dX4_mixTickets_9 (by decide) rfl ?_
  refine mJ_aload_n hK dX4_mixTickets_10 rfl ?_
  refine mJ_cVi hK dX4_mixTickets_11 lX4_22 (by unfold mFit; decide) (by decide) (k_X4_firstKnown hR hs hg hgb) rfl rfl (Nat.le_of_ble_eq_true rfl) (hR.1 _ _ _ (by unfold xV; omega)) ⟨_, _, rfl⟩ (fun h e9 => ?_)
  subst e9
  refine mJ_istore hK dX4_mixTickets_14 (by decide) rfl ?_
  exact lp_X4_mixTickets hK hs hg hgb hZ (g + 1) 0 _ (by omega) (by omega) rfl hR

def xTc (F : xFm) (s t : Nat) : xFm := fr (fr (fr F 10 s 0 (va_cpy (F 10 t 0) (F 10 s 0) 0 0 24)) 11 s 0 (va_cpy (F 11 t 0) (F 11 s 0) 0 0 24)) 9 s 0 (upd (F 9 s 0) 2 (F 9 t 0 2))
end
