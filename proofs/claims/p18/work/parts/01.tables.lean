-- ===== PART A: goes FIRST, ahead of the names: the tables' words, and 'selects' of the private methods out of them =====
/-- a private method of a class that the tables say can be made, by its rows of tables_1 -/
def lw_okq (q : MethodName × Nat) : Prop := (q.1.cls ≠ "java/lang/invoke/MethodHandle" ∧ q.1.cls ≠ "java/lang/invoke/VarHandle") ∧ Cond.instantiable q.1.cls q.2 ∈ tables_1 ∧ Cond.privateMethod q.1 ∈ tables_1 ∧ Cond.instanceMethod q.1 ∈ tables_1
set_option maxRecDepth 100000 in
theorem lw_p0 : lw_okq (⟨"ProbeConsole$Texts", "parameters", "()I"⟩, 3) := ⟨⟨by decide +kernel, by decide +kernel⟩, List.mem_of_getElem? (i := 86) rfl, List.mem_of_getElem? (i := 399) rfl, List.mem_of_getElem? (i := 400) rfl⟩
set_option maxRecDepth 100000 in
theorem lw_p1 : lw_okq (⟨"ProbeConsole$Expressions", "expression", "()V"⟩, 7) := ⟨⟨by decide +kernel, by decide +kernel⟩, List.mem_of_getElem? (i := 92) rfl, List.mem_of_getElem? (i := 413) rfl, List.mem_of_getElem? (i := 414) rfl⟩
set_option maxRecDepth 100000 in
theorem lw_p2 : lw_okq (⟨"ProbeConsole$Expressions", "choice", "()V"⟩, 7) := ⟨⟨by decide +kernel, by decide +kernel⟩, List.mem_of_getElem? (i := 92) rfl, List.mem_of_getElem? (i := 417) rfl, List.mem_of_getElem? (i := 418) rfl⟩
set_option maxRecDepth 100000 in
theorem lw_p3 : lw_okq (⟨"ProbeConsole$Expressions", "joined", "(I)V"⟩, 7) := ⟨⟨by decide +kernel, by decide +kernel⟩, List.mem_of_getElem? (i := 92) rfl, List.mem_of_getElem? (i := 421) rfl, List.mem_of_getElem? (i := 422) rfl⟩
set_option maxRecDepth 100000 in
theorem lw_p4 : lw_okq (⟨"ProbeConsole$Expressions", "signed", "()V"⟩, 7) := ⟨⟨by decide +kernel, by decide +kernel⟩, List.mem_of_getElem? (i := 92) rfl, List.mem_of_getElem? (i := 425) rfl, List.mem_of_getElem? (i := 426) rfl⟩
set_option maxRecDepth 100000 in
theorem lw_p5 : lw_okq (⟨"ProbeConsole$Expressions", "operand", "()V"⟩, 7) := ⟨⟨by decide +kernel, by decide +kernel⟩, List.mem_of_getElem? (i := 92) rfl, List.mem_of_getElem? (i := 430) rfl, List.mem_of_getElem? (i := 431) rfl⟩
set_option maxRecDepth 100000 in
theorem lw_p6 : lw_okq (⟨"ProbeConsole$Expressions", "countNode", "(I)V"⟩, 7) := ⟨⟨by decide +kernel, by decide +kernel⟩, List.mem_of_getElem? (i := 92) rfl, List.mem_of_getElem? (i := 449) rfl, List.mem_of_getElem? (i := 450) rfl⟩
set_option maxRecDepth 100000 in
theorem lw_p7 : lw_okq (⟨"ProbeConsole$Expressions", "word", "()V"⟩, 7) := ⟨⟨by decide +kernel, by decide +kernel⟩, List.mem_of_getElem? (i := 92) rfl, List.mem_of_getElem? (i := 462) rfl, List.mem_of_getElem? (i := 463) rfl⟩
set_option maxRecDepth 100000 in
theorem lw_p8 : lw_okq (⟨"ProbeConsole$Expressions", "invocation", "()V"⟩, 7) := ⟨⟨by decide +kernel, by decide +kernel⟩, List.mem_of_getElem? (i := 92) rfl, List.mem_of_getElem? (i := 467) rfl, List.mem_of_getElem? (i := 468) rfl⟩
set_option maxRecDepth 100000 in
theorem lw_p9 : lw_okq (⟨"ProbeConsole$Expressions", "takeOpen", "()Z"⟩, 7) := ⟨⟨by decide +kernel, by decide +kernel⟩, List.mem_of_getElem? (i := 92) rfl, List.mem_of_getElem? (i := 472) rfl, List.mem_of_getElem? (i := 473) rfl⟩
set_option maxRecDepth 100000 in
theorem lw_p10 : lw_okq (⟨"ProbeConsole$Expressions", "arguments", "()I"⟩, 7) := ⟨⟨by decide +kernel, by decide +kernel⟩, List.mem_of_getElem? (i := 92) rfl, List.mem_of_getElem? (i := 476) rfl, List.mem_of_getElem? (i := 477) rfl⟩
set_option maxRecDepth 100000 in
theorem lw_p11 : lw_okq (⟨"ProbeConsole$Expressions", "variable", "()V"⟩, 7) := ⟨⟨by decide +kernel, by decide +kernel⟩, List.mem_of_getElem? (i := 92) rfl, List.mem_of_getElem? (i := 492) rfl, List.mem_of_getElem? (i := 493) rfl⟩
set_option maxRecDepth 100000 in
theorem lw_p12 : lw_okq (⟨"ProbeConsole$Expressions", "takeSign", "()I"⟩, 7) := ⟨⟨by decide +kernel, by decide +kernel⟩, List.mem_of_getElem? (i := 92) rfl, List.mem_of_getElem? (i := 581) rfl, List.mem_of_getElem? (i := 582) rfl⟩
set_option maxRecDepth 100000 in
theorem lw_p13 : lw_okq (⟨"ProbeConsole$Texts", "expectEnd", "()V"⟩, 3) := ⟨⟨by decide +kernel, by decide +kernel⟩, List.mem_of_getElem? (i := 86) rfl, List.mem_of_getElem? (i := 596) rfl, List.mem_of_getElem? (i := 597) rfl⟩
set_option maxRecDepth 100000 in
theorem lw_p14 : lw_okq (⟨"ProbeConsole$Texts", "verb", "()I"⟩, 3) := ⟨⟨by decide +kernel, by decide +kernel⟩, List.mem_of_getElem? (i := 86) rfl, List.mem_of_getElem? (i := 661) rfl, List.mem_of_getElem? (i := 662) rfl⟩
set_option maxRecDepth 100000 in
theorem lw_p15 : lw_okq (⟨"ProbeConsole$Texts", "readWatch", "(LProbeConsole$Job;)V"⟩, 3) := ⟨⟨by decide +kernel, by decide +kernel⟩, List.mem_of_getElem? (i := 86) rfl, List.mem_of_getElem? (i := 701) rfl, List.mem_of_getElem? (i := 702) rfl⟩
def lw_privs_1 : List (MethodName × Nat) := [(⟨"ProbeConsole$Texts", "parameters", "()I"⟩, 3), (⟨"ProbeConsole$Expressions", "expression", "()V"⟩, 7), (⟨"ProbeConsole$Expressions", "choice", "()V"⟩, 7), (⟨"ProbeConsole$Expressions", "joined", "(I)V"⟩, 7), (⟨"ProbeConsole$Expressions", "signed", "()V"⟩, 7), (⟨"ProbeConsole$Expressions", "operand", "()V"⟩, 7), (⟨"ProbeConsole$Expressions", "countNode", "(I)V"⟩, 7), (⟨"ProbeConsole$Expressions", "word", "()V"⟩, 7), (⟨"ProbeConsole$Expressions", "invocation", "()V"⟩, 7), (⟨"ProbeConsole$Expressions", "takeOpen", "()Z"⟩, 7), (⟨"ProbeConsole$Expressions", "arguments", "()I"⟩, 7), (⟨"ProbeConsole$Expressions", "variable", "()V"⟩, 7), (⟨"ProbeConsole$Expressions", "takeSign", "()I"⟩, 7), (⟨"ProbeConsole$Texts", "expectEnd", "()V"⟩, 3), (⟨"ProbeConsole$Texts", "verb", "()I"⟩, 3), (⟨"ProbeConsole$Texts", "readWatch", "(LProbeConsole$Job;)V"⟩, 3)]
theorem lw_r1 : ∀ q ∈ lw_privs_1, lw_okq q := List.forall_mem_cons.mpr ⟨lw_p0, List.forall_mem_cons.mpr ⟨lw_p1, List.forall_mem_cons.mpr ⟨lw_p2, List.forall_mem_cons.mpr ⟨lw_p3, List.forall_mem_cons.mpr ⟨lw_p4, List.forall_mem_cons.mpr ⟨lw_p5, List.forall_mem_cons.mpr ⟨lw_p6, List.forall_mem_cons.mpr ⟨lw_p7, List.forall_mem_cons.mpr ⟨lw_p8, List.forall_mem_cons.mpr ⟨lw_p9, List.forall_mem_cons.mpr ⟨lw_p10, List.forall_mem_cons.mpr ⟨lw_p11, List.forall_mem_cons.mpr ⟨lw_p12, List.forall_mem_cons.mpr ⟨lw_p13, List.forall_mem_cons.mpr ⟨lw_p14, List.forall_mem_cons.mpr ⟨lw_p15, fun _ h => absurd h List.not_mem_nil⟩⟩⟩⟩⟩⟩⟩⟩⟩⟩⟩⟩⟩⟩⟩⟩
set_option maxRecDepth 100000 in
theorem lw_p16 : lw_okq (⟨"ProbeConsole$Texts", "point", "()I"⟩, 3) := ⟨⟨by decide +kernel, by decide +kernel⟩, List.mem_of_getElem? (i := 86) rfl, List.mem_of_getElem? (i := 705) rfl, List.mem_of_getElem? (i := 706) rfl⟩
set_option maxRecDepth 100000 in
theorem lw_p17 : lw_okq (⟨"ProbeConsole$Texts", "pattern", "()J"⟩, 3) := ⟨⟨by decide +kernel, by decide +kernel⟩, List.mem_of_getElem? (i := 86) rfl, List.mem_of_getElem? (i := 712) rfl, List.mem_of_getElem? (i := 713) rfl⟩
set_option maxRecDepth 100000 in
theorem lw_p18 : lw_okq (⟨"ProbeConsole$Texts", "limit", "()I"⟩, 3) := ⟨⟨by decide +kernel, by decide +kernel⟩, List.mem_of_getElem? (i := 86) rfl, List.mem_of_getElem? (i := 720) rfl, List.mem_of_getElem? (i := 721) rfl⟩
set_option maxRecDepth 100000 in
theorem lw_p19 : lw_okq (⟨"java/lang/Throwable", "fillInStackTrace", "(I)Ljava/lang/Throwable;"⟩, 6) := ⟨⟨by decide +kernel, by decide +kernel⟩, List.mem_of_getElem? (i := 825) rfl, List.mem_of_getElem? (i := 823) rfl, List.mem_of_getElem? (i := 824) rfl⟩
set_option maxRecDepth 100000 in
theorem lw_p20 : lw_okq (⟨"ProbeConsole$Machine", "invoke", "(II)I"⟩, 13) := ⟨⟨by decide +kernel, by decide +kernel⟩, List.mem_of_getElem? (i := 271) rfl, List.mem_of_getElem? (i := 894) rfl, List.mem_of_getElem? (i := 895) rfl⟩
set_option maxRecDepth 100000 in
theorem lw_p21 : lw_okq (⟨"ProbeConsole$Machine", "probe", "(II[I)V"⟩, 13) := ⟨⟨by decide +kernel, by decide +kernel⟩, List.mem_of_getElem? (i := 271) rfl, List.mem_of_getElem? (i := 898) rfl, List.mem_of_getElem? (i := 899) rfl⟩
set_option maxRecDepth 100000 in
theorem lw_p22 : lw_okq (⟨"ProbeConsole$Machine", "keep", "(III[I)V"⟩, 13) := ⟨⟨by decide +kernel, by decide +kernel⟩, List.mem_of_getElem? (i := 271) rfl, List.mem_of_getElem? (i := 910) rfl, List.mem_of_getElem? (i := 911) rfl⟩
set_option maxRecDepth 100000 in
theorem lw_p23 : lw_okq (⟨"ProbeConsole$Machine", "watch", "(II[I)V"⟩, 13) := ⟨⟨by decide +kernel, by decide +kernel⟩, List.mem_of_getElem? (i := 271) rfl, List.mem_of_getElem? (i := 926) rfl, List.mem_of_getElem? (i := 927) rfl⟩
set_option maxRecDepth 100000 in
theorem lw_p24 : lw_okq (⟨"ProbeConsole$Machine", "run", "(LProbeConsole$Code;[I)I"⟩, 13) := ⟨⟨by decide +kernel, by decide +kernel⟩, List.mem_of_getElem? (i := 271) rfl, List.mem_of_getElem? (i := 930) rfl, List.mem_of_getElem? (i := 931) rfl⟩
set_option maxRecDepth 100000 in
theorem lw_p25 : lw_okq (⟨"ProbeConsole$Machine", "step", "(LProbeConsole$Code;I[I)I"⟩, 13) := ⟨⟨by decide +kernel, by decide +kernel⟩, List.mem_of_getElem? (i := 271) rfl, List.mem_of_getElem? (i := 934) rfl, List.mem_of_getElem? (i := 935) rfl⟩
set_option maxRecDepth 100000 in
theorem lw_p26 : lw_okq (⟨"ProbeConsole$Machine", "push", "(I)V"⟩, 13) := ⟨⟨by decide +kernel, by decide +kernel⟩, List.mem_of_getElem? (i := 271) rfl, List.mem_of_getElem? (i := 938) rfl, List.mem_of_getElem? (i := 939) rfl⟩
set_option maxRecDepth 100000 in
theorem lw_p27 : lw_okq (⟨"ProbeConsole$Machine", "pop", "()I"⟩, 13) := ⟨⟨by decide +kernel, by decide +kernel⟩, List.mem_of_getElem? (i := 271) rfl, List.mem_of_getElem? (i := 943) rfl, List.mem_of_getElem? (i := 944) rfl⟩
set_option maxRecDepth 100000 in
theorem lw_p28 : lw_okq (⟨"ProbeConsole$Machine", "fail", "(I)V"⟩, 13) := ⟨⟨by decide +kernel, by decide +kernel⟩, List.mem_of_getElem? (i := 271) rfl, List.mem_of_getElem? (i := 947) rfl, List.mem_of_getElem? (i := 948) rfl⟩
set_option maxRecDepth 100000 in
theorem lw_p29 : lw_okq (⟨"ProbeConsole$Machine", "invokeNamed", "(JI)V"⟩, 13) := ⟨⟨by decide +kernel, by decide +kernel⟩, List.mem_of_getElem? (i := 271) rfl, List.mem_of_getElem? (i := 951) rfl, List.mem_of_getElem? (i := 952) rfl⟩
set_option maxRecDepth 100000 in
theorem lw_p30 : lw_okq (⟨"ProbeConsole$Machine", "behindThrow", "(LProbeConsole$Code;II)I"⟩, 13) := ⟨⟨by decide +kernel, by decide +kernel⟩, List.mem_of_getElem? (i := 271) rfl, List.mem_of_getElem? (i := 961) rfl, List.mem_of_getElem? (i := 962) rfl⟩
set_option maxRecDepth 100000 in
theorem lw_p31 : lw_okq (⟨"ProbeConsoleModel", "begin", "()V"⟩, 60) := ⟨⟨by decide +kernel, by decide +kernel⟩, List.mem_of_getElem? (i := 1026) rfl, List.mem_of_getElem? (i := 1231) rfl, List.mem_of_getElem? (i := 1232) rfl⟩
def lw_privs_2 : List (MethodName × Nat) := [(⟨"ProbeConsole$Texts", "point", "()I"⟩, 3), (⟨"ProbeConsole$Texts", "pattern", "()J"⟩, 3), (⟨"ProbeConsole$Texts", "limit", "()I"⟩, 3), (⟨"java/lang/Throwable", "fillInStackTrace", "(I)Ljava/lang/Throwable;"⟩, 6), (⟨"ProbeConsole$Machine", "invoke", "(II)I"⟩, 13), (⟨"ProbeConsole$Machine", "probe", "(II[I)V"⟩, 13), (⟨"ProbeConsole$Machine", "keep", "(III[I)V"⟩, 13), (⟨"ProbeConsole$Machine", "watch", "(II[I)V"⟩, 13), (⟨"ProbeConsole$Machine", "run", "(LProbeConsole$Code;[I)I"⟩, 13), (⟨"ProbeConsole$Machine", "step", "(LProbeConsole$Code;I[I)I"⟩, 13), (⟨"ProbeConsole$Machine", "push", "(I)V"⟩, 13), (⟨"ProbeConsole$Machine", "pop", "()I"⟩, 13), (⟨"ProbeConsole$Machine", "fail", "(I)V"⟩, 13), (⟨"ProbeConsole$Machine", "invokeNamed", "(JI)V"⟩, 13), (⟨"ProbeConsole$Machine", "behindThrow", "(LProbeConsole$Code;II)I"⟩, 13), (⟨"ProbeConsoleModel", "begin", "()V"⟩, 60)]
theorem lw_r2 : ∀ q ∈ lw_privs_2, lw_okq q := List.forall_mem_cons.mpr ⟨lw_p16, List.forall_mem_cons.mpr ⟨lw_p17, List.forall_mem_cons.mpr ⟨lw_p18, List.forall_mem_cons.mpr ⟨lw_p19, List.forall_mem_cons.mpr ⟨lw_p20, List.forall_mem_cons.mpr ⟨lw_p21, List.forall_mem_cons.mpr ⟨lw_p22, List.forall_mem_cons.mpr ⟨lw_p23, List.forall_mem_cons.mpr ⟨lw_p24, List.forall_mem_cons.mpr ⟨lw_p25, List.forall_mem_cons.mpr ⟨lw_p26, List.forall_mem_cons.mpr ⟨lw_p27, List.forall_mem_cons.mpr ⟨lw_p28, List.forall_mem_cons.mpr ⟨lw_p29, List.forall_mem_cons.mpr ⟨lw_p30, List.forall_mem_cons.mpr ⟨lw_p31, fun _ h => absurd h List.not_mem_nil⟩⟩⟩⟩⟩⟩⟩⟩⟩⟩⟩⟩⟩⟩⟩⟩
set_option maxRecDepth 100000 in
theorem lw_p32 : lw_okq (⟨"ProbeConsoleModel", "rowSize", "(I)I"⟩, 60) := ⟨⟨by decide +kernel, by decide +kernel⟩, List.mem_of_getElem? (i := 1026) rfl, List.mem_of_getElem? (i := 1235) rfl, List.mem_of_getElem? (i := 1236) rfl⟩
set_option maxRecDepth 100000 in
theorem lw_p33 : lw_okq (⟨"ProbeConsoleModel", "byteAt", "(I)I"⟩, 60) := ⟨⟨by decide +kernel, by decide +kernel⟩, List.mem_of_getElem? (i := 1026) rfl, List.mem_of_getElem? (i := 1239) rfl, List.mem_of_getElem? (i := 1240) rfl⟩
set_option maxRecDepth 100000 in
theorem lw_p34 : lw_okq (⟨"ProbeConsoleModel", "fail", "(II)V"⟩, 60) := ⟨⟨by decide +kernel, by decide +kernel⟩, List.mem_of_getElem? (i := 1026) rfl, List.mem_of_getElem? (i := 1249) rfl, List.mem_of_getElem? (i := 1250) rfl⟩
set_option maxRecDepth 100000 in
theorem lw_p35 : lw_okq (⟨"ProbeConsoleModel", "isName", "(II)Z"⟩, 60) := ⟨⟨by decide +kernel, by decide +kernel⟩, List.mem_of_getElem? (i := 1026) rfl, List.mem_of_getElem? (i := 1253) rfl, List.mem_of_getElem? (i := 1254) rfl⟩
set_option maxRecDepth 100000 in
theorem lw_p36 : lw_okq (⟨"ProbeConsoleModel", "want", "(I)V"⟩, 60) := ⟨⟨by decide +kernel, by decide +kernel⟩, List.mem_of_getElem? (i := 1026) rfl, List.mem_of_getElem? (i := 1257) rfl, List.mem_of_getElem? (i := 1258) rfl⟩
set_option maxRecDepth 100000 in
theorem lw_p37 : lw_okq (⟨"ProbeConsoleModel", "readExpression", "()V"⟩, 60) := ⟨⟨by decide +kernel, by decide +kernel⟩, List.mem_of_getElem? (i := 1026) rfl, List.mem_of_getElem? (i := 1261) rfl, List.mem_of_getElem? (i := 1262) rfl⟩
set_option maxRecDepth 100000 in
theorem lw_p38 : lw_okq (⟨"ProbeConsoleModel", "ended", "()Z"⟩, 60) := ⟨⟨by decide +kernel, by decide +kernel⟩, List.mem_of_getElem? (i := 1026) rfl, List.mem_of_getElem? (i := 1265) rfl, List.mem_of_getElem? (i := 1266) rfl⟩
set_option maxRecDepth 100000 in
theorem lw_p39 : lw_okq (⟨"ProbeConsoleModel", "last", "()I"⟩, 60) := ⟨⟨by decide +kernel, by decide +kernel⟩, List.mem_of_getElem? (i := 1026) rfl, List.mem_of_getElem? (i := 1269) rfl, List.mem_of_getElem? (i := 1270) rfl⟩
set_option maxRecDepth 100000 in
theorem lw_p40 : lw_okq (⟨"ProbeConsoleModel", "readOperand", "(Z)Z"⟩, 60) := ⟨⟨by decide +kernel, by decide +kernel⟩, List.mem_of_getElem? (i := 1026) rfl, List.mem_of_getElem? (i := 1273) rfl, List.mem_of_getElem? (i := 1274) rfl⟩
set_option maxRecDepth 100000 in
theorem lw_p41 : lw_okq (⟨"ProbeConsoleModel", "close", "()V"⟩, 60) := ⟨⟨by decide +kernel, by decide +kernel⟩, List.mem_of_getElem? (i := 1026) rfl, List.mem_of_getElem? (i := 1277) rfl, List.mem_of_getElem? (i := 1278) rfl⟩
set_option maxRecDepth 100000 in
theorem lw_p42 : lw_okq (⟨"ProbeConsoleModel", "reduceAll", "()V"⟩, 60) := ⟨⟨by decide +kernel, by decide +kernel⟩, List.mem_of_getElem? (i := 1026) rfl, List.mem_of_getElem? (i := 1281) rfl, List.mem_of_getElem? (i := 1282) rfl⟩
set_option maxRecDepth 100000 in
theorem lw_p43 : lw_okq (⟨"ProbeConsoleModel", "reduceTo", "(I)V"⟩, 60) := ⟨⟨by decide +kernel, by decide +kernel⟩, List.mem_of_getElem? (i := 1026) rfl, List.mem_of_getElem? (i := 1285) rfl, List.mem_of_getElem? (i := 1286) rfl⟩
set_option maxRecDepth 100000 in
theorem lw_p44 : lw_okq (⟨"ProbeConsoleModel", "reduce", "()V"⟩, 60) := ⟨⟨by decide +kernel, by decide +kernel⟩, List.mem_of_getElem? (i := 1026) rfl, List.mem_of_getElem? (i := 1289) rfl, List.mem_of_getElem? (i := 1290) rfl⟩
set_option maxRecDepth 100000 in
theorem lw_p45 : lw_okq (⟨"ProbeConsoleModel", "put", "(IJ)V"⟩, 60) := ⟨⟨by decide +kernel, by decide +kernel⟩, List.mem_of_getElem? (i := 1026) rfl, List.mem_of_getElem? (i := 1296) rfl, List.mem_of_getElem? (i := 1297) rfl⟩
set_option maxRecDepth 100000 in
theorem lw_p46 : lw_okq (⟨"ProbeConsoleModel", "operand", "(I)V"⟩, 60) := ⟨⟨by decide +kernel, by decide +kernel⟩, List.mem_of_getElem? (i := 1026) rfl, List.mem_of_getElem? (i := 1300) rfl, List.mem_of_getElem? (i := 1301) rfl⟩
set_option maxRecDepth 100000 in
theorem lw_p47 : lw_okq (⟨"ProbeConsoleModel", "readNumber", "()V"⟩, 60) := ⟨⟨by decide +kernel, by decide +kernel⟩, List.mem_of_getElem? (i := 1026) rfl, List.mem_of_getElem? (i := 1307) rfl, List.mem_of_getElem? (i := 1308) rfl⟩
def lw_privs_3 : List (MethodName × Nat) := [(⟨"ProbeConsoleModel", "rowSize", "(I)I"⟩, 60), (⟨"ProbeConsoleModel", "byteAt", "(I)I"⟩, 60), (⟨"ProbeConsoleModel", "fail", "(II)V"⟩, 60), (⟨"ProbeConsoleModel", "isName", "(II)Z"⟩, 60), (⟨"ProbeConsoleModel", "want", "(I)V"⟩, 60), (⟨"ProbeConsoleModel", "readExpression", "()V"⟩, 60), (⟨"ProbeConsoleModel", "ended", "()Z"⟩, 60), (⟨"ProbeConsoleModel", "last", "()I"⟩, 60), (⟨"ProbeConsoleModel", "readOperand", "(Z)Z"⟩, 60), (⟨"ProbeConsoleModel", "close", "()V"⟩, 60), (⟨"ProbeConsoleModel", "reduceAll", "()V"⟩, 60), (⟨"ProbeConsoleModel", "reduceTo", "(I)V"⟩, 60), (⟨"ProbeConsoleModel", "reduce", "()V"⟩, 60), (⟨"ProbeConsoleModel", "put", "(IJ)V"⟩, 60), (⟨"ProbeConsoleModel", "operand", "(I)V"⟩, 60), (⟨"ProbeConsoleModel", "readNumber", "()V"⟩, 60)]
theorem lw_r3 : ∀ q ∈ lw_privs_3, lw_okq q := List.forall_mem_cons.mpr ⟨lw_p32, List.forall_mem_cons.mpr ⟨lw_p33, List.forall_mem_cons.mpr ⟨lw_p34, List.forall_mem_cons.mpr ⟨lw_p35, List.forall_mem_cons.mpr ⟨lw_p36, List.forall_mem_cons.mpr ⟨lw_p37, List.forall_mem_cons.mpr ⟨lw_p38, List.forall_mem_cons.mpr ⟨lw_p39, List.forall_mem_cons.mpr ⟨lw_p40, List.forall_mem_cons.mpr ⟨lw_p41, List.forall_mem_cons.mpr ⟨lw_p42, List.forall_mem_cons.mpr ⟨lw_p43, List.forall_mem_cons.mpr ⟨lw_p44, List.forall_mem_cons.mpr ⟨lw_p45, List.forall_mem_cons.mpr ⟨lw_p46, List.forall_mem_cons.mpr ⟨lw_p47, fun _ h => absurd h List.not_mem_nil⟩⟩⟩⟩⟩⟩⟩⟩⟩⟩⟩⟩⟩⟩⟩⟩
set_option maxRecDepth 100000 in
theorem lw_p48 : lw_okq (⟨"ProbeConsoleModel", "count", "(I)Z"⟩, 60) := ⟨⟨by decide +kernel, by decide +kernel⟩, List.mem_of_getElem? (i := 1026) rfl, List.mem_of_getElem? (i := 1311) rfl, List.mem_of_getElem? (i := 1312) rfl⟩
set_option maxRecDepth 100000 in
theorem lw_p49 : lw_okq (⟨"ProbeConsoleModel", "wait", "(III)V"⟩, 60) := ⟨⟨by decide +kernel, by decide +kernel⟩, List.mem_of_getElem? (i := 1026) rfl, List.mem_of_getElem? (i := 1319) rfl, List.mem_of_getElem? (i := 1320) rfl⟩
set_option maxRecDepth 100000 in
theorem lw_p50 : lw_okq (⟨"ProbeConsoleModel", "open", "(II)V"⟩, 60) := ⟨⟨by decide +kernel, by decide +kernel⟩, List.mem_of_getElem? (i := 1026) rfl, List.mem_of_getElem? (i := 1323) rfl, List.mem_of_getElem? (i := 1324) rfl⟩
set_option maxRecDepth 100000 in
theorem lw_p51 : lw_okq (⟨"ProbeConsoleModel", "readRow", "()Z"⟩, 60) := ⟨⟨by decide +kernel, by decide +kernel⟩, List.mem_of_getElem? (i := 1026) rfl, List.mem_of_getElem? (i := 1327) rfl, List.mem_of_getElem? (i := 1328) rfl⟩
set_option maxRecDepth 100000 in
theorem lw_p52 : lw_okq (⟨"ProbeConsoleModel", "variableOf", "(I)I"⟩, 60) := ⟨⟨by decide +kernel, by decide +kernel⟩, List.mem_of_getElem? (i := 1026) rfl, List.mem_of_getElem? (i := 1331) rfl, List.mem_of_getElem? (i := 1332) rfl⟩
set_option maxRecDepth 100000 in
theorem lw_p53 : lw_okq (⟨"ProbeConsoleModel", "readSign", "()Z"⟩, 60) := ⟨⟨by decide +kernel, by decide +kernel⟩, List.mem_of_getElem? (i := 1026) rfl, List.mem_of_getElem? (i := 1335) rfl, List.mem_of_getElem? (i := 1336) rfl⟩
set_option maxRecDepth 100000 in
theorem lw_p54 : lw_okq (⟨"ProbeConsoleModel", "hash", "()V"⟩, 60) := ⟨⟨by decide +kernel, by decide +kernel⟩, List.mem_of_getElem? (i := 1026) rfl, List.mem_of_getElem? (i := 1339) rfl, List.mem_of_getElem? (i := 1340) rfl⟩
set_option maxRecDepth 100000 in
theorem lw_p55 : lw_okq (⟨"ProbeConsoleModel", "question", "()V"⟩, 60) := ⟨⟨by decide +kernel, by decide +kernel⟩, List.mem_of_getElem? (i := 1026) rfl, List.mem_of_getElem? (i := 1343) rfl, List.mem_of_getElem? (i := 1344) rfl⟩
set_option maxRecDepth 100000 in
theorem lw_p56 : lw_okq (⟨"ProbeConsoleModel", "colon", "()V"⟩, 60) := ⟨⟨by decide +kernel, by decide +kernel⟩, List.mem_of_getElem? (i := 1026) rfl, List.mem_of_getElem? (i := 1347) rfl, List.mem_of_getElem? (i := 1348) rfl⟩
set_option maxRecDepth 100000 in
theorem lw_p57 : lw_okq (⟨"ProbeConsoleModel", "between", "(II)V"⟩, 60) := ⟨⟨by decide +kernel, by decide +kernel⟩, List.mem_of_getElem? (i := 1026) rfl, List.mem_of_getElem? (i := 1351) rfl, List.mem_of_getElem? (i := 1352) rfl⟩
set_option maxRecDepth 100000 in
theorem lw_p58 : lw_okq (⟨"ProbeConsoleModel", "comma", "()V"⟩, 60) := ⟨⟨by decide +kernel, by decide +kernel⟩, List.mem_of_getElem? (i := 1026) rfl, List.mem_of_getElem? (i := 1355) rfl, List.mem_of_getElem? (i := 1356) rfl⟩
set_option maxRecDepth 100000 in
theorem lw_p59 : lw_okq (⟨"ProbeConsoleModel", "findMethod", "(JI)I"⟩, 60) := ⟨⟨by decide +kernel, by decide +kernel⟩, List.mem_of_getElem? (i := 1026) rfl, List.mem_of_getElem? (i := 1359) rfl, List.mem_of_getElem? (i := 1360) rfl⟩
set_option maxRecDepth 100000 in
theorem lw_p60 : lw_okq (⟨"ProbeConsoleModel", "keepExpression", "(I)V"⟩, 60) := ⟨⟨by decide +kernel, by decide +kernel⟩, List.mem_of_getElem? (i := 1026) rfl, List.mem_of_getElem? (i := 1363) rfl, List.mem_of_getElem? (i := 1364) rfl⟩
set_option maxRecDepth 100000 in
theorem lw_p61 : lw_okq (⟨"ProbeConsoleModel", "skip", "()V"⟩, 60) := ⟨⟨by decide +kernel, by decide +kernel⟩, List.mem_of_getElem? (i := 1026) rfl, List.mem_of_getElem? (i := 1371) rfl, List.mem_of_getElem? (i := 1372) rfl⟩
set_option maxRecDepth 100000 in
theorem lw_p62 : lw_okq (⟨"ProbeConsoleModel", "rowAt", "(I)J"⟩, 60) := ⟨⟨by decide +kernel, by decide +kernel⟩, List.mem_of_getElem? (i := 1026) rfl, List.mem_of_getElem? (i := 1375) rfl, List.mem_of_getElem? (i := 1376) rfl⟩
set_option maxRecDepth 100000 in
theorem lw_p63 : lw_okq (⟨"ProbeConsoleModel", "endsAt", "(I)Z"⟩, 60) := ⟨⟨by decide +kernel, by decide +kernel⟩, List.mem_of_getElem? (i := 1026) rfl, List.mem_of_getElem? (i := 1383) rfl, List.mem_of_getElem? (i := 1384) rfl⟩
def lw_privs_4 : List (MethodName × Nat) := [(⟨"ProbeConsoleModel", "count", "(I)Z"⟩, 60), (⟨"ProbeConsoleModel", "wait", "(III)V"⟩, 60), (⟨"ProbeConsoleModel", "open", "(II)V"⟩, 60), (⟨"ProbeConsoleModel", "readRow", "()Z"⟩, 60), (⟨"ProbeConsoleModel", "variableOf", "(I)I"⟩, 60), (⟨"ProbeConsoleModel", "readSign", "()Z"⟩, 60), (⟨"ProbeConsoleModel", "hash", "()V"⟩, 60), (⟨"ProbeConsoleModel", "question", "()V"⟩, 60), (⟨"ProbeConsoleModel", "colon", "()V"⟩, 60), (⟨"ProbeConsoleModel", "between", "(II)V"⟩, 60), (⟨"ProbeConsoleModel", "comma", "()V"⟩, 60), (⟨"ProbeConsoleModel", "findMethod", "(JI)I"⟩, 60), (⟨"ProbeConsoleModel", "keepExpression", "(I)V"⟩, 60), (⟨"ProbeConsoleModel", "skip", "()V"⟩, 60), (⟨"ProbeConsoleModel", "rowAt", "(I)J"⟩, 60), (⟨"ProbeConsoleModel", "endsAt", "(I)Z"⟩, 60)]
theorem lw_r4 : ∀ q ∈ lw_privs_4, lw_okq q := List.forall_mem_cons.mpr ⟨lw_p48, List.forall_mem_cons.mpr ⟨lw_p49, List.forall_mem_cons.mpr ⟨lw_p50, List.forall_mem_cons.mpr ⟨lw_p51, List.forall_mem_cons.mpr ⟨lw_p52, List.forall_mem_cons.mpr ⟨lw_p53, List.forall_mem_cons.mpr ⟨lw_p54, List.forall_mem_cons.mpr ⟨lw_p55, List.forall_mem_cons.mpr ⟨lw_p56, List.forall_mem_cons.mpr ⟨lw_p57, List.forall_mem_cons.mpr ⟨lw_p58, List.forall_mem_cons.mpr ⟨lw_p59, List.forall_mem_cons.mpr ⟨lw_p60, List.forall_mem_cons.mpr ⟨lw_p61, List.forall_mem_cons.mpr ⟨lw_p62, List.forall_mem_cons.mpr ⟨lw_p63, fun _ h => absurd h List.not_mem_nil⟩⟩⟩⟩⟩⟩⟩⟩⟩⟩⟩⟩⟩⟩⟩⟩
set_option maxRecDepth 100000 in
theorem lw_p64 : lw_okq (⟨"ProbeConsoleModel", "watch", "()I"⟩, 60) := ⟨⟨by decide +kernel, by decide +kernel⟩, List.mem_of_getElem? (i := 1026) rfl, List.mem_of_getElem? (i := 1387) rfl, List.mem_of_getElem? (i := 1388) rfl⟩
set_option maxRecDepth 100000 in
theorem lw_p65 : lw_okq (⟨"ProbeConsoleModel", "readPoint", "()I"⟩, 60) := ⟨⟨by decide +kernel, by decide +kernel⟩, List.mem_of_getElem? (i := 1026) rfl, List.mem_of_getElem? (i := 1391) rfl, List.mem_of_getElem? (i := 1392) rfl⟩
set_option maxRecDepth 100000 in
theorem lw_p66 : lw_okq (⟨"ProbeConsoleModel", "readPattern", "()V"⟩, 60) := ⟨⟨by decide +kernel, by decide +kernel⟩, List.mem_of_getElem? (i := 1026) rfl, List.mem_of_getElem? (i := 1395) rfl, List.mem_of_getElem? (i := 1396) rfl⟩
set_option maxRecDepth 100000 in
theorem lw_p67 : lw_okq (⟨"ProbeConsoleModel", "freeJob", "()I"⟩, 60) := ⟨⟨by decide +kernel, by decide +kernel⟩, List.mem_of_getElem? (i := 1026) rfl, List.mem_of_getElem? (i := 1399) rfl, List.mem_of_getElem? (i := 1400) rfl⟩
set_option maxRecDepth 100000 in
theorem lw_p68 : lw_okq (⟨"ProbeConsoleModel", "smallNumber", "(I)I"⟩, 60) := ⟨⟨by decide +kernel, by decide +kernel⟩, List.mem_of_getElem? (i := 1026) rfl, List.mem_of_getElem? (i := 1403) rfl, List.mem_of_getElem? (i := 1404) rfl⟩
set_option maxRecDepth 100000 in
theorem lw_p69 : lw_okq (⟨"ProbeConsoleModel", "wantBlank", "()V"⟩, 60) := ⟨⟨by decide +kernel, by decide +kernel⟩, List.mem_of_getElem? (i := 1026) rfl, List.mem_of_getElem? (i := 1407) rfl, List.mem_of_getElem? (i := 1408) rfl⟩
set_option maxRecDepth 100000 in
theorem lw_p70 : lw_okq (⟨"ProbeConsoleModel", "wantEnd", "()V"⟩, 60) := ⟨⟨by decide +kernel, by decide +kernel⟩, List.mem_of_getElem? (i := 1026) rfl, List.mem_of_getElem? (i := 1411) rfl, List.mem_of_getElem? (i := 1412) rfl⟩
set_option maxRecDepth 100000 in
theorem lw_p71 : lw_okq (⟨"ProbeConsoleModel", "newJob", "(II)I"⟩, 60) := ⟨⟨by decide +kernel, by decide +kernel⟩, List.mem_of_getElem? (i := 1026) rfl, List.mem_of_getElem? (i := 1415) rfl, List.mem_of_getElem? (i := 1416) rfl⟩
set_option maxRecDepth 100000 in
theorem lw_p72 : lw_okq (⟨"ProbeConsoleModel", "simple", "(I)I"⟩, 60) := ⟨⟨by decide +kernel, by decide +kernel⟩, List.mem_of_getElem? (i := 1026) rfl, List.mem_of_getElem? (i := 1419) rfl, List.mem_of_getElem? (i := 1420) rfl⟩
set_option maxRecDepth 100000 in
theorem lw_p73 : lw_okq (⟨"ProbeConsoleModel", "kill", "()I"⟩, 60) := ⟨⟨by decide +kernel, by decide +kernel⟩, List.mem_of_getElem? (i := 1026) rfl, List.mem_of_getElem? (i := 1423) rfl, List.mem_of_getElem? (i := 1424) rfl⟩
set_option maxRecDepth 100000 in
theorem lw_p74 : lw_okq (⟨"ProbeConsoleModel", "reset", "()I"⟩, 60) := ⟨⟨by decide +kernel, by decide +kernel⟩, List.mem_of_getElem? (i := 1026) rfl, List.mem_of_getElem? (i := 1427) rfl, List.mem_of_getElem? (i := 1428) rfl⟩
set_option maxRecDepth 100000 in
theorem lw_p75 : lw_okq (⟨"ProbeConsoleModel", "play", "(IIIIZ)I"⟩, 60) := ⟨⟨by decide +kernel, by decide +kernel⟩, List.mem_of_getElem? (i := 1026) rfl, List.mem_of_getElem? (i := 1443) rfl, List.mem_of_getElem? (i := 1444) rfl⟩
set_option maxRecDepth 100000 in
theorem lw_p76 : lw_okq (⟨"ProbeConsoleModel", "enter", "(I)V"⟩, 60) := ⟨⟨by decide +kernel, by decide +kernel⟩, List.mem_of_getElem? (i := 1026) rfl, List.mem_of_getElem? (i := 1447) rfl, List.mem_of_getElem? (i := 1448) rfl⟩
set_option maxRecDepth 100000 in
theorem lw_p77 : lw_okq (⟨"ProbeConsoleModel", "probe", "(III)V"⟩, 60) := ⟨⟨by decide +kernel, by decide +kernel⟩, List.mem_of_getElem? (i := 1026) rfl, List.mem_of_getElem? (i := 1451) rfl, List.mem_of_getElem? (i := 1452) rfl⟩
set_option maxRecDepth 100000 in
theorem lw_p78 : lw_okq (⟨"ProbeConsoleModel", "fits", "(II)Z"⟩, 60) := ⟨⟨by decide +kernel, by decide +kernel⟩, List.mem_of_getElem? (i := 1026) rfl, List.mem_of_getElem? (i := 1455) rfl, List.mem_of_getElem? (i := 1456) rfl⟩
set_option maxRecDepth 100000 in
theorem lw_p79 : lw_okq (⟨"ProbeConsoleModel", "nameSize", "(I)I"⟩, 60) := ⟨⟨by decide +kernel, by decide +kernel⟩, List.mem_of_getElem? (i := 1026) rfl, List.mem_of_getElem? (i := 1459) rfl, List.mem_of_getElem? (i := 1460) rfl⟩
def lw_privs_5 : List (MethodName × Nat) := [(⟨"ProbeConsoleModel", "watch", "()I"⟩, 60), (⟨"ProbeConsoleModel", "readPoint", "()I"⟩, 60), (⟨"ProbeConsoleModel", "readPattern", "()V"⟩, 60), (⟨"ProbeConsoleModel", "freeJob", "()I"⟩, 60), (⟨"ProbeConsoleModel", "smallNumber", "(I)I"⟩, 60), (⟨"ProbeConsoleModel", "wantBlank", "()V"⟩, 60), (⟨"ProbeConsoleModel", "wantEnd", "()V"⟩, 60), (⟨"ProbeConsoleModel", "newJob", "(II)I"⟩, 60), (⟨"ProbeConsoleModel", "simple", "(I)I"⟩, 60), (⟨"ProbeConsoleModel", "kill", "()I"⟩, 60), (⟨"ProbeConsoleModel", "reset", "()I"⟩, 60), (⟨"ProbeConsoleModel", "play", "(IIIIZ)I"⟩, 60), (⟨"ProbeConsoleModel", "enter", "(I)V"⟩, 60), (⟨"ProbeConsoleModel", "probe", "(III)V"⟩, 60), (⟨"ProbeConsoleModel", "fits", "(II)Z"⟩, 60), (⟨"ProbeConsoleModel", "nameSize", "(I)I"⟩, 60)]
theorem lw_r5 : ∀ q ∈ lw_privs_5, lw_okq q := List.forall_mem_cons.mpr ⟨lw_p64, List.forall_mem_cons.mpr ⟨lw_p65, List.forall_mem_cons.mpr ⟨lw_p66, List.forall_mem_cons.mpr ⟨lw_p67, List.forall_mem_cons.mpr ⟨lw_p68, List.forall_mem_cons.mpr ⟨lw_p69, List.forall_mem_cons.mpr ⟨lw_p70, List.forall_mem_cons.mpr ⟨lw_p71, List.forall_mem_cons.mpr ⟨lw_p72, List.forall_mem_cons.mpr ⟨lw_p73, List.forall_mem_cons.mpr ⟨lw_p74, List.forall_mem_cons.mpr ⟨lw_p75, List.forall_mem_cons.mpr ⟨lw_p76, List.forall_mem_cons.mpr ⟨lw_p77, List.forall_mem_cons.mpr ⟨lw_p78, List.forall_mem_cons.mpr ⟨lw_p79, fun _ h => absurd h List.not_mem_nil⟩⟩⟩⟩⟩⟩⟩⟩⟩⟩⟩⟩⟩⟩⟩⟩
set_option maxRecDepth 100000 in
theorem lw_p80 : lw_okq (⟨"ProbeConsoleModel", "starred", "(II)I"⟩, 60) := ⟨⟨by decide +kernel, by decide +kernel⟩, List.mem_of_getElem? (i := 1026) rfl, List.mem_of_getElem? (i := 1463) rfl, List.mem_of_getElem? (i := 1464) rfl⟩
set_option maxRecDepth 100000 in
theorem lw_p81 : lw_okq (⟨"ProbeConsoleModel", "nameByte", "(III)I"⟩, 60) := ⟨⟨by decide +kernel, by decide +kernel⟩, List.mem_of_getElem? (i := 1026) rfl, List.mem_of_getElem? (i := 1467) rfl, List.mem_of_getElem? (i := 1468) rfl⟩
set_option maxRecDepth 100000 in
theorem lw_p82 : lw_okq (⟨"ProbeConsoleModel", "watchOne", "(II)V"⟩, 60) := ⟨⟨by decide +kernel, by decide +kernel⟩, List.mem_of_getElem? (i := 1026) rfl, List.mem_of_getElem? (i := 1472) rfl, List.mem_of_getElem? (i := 1473) rfl⟩
set_option maxRecDepth 100000 in
theorem lw_p83 : lw_okq (⟨"ProbeConsoleModel", "probeExpression", "(I)V"⟩, 60) := ⟨⟨by decide +kernel, by decide +kernel⟩, List.mem_of_getElem? (i := 1026) rfl, List.mem_of_getElem? (i := 1476) rfl, List.mem_of_getElem? (i := 1477) rfl⟩
set_option maxRecDepth 100000 in
theorem lw_p84 : lw_okq (⟨"ProbeConsoleModel", "record", "(III)V"⟩, 60) := ⟨⟨by decide +kernel, by decide +kernel⟩, List.mem_of_getElem? (i := 1026) rfl, List.mem_of_getElem? (i := 1486) rfl, List.mem_of_getElem? (i := 1487) rfl⟩
set_option maxRecDepth 100000 in
theorem lw_p85 : lw_okq (⟨"ProbeConsoleModel", "keepOne", "(IIII)V"⟩, 60) := ⟨⟨by decide +kernel, by decide +kernel⟩, List.mem_of_getElem? (i := 1026) rfl, List.mem_of_getElem? (i := 1490) rfl, List.mem_of_getElem? (i := 1491) rfl⟩
set_option maxRecDepth 100000 in
theorem lw_p86 : lw_okq (⟨"ProbeConsoleModel", "step", "()V"⟩, 60) := ⟨⟨by decide +kernel, by decide +kernel⟩, List.mem_of_getElem? (i := 1026) rfl, List.mem_of_getElem? (i := 1494) rfl, List.mem_of_getElem? (i := 1495) rfl⟩
set_option maxRecDepth 100000 in
theorem lw_p87 : lw_okq (⟨"ProbeConsoleModel", "leave", "()V"⟩, 60) := ⟨⟨by decide +kernel, by decide +kernel⟩, List.mem_of_getElem? (i := 1026) rfl, List.mem_of_getElem? (i := 1498) rfl, List.mem_of_getElem? (i := 1499) rfl⟩
set_option maxRecDepth 100000 in
theorem lw_p88 : lw_okq (⟨"ProbeConsoleModel", "push", "(I)V"⟩, 60) := ⟨⟨by decide +kernel, by decide +kernel⟩, List.mem_of_getElem? (i := 1026) rfl, List.mem_of_getElem? (i := 1502) rfl, List.mem_of_getElem? (i := 1503) rfl⟩
set_option maxRecDepth 100000 in
theorem lw_p89 : lw_okq (⟨"ProbeConsoleModel", "throwUp", "(I)V"⟩, 60) := ⟨⟨by decide +kernel, by decide +kernel⟩, List.mem_of_getElem? (i := 1026) rfl, List.mem_of_getElem? (i := 1506) rfl, List.mem_of_getElem? (i := 1507) rfl⟩
set_option maxRecDepth 100000 in
theorem lw_p90 : lw_okq (⟨"ProbeConsoleModel", "invoke", "(J)V"⟩, 60) := ⟨⟨by decide +kernel, by decide +kernel⟩, List.mem_of_getElem? (i := 1026) rfl, List.mem_of_getElem? (i := 1510) rfl, List.mem_of_getElem? (i := 1511) rfl⟩
set_option maxRecDepth 100000 in
theorem lw_p91 : lw_okq (⟨"ProbeConsoleModel", "throwAll", "(I)V"⟩, 60) := ⟨⟨by decide +kernel, by decide +kernel⟩, List.mem_of_getElem? (i := 1026) rfl, List.mem_of_getElem? (i := 1515) rfl, List.mem_of_getElem? (i := 1516) rfl⟩
def lw_privs_6 : List (MethodName × Nat) := [(⟨"ProbeConsoleModel", "starred", "(II)I"⟩, 60), (⟨"ProbeConsoleModel", "nameByte", "(III)I"⟩, 60), (⟨"ProbeConsoleModel", "watchOne", "(II)V"⟩, 60), (⟨"ProbeConsoleModel", "probeExpression", "(I)V"⟩, 60), (⟨"ProbeConsoleModel", "record", "(III)V"⟩, 60), (⟨"ProbeConsoleModel", "keepOne", "(IIII)V"⟩, 60), (⟨"ProbeConsoleModel", "step", "()V"⟩, 60), (⟨"ProbeConsoleModel", "leave", "()V"⟩, 60), (⟨"ProbeConsoleModel", "push", "(I)V"⟩, 60), (⟨"ProbeConsoleModel", "throwUp", "(I)V"⟩, 60), (⟨"ProbeConsoleModel", "invoke", "(J)V"⟩, 60), (⟨"ProbeConsoleModel", "throwAll", "(I)V"⟩, 60)]
theorem lw_r6 : ∀ q ∈ lw_privs_6, lw_okq q := List.forall_mem_cons.mpr ⟨lw_p80, List.forall_mem_cons.mpr ⟨lw_p81, List.forall_mem_cons.mpr ⟨lw_p82, List.forall_mem_cons.mpr ⟨lw_p83, List.forall_mem_cons.mpr ⟨lw_p84, List.forall_mem_cons.mpr ⟨lw_p85, List.forall_mem_cons.mpr ⟨lw_p86, List.forall_mem_cons.mpr ⟨lw_p87, List.forall_mem_cons.mpr ⟨lw_p88, List.forall_mem_cons.mpr ⟨lw_p89, List.forall_mem_cons.mpr ⟨lw_p90, List.forall_mem_cons.mpr ⟨lw_p91, fun _ h => absurd h List.not_mem_nil⟩⟩⟩⟩⟩⟩⟩⟩⟩⟩⟩⟩
def lw_privs : List (MethodName × Nat) := lw_privs_1 ++ (lw_privs_2 ++ (lw_privs_3 ++ (lw_privs_4 ++ (lw_privs_5 ++ (lw_privs_6)))))
def lw_tbl : List Cond := k2_sels lw_privs ++ tables_1
theorem lw_privs_ok : ∀ q ∈ lw_privs, lw_okq q := by
  show ∀ q ∈ lw_privs_1 ++ (lw_privs_2 ++ (lw_privs_3 ++ (lw_privs_4 ++ (lw_privs_5 ++ (lw_privs_6))))), lw_okq q
  exact List.forall_mem_append.mpr ⟨lw_r1, List.forall_mem_append.mpr ⟨lw_r2, List.forall_mem_append.mpr ⟨lw_r3, List.forall_mem_append.mpr ⟨lw_r4, List.forall_mem_append.mpr ⟨lw_r5, lw_r6⟩⟩⟩⟩⟩

