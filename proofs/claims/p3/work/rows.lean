section
-- ===== PART A: goes FIRST, ahead of the names: the tables' words, and 'selects' of the private methods out of them =====
/-- a private method of a class that the tables say can be made, by its rows of tables_1 -/
def lw_okq (q : MethodName × Nat) : Prop := (q.1.cls ≠ "java/lang/invoke/MethodHandle" ∧ q.1.cls ≠ "java/lang/invoke/VarHandle") ∧ Cond.instantiable q.1.cls q.2 ∈ tables_1 ∧ Cond.privateMethod q.1 ∈ tables_1 ∧ Cond.instanceMethod q.1 ∈ tables_1
theorem lw_p0 : lw_okq (⟨"ProbeConsole$Texts", "parameters", "()I"⟩, 3) := ⟨⟨by decide +kernel, by decide +kernel⟩, List.mem_of_getElem? (i := 86) (by decide +kernel), List.mem_of_getElem? (i := 399) (by decide +kernel), List.mem_of_getElem? (i := 400) (by decide +kernel)⟩
theorem lw_p1 : lw_okq (⟨"ProbeConsole$Expressions", "expression", "()V"⟩, 7) := ⟨⟨by decide +kernel, by decide +kernel⟩, List.mem_of_getElem? (i := 92) (by decide +kernel), List.mem_of_getElem? (i := 413) (by decide +kernel), List.mem_of_getElem? (i := 414) (by decide +kernel)⟩
theorem lw_p2 : lw_okq (⟨"ProbeConsole$Expressions", "choice", "()V"⟩, 7) := ⟨⟨by decide +kernel, by decide +kernel⟩, List.mem_of_getElem? (i := 92) (by decide +kernel), List.mem_of_getElem? (i := 417) (by decide +kernel), List.mem_of_getElem? (i := 418) (by decide +kernel)⟩
theorem lw_p3 : lw_okq (⟨"ProbeConsole$Expressions", "joined", "(I)V"⟩, 7) := ⟨⟨by decide +kernel, by decide +kernel⟩, List.mem_of_getElem? (i := 92) (by decide +kernel), List.mem_of_getElem? (i := 421) (by decide +kernel), List.mem_of_getElem? (i := 422) (by decide +kernel)⟩
theorem lw_p4 : lw_okq (⟨"ProbeConsole$Expressions", "signed", "()V"⟩, 7) := ⟨⟨by decide +kernel, by decide +kernel⟩, List.mem_of_getElem? (i := 92) (by decide +kernel), List.mem_of_getElem? (i := 425) (by decide +kernel), List.mem_of_getElem? (i := 426) (by decide +kernel)⟩
theorem lw_p5 : lw_okq (⟨"ProbeConsole$Expressions", "operand", "()V"⟩, 7) := ⟨⟨by decide +kernel, by decide +kernel⟩, List.mem_of_getElem? (i := 92) (by decide +kernel), List.mem_of_getElem? (i := 430) (by decide +kernel), List.mem_of_getElem? (i := 431) (by decide +kernel)⟩
theorem lw_p6 : lw_okq (⟨"ProbeConsole$Expressions", "countNode", "(I)V"⟩, 7) := ⟨⟨by decide +kernel, by decide +kernel⟩, List.mem_of_getElem? (i := 92) (by decide +kernel), List.mem_of_getElem? (i := 449) (by decide +kernel), List.mem_of_getElem? (i := 450) (by decide +kernel)⟩
theorem lw_p7 : lw_okq (⟨"ProbeConsole$Expressions", "word", "()V"⟩, 7) := ⟨⟨by decide +kernel, by decide +kernel⟩, List.mem_of_getElem? (i := 92) (by decide +kernel), List.mem_of_getElem? (i := 465) (by decide +kernel), List.mem_of_getElem? (i := 466) (by decide +kernel)⟩
theorem lw_p8 : lw_okq (⟨"ProbeConsole$Expressions", "invocation", "()V"⟩, 7) := ⟨⟨by decide +kernel, by decide +kernel⟩, List.mem_of_getElem? (i := 92) (by decide +kernel), List.mem_of_getElem? (i := 470) (by decide +kernel), List.mem_of_getElem? (i := 471) (by decide +kernel)⟩
theorem lw_p9 : lw_okq (⟨"ProbeConsole$Expressions", "takeOpen", "()Z"⟩, 7) := ⟨⟨by decide +kernel, by decide +kernel⟩, List.mem_of_getElem? (i := 92) (by decide +kernel), List.mem_of_getElem? (i := 475) (by decide +kernel), List.mem_of_getElem? (i := 476) (by decide +kernel)⟩
theorem lw_p10 : lw_okq (⟨"ProbeConsole$Expressions", "arguments", "()I"⟩, 7) := ⟨⟨by decide +kernel, by decide +kernel⟩, List.mem_of_getElem? (i := 92) (by decide +kernel), List.mem_of_getElem? (i := 479) (by decide +kernel), List.mem_of_getElem? (i := 480) (by decide +kernel)⟩
theorem lw_p11 : lw_okq (⟨"ProbeConsole$Expressions", "variable", "()V"⟩, 7) := ⟨⟨by decide +kernel, by decide +kernel⟩, List.mem_of_getElem? (i := 92) (by decide +kernel), List.mem_of_getElem? (i := 490) (by decide +kernel), List.mem_of_getElem? (i := 491) (by decide +kernel)⟩
theorem lw_p12 : lw_okq (⟨"ProbeConsole$Expressions", "takeSign", "()I"⟩, 7) := ⟨⟨by decide +kernel, by decide +kernel⟩, List.mem_of_getElem? (i := 92) (by decide +kernel), List.mem_of_getElem? (i := 579) (by decide +kernel), List.mem_of_getElem? (i := 580) (by decide +kernel)⟩
theorem lw_p13 : lw_okq (⟨"ProbeConsole$Texts", "expectEnd", "()V"⟩, 3) := ⟨⟨by decide +kernel, by decide +kernel⟩, List.mem_of_getElem? (i := 86) (by decide +kernel), List.mem_of_getElem? (i := 595) (by decide +kernel), List.mem_of_getElem? (i := 596) (by decide +kernel)⟩
theorem lw_p14 : lw_okq (⟨"ProbeConsole$Texts", "verb", "()I"⟩, 3) := ⟨⟨by decide +kernel, by decide +kernel⟩, List.mem_of_getElem? (i := 86) (by decide +kernel), List.mem_of_getElem? (i := 660) (by decide +kernel), List.mem_of_getElem? (i := 661) (by decide +kernel)⟩
theorem lw_p15 : lw_okq (⟨"ProbeConsole$Texts", "readWatch", "(LProbeConsole$Job;)V"⟩, 3) := ⟨⟨by decide +kernel, by decide +kernel⟩, List.mem_of_getElem? (i := 86) (by decide +kernel), List.mem_of_getElem? (i := 700) (by decide +kernel), List.mem_of_getElem? (i := 701) (by decide +kernel)⟩
def lw_privs_1 : List (MethodName × Nat) := [(⟨"ProbeConsole$Texts", "parameters", "()I"⟩, 3), (⟨"ProbeConsole$Expressions", "expression", "()V"⟩, 7), (⟨"ProbeConsole$Expressions", "choice", "()V"⟩, 7), (⟨"ProbeConsole$Expressions", "joined", "(I)V"⟩, 7), (⟨"ProbeConsole$Expressions", "signed", "()V"⟩, 7), (⟨"ProbeConsole$Expressions", "operand", "()V"⟩, 7), (⟨"ProbeConsole$Expressions", "countNode", "(I)V"⟩, 7), (⟨"ProbeConsole$Expressions", "word", "()V"⟩, 7), (⟨"ProbeConsole$Expressions", "invocation", "()V"⟩, 7), (⟨"ProbeConsole$Expressions", "takeOpen", "()Z"⟩, 7), (⟨"ProbeConsole$Expressions", "arguments", "()I"⟩, 7), (⟨"ProbeConsole$Expressions", "variable", "()V"⟩, 7), (⟨"ProbeConsole$Expressions", "takeSign", "()I"⟩, 7), (⟨"ProbeConsole$Texts", "expectEnd", "()V"⟩, 3), (⟨"ProbeConsole$Texts", "verb", "()I"⟩, 3), (⟨"ProbeConsole$Texts", "readWatch", "(LProbeConsole$Job;)V"⟩, 3)]
theorem lw_r1 : ∀ q ∈ lw_privs_1, lw_okq q := List.forall_mem_cons.mpr ⟨lw_p0, List.forall_mem_cons.mpr ⟨lw_p1, List.forall_mem_cons.mpr ⟨lw_p2, List.forall_mem_cons.mpr ⟨lw_p3, List.forall_mem_cons.mpr ⟨lw_p4, List.forall_mem_cons.mpr ⟨lw_p5, List.forall_mem_cons.mpr ⟨lw_p6, List.forall_mem_cons.mpr ⟨lw_p7, List.forall_mem_cons.mpr ⟨lw_p8, List.forall_mem_cons.mpr ⟨lw_p9, List.forall_mem_cons.mpr ⟨lw_p10, List.forall_mem_cons.mpr ⟨lw_p11, List.forall_mem_cons.mpr ⟨lw_p12, List.forall_mem_cons.mpr ⟨lw_p13, List.forall_mem_cons.mpr ⟨lw_p14, List.forall_mem_cons.mpr ⟨lw_p15, fun _ h => absurd h List.not_mem_nil⟩⟩⟩⟩⟩⟩⟩⟩⟩⟩⟩⟩⟩⟩⟩⟩
theorem lw_p16 : lw_okq (⟨"ProbeConsole$Texts", "point", "()I"⟩, 3) := ⟨⟨by decide +kernel, by decide +kernel⟩, List.mem_of_getElem? (i := 86) (by decide +kernel), List.mem_of_getElem? (i := 704) (by decide +kernel), List.mem_of_getElem? (i := 705) (by decide +kernel)⟩
theorem lw_p17 : lw_okq (⟨"ProbeConsole$Texts", "pattern", "()J"⟩, 3) := ⟨⟨by decide +kernel, by decide +kernel⟩, List.mem_of_getElem? (i := 86) (by decide +kernel), List.mem_of_getElem? (i := 711) (by decide +kernel), List.mem_of_getElem? (i := 712) (by decide +kernel)⟩
theorem lw_p18 : lw_okq (⟨"ProbeConsole$Texts", "limit", "()I"⟩, 3) := ⟨⟨by decide +kernel, by decide +kernel⟩, List.mem_of_getElem? (i := 86) (by decide +kernel), List.mem_of_getElem? (i := 719) (by decide +kernel), List.mem_of_getElem? (i := 720) (by decide +kernel)⟩
theorem lw_p19 : lw_okq (⟨"java/lang/Throwable", "fillInStackTrace", "(I)Ljava/lang/Throwable;"⟩, 6) := ⟨⟨by decide +kernel, by decide +kernel⟩, List.mem_of_getElem? (i := 824) (by decide +kernel), List.mem_of_getElem? (i := 822) (by decide +kernel), List.mem_of_getElem? (i := 823) (by decide +kernel)⟩
theorem lw_p20 : lw_okq (⟨"ProbeConsole$Machine", "invoke", "(II)I"⟩, 13) := ⟨⟨by decide +kernel, by decide +kernel⟩, List.mem_of_getElem? (i := 271) (by decide +kernel), List.mem_of_getElem? (i := 891) (by decide +kernel), List.mem_of_getElem? (i := 892) (by decide +kernel)⟩
theorem lw_p21 : lw_okq (⟨"ProbeConsole$Machine", "probe", "(II[I)V"⟩, 13) := ⟨⟨by decide +kernel, by decide +kernel⟩, List.mem_of_getElem? (i := 271) (by decide +kernel), List.mem_of_getElem? (i := 895) (by decide +kernel), List.mem_of_getElem? (i := 896) (by decide +kernel)⟩
theorem lw_p22 : lw_okq (⟨"ProbeConsole$Machine", "keep", "(III[I)V"⟩, 13) := ⟨⟨by decide +kernel, by decide +kernel⟩, List.mem_of_getElem? (i := 271) (by decide +kernel), List.mem_of_getElem? (i := 907) (by decide +kernel), List.mem_of_getElem? (i := 908) (by decide +kernel)⟩
theorem lw_p23 : lw_okq (⟨"ProbeConsole$Machine", "watch", "(II[I)V"⟩, 13) := ⟨⟨by decide +kernel, by decide +kernel⟩, List.mem_of_getElem? (i := 271) (by decide +kernel), List.mem_of_getElem? (i := 923) (by decide +kernel), List.mem_of_getElem? (i := 924) (by decide +kernel)⟩
theorem lw_p24 : lw_okq (⟨"ProbeConsole$Machine", "run", "(LProbeConsole$Code;[I)I"⟩, 13) := ⟨⟨by decide +kernel, by decide +kernel⟩, List.mem_of_getElem? (i := 271) (by decide +kernel), List.mem_of_getElem? (i := 927) (by decide +kernel), List.mem_of_getElem? (i := 928) (by decide +kernel)⟩
theorem lw_p25 : lw_okq (⟨"ProbeConsole$Machine", "step", "(LProbeConsole$Code;I[I)I"⟩, 13) := ⟨⟨by decide +kernel, by decide +kernel⟩, List.mem_of_getElem? (i := 271) (by decide +kernel), List.mem_of_getElem? (i := 931) (by decide +kernel), List.mem_of_getElem? (i := 932) (by decide +kernel)⟩
theorem lw_p26 : lw_okq (⟨"ProbeConsole$Machine", "push", "(I)V"⟩, 13) := ⟨⟨by decide +kernel, by decide +kernel⟩, List.mem_of_getElem? (i := 271) (by decide +kernel), List.mem_of_getElem? (i := 935) (by decide +kernel), List.mem_of_getElem? (i := 936) (by decide +kernel)⟩
theorem lw_p27 : lw_okq (⟨"ProbeConsole$Machine", "pop", "()I"⟩, 13) := ⟨⟨by decide +kernel, by decide +kernel⟩, List.mem_of_getElem? (i := 271) (by decide +kernel), List.mem_of_getElem? (i := 940) (by decide +kernel), List.mem_of_getElem? (i := 941) (by decide +kernel)⟩
theorem lw_p28 : lw_okq (⟨"ProbeConsole$Machine", "fail", "(I)V"⟩, 13) := ⟨⟨by decide +kernel, by decide +kernel⟩, List.mem_of_getElem? (i := 271) (by decide +kernel), List.mem_of_getElem? (i := 944) (by decide +kernel), List.mem_of_getElem? (i := 945) (by decide +kernel)⟩
theorem lw_p29 : lw_okq (⟨"ProbeConsole$Machine", "invokeNamed", "(JI)V"⟩, 13) := ⟨⟨by decide +kernel, by decide +kernel⟩, List.mem_of_getElem? (i := 271) (by decide +kernel), List.mem_of_getElem? (i := 948) (by decide +kernel), List.mem_of_getElem? (i := 949) (by decide +kernel)⟩
theorem lw_p30 : lw_okq (⟨"ProbeConsole$Machine", "behindThrow", "(LProbeConsole$Code;II)I"⟩, 13) := ⟨⟨by decide +kernel, by decide +kernel⟩, List.mem_of_getElem? (i := 271) (by decide +kernel), List.mem_of_getElem? (i := 958) (by decide +kernel), List.mem_of_getElem? (i := 959) (by decide +kernel)⟩
theorem lw_p31 : lw_okq (⟨"ProbeConsoleModel", "begin", "()V"⟩, 60) := ⟨⟨by decide +kernel, by decide +kernel⟩, List.mem_of_getElem? (i := 1023) (by decide +kernel), List.mem_of_getElem? (i := 1224) (by decide +kernel), List.mem_of_getElem? (i := 1225) (by decide +kernel)⟩
def lw_privs_2 : List (MethodName × Nat) := [(⟨"ProbeConsole$Texts", "point", "()I"⟩, 3), (⟨"ProbeConsole$Texts", "pattern", "()J"⟩, 3), (⟨"ProbeConsole$Texts", "limit", "()I"⟩, 3), (⟨"java/lang/Throwable", "fillInStackTrace", "(I)Ljava/lang/Throwable;"⟩, 6), (⟨"ProbeConsole$Machine", "invoke", "(II)I"⟩, 13), (⟨"ProbeConsole$Machine", "probe", "(II[I)V"⟩, 13), (⟨"ProbeConsole$Machine", "keep", "(III[I)V"⟩, 13), (⟨"ProbeConsole$Machine", "watch", "(II[I)V"⟩, 13), (⟨"ProbeConsole$Machine", "run", "(LProbeConsole$Code;[I)I"⟩, 13), (⟨"ProbeConsole$Machine", "step", "(LProbeConsole$Code;I[I)I"⟩, 13), (⟨"ProbeConsole$Machine", "push", "(I)V"⟩, 13), (⟨"ProbeConsole$Machine", "pop", "()I"⟩, 13), (⟨"ProbeConsole$Machine", "fail", "(I)V"⟩, 13), (⟨"ProbeConsole$Machine", "invokeNamed", "(JI)V"⟩, 13), (⟨"ProbeConsole$Machine", "behindThrow", "(LProbeConsole$Code;II)I"⟩, 13), (⟨"ProbeConsoleModel", "begin", "()V"⟩, 60)]
theorem lw_r2 : ∀ q ∈ lw_privs_2, lw_okq q := List.forall_mem_cons.mpr ⟨lw_p16, List.forall_mem_cons.mpr ⟨lw_p17, List.forall_mem_cons.mpr ⟨lw_p18, List.forall_mem_cons.mpr ⟨lw_p19, List.forall_mem_cons.mpr ⟨lw_p20, List.forall_mem_cons.mpr ⟨lw_p21, List.forall_mem_cons.mpr ⟨lw_p22, List.forall_mem_cons.mpr ⟨lw_p23, List.forall_mem_cons.mpr ⟨lw_p24, List.forall_mem_cons.mpr ⟨lw_p25, List.forall_mem_cons.mpr ⟨lw_p26, List.forall_mem_cons.mpr ⟨lw_p27, List.forall_mem_cons.mpr ⟨lw_p28, List.forall_mem_cons.mpr ⟨lw_p29, List.forall_mem_cons.mpr ⟨lw_p30, List.forall_mem_cons.mpr ⟨lw_p31, fun _ h => absurd h List.not_mem_nil⟩⟩⟩⟩⟩⟩⟩⟩⟩⟩⟩⟩⟩⟩⟩⟩
theorem lw_p32 : lw_okq (⟨"ProbeConsoleModel", "rowSize", "(I)I"⟩, 60) := ⟨⟨by decide +kernel, by decide +kernel⟩, List.mem_of_getElem? (i := 1023) (by decide +kernel), List.mem_of_getElem? (i := 1228) (by decide +kernel), List.mem_of_getElem? (i := 1229) (by decide +kernel)⟩
theorem lw_p33 : lw_okq (⟨"ProbeConsoleModel", "byteAt", "(I)I"⟩, 60) := ⟨⟨by decide +kernel, by decide +kernel⟩, List.mem_of_getElem? (i := 1023) (by decide +kernel), List.mem_of_getElem? (i := 1232) (by decide +kernel), List.mem_of_getElem? (i := 1233) (by decide +kernel)⟩
theorem lw_p34 : lw_okq (⟨"ProbeConsoleModel", "fail", "(II)V"⟩, 60) := ⟨⟨by decide +kernel, by decide +kernel⟩, List.mem_of_getElem? (i := 1023) (by decide +kernel), List.mem_of_getElem? (i := 1242) (by decide +kernel), List.mem_of_getElem? (i := 1243) (by decide +kernel)⟩
theorem lw_p35 : lw_okq (⟨"ProbeConsoleModel", "isName", "(II)Z"⟩, 60) := ⟨⟨by decide +kernel, by decide +kernel⟩, List.mem_of_getElem? (i := 1023) (by decide +kernel), List.mem_of_getElem? (i := 1246) (by decide +kernel), List.mem_of_getElem? (i := 1247) (by decide +kernel)⟩
theorem lw_p36 : lw_okq (⟨"ProbeConsoleModel", "want", "(I)V"⟩, 60) := ⟨⟨by decide +kernel, by decide +kernel⟩, List.mem_of_getElem? (i := 1023) (by decide +kernel), List.mem_of_getElem? (i := 1250) (by decide +kernel), List.mem_of_getElem? (i := 1251) (by decide +kernel)⟩
theorem lw_p37 : lw_okq (⟨"ProbeConsoleModel", "readExpression", "()V"⟩, 60) := ⟨⟨by decide +kernel, by decide +kernel⟩, List.mem_of_getElem? (i := 1023) (by decide +kernel), List.mem_of_getElem? (i := 1254) (by decide +kernel), List.mem_of_getElem? (i := 1255) (by decide +kernel)⟩
theorem lw_p38 : lw_okq (⟨"ProbeConsoleModel", "ended", "()Z"⟩, 60) := ⟨⟨by decide +kernel, by decide +kernel⟩, List.mem_of_getElem? (i := 1023) (by decide +kernel), List.mem_of_getElem? (i := 1258) (by decide +kernel), List.mem_of_getElem? (i := 1259) (by decide +kernel)⟩
theorem lw_p39 : lw_okq (⟨"ProbeConsoleModel", "last", "()I"⟩, 60) := ⟨⟨by decide +kernel, by decide +kernel⟩, List.mem_of_getElem? (i := 1023) (by decide +kernel), List.mem_of_getElem? (i := 1262) (by decide +kernel), List.mem_of_getElem? (i := 1263) (by decide +kernel)⟩
theorem lw_p40 : lw_okq (⟨"ProbeConsoleModel", "readOperand", "(Z)Z"⟩, 60) := ⟨⟨by decide +kernel, by decide +kernel⟩, List.mem_of_getElem? (i := 1023) (by decide +kernel), List.mem_of_getElem? (i := 1266) (by decide +kernel), List.mem_of_getElem? (i := 1267) (by decide +kernel)⟩
theorem lw_p41 : lw_okq (⟨"ProbeConsoleModel", "close", "()V"⟩, 60) := ⟨⟨by decide +kernel, by decide +kernel⟩, List.mem_of_getElem? (i := 1023) (by decide +kernel), List.mem_of_getElem? (i := 1270) (by decide +kernel), List.mem_of_getElem? (i := 1271) (by decide +kernel)⟩
theorem lw_p42 : lw_okq (⟨"ProbeConsoleModel", "reduceAll", "()V"⟩, 60) := ⟨⟨by decide +kernel, by decide +kernel⟩, List.mem_of_getElem? (i := 1023) (by decide +kernel), List.mem_of_getElem? (i := 1274) (by decide +kernel), List.mem_of_getElem? (i := 1275) (by decide +kernel)⟩
theorem lw_p43 : lw_okq (⟨"ProbeConsoleModel", "reduceTo", "(I)V"⟩, 60) := ⟨⟨by decide +kernel, by decide +kernel⟩, List.mem_of_getElem? (i := 1023) (by decide +kernel), List.mem_of_getElem? (i := 1278) (by decide +kernel), List.mem_of_getElem? (i := 1279) (by decide +kernel)⟩
theorem lw_p44 : lw_okq (⟨"ProbeConsoleModel", "reduce", "()V"⟩, 60) := ⟨⟨by decide +kernel, by decide +kernel⟩, List.mem_of_getElem? (i := 1023) (by decide +kernel), List.mem_of_getElem? (i := 1282) (by decide +kernel), List.mem_of_getElem? (i := 1283) (by decide +kernel)⟩
theorem lw_p45 : lw_okq (⟨"ProbeConsoleModel", "put", "(IJ)V"⟩, 60) := ⟨⟨by decide +kernel, by decide +kernel⟩, List.mem_of_getElem? (i := 1023) (by decide +kernel), List.mem_of_getElem? (i := 1289) (by decide +kernel), List.mem_of_getElem? (i := 1290) (by decide +kernel)⟩
theorem lw_p46 : lw_okq (⟨"ProbeConsoleModel", "operand", "(I)V"⟩, 60) := ⟨⟨by decide +kernel, by decide +kernel⟩, List.mem_of_getElem? (i := 1023) (by decide +kernel), List.mem_of_getElem? (i := 1293) (by decide +kernel), List.mem_of_getElem? (i := 1294) (by decide +kernel)⟩
theorem lw_p47 : lw_okq (⟨"ProbeConsoleModel", "readNumber", "()V"⟩, 60) := ⟨⟨by decide +kernel, by decide +kernel⟩, List.mem_of_getElem? (i := 1023) (by decide +kernel), List.mem_of_getElem? (i := 1300) (by decide +kernel), List.mem_of_getElem? (i := 1301) (by decide +kernel)⟩
def lw_privs_3 : List (MethodName × Nat) := [(⟨"ProbeConsoleModel", "rowSize", "(I)I"⟩, 60), (⟨"ProbeConsoleModel", "byteAt", "(I)I"⟩, 60), (⟨"ProbeConsoleModel", "fail", "(II)V"⟩, 60), (⟨"ProbeConsoleModel", "isName", "(II)Z"⟩, 60), (⟨"ProbeConsoleModel", "want", "(I)V"⟩, 60), (⟨"ProbeConsoleModel", "readExpression", "()V"⟩, 60), (⟨"ProbeConsoleModel", "ended", "()Z"⟩, 60), (⟨"ProbeConsoleModel", "last", "()I"⟩, 60), (⟨"ProbeConsoleModel", "readOperand", "(Z)Z"⟩, 60), (⟨"ProbeConsoleModel", "close", "()V"⟩, 60), (⟨"ProbeConsoleModel", "reduceAll", "()V"⟩, 60), (⟨"ProbeConsoleModel", "reduceTo", "(I)V"⟩, 60), (⟨"ProbeConsoleModel", "reduce", "()V"⟩, 60), (⟨"ProbeConsoleModel", "put", "(IJ)V"⟩, 60), (⟨"ProbeConsoleModel", "operand", "(I)V"⟩, 60), (⟨"ProbeConsoleModel", "readNumber", "()V"⟩, 60)]
theorem lw_r3 : ∀ q ∈ lw_privs_3, lw_okq q := List.forall_mem_cons.mpr ⟨lw_p32, List.forall_mem_cons.mpr ⟨lw_p33, List.forall_mem_cons.mpr ⟨lw_p34, List.forall_mem_cons.mpr ⟨lw_p35, List.forall_mem_cons.mpr ⟨lw_p36, List.forall_mem_cons.mpr ⟨lw_p37, List.forall_mem_cons.mpr ⟨lw_p38, List.forall_mem_cons.mpr ⟨lw_p39, List.forall_mem_cons.mpr ⟨lw_p40, List.forall_mem_cons.mpr ⟨lw_p41, List.forall_mem_cons.mpr ⟨lw_p42, List.forall_mem_cons.mpr ⟨lw_p43, List.forall_mem_cons.mpr ⟨lw_p44, List.forall_mem_cons.mpr ⟨lw_p45, List.forall_mem_cons.mpr ⟨lw_p46, List.forall_mem_cons.mpr ⟨lw_p47, fun _ h => absurd h List.not_mem_nil⟩⟩⟩⟩⟩⟩⟩⟩⟩⟩⟩⟩⟩⟩⟩⟩
theorem lw_p48 : lw_okq (⟨"ProbeConsoleModel", "count", "(I)Z"⟩, 60) := ⟨⟨by decide +kernel, by decide +kernel⟩, List.mem_of_getElem? (i := 1023) (by decide +kernel), List.mem_of_getElem? (i := 1304) (by decide +kernel), List.mem_of_getElem? (i := 1305) (by decide +kernel)⟩
theorem lw_p49 : lw_okq (⟨"ProbeConsoleModel", "wait", "(III)V"⟩, 60) := ⟨⟨by decide +kernel, by decide +kernel⟩, List.mem_of_getElem? (i := 1023) (by decide +kernel), List.mem_of_getElem? (i := 1312) (by decide +kernel), List.mem_of_getElem? (i := 1313) (by decide +kernel)⟩
theorem lw_p50 : lw_okq (⟨"ProbeConsoleModel", "open", "(II)V"⟩, 60) := ⟨⟨by decide +kernel, by decide +kernel⟩, List.mem_of_getElem? (i := 1023) (by decide +kernel), List.mem_of_getElem? (i := 1316) (by decide +kernel), List.mem_of_getElem? (i := 1317) (by decide +kernel)⟩
theorem lw_p51 : lw_okq (⟨"ProbeConsoleModel", "readRow", "()Z"⟩, 60) := ⟨⟨by decide +kernel, by decide +kernel⟩, List.mem_of_getElem? (i := 1023) (by decide +kernel), List.mem_of_getElem? (i := 1320) (by decide +kernel), List.mem_of_getElem? (i := 1321) (by decide +kernel)⟩
theorem lw_p52 : lw_okq (⟨"ProbeConsoleModel", "variableOf", "(I)I"⟩, 60) := ⟨⟨by decide +kernel, by decide +kernel⟩, List.mem_of_getElem? (i := 1023) (by decide +kernel), List.mem_of_getElem? (i := 1324) (by decide +kernel), List.mem_of_getElem? (i := 1325) (by decide +kernel)⟩
theorem lw_p53 : lw_okq (⟨"ProbeConsoleModel", "readSign", "()Z"⟩, 60) := ⟨⟨by decide +kernel, by decide +kernel⟩, List.mem_of_getElem? (i := 1023) (by decide +kernel), List.mem_of_getElem? (i := 1328) (by decide +kernel), List.mem_of_getElem? (i := 1329) (by decide +kernel)⟩
theorem lw_p54 : lw_okq (⟨"ProbeConsoleModel", "hash", "()V"⟩, 60) := ⟨⟨by decide +kernel, by decide +kernel⟩, List.mem_of_getElem? (i := 1023) (by decide +kernel), List.mem_of_getElem? (i := 1332) (by decide +kernel), List.mem_of_getElem? (i := 1333) (by decide +kernel)⟩
theorem lw_p55 : lw_okq (⟨"ProbeConsoleModel", "question", "()V"⟩, 60) := ⟨⟨by decide +kernel, by decide +kernel⟩, List.mem_of_getElem? (i := 1023) (by decide +kernel), List.mem_of_getElem? (i := 1336) (by decide +kernel), List.mem_of_getElem? (i := 1337) (by decide +kernel)⟩
theorem lw_p56 : lw_okq (⟨"ProbeConsoleModel", "colon", "()V"⟩, 60) := ⟨⟨by decide +kernel, by decide +kernel⟩, List.mem_of_getElem? (i := 1023) (by decide +kernel), List.mem_of_getElem? (i := 1340) (by decide +kernel), List.mem_of_getElem? (i := 1341) (by decide +kernel)⟩
theorem lw_p57 : lw_okq (⟨"ProbeConsoleModel", "between", "(II)V"⟩, 60) := ⟨⟨by decide +kernel, by decide +kernel⟩, List.mem_of_getElem? (i := 1023) (by decide +kernel), List.mem_of_getElem? (i := 1344) (by decide +kernel), List.mem_of_getElem? (i := 1345) (by decide +kernel)⟩
theorem lw_p58 : lw_okq (⟨"ProbeConsoleModel", "comma", "()V"⟩, 60) := ⟨⟨by decide +kernel, by decide +kernel⟩, List.mem_of_getElem? (i := 1023) (by decide +kernel), List.mem_of_getElem? (i := 1348) (by decide +kernel), List.mem_of_getElem? (i := 1349) (by decide +kernel)⟩
theorem lw_p59 : lw_okq (⟨"ProbeConsoleModel", "findMethod", "(JI)I"⟩, 60) := ⟨⟨by decide +kernel, by decide +kernel⟩, List.mem_of_getElem? (i := 1023) (by decide +kernel), List.mem_of_getElem? (i := 1352) (by decide +kernel), List.mem_of_getElem? (i := 1353) (by decide +kernel)⟩
theorem lw_p60 : lw_okq (⟨"ProbeConsoleModel", "keepExpression", "(I)V"⟩, 60) := ⟨⟨by decide +kernel, by decide +kernel⟩, List.mem_of_getElem? (i := 1023) (by decide +kernel), List.mem_of_getElem? (i := 1356) (by decide +kernel), List.mem_of_getElem? (i := 1357) (by decide +kernel)⟩
theorem lw_p61 : lw_okq (⟨"ProbeConsoleModel", "skip", "()V"⟩, 60) := ⟨⟨by decide +kernel, by decide +kernel⟩, List.mem_of_getElem? (i := 1023) (by decide +kernel), List.mem_of_getElem? (i := 1364) (by decide +kernel), List.mem_of_getElem? (i := 1365) (by decide +kernel)⟩
theorem lw_p62 : lw_okq (⟨"ProbeConsoleModel", "rowAt", "(I)J"⟩, 60) := ⟨⟨by decide +kernel, by decide +kernel⟩, List.mem_of_getElem? (i := 1023) (by decide +kernel), List.mem_of_getElem? (i := 1368) (by decide +kernel), List.mem_of_getElem? (i := 1369) (by decide +kernel)⟩
theorem lw_p63 : lw_okq (⟨"ProbeConsoleModel", "endsAt", "(I)Z"⟩, 60) := ⟨⟨by decide +kernel, by decide +kernel⟩, List.mem_of_getElem? (i := 1023) (by decide +kernel), List.mem_of_getElem? (i := 1376) (by decide +kernel), List.mem_of_getElem? (i := 1377) (by decide +kernel)⟩
def lw_privs_4 : List (MethodName × Nat) := [(⟨"ProbeConsoleModel", "count", "(I)Z"⟩, 60), (⟨"ProbeConsoleModel", "wait", "(III)V"⟩, 60), (⟨"ProbeConsoleModel", "open", "(II)V"⟩, 60), (⟨"ProbeConsoleModel", "readRow", "()Z"⟩, 60), (⟨"ProbeConsoleModel", "variableOf", "(I)I"⟩, 60), (⟨"ProbeConsoleModel", "readSign", "()Z"⟩, 60), (⟨"ProbeConsoleModel", "hash", "()V"⟩, 60), (⟨"ProbeConsoleModel", "question", "()V"⟩, 60), (⟨"ProbeConsoleModel", "colon", "()V"⟩, 60), (⟨"ProbeConsoleModel", "between", "(II)V"⟩, 60), (⟨"ProbeConsoleModel", "comma", "()V"⟩, 60), (⟨"ProbeConsoleModel", "findMethod", "(JI)I"⟩, 60), (⟨"ProbeConsoleModel", "keepExpression", "(I)V"⟩, 60), (⟨"ProbeConsoleModel", "skip", "()V"⟩, 60), (⟨"ProbeConsoleModel", "rowAt", "(I)J"⟩, 60), (⟨"ProbeConsoleModel", "endsAt", "(I)Z"⟩, 60)]
theorem lw_r4 : ∀ q ∈ lw_privs_4, lw_okq q := List.forall_mem_cons.mpr ⟨lw_p48, List.forall_mem_cons.mpr ⟨lw_p49, List.forall_mem_cons.mpr ⟨lw_p50, List.forall_mem_cons.mpr ⟨lw_p51, List.forall_mem_cons.mpr ⟨lw_p52, List.forall_mem_cons.mpr ⟨lw_p53, List.forall_mem_cons.mpr ⟨lw_p54, List.forall_mem_cons.mpr ⟨lw_p55, List.forall_mem_cons.mpr ⟨lw_p56, List.forall_mem_cons.mpr ⟨lw_p57, List.forall_mem_cons.mpr ⟨lw_p58, List.forall_mem_cons.mpr ⟨lw_p59, List.forall_mem_cons.mpr ⟨lw_p60, List.forall_mem_cons.mpr ⟨lw_p61, List.forall_mem_cons.mpr ⟨lw_p62, List.forall_mem_cons.mpr ⟨lw_p63, fun _ h => absurd h List.not_mem_nil⟩⟩⟩⟩⟩⟩⟩⟩⟩⟩⟩⟩⟩⟩⟩⟩
theorem lw_p64 : lw_okq (⟨"ProbeConsoleModel", "watch", "()I"⟩, 60) := ⟨⟨by decide +kernel, by decide +kernel⟩, List.mem_of_getElem? (i := 1023) (by decide +kernel), List.mem_of_getElem? (i := 1380) (by decide +kernel), List.mem_of_getElem? (i := 1381) (by decide +kernel)⟩
theorem lw_p65 : lw_okq (⟨"ProbeConsoleModel", "readPoint", "()I"⟩, 60) := ⟨⟨by decide +kernel, by decide +kernel⟩, List.mem_of_getElem? (i := 1023) (by decide +kernel), List.mem_of_getElem? (i := 1384) (by decide +kernel), List.mem_of_getElem? (i := 1385) (by decide +kernel)⟩
theorem lw_p66 : lw_okq (⟨"ProbeConsoleModel", "readPattern", "()V"⟩, 60) := ⟨⟨by decide +kernel, by decide +kernel⟩, List.mem_of_getElem? (i := 1023) (by decide +kernel), List.mem_of_getElem? (i := 1388) (by decide +kernel), List.mem_of_getElem? (i := 1389) (by decide +kernel)⟩
theorem lw_p67 : lw_okq (⟨"ProbeConsoleModel", "freeJob", "()I"⟩, 60) := ⟨⟨by decide +kernel, by decide +kernel⟩, List.mem_of_getElem? (i := 1023) (by decide +kernel), List.mem_of_getElem? (i := 1392) (by decide +kernel), List.mem_of_getElem? (i := 1393) (by decide +kernel)⟩
theorem lw_p68 : lw_okq (⟨"ProbeConsoleModel", "smallNumber", "(I)I"⟩, 60) := ⟨⟨by decide +kernel, by decide +kernel⟩, List.mem_of_getElem? (i := 1023) (by decide +kernel), List.mem_of_getElem? (i := 1396) (by decide +kernel), List.mem_of_getElem? (i := 1397) (by decide +kernel)⟩
theorem lw_p69 : lw_okq (⟨"ProbeConsoleModel", "wantBlank", "()V"⟩, 60) := ⟨⟨by decide +kernel, by decide +kernel⟩, List.mem_of_getElem? (i := 1023) (by decide +kernel), List.mem_of_getElem? (i := 1400) (by decide +kernel), List.mem_of_getElem? (i := 1401) (by decide +kernel)⟩
theorem lw_p70 : lw_okq (⟨"ProbeConsoleModel", "wantEnd", "()V"⟩, 60) := ⟨⟨by decide +kernel, by decide +kernel⟩, List.mem_of_getElem? (i := 1023) (by decide +kernel), List.mem_of_getElem? (i := 1404) (by decide +kernel), List.mem_of_getElem? (i := 1405) (by decide +kernel)⟩
theorem lw_p71 : lw_okq (⟨"ProbeConsoleModel", "newJob", "(II)I"⟩, 60) := ⟨⟨by decide +kernel, by decide +kernel⟩, List.mem_of_getElem? (i := 1023) (by decide +kernel), List.mem_of_getElem? (i := 1408) (by decide +kernel), List.mem_of_getElem? (i := 1409) (by decide +kernel)⟩
theorem lw_p72 : lw_okq (⟨"ProbeConsoleModel", "simple", "(I)I"⟩, 60) := ⟨⟨by decide +kernel, by decide +kernel⟩, List.mem_of_getElem? (i := 1023) (by decide +kernel), List.mem_of_getElem? (i := 1412) (by decide +kernel), List.mem_of_getElem? (i := 1413) (by decide +kernel)⟩
theorem lw_p73 : lw_okq (⟨"ProbeConsoleModel", "kill", "()I"⟩, 60) := ⟨⟨by decide +kernel, by decide +kernel⟩, List.mem_of_getElem? (i := 1023) (by decide +kernel), List.mem_of_getElem? (i := 1416) (by decide +kernel), List.mem_of_getElem? (i := 1417) (by decide +kernel)⟩
theorem lw_p74 : lw_okq (⟨"ProbeConsoleModel", "reset", "()I"⟩, 60) := ⟨⟨by decide +kernel, by decide +kernel⟩, List.mem_of_getElem? (i := 1023) (by decide +kernel), List.mem_of_getElem? (i := 1420) (by decide +kernel), List.mem_of_getElem? (i := 1421) (by decide +kernel)⟩
theorem lw_p75 : lw_okq (⟨"ProbeConsoleModel", "play", "(IIIIZ)I"⟩, 60) := ⟨⟨by decide +kernel, by decide +kernel⟩, List.mem_of_getElem? (i := 1023) (by decide +kernel), List.mem_of_getElem? (i := 1436) (by decide +kernel), List.mem_of_getElem? (i := 1437) (by decide +kernel)⟩
theorem lw_p76 : lw_okq (⟨"ProbeConsoleModel", "enter", "(I)V"⟩, 60) := ⟨⟨by decide +kernel, by decide +kernel⟩, List.mem_of_getElem? (i := 1023) (by decide +kernel), List.mem_of_getElem? (i := 1440) (by decide +kernel), List.mem_of_getElem? (i := 1441) (by decide +kernel)⟩
theorem lw_p77 : lw_okq (⟨"ProbeConsoleModel", "probe", "(III)V"⟩, 60) := ⟨⟨by decide +kernel, by decide +kernel⟩, List.mem_of_getElem? (i := 1023) (by decide +kernel), List.mem_of_getElem? (i := 1444) (by decide +kernel), List.mem_of_getElem? (i := 1445) (by decide +kernel)⟩
theorem lw_p78 : lw_okq (⟨"ProbeConsoleModel", "fits", "(II)Z"⟩, 60) := ⟨⟨by decide +kernel, by decide +kernel⟩, List.mem_of_getElem? (i := 1023) (by decide +kernel), List.mem_of_getElem? (i := 1448) (by decide +kernel), List.mem_of_getElem? (i := 1449) (by decide +kernel)⟩
theorem lw_p79 : lw_okq (⟨"ProbeConsoleModel", "nameSize", "(I)I"⟩, 60) := ⟨⟨by decide +kernel, by decide +kernel⟩, List.mem_of_getElem? (i := 1023) (by decide +kernel), List.mem_of_getElem? (i := 1452) (by decide +kernel), List.mem_of_getElem? (i := 1453) (by decide +kernel)⟩
def lw_privs_5 : List (MethodName × Nat) := [(⟨"ProbeConsoleModel", "watch", "()I"⟩, 60), (⟨"ProbeConsoleModel", "readPoint", "()I"⟩, 60), (⟨"ProbeConsoleModel", "readPattern", "()V"⟩, 60), (⟨"ProbeConsoleModel", "freeJob", "()I"⟩, 60), (⟨"ProbeConsoleModel", "smallNumber", "(I)I"⟩, 60), (⟨"ProbeConsoleModel", "wantBlank", "()V"⟩, 60), (⟨"ProbeConsoleModel", "wantEnd", "()V"⟩, 60), (⟨"ProbeConsoleModel", "newJob", "(II)I"⟩, 60), (⟨"ProbeConsoleModel", "simple", "(I)I"⟩, 60), (⟨"ProbeConsoleModel", "kill", "()I"⟩, 60), (⟨"ProbeConsoleModel", "reset", "()I"⟩, 60), (⟨"ProbeConsoleModel", "play", "(IIIIZ)I"⟩, 60), (⟨"ProbeConsoleModel", "enter", "(I)V"⟩, 60), (⟨"ProbeConsoleModel", "probe", "(III)V"⟩, 60), (⟨"ProbeConsoleModel", "fits", "(II)Z"⟩, 60), (⟨"ProbeConsoleModel", "nameSize", "(I)I"⟩, 60)]
theorem lw_r5 : ∀ q ∈ lw_privs_5, lw_okq q := List.forall_mem_cons.mpr ⟨lw_p64, List.forall_mem_cons.mpr ⟨lw_p65, List.forall_mem_cons.mpr ⟨lw_p66, List.forall_mem_cons.mpr ⟨lw_p67, List.forall_mem_cons.mpr ⟨lw_p68, List.forall_mem_cons.mpr ⟨lw_p69, List.forall_mem_cons.mpr ⟨lw_p70, List.forall_mem_cons.mpr ⟨lw_p71, List.forall_mem_cons.mpr ⟨lw_p72, List.forall_mem_cons.mpr ⟨lw_p73, List.forall_mem_cons.mpr ⟨lw_p74, List.forall_mem_cons.mpr ⟨lw_p75, List.forall_mem_cons.mpr ⟨lw_p76, List.forall_mem_cons.mpr ⟨lw_p77, List.forall_mem_cons.mpr ⟨lw_p78, List.forall_mem_cons.mpr ⟨lw_p79, fun _ h => absurd h List.not_mem_nil⟩⟩⟩⟩⟩⟩⟩⟩⟩⟩⟩⟩⟩⟩⟩⟩
theorem lw_p80 : lw_okq (⟨"ProbeConsoleModel", "starred", "(II)I"⟩, 60) := ⟨⟨by decide +kernel, by decide +kernel⟩, List.mem_of_getElem? (i := 1023) (by decide +kernel), List.mem_of_getElem? (i := 1456) (by decide +kernel), List.mem_of_getElem? (i := 1457) (by decide +kernel)⟩
theorem lw_p81 : lw_okq (⟨"ProbeConsoleModel", "nameByte", "(III)I"⟩, 60) := ⟨⟨by decide +kernel, by decide +kernel⟩, List.mem_of_getElem? (i := 1023) (by decide +kernel), List.mem_of_getElem? (i := 1460) (by decide +kernel), List.mem_of_getElem? (i := 1461) (by decide +kernel)⟩
theorem lw_p82 : lw_okq (⟨"ProbeConsoleModel", "watchOne", "(II)V"⟩, 60) := ⟨⟨by decide +kernel, by decide +kernel⟩, List.mem_of_getElem? (i := 1023) (by decide +kernel), List.mem_of_getElem? (i := 1465) (by decide +kernel), List.mem_of_getElem? (i := 1466) (by decide +kernel)⟩
theorem lw_p83 : lw_okq (⟨"ProbeConsoleModel", "probeExpression", "(I)V"⟩, 60) := ⟨⟨by decide +kernel, by decide +kernel⟩, List.mem_of_getElem? (i := 1023) (by decide +kernel), List.mem_of_getElem? (i := 1469) (by decide +kernel), List.mem_of_getElem? (i := 1470) (by decide +kernel)⟩
theorem lw_p84 : lw_okq (⟨"ProbeConsoleModel", "record", "(III)V"⟩, 60) := ⟨⟨by decide +kernel, by decide +kernel⟩, List.mem_of_getElem? (i := 1023) (by decide +kernel), List.mem_of_getElem? (i := 1479) (by decide +kernel), List.mem_of_getElem? (i := 1480) (by decide +kernel)⟩
theorem lw_p85 : lw_okq (⟨"ProbeConsoleModel", "keepOne", "(IIII)V"⟩, 60) := ⟨⟨by decide +kernel, by decide +kernel⟩, List.mem_of_getElem? (i := 1023) (by decide +kernel), List.mem_of_getElem? (i := 1483) (by decide +kernel), List.mem_of_getElem? (i := 1484) (by decide +kernel)⟩
theorem lw_p86 : lw_okq (⟨"ProbeConsoleModel", "step", "()V"⟩, 60) := ⟨⟨by decide +kernel, by decide +kernel⟩, List.mem_of_getElem? (i := 1023) (by decide +kernel), List.mem_of_getElem? (i := 1487) (by decide +kernel), List.mem_of_getElem? (i := 1488) (by decide +kernel)⟩
theorem lw_p87 : lw_okq (⟨"ProbeConsoleModel", "leave", "()V"⟩, 60) := ⟨⟨by decide +kernel, by decide +kernel⟩, List.mem_of_getElem? (i := 1023) (by decide +kernel), List.mem_of_getElem? (i := 1491) (by decide +kernel), List.mem_of_getElem? (i := 1492) (by decide +kernel)⟩
theorem lw_p88 : lw_okq (⟨"ProbeConsoleModel", "push", "(I)V"⟩, 60) := ⟨⟨by decide +kernel, by decide +kernel⟩, List.mem_of_getElem? (i := 1023) (by decide +kernel), List.mem_of_getElem? (i := 1495) (by decide +kernel), List.mem_of_getElem? (i := 1496) (by decide +kernel)⟩
theorem lw_p89 : lw_okq (⟨"ProbeConsoleModel", "throwUp", "(I)V"⟩, 60) := ⟨⟨by decide +kernel, by decide +kernel⟩, List.mem_of_getElem? (i := 1023) (by decide +kernel), List.mem_of_getElem? (i := 1499) (by decide +kernel), List.mem_of_getElem? (i := 1500) (by decide +kernel)⟩
theorem lw_p90 : lw_okq (⟨"ProbeConsoleModel", "invoke", "(J)V"⟩, 60) := ⟨⟨by decide +kernel, by decide +kernel⟩, List.mem_of_getElem? (i := 1023) (by decide +kernel), List.mem_of_getElem? (i := 1503) (by decide +kernel), List.mem_of_getElem? (i := 1504) (by decide +kernel)⟩
theorem lw_p91 : lw_okq (⟨"ProbeConsoleModel", "throwAll", "(I)V"⟩, 60) := ⟨⟨by decide +kernel, by decide +kernel⟩, List.mem_of_getElem? (i := 1023) (by decide +kernel), List.mem_of_getElem? (i := 1508) (by decide +kernel), List.mem_of_getElem? (i := 1509) (by decide +kernel)⟩
def lw_privs_6 : List (MethodName × Nat) := [(⟨"ProbeConsoleModel", "starred", "(II)I"⟩, 60), (⟨"ProbeConsoleModel", "nameByte", "(III)I"⟩, 60), (⟨"ProbeConsoleModel", "watchOne", "(II)V"⟩, 60), (⟨"ProbeConsoleModel", "probeExpression", "(I)V"⟩, 60), (⟨"ProbeConsoleModel", "record", "(III)V"⟩, 60), (⟨"ProbeConsoleModel", "keepOne", "(IIII)V"⟩, 60), (⟨"ProbeConsoleModel", "step", "()V"⟩, 60), (⟨"ProbeConsoleModel", "leave", "()V"⟩, 60), (⟨"ProbeConsoleModel", "push", "(I)V"⟩, 60), (⟨"ProbeConsoleModel", "throwUp", "(I)V"⟩, 60), (⟨"ProbeConsoleModel", "invoke", "(J)V"⟩, 60), (⟨"ProbeConsoleModel", "throwAll", "(I)V"⟩, 60)]
theorem lw_r6 : ∀ q ∈ lw_privs_6, lw_okq q := List.forall_mem_cons.mpr ⟨lw_p80, List.forall_mem_cons.mpr ⟨lw_p81, List.forall_mem_cons.mpr ⟨lw_p82, List.forall_mem_cons.mpr ⟨lw_p83, List.forall_mem_cons.mpr ⟨lw_p84, List.forall_mem_cons.mpr ⟨lw_p85, List.forall_mem_cons.mpr ⟨lw_p86, List.forall_mem_cons.mpr ⟨lw_p87, List.forall_mem_cons.mpr ⟨lw_p88, List.forall_mem_cons.mpr ⟨lw_p89, List.forall_mem_cons.mpr ⟨lw_p90, List.forall_mem_cons.mpr ⟨lw_p91, fun _ h => absurd h List.not_mem_nil⟩⟩⟩⟩⟩⟩⟩⟩⟩⟩⟩⟩
def lw_privs : List (MethodName × Nat) := lw_privs_1 ++ (lw_privs_2 ++ (lw_privs_3 ++ (lw_privs_4 ++ (lw_privs_5 ++ (lw_privs_6)))))
def lw_tbl : List Cond := k2_sels lw_privs ++ tables_1
theorem lw_privs_ok : ∀ q ∈ lw_privs, lw_okq q := by
  show ∀ q ∈ lw_privs_1 ++ (lw_privs_2 ++ (lw_privs_3 ++ (lw_privs_4 ++ (lw_privs_5 ++ (lw_privs_6))))), lw_okq q
  exact List.forall_mem_append.mpr ⟨lw_r1, List.forall_mem_append.mpr ⟨lw_r2, List.forall_mem_append.mpr ⟨lw_r3, List.forall_mem_append.mpr ⟨lw_r4, List.forall_mem_append.mpr ⟨lw_r5, lw_r6⟩⟩⟩⟩⟩
end
section
def RX0 : String := "ProbeConsole$Code"
def TX0 : u_T := fun k => match k with
  | 0 => ("ProbeConsole$Code", "operations", "[I", true)
  | 1 => ("ProbeConsole$Code", "operands", "[J", true)
  | 2 => ("ProbeConsole$Code", "starts", "[I", true)
  | 3 => ("ProbeConsole$Code", "heights", "[I", true)
  | 4 => ("ProbeConsole$Code", "length", "I", false)
  | _ => ("ProbeConsole$Code", "height", "I", false)
def tyX0 : Nat → FieldType := fun k => match k with
  | 0 => .array .int
  | 1 => .array .long
  | 2 => .array .int
  | 3 => .array .int
  | 4 => .int
  | _ => .int
abbrev wsX00 : List Cond := u_ws RX0 TX0 6
theorem nmX0 : ∀ a, a < 6 → ∀ b, b < 6 → a ≠ b → (TX0 a).2.1 ≠ (TX0 b).2.1 := by decide +kernel
theorem tyX0_ok : ∀ k, k < 6 → parseFieldDescriptor (TX0 k).2.2.1 = some (tyX0 k) := by decide +kernel
abbrev cX0_init : ByteArray := prog_2_method_1_code
def yX0_init : MethodName := ⟨RX0, "<init>", "()V"⟩
abbrev cX0_empty : ByteArray := prog_2_method_2_code
def yX0_empty : MethodName := ⟨RX0, "empty", "()V"⟩
abbrev cX0_add : ByteArray := prog_2_method_3_code
def yX0_add : MethodName := ⟨RX0, "add", "(IJ)I"⟩
abbrev cX0_addOrElse : ByteArray := prog_2_method_4_code
def yX0_addOrElse : MethodName := ⟨RX0, "addOrElse", "(I)I"⟩
abbrev cX0_leadHere : ByteArray := prog_2_method_5_code
def yX0_leadHere : MethodName := ⟨RX0, "leadHere", "(I)V"⟩
abbrev cX0_behindThrow : ByteArray := prog_2_method_6_code
def yX0_behindThrow : MethodName := ⟨RX0, "behindThrow", "(I)I"⟩
abbrev cX0_rise : ByteArray := prog_2_method_7_code
def yX0_rise : MethodName := ⟨RX0, "rise", "(IJ)I"⟩
def RX1 : String := "ProbeConsole$Expressions"
def TX1 : u_T := fun k => match k with
  | 0 => ("ProbeConsole$Expressions", "reader", "LProbeConsole$Reader;", true)
  | 1 => ("ProbeConsole$Expressions", "code", "LProbeConsole$Code;", false)
  | 2 => ("ProbeConsole$Expressions", "known", "I", false)
  | 3 => ("ProbeConsole$Expressions", "named", "Z", false)
  | 4 => ("ProbeConsole$Expressions", "nodes", "I", false)
  | 5 => ("ProbeConsole$Expressions", "open", "I", false)
  | _ => ("ProbeConsole$Expressions", "barred", "Z", false)
def tyX1 : Nat → FieldType := fun k => match k with
  | 0 => .object "ProbeConsole$Reader"
  | 1 => .object "ProbeConsole$Code"
  | 2 => .int
  | 3 => .boolean
  | 4 => .int
  | 5 => .int
  | _ => .boolean
abbrev wsX10 : List Cond := u_ws RX1 TX1 7
theorem nmX1 : ∀ a, a < 7 → ∀ b, b < 7 → a ≠ b → (TX1 a).2.1 ≠ (TX1 b).2.1 := by decide +kernel
theorem tyX1_ok : ∀ k, k < 7 → parseFieldDescriptor (TX1 k).2.2.1 = some (tyX1 k) := by decide +kernel
abbrev cX1_init : ByteArray := prog_3_method_1_code
def yX1_init : MethodName := ⟨RX1, "<init>", "(LProbeConsole$Reader;LProbeConsole$Code;)V"⟩
abbrev cX1_read : ByteArray := prog_3_method_2_code
def yX1_read : MethodName := ⟨RX1, "read", "(LProbeConsole$Code;IZ)V"⟩
abbrev cX1_expression : ByteArray := prog_3_method_3_code
def yX1_expression : MethodName := ⟨RX1, "expression", "()V"⟩
abbrev cX1_choice : ByteArray := prog_3_method_4_code
def yX1_choice : MethodName := ⟨RX1, "choice", "()V"⟩
abbrev cX1_joined : ByteArray := prog_3_method_5_code
def yX1_joined : MethodName := ⟨RX1, "joined", "(I)V"⟩
abbrev cX1_kindOf : ByteArray := prog_3_method_6_code
def yX1_kindOf : MethodName := ⟨RX1, "kindOf", "(I)I"⟩
abbrev cX1_signed : ByteArray := prog_3_method_7_code
def yX1_signed : MethodName := ⟨RX1, "signed", "()V"⟩
abbrev cX1_operand : ByteArray := prog_3_method_8_code
def yX1_operand : MethodName := ⟨RX1, "operand", "()V"⟩
abbrev cX1_word : ByteArray := prog_3_method_9_code
def yX1_word : MethodName := ⟨RX1, "word", "()V"⟩
abbrev cX1_variable : ByteArray := prog_3_method_10_code
def yX1_variable : MethodName := ⟨RX1, "variable", "()V"⟩
abbrev cX1_invocation : ByteArray := prog_3_method_11_code
def yX1_invocation : MethodName := ⟨RX1, "invocation", "()V"⟩
abbrev cX1_arguments : ByteArray := prog_3_method_12_code
def yX1_arguments : MethodName := ⟨RX1, "arguments", "()I"⟩
abbrev cX1_takeSign : ByteArray := prog_3_method_13_code
def yX1_takeSign : MethodName := ⟨RX1, "takeSign", "()I"⟩
abbrev cX1_countNode : ByteArray := prog_3_method_14_code
def yX1_countNode : MethodName := ⟨RX1, "countNode", "(I)V"⟩
abbrev cX1_takeOpen : ByteArray := prog_3_method_15_code
def yX1_takeOpen : MethodName := ⟨RX1, "takeOpen", "()Z"⟩
def RX2 : String := "ProbeConsole$Job"
def TX2 : u_T := fun k => match k with
  | 0 => ("ProbeConsole$Job", "kind", "I", false)
  | 1 => ("ProbeConsole$Job", "point", "I", false)
  | 2 => ("ProbeConsole$Job", "pattern", "J", false)
  | 3 => ("ProbeConsole$Job", "expression", "LProbeConsole$Code;", true)
  | 4 => ("ProbeConsole$Job", "condition", "LProbeConsole$Code;", true)
  | 5 => ("ProbeConsole$Job", "conditional", "Z", false)
  | 6 => ("ProbeConsole$Job", "limit", "I", false)
  | 7 => ("ProbeConsole$Job", "made", "I", false)
  | 8 => ("ProbeConsole$Job", "counts", "[I", true)
  | _ => ("ProbeConsole$Job", "fitting", "I", false)
def tyX2 : Nat → FieldType := fun k => match k with
  | 0 => .int
  | 1 => .int
  | 2 => .long
  | 3 => .object "ProbeConsole$Code"
  | 4 => .object "ProbeConsole$Code"
  | 5 => .boolean
  | 6 => .int
  | 7 => .int
  | 8 => .array .int
  | _ => .int
abbrev wsX20 : List Cond := u_ws RX2 TX2 10
theorem nmX2 : ∀ a, a < 10 → ∀ b, b < 10 → a ≠ b → (TX2 a).2.1 ≠ (TX2 b).2.1 := by decide +kernel
theorem tyX2_ok : ∀ k, k < 10 → parseFieldDescriptor (TX2 k).2.2.1 = some (tyX2 k) := by decide +kernel
abbrev cX2_init : ByteArray := prog_4_method_1_code
def yX2_init : MethodName := ⟨RX2, "<init>", "()V"⟩
abbrev cX2_renew : ByteArray := prog_4_method_2_code
def yX2_renew : MethodName := ⟨RX2, "renew", "()V"⟩
abbrev cX2_meet : ByteArray := prog_4_method_3_code
def yX2_meet : MethodName := ⟨RX2, "meet", "(IJ)V"⟩
abbrev cX2_sees : ByteArray := prog_4_method_4_code
def yX2_sees : MethodName := ⟨RX2, "sees", "(I)Z"⟩
abbrev cX2_left : ByteArray := prog_4_method_5_code
def yX2_left : MethodName := ⟨RX2, "left", "()I"⟩
abbrev cX2_countRecord : ByteArray := prog_4_method_6_code
def yX2_countRecord : MethodName := ⟨RX2, "countRecord", "()V"⟩
def RX3 : String := "ProbeConsole$Jobs"
def TX3 : u_T := fun k => match k with
  | 0 => ("ProbeConsole$Jobs", "jobs", "[LProbeConsole$Job;", true)
  | _ => ("ProbeConsole$Jobs", "spare", "LProbeConsole$Job;", false)
def tyX3 : Nat → FieldType := fun k => match k with
  | 0 => .array (.object "ProbeConsole$Job")
  | _ => .object "ProbeConsole$Job"
abbrev wsX30 : List Cond := u_ws RX3 TX3 2
theorem nmX3 : ∀ a, a < 2 → ∀ b, b < 2 → a ≠ b → (TX3 a).2.1 ≠ (TX3 b).2.1 := by decide +kernel
theorem tyX3_ok : ∀ k, k < 2 → parseFieldDescriptor (TX3 k).2.2.1 = some (tyX3 k) := by decide +kernel
abbrev cX3_init : ByteArray := prog_5_method_1_code
def yX3_init : MethodName := ⟨RX3, "<init>", "()V"⟩
abbrev cX3_has : ByteArray := prog_5_method_2_code
def yX3_has : MethodName := ⟨RX3, "has", "(I)Z"⟩
abbrev cX3_at : ByteArray := prog_5_method_3_code
def yX3_at : MethodName := ⟨RX3, "at", "(I)LProbeConsole$Job;"⟩
abbrev cX3_begun : ByteArray := prog_5_method_4_code
def yX3_begun : MethodName := ⟨RX3, "begun", "(LProbeConsole$Methods;)I"⟩
abbrev cX3_ended : ByteArray := prog_5_method_5_code
def yX3_ended : MethodName := ⟨RX3, "ended", "(I)I"⟩
abbrev cX3_endAll : ByteArray := prog_5_method_6_code
def yX3_endAll : MethodName := ⟨RX3, "endAll", "()I"⟩
abbrev cX3_meet : ByteArray := prog_5_method_7_code
def yX3_meet : MethodName := ⟨RX3, "meet", "(IJ)V"⟩
def RX4 : String := "ProbeConsole$Machine"
def TX4 : u_T := fun k => match k with
  | 0 => ("ProbeConsole$Machine", "outcome", "I", false)
  | 1 => ("ProbeConsole$Machine", "invocations", "I", false)
  | 2 => ("ProbeConsole$Machine", "methods", "LProbeConsole$Methods;", true)
  | 3 => ("ProbeConsole$Machine", "jobs", "LProbeConsole$Jobs;", true)
  | 4 => ("ProbeConsole$Machine", "records", "LProbeConsole$Rows;", true)
  | 5 => ("ProbeConsole$Machine", "keeps", "LProbeConsole$Rows;", true)
  | 6 => ("ProbeConsole$Machine", "variables", "[[I", true)
  | 7 => ("ProbeConsole$Machine", "stack", "[I", true)
  | 8 => ("ProbeConsole$Machine", "height", "I", false)
  | 9 => ("ProbeConsole$Machine", "probed", "Z", false)
  | 10 => ("ProbeConsole$Machine", "threw", "Z", false)
  | 11 => ("ProbeConsole$Machine", "thrown", "I", false)
  | _ => ("ProbeConsole$Machine", "stopped", "Z", false)
def tyX4 : Nat → FieldType := fun k => match k with
  | 0 => .int
  | 1 => .int
  | 2 => .object "ProbeConsole$Methods"
  | 3 => .object "ProbeConsole$Jobs"
  | 4 => .object "ProbeConsole$Rows"
  | 5 => .object "ProbeConsole$Rows"
  | 6 => .array (.array .int)
  | 7 => .array .int
  | 8 => .int
  | 9 => .boolean
  | 10 => .boolean
  | 11 => .int
  | _ => .boolean
abbrev wsX40 : List Cond := u_ws RX4 TX4 13
theorem nmX4 : ∀ a, a < 13 → ∀ b, b < 13 → a ≠ b → (TX4 a).2.1 ≠ (TX4 b).2.1 := by decide +kernel
theorem tyX4_ok : ∀ k, k < 13 → parseFieldDescriptor (TX4 k).2.2.1 = some (tyX4 k) := by decide +kernel
abbrev cX4_init : ByteArray := prog_6_method_1_code
def yX4_init : MethodName := ⟨RX4, "<init>", "(LProbeConsole$Methods;LProbeConsole$Jobs;LProbeConsole$Rows;LProbeConsole$Rows;)V"⟩
abbrev cX4_setParameters : ByteArray := prog_6_method_2_code
def yX4_setParameters : MethodName := ⟨RX4, "setParameters", "(IIII)V"⟩
abbrev cX4_start : ByteArray := prog_6_method_3_code
def yX4_start : MethodName := ⟨RX4, "start", "(IZ)I"⟩
abbrev cX4_invoke : ByteArray := prog_6_method_4_code
def yX4_invoke : MethodName := ⟨RX4, "invoke", "(II)I"⟩
abbrev cX4_run : ByteArray := prog_6_method_5_code
def yX4_run : MethodName := ⟨RX4, "run", "(LProbeConsole$Code;[I)I"⟩
abbrev cX4_step : ByteArray := prog_6_method_6_code
def yX4_step : MethodName := ⟨RX4, "step", "(LProbeConsole$Code;I[I)I"⟩
abbrev cX4_fail : ByteArray := prog_6_method_7_code
def yX4_fail : MethodName := ⟨RX4, "fail", "(I)V"⟩
abbrev cX4_behindThrow : ByteArray := prog_6_method_8_code
def yX4_behindThrow : MethodName := ⟨RX4, "behindThrow", "(LProbeConsole$Code;II)I"⟩
abbrev cX4_invokeNamed : ByteArray := prog_6_method_9_code
def yX4_invokeNamed : MethodName := ⟨RX4, "invokeNamed", "(JI)V"⟩
abbrev cX4_joined : ByteArray := prog_6_method_10_code
def yX4_joined : MethodName := ⟨RX4, "joined", "(III)I"⟩
abbrev cX4_push : ByteArray := prog_6_method_11_code
def yX4_push : MethodName := ⟨RX4, "push", "(I)V"⟩
abbrev cX4_pop : ByteArray := prog_6_method_12_code
def yX4_pop : MethodName := ⟨RX4, "pop", "()I"⟩
abbrev cX4_probe : ByteArray := prog_6_method_13_code
def yX4_probe : MethodName := ⟨RX4, "probe", "(II[I)V"⟩
abbrev cX4_watch : ByteArray := prog_6_method_14_code
def yX4_watch : MethodName := ⟨RX4, "watch", "(II[I)V"⟩
abbrev cX4_keep : ByteArray := prog_6_method_15_code
def yX4_keep : MethodName := ⟨RX4, "keep", "(III[I)V"⟩
def RX5 : String := "ProbeConsole$Methods"
def TX5 : u_T := fun k => match k with
  | 0 => ("ProbeConsole$Methods", "keys", "[J", true)
  | 1 => ("ProbeConsole$Methods", "bodies", "[LProbeConsole$Code;", true)
  | _ => ("ProbeConsole$Methods", "count", "I", false)
def tyX5 : Nat → FieldType := fun k => match k with
  | 0 => .array .long
  | 1 => .array (.object "ProbeConsole$Code")
  | _ => .int
abbrev wsX50 : List Cond := u_ws RX5 TX5 3
theorem nmX5 : ∀ a, a < 3 → ∀ b, b < 3 → a ≠ b → (TX5 a).2.1 ≠ (TX5 b).2.1 := by decide +kernel
theorem tyX5_ok : ∀ k, k < 3 → parseFieldDescriptor (TX5 k).2.2.1 = some (tyX5 k) := by decide +kernel
abbrev cX5_init : ByteArray := prog_7_method_1_code
def yX5_init : MethodName := ⟨RX5, "<init>", "()V"⟩
abbrev cX5_has : ByteArray := prog_7_method_2_code
def yX5_has : MethodName := ⟨RX5, "has", "(I)Z"⟩
abbrev cX5_isFull : ByteArray := prog_7_method_3_code
def yX5_isFull : MethodName := ⟨RX5, "isFull", "()Z"⟩
abbrev cX5_size : ByteArray := prog_7_method_4_code
def yX5_size : MethodName := ⟨RX5, "size", "()I"⟩
abbrev cX5_keyOf : ByteArray := prog_7_method_5_code
def yX5_keyOf : MethodName := ⟨RX5, "keyOf", "(I)J"⟩
abbrev cX5_parametersOf : ByteArray := prog_7_method_6_code
def yX5_parametersOf : MethodName := ⟨RX5, "parametersOf", "(I)I"⟩
abbrev cX5_body : ByteArray := prog_7_method_7_code
def yX5_body : MethodName := ⟨RX5, "body", "(I)LProbeConsole$Code;"⟩
abbrev cX5_spareBody : ByteArray := prog_7_method_8_code
def yX5_spareBody : MethodName := ⟨RX5, "spareBody", "()LProbeConsole$Code;"⟩
abbrev cX5_find : ByteArray := prog_7_method_9_code
def yX5_find : MethodName := ⟨RX5, "find", "(J)I"⟩
abbrev cX5_add : ByteArray := prog_7_method_10_code
def yX5_add : MethodName := ⟨RX5, "add", "(J)I"⟩
def RX6 : String := "ProbeConsole$Packed"
def TX6 : u_T := fun k => match k with
  | _ => ("", "", "", false)
def tyX6 : Nat → FieldType := fun k => match k with
  | _ => .int
abbrev wsX60 : List Cond := u_ws RX6 TX6 0
theorem nmX6 : ∀ a, a < 0 → ∀ b, b < 0 → a ≠ b → (TX6 a).2.1 ≠ (TX6 b).2.1 := by decide +kernel
theorem tyX6_ok : ∀ k, k < 0 → parseFieldDescriptor (TX6 k).2.2.1 = some (tyX6 k) := by decide +kernel
abbrev cX6_sign : ByteArray := prog_8_method_2_code
def yX6_sign : MethodName := ⟨RX6, "sign", "(I)I"⟩
abbrev cX6_with : ByteArray := prog_8_method_3_code
def yX6_with : MethodName := ⟨RX6, "with", "(JII)J"⟩
abbrev cX6_signAt : ByteArray := prog_8_method_4_code
def yX6_signAt : MethodName := ⟨RX6, "signAt", "(JI)I"⟩
abbrev cX6_key : ByteArray := prog_8_method_5_code
def yX6_key : MethodName := ⟨RX6, "key", "(JI)J"⟩
abbrev cX6_parametersOf : ByteArray := prog_8_method_6_code
def yX6_parametersOf : MethodName := ⟨RX6, "parametersOf", "(J)I"⟩
abbrev cX6_fits : ByteArray := prog_8_method_7_code
def yX6_fits : MethodName := ⟨RX6, "fits", "(JJ)Z"⟩
abbrev cX6_pastStars : ByteArray := prog_8_method_8_code
def yX6_pastStars : MethodName := ⟨RX6, "pastStars", "(JI)I"⟩
abbrev cX6_pastSign : ByteArray := prog_8_method_9_code
def yX6_pastSign : MethodName := ⟨RX6, "pastSign", "(JII)I"⟩
def RX7 : String := "ProbeConsole$Reader"
def TX7 : u_T := fun k => match k with
  | 0 => ("ProbeConsole$Reader", "tape", "LProbeConsole$Tape;", true)
  | 1 => ("ProbeConsole$Reader", "position", "I", false)
  | 2 => ("ProbeConsole$Reader", "fault", "I", false)
  | 3 => ("ProbeConsole$Reader", "place", "I", false)
  | 4 => ("ProbeConsole$Reader", "rowLength", "I", false)
  | 5 => ("ProbeConsole$Reader", "rowIsName", "Z", false)
  | _ => ("ProbeConsole$Reader", "rowName", "J", false)
def tyX7 : Nat → FieldType := fun k => match k with
  | 0 => .object "ProbeConsole$Tape"
  | 1 => .int
  | 2 => .int
  | 3 => .int
  | 4 => .int
  | 5 => .boolean
  | _ => .long
abbrev wsX70 : List Cond := u_ws RX7 TX7 7
theorem nmX7 : ∀ a, a < 7 → ∀ b, b < 7 → a ≠ b → (TX7 a).2.1 ≠ (TX7 b).2.1 := by decide +kernel
theorem tyX7_ok : ∀ k, k < 7 → parseFieldDescriptor (TX7 k).2.2.1 = some (tyX7 k) := by decide +kernel
abbrev cX7_init : ByteArray := prog_9_method_1_code
def yX7_init : MethodName := ⟨RX7, "<init>", "(LProbeConsole$Tape;)V"⟩
abbrev cX7_begin : ByteArray := prog_9_method_2_code
def yX7_begin : MethodName := ⟨RX7, "begin", "()V"⟩
abbrev cX7_peek : ByteArray := prog_9_method_3_code
def yX7_peek : MethodName := ⟨RX7, "peek", "()I"⟩
abbrev cX7_fail : ByteArray := prog_9_method_4_code
def yX7_fail : MethodName := ⟨RX7, "fail", "(II)V"⟩
abbrev cX7_failAtEnd : ByteArray := prog_9_method_5_code
def yX7_failAtEnd : MethodName := ⟨RX7, "failAtEnd", "()V"⟩
abbrev cX7_expect : ByteArray := prog_9_method_6_code
def yX7_expect : MethodName := ⟨RX7, "expect", "(I)V"⟩
abbrev cX7_isFigure : ByteArray := prog_9_method_7_code
def yX7_isFigure : MethodName := ⟨RX7, "isFigure", "(I)Z"⟩
abbrev cX7_isRowByte : ByteArray := prog_9_method_8_code
def yX7_isRowByte : MethodName := ⟨RX7, "isRowByte", "(I)Z"⟩
abbrev cX7_isBlank : ByteArray := prog_9_method_9_code
def yX7_isBlank : MethodName := ⟨RX7, "isBlank", "(I)Z"⟩
abbrev cX7_number : ByteArray := prog_9_method_10_code
def yX7_number : MethodName := ⟨RX7, "number", "(I)I"⟩
abbrev cX7_scanRow : ByteArray := prog_9_method_11_code
def yX7_scanRow : MethodName := ⟨RX7, "scanRow", "()V"⟩
abbrev cX7_takeName : ByteArray := prog_9_method_12_code
def yX7_takeName : MethodName := ⟨RX7, "takeName", "()J"⟩
abbrev cX7_takes : ByteArray := prog_9_method_13_code
def yX7_takes : MethodName := ⟨RX7, "takes", "(Ljava/lang/String;)Z"⟩
abbrev cX7_endWord : ByteArray := prog_9_method_14_code
def yX7_endWord : MethodName := ⟨RX7, "endWord", "()V"⟩
abbrev cX7_skipBlanks : ByteArray := prog_9_method_15_code
def yX7_skipBlanks : MethodName := ⟨RX7, "skipBlanks", "()V"⟩
def RX8 : String := "ProbeConsole$Rows"
def TX8 : u_T := fun k => match k with
  | 0 => ("ProbeConsole$Rows", "most", "I", true)
  | 1 => ("ProbeConsole$Rows", "width", "I", true)
  | 2 => ("ProbeConsole$Rows", "cells", "[I", true)
  | _ => ("ProbeConsole$Rows", "size", "I", false)
def tyX8 : Nat → FieldType := fun k => match k with
  | 0 => .int
  | 1 => .int
  | 2 => .array .int
  | _ => .int
abbrev wsX80 : List Cond := u_ws RX8 TX8 4
theorem nmX8 : ∀ a, a < 4 → ∀ b, b < 4 → a ≠ b → (TX8 a).2.1 ≠ (TX8 b).2.1 := by decide +kernel
theorem tyX8_ok : ∀ k, k < 4 → parseFieldDescriptor (TX8 k).2.2.1 = some (tyX8 k) := by decide +kernel
abbrev cX8_init : ByteArray := prog_10_method_1_code
def yX8_init : MethodName := ⟨RX8, "<init>", "(II)V"⟩
abbrev cX8_isFull : ByteArray := prog_10_method_2_code
def yX8_isFull : MethodName := ⟨RX8, "isFull", "()Z"⟩
abbrev cX8_has : ByteArray := prog_10_method_3_code
def yX8_has : MethodName := ⟨RX8, "has", "(I)Z"⟩
abbrev cX8_cell : ByteArray := prog_10_method_4_code
def yX8_cell : MethodName := ⟨RX8, "cell", "(II)I"⟩
abbrev cX8_put : ByteArray := prog_10_method_5_code
def yX8_put : MethodName := ⟨RX8, "put", "(II)V"⟩
abbrev cX8_endRow : ByteArray := prog_10_method_6_code
def yX8_endRow : MethodName := ⟨RX8, "endRow", "()V"⟩
def RX9 : String := "ProbeConsole$Tape"
def TX9 : u_T := fun k => match k with
  | 0 => ("ProbeConsole$Tape", "bytes", "[I", true)
  | _ => ("ProbeConsole$Tape", "length", "I", false)
def tyX9 : Nat → FieldType := fun k => match k with
  | 0 => .array .int
  | _ => .int
abbrev wsX90 : List Cond := u_ws RX9 TX9 2
theorem nmX9 : ∀ a, a < 2 → ∀ b, b < 2 → a ≠ b → (TX9 a).2.1 ≠ (TX9 b).2.1 := by decide +kernel
theorem tyX9_ok : ∀ k, k < 2 → parseFieldDescriptor (TX9 k).2.2.1 = some (tyX9 k) := by decide +kernel
abbrev cX9_init : ByteArray := prog_11_method_1_code
def yX9_init : MethodName := ⟨RX9, "<init>", "()V"⟩
abbrev cX9_append : ByteArray := prog_11_method_2_code
def yX9_append : MethodName := ⟨RX9, "append", "(I)V"⟩
abbrev cX9_at : ByteArray := prog_11_method_3_code
def yX9_at : MethodName := ⟨RX9, "at", "(I)I"⟩
def RX10 : String := "ProbeConsole$Texts"
def TX10 : u_T := fun k => match k with
  | 0 => ("ProbeConsole$Texts", "number", "I", false)
  | 1 => ("ProbeConsole$Texts", "reader", "LProbeConsole$Reader;", true)
  | _ => ("ProbeConsole$Texts", "expressions", "LProbeConsole$Expressions;", true)
def tyX10 : Nat → FieldType := fun k => match k with
  | 0 => .int
  | 1 => .object "ProbeConsole$Reader"
  | _ => .object "ProbeConsole$Expressions"
abbrev wsX100 : List Cond := u_ws RX10 TX10 3
theorem nmX10 : ∀ a, a < 3 → ∀ b, b < 3 → a ≠ b → (TX10 a).2.1 ≠ (TX10 b).2.1 := by decide +kernel
theorem tyX10_ok : ∀ k, k < 3 → parseFieldDescriptor (TX10 k).2.2.1 = some (tyX10 k) := by decide +kernel
abbrev cX10_init : ByteArray := prog_12_method_1_code
def yX10_init : MethodName := ⟨RX10, "<init>", "(LProbeConsole$Reader;)V"⟩
abbrev cX10_readMethod : ByteArray := prog_12_method_2_code
def yX10_readMethod : MethodName := ⟨RX10, "readMethod", "(LProbeConsole$Code;)J"⟩
abbrev cX10_parameters : ByteArray := prog_12_method_3_code
def yX10_parameters : MethodName := ⟨RX10, "parameters", "()I"⟩
abbrev cX10_readCommand : ByteArray := prog_12_method_4_code
def yX10_readCommand : MethodName := ⟨RX10, "readCommand", "(LProbeConsole$Job;)I"⟩
abbrev cX10_verb : ByteArray := prog_12_method_5_code
def yX10_verb : MethodName := ⟨RX10, "verb", "()I"⟩
abbrev cX10_readWatch : ByteArray := prog_12_method_6_code
def yX10_readWatch : MethodName := ⟨RX10, "readWatch", "(LProbeConsole$Job;)V"⟩
abbrev cX10_point : ByteArray := prog_12_method_7_code
def yX10_point : MethodName := ⟨RX10, "point", "()I"⟩
abbrev cX10_pattern : ByteArray := prog_12_method_8_code
def yX10_pattern : MethodName := ⟨RX10, "pattern", "()J"⟩
abbrev cX10_limit : ByteArray := prog_12_method_9_code
def yX10_limit : MethodName := ⟨RX10, "limit", "()I"⟩
abbrev cX10_expectEnd : ByteArray := prog_12_method_10_code
def yX10_expectEnd : MethodName := ⟨RX10, "expectEnd", "()V"⟩
def RX11 : String := "ProbeConsole"
def TX11 : u_T := fun k => match k with
  | 0 => ("ProbeConsole", "tape", "LProbeConsole$Tape;", true)
  | 1 => ("ProbeConsole", "reader", "LProbeConsole$Reader;", true)
  | 2 => ("ProbeConsole", "texts", "LProbeConsole$Texts;", true)
  | 3 => ("ProbeConsole", "methods", "LProbeConsole$Methods;", true)
  | 4 => ("ProbeConsole", "jobs", "LProbeConsole$Jobs;", true)
  | 5 => ("ProbeConsole", "recordRows", "LProbeConsole$Rows;", true)
  | 6 => ("ProbeConsole", "keptRows", "LProbeConsole$Rows;", true)
  | _ => ("ProbeConsole", "machine", "LProbeConsole$Machine;", true)
def tyX11 : Nat → FieldType := fun k => match k with
  | 0 => .object "ProbeConsole$Tape"
  | 1 => .object "ProbeConsole$Reader"
  | 2 => .object "ProbeConsole$Texts"
  | 3 => .object "ProbeConsole$Methods"
  | 4 => .object "ProbeConsole$Jobs"
  | 5 => .object "ProbeConsole$Rows"
  | 6 => .object "ProbeConsole$Rows"
  | _ => .object "ProbeConsole$Machine"
abbrev wsX110 : List Cond := u_ws RX11 TX11 8
theorem nmX11 : ∀ a, a < 8 → ∀ b, b < 8 → a ≠ b → (TX11 a).2.1 ≠ (TX11 b).2.1 := by decide +kernel
theorem tyX11_ok : ∀ k, k < 8 → parseFieldDescriptor (TX11 k).2.2.1 = some (tyX11 k) := by decide +kernel
abbrev cX11_init : ByteArray := prog_1_method_1_code
def yX11_init : MethodName := ⟨RX11, "<init>", "()V"⟩
abbrev cX11_feed : ByteArray := prog_1_method_2_code
def yX11_feed : MethodName := ⟨RX11, "feed", "(IJ)I"⟩
abbrev cX11_wipe : ByteArray := prog_1_method_3_code
def yX11_wipe : MethodName := ⟨RX11, "wipe", "()I"⟩
abbrev cX11_method : ByteArray := prog_1_method_4_code
def yX11_method : MethodName := ⟨RX11, "method", "()I"⟩
abbrev cX11_command : ByteArray := prog_1_method_5_code
def yX11_command : MethodName := ⟨RX11, "command", "()I"⟩
abbrev cX11_fault : ByteArray := prog_1_method_6_code
def yX11_fault : MethodName := ⟨RX11, "fault", "()I"⟩
abbrev cX11_place : ByteArray := prog_1_method_7_code
def yX11_place : MethodName := ⟨RX11, "place", "()I"⟩
abbrev cX11_call : ByteArray := prog_1_method_8_code
def yX11_call : MethodName := ⟨RX11, "call", "(IIII)I"⟩
abbrev cX11_value : ByteArray := prog_1_method_9_code
def yX11_value : MethodName := ⟨RX11, "value", "()I"⟩
abbrev cX11_invoked : ByteArray := prog_1_method_10_code
def yX11_invoked : MethodName := ⟨RX11, "invoked", "()I"⟩
abbrev cX11_records : ByteArray := prog_1_method_11_code
def yX11_records : MethodName := ⟨RX11, "records", "()I"⟩
abbrev cX11_record : ByteArray := prog_1_method_12_code
def yX11_record : MethodName := ⟨RX11, "record", "(II)I"⟩
abbrev cX11_clear : ByteArray := prog_1_method_13_code
def yX11_clear : MethodName := ⟨RX11, "clear", "()I"⟩
abbrev cX11_job : ByteArray := prog_1_method_14_code
def yX11_job : MethodName := ⟨RX11, "job", "(II)I"⟩
abbrev cX11_counted : ByteArray := prog_1_method_15_code
def yX11_counted : MethodName := ⟨RX11, "counted", "(III)I"⟩
abbrev cX11_keeps : ByteArray := prog_1_method_16_code
def yX11_keeps : MethodName := ⟨RX11, "keeps", "()I"⟩
abbrev cX11_kept : ByteArray := prog_1_method_17_code
def yX11_kept : MethodName := ⟨RX11, "kept", "(II)I"⟩
abbrev cX11_replay : ByteArray := prog_1_method_18_code
def yX11_replay : MethodName := ⟨RX11, "replay", "(I)I"⟩
def RX12 : String := "ProbeConsoleModel"
def TX12 : u_T := fun k => match k with
  | 0 => ("ProbeConsoleModel", "thrown", "I", false)
  | 1 => ("ProbeConsoleModel", "tape", "[I", true)
  | 2 => ("ProbeConsoleModel", "size", "I", false)
  | 3 => ("ProbeConsoleModel", "fault", "I", false)
  | 4 => ("ProbeConsoleModel", "place", "I", false)
  | 5 => ("ProbeConsoleModel", "at", "I", false)
  | 6 => ("ProbeConsoleModel", "steps", "[I", true)
  | 7 => ("ProbeConsoleModel", "values", "[J", true)
  | 8 => ("ProbeConsoleModel", "lengths", "[I", true)
  | 9 => ("ProbeConsoleModel", "methods", "I", false)
  | 10 => ("ProbeConsoleModel", "names", "[J", true)
  | 11 => ("ProbeConsoleModel", "parameters", "[I", true)
  | 12 => ("ProbeConsoleModel", "length", "I", false)
  | 13 => ("ProbeConsoleModel", "nodes", "I", false)
  | 14 => ("ProbeConsoleModel", "inCommand", "Z", false)
  | 15 => ("ProbeConsoleModel", "variables", "I", false)
  | 16 => ("ProbeConsoleModel", "waits", "[I", true)
  | 17 => ("ProbeConsoleModel", "waitPlaces", "[I", true)
  | 18 => ("ProbeConsoleModel", "waitValues", "[I", true)
  | 19 => ("ProbeConsoleModel", "waitNames", "[J", true)
  | 20 => ("ProbeConsoleModel", "waiting", "I", false)
  | 21 => ("ProbeConsoleModel", "operands", "[I", true)
  | 22 => ("ProbeConsoleModel", "operandCount", "I", false)
  | 23 => ("ProbeConsoleModel", "opened", "I", false)
  | 24 => ("ProbeConsoleModel", "rowName", "J", false)
  | 25 => ("ProbeConsoleModel", "kinds", "[I", true)
  | 26 => ("ProbeConsoleModel", "points", "[I", true)
  | 27 => ("ProbeConsoleModel", "limits", "[I", true)
  | 28 => ("ProbeConsoleModel", "mades", "[I", true)
  | 29 => ("ProbeConsoleModel", "conditioned", "[Z", true)
  | 30 => ("ProbeConsoleModel", "patterns", "[I", true)
  | 31 => ("ProbeConsoleModel", "patternSizes", "[I", true)
  | 32 => ("ProbeConsoleModel", "newPattern", "[I", true)
  | 33 => ("ProbeConsoleModel", "newPatternSize", "I", false)
  | 34 => ("ProbeConsoleModel", "counts", "[I", true)
  | 35 => ("ProbeConsoleModel", "recordCount", "I", false)
  | 36 => ("ProbeConsoleModel", "records", "[I", true)
  | 37 => ("ProbeConsoleModel", "keepCount", "I", false)
  | 38 => ("ProbeConsoleModel", "keptOnes", "[I", true)
  | 39 => ("ProbeConsoleModel", "depth", "I", false)
  | 40 => ("ProbeConsoleModel", "invoked", "I", false)
  | 41 => ("ProbeConsoleModel", "value", "I", false)
  | 42 => ("ProbeConsoleModel", "quiet", "Z", false)
  | 43 => ("ProbeConsoleModel", "runMethods", "[I", true)
  | 44 => ("ProbeConsoleModel", "runParameters", "[I", true)
  | 45 => ("ProbeConsoleModel", "runPlaces", "[I", true)
  | 46 => ("ProbeConsoleModel", "stack", "[I", true)
  | 47 => ("ProbeConsoleModel", "height", "I", false)
  | 48 => ("ProbeConsoleModel", "tryPlaces", "[I", true)
  | 49 => ("ProbeConsoleModel", "tryHeights", "[I", true)
  | 50 => ("ProbeConsoleModel", "tryDepths", "[I", true)
  | 51 => ("ProbeConsoleModel", "tries", "I", false)
  | 52 => ("ProbeConsoleModel", "threw", "Z", false)
  | 53 => ("ProbeConsoleModel", "answer", "I", false)
  | 54 => ("ProbeConsoleModel", "seen", "[I", true)
  | 55 => ("ProbeConsoleModel", "probeStack", "[I", true)
  | 56 => ("ProbeConsoleModel", "probeTries", "[I", true)
  | 57 => ("ProbeConsoleModel", "probeHeights", "[I", true)
  | 58 => ("ProbeConsoleModel", "probeValue", "I", false)
  | _ => ("ProbeConsoleModel", "probeThrew", "Z", false)
def tyX12 : Nat → FieldType := fun k => match k with
  | 0 => .int
  | 1 => .array .int
  | 2 => .int
  | 3 => .int
  | 4 => .int
  | 5 => .int
  | 6 => .array .int
  | 7 => .array .long
  | 8 => .array .int
  | 9 => .int
  | 10 => .array .long
  | 11 => .array .int
  | 12 => .int
  | 13 => .int
  | 14 => .boolean
  | 15 => .int
  | 16 => .array .int
  | 17 => .array .int
  | 18 => .array .int
  | 19 => .array .long
  | 20 => .int
  | 21 => .array .int
  | 22 => .int
  | 23 => .int
  | 24 => .long
  | 25 => .array .int
  | 26 => .array .int
  | 27 => .array .int
  | 28 => .array .int
  | 29 => .array .boolean
  | 30 => .array .int
  | 31 => .array .int
  | 32 => .array .int
  | 33 => .int
  | 34 => .array .int
  | 35 => .int
  | 36 => .array .int
  | 37 => .int
  | 38 => .array .int
  | 39 => .int
  | 40 => .int
  | 41 => .int
  | 42 => .boolean
  | 43 => .array .int
  | 44 => .array .int
  | 45 => .array .int
  | 46 => .array .int
  | 47 => .int
  | 48 => .array .int
  | 49 => .array .int
  | 50 => .array .int
  | 51 => .int
  | 52 => .boolean
  | 53 => .int
  | 54 => .array .int
  | 55 => .array .int
  | 56 => .array .int
  | 57 => .array .int
  | 58 => .int
  | _ => .boolean
abbrev wsX120 : List Cond := u_ws RX12 TX12 60
theorem nmX12 : ∀ a, a < 60 → ∀ b, b < 60 → a ≠ b → (TX12 a).2.1 ≠ (TX12 b).2.1 := by decide +kernel
theorem tyX12_ok : ∀ k, k < 60 → parseFieldDescriptor (TX12 k).2.2.1 = some (tyX12 k) := by decide +kernel
abbrev cX12_init : ByteArray := prog_14_method_1_code
def yX12_init : MethodName := ⟨RX12, "<init>", "()V"⟩
abbrev cX12_feed : ByteArray := prog_14_method_3_code
def yX12_feed : MethodName := ⟨RX12, "feed", "(IJ)I"⟩
abbrev cX12_wipe : ByteArray := prog_14_method_4_code
def yX12_wipe : MethodName := ⟨RX12, "wipe", "()I"⟩
abbrev cX12_fail : ByteArray := prog_14_method_5_code
def yX12_fail : MethodName := ⟨RX12, "fail", "(II)V"⟩
abbrev cX12_byteAt : ByteArray := prog_14_method_6_code
def yX12_byteAt : MethodName := ⟨RX12, "byteAt", "(I)I"⟩
abbrev cX12_isLetter : ByteArray := prog_14_method_7_code
def yX12_isLetter : MethodName := ⟨RX12, "isLetter", "(I)Z"⟩
abbrev cX12_isFigure : ByteArray := prog_14_method_8_code
def yX12_isFigure : MethodName := ⟨RX12, "isFigure", "(I)Z"⟩
abbrev cX12_isOfRow : ByteArray := prog_14_method_9_code
def yX12_isOfRow : MethodName := ⟨RX12, "isOfRow", "(I)Z"⟩
abbrev cX12_rowSize : ByteArray := prog_14_method_10_code
def yX12_rowSize : MethodName := ⟨RX12, "rowSize", "(I)I"⟩
abbrev cX12_isName : ByteArray := prog_14_method_11_code
def yX12_isName : MethodName := ⟨RX12, "isName", "(II)Z"⟩
abbrev cX12_rowOf : ByteArray := prog_14_method_12_code
def yX12_rowOf : MethodName := ⟨RX12, "rowOf", "(I)I"⟩
abbrev cX12_put : ByteArray := prog_14_method_13_code
def yX12_put : MethodName := ⟨RX12, "put", "(IJ)V"⟩
abbrev cX12_ended : ByteArray := prog_14_method_14_code
def yX12_ended : MethodName := ⟨RX12, "ended", "()Z"⟩
abbrev cX12_count : ByteArray := prog_14_method_15_code
def yX12_count : MethodName := ⟨RX12, "count", "(I)Z"⟩
abbrev cX12_wait : ByteArray := prog_14_method_16_code
def yX12_wait : MethodName := ⟨RX12, "wait", "(III)V"⟩
abbrev cX12_operand : ByteArray := prog_14_method_17_code
def yX12_operand : MethodName := ⟨RX12, "operand", "(I)V"⟩
abbrev cX12_reduce : ByteArray := prog_14_method_18_code
def yX12_reduce : MethodName := ⟨RX12, "reduce", "()V"⟩
abbrev cX12_reduceTo : ByteArray := prog_14_method_19_code
def yX12_reduceTo : MethodName := ⟨RX12, "reduceTo", "(I)V"⟩
abbrev cX12_reduceAll : ByteArray := prog_14_method_20_code
def yX12_reduceAll : MethodName := ⟨RX12, "reduceAll", "()V"⟩
abbrev cX12_last : ByteArray := prog_14_method_21_code
def yX12_last : MethodName := ⟨RX12, "last", "()I"⟩
abbrev cX12_readNumber : ByteArray := prog_14_method_22_code
def yX12_readNumber : MethodName := ⟨RX12, "readNumber", "()V"⟩
abbrev cX12_open : ByteArray := prog_14_method_23_code
def yX12_open : MethodName := ⟨RX12, "open", "(II)V"⟩
abbrev cX12_variableOf : ByteArray := prog_14_method_24_code
def yX12_variableOf : MethodName := ⟨RX12, "variableOf", "(I)I"⟩
abbrev cX12_readRow : ByteArray := prog_14_method_25_code
def yX12_readRow : MethodName := ⟨RX12, "readRow", "()Z"⟩
abbrev cX12_readOperand : ByteArray := prog_14_method_26_code
def yX12_readOperand : MethodName := ⟨RX12, "readOperand", "(Z)Z"⟩
abbrev cX12_close : ByteArray := prog_14_method_27_code
def yX12_close : MethodName := ⟨RX12, "close", "()V"⟩
abbrev cX12_between : ByteArray := prog_14_method_28_code
def yX12_between : MethodName := ⟨RX12, "between", "(II)V"⟩
abbrev cX12_hash : ByteArray := prog_14_method_29_code
def yX12_hash : MethodName := ⟨RX12, "hash", "()V"⟩
abbrev cX12_question : ByteArray := prog_14_method_30_code
def yX12_question : MethodName := ⟨RX12, "question", "()V"⟩
abbrev cX12_colon : ByteArray := prog_14_method_31_code
def yX12_colon : MethodName := ⟨RX12, "colon", "()V"⟩
abbrev cX12_comma : ByteArray := prog_14_method_32_code
def yX12_comma : MethodName := ⟨RX12, "comma", "()V"⟩
abbrev cX12_readSign : ByteArray := prog_14_method_33_code
def yX12_readSign : MethodName := ⟨RX12, "readSign", "()Z"⟩
abbrev cX12_readExpression : ByteArray := prog_14_method_34_code
def yX12_readExpression : MethodName := ⟨RX12, "readExpression", "()V"⟩
abbrev cX12_keepExpression : ByteArray := prog_14_method_35_code
def yX12_keepExpression : MethodName := ⟨RX12, "keepExpression", "(I)V"⟩
abbrev cX12_begin : ByteArray := prog_14_method_36_code
def yX12_begin : MethodName := ⟨RX12, "begin", "()V"⟩
abbrev cX12_want : ByteArray := prog_14_method_37_code
def yX12_want : MethodName := ⟨RX12, "want", "(I)V"⟩
abbrev cX12_findMethod : ByteArray := prog_14_method_38_code
def yX12_findMethod : MethodName := ⟨RX12, "findMethod", "(JI)I"⟩
abbrev cX12_method : ByteArray := prog_14_method_39_code
def yX12_method : MethodName := ⟨RX12, "method", "()I"⟩
abbrev cX12_skip : ByteArray := prog_14_method_40_code
def yX12_skip : MethodName := ⟨RX12, "skip", "()V"⟩
abbrev cX12_word : ByteArray := prog_14_method_41_code
def yX12_word : MethodName := ⟨RX12, "word", "(IIII)J"⟩
abbrev cX12_rowAt : ByteArray := prog_14_method_42_code
def yX12_rowAt : MethodName := ⟨RX12, "rowAt", "(I)J"⟩
abbrev cX12_endsAt : ByteArray := prog_14_method_43_code
def yX12_endsAt : MethodName := ⟨RX12, "endsAt", "(I)Z"⟩
abbrev cX12_wantBlank : ByteArray := prog_14_method_44_code
def yX12_wantBlank : MethodName := ⟨RX12, "wantBlank", "()V"⟩
abbrev cX12_wantEnd : ByteArray := prog_14_method_45_code
def yX12_wantEnd : MethodName := ⟨RX12, "wantEnd", "()V"⟩
abbrev cX12_readPattern : ByteArray := prog_14_method_46_code
def yX12_readPattern : MethodName := ⟨RX12, "readPattern", "()V"⟩
abbrev cX12_smallNumber : ByteArray := prog_14_method_47_code
def yX12_smallNumber : MethodName := ⟨RX12, "smallNumber", "(I)I"⟩
abbrev cX12_freeJob : ByteArray := prog_14_method_48_code
def yX12_freeJob : MethodName := ⟨RX12, "freeJob", "()I"⟩
abbrev cX12_newJob : ByteArray := prog_14_method_49_code
def yX12_newJob : MethodName := ⟨RX12, "newJob", "(II)I"⟩
abbrev cX12_readPoint : ByteArray := prog_14_method_50_code
def yX12_readPoint : MethodName := ⟨RX12, "readPoint", "()I"⟩
abbrev cX12_watch : ByteArray := prog_14_method_51_code
def yX12_watch : MethodName := ⟨RX12, "watch", "()I"⟩
abbrev cX12_simple : ByteArray := prog_14_method_52_code
def yX12_simple : MethodName := ⟨RX12, "simple", "(I)I"⟩
abbrev cX12_kill : ByteArray := prog_14_method_53_code
def yX12_kill : MethodName := ⟨RX12, "kill", "()I"⟩
abbrev cX12_reset : ByteArray := prog_14_method_54_code
def yX12_reset : MethodName := ⟨RX12, "reset", "()I"⟩
abbrev cX12_command : ByteArray := prog_14_method_55_code
def yX12_command : MethodName := ⟨RX12, "command", "()I"⟩
abbrev cX12_fault : ByteArray := prog_14_method_56_code
def yX12_fault : MethodName := ⟨RX12, "fault", "()I"⟩
abbrev cX12_place : ByteArray := prog_14_method_57_code
def yX12_place : MethodName := ⟨RX12, "place", "()I"⟩
abbrev cX12_nameByte : ByteArray := prog_14_method_58_code
def yX12_nameByte : MethodName := ⟨RX12, "nameByte", "(III)I"⟩
abbrev cX12_nameSize : ByteArray := prog_14_method_59_code
def yX12_nameSize : MethodName := ⟨RX12, "nameSize", "(I)I"⟩
abbrev cX12_fits : ByteArray := prog_14_method_60_code
def yX12_fits : MethodName := ⟨RX12, "fits", "(II)Z"⟩
abbrev cX12_starred : ByteArray := prog_14_method_61_code
def yX12_starred : MethodName := ⟨RX12, "starred", "(II)I"⟩
abbrev cX12_isOver : ByteArray := prog_14_method_62_code
def yX12_isOver : MethodName := ⟨RX12, "isOver", "(II)Z"⟩
abbrev cX12_result : ByteArray := prog_14_method_63_code
def yX12_result : MethodName := ⟨RX12, "result", "(III)I"⟩
abbrev cX12_probeExpression : ByteArray := prog_14_method_64_code
def yX12_probeExpression : MethodName := ⟨RX12, "probeExpression", "(I)V"⟩
abbrev cX12_record : ByteArray := prog_14_method_65_code
def yX12_record : MethodName := ⟨RX12, "record", "(III)V"⟩
abbrev cX12_watchOne : ByteArray := prog_14_method_66_code
def yX12_watchOne : MethodName := ⟨RX12, "watchOne", "(II)V"⟩
abbrev cX12_keepOne : ByteArray := prog_14_method_67_code
def yX12_keepOne : MethodName := ⟨RX12, "keepOne", "(IIII)V"⟩
abbrev cX12_probe : ByteArray := prog_14_method_68_code
def yX12_probe : MethodName := ⟨RX12, "probe", "(III)V"⟩
abbrev cX12_enter : ByteArray := prog_14_method_69_code
def yX12_enter : MethodName := ⟨RX12, "enter", "(I)V"⟩
abbrev cX12_throwAll : ByteArray := prog_14_method_70_code
def yX12_throwAll : MethodName := ⟨RX12, "throwAll", "(I)V"⟩
abbrev cX12_throwUp : ByteArray := prog_14_method_71_code
def yX12_throwUp : MethodName := ⟨RX12, "throwUp", "(I)V"⟩
abbrev cX12_push : ByteArray := prog_14_method_72_code
def yX12_push : MethodName := ⟨RX12, "push", "(I)V"⟩
abbrev cX12_leave : ByteArray := prog_14_method_73_code
def yX12_leave : MethodName := ⟨RX12, "leave", "()V"⟩
abbrev cX12_invoke : ByteArray := prog_14_method_74_code
def yX12_invoke : MethodName := ⟨RX12, "invoke", "(J)V"⟩
abbrev cX12_step : ByteArray := prog_14_method_75_code
def yX12_step : MethodName := ⟨RX12, "step", "()V"⟩
abbrev cX12_play : ByteArray := prog_14_method_76_code
def yX12_play : MethodName := ⟨RX12, "play", "(IIIIZ)I"⟩
abbrev cX12_call : ByteArray := prog_14_method_77_code
def yX12_call : MethodName := ⟨RX12, "call", "(IIII)I"⟩
abbrev cX12_value : ByteArray := prog_14_method_78_code
def yX12_value : MethodName := ⟨RX12, "value", "()I"⟩
abbrev cX12_invoked : ByteArray := prog_14_method_79_code
def yX12_invoked : MethodName := ⟨RX12, "invoked", "()I"⟩
abbrev cX12_records : ByteArray := prog_14_method_80_code
def yX12_records : MethodName := ⟨RX12, "records", "()I"⟩
abbrev cX12_record_ : ByteArray := prog_14_method_81_code
def yX12_record_ : MethodName := ⟨RX12, "record", "(II)I"⟩
abbrev cX12_clear : ByteArray := prog_14_method_82_code
def yX12_clear : MethodName := ⟨RX12, "clear", "()I"⟩
abbrev cX12_job : ByteArray := prog_14_method_83_code
def yX12_job : MethodName := ⟨RX12, "job", "(II)I"⟩
abbrev cX12_counted : ByteArray := prog_14_method_84_code
def yX12_counted : MethodName := ⟨RX12, "counted", "(III)I"⟩
abbrev cX12_keeps : ByteArray := prog_14_method_85_code
def yX12_keeps : MethodName := ⟨RX12, "keeps", "()I"⟩
abbrev cX12_kept : ByteArray := prog_14_method_86_code
def yX12_kept : MethodName := ⟨RX12, "kept", "(II)I"⟩
abbrev cX12_replay : ByteArray := prog_14_method_87_code
def yX12_replay : MethodName := ⟨RX12, "replay", "(I)I"⟩
def RJ11 : String := "java/lang/Character"
def TJ11 : u_T := fun k => match k with
  | _ => ("", "", "", false)
def tyJ11 : Nat → FieldType := fun k => match k with
  | _ => .int
abbrev wsJ110 : List Cond := u_ws RJ11 TJ11 0
theorem nmJ11 : ∀ a, a < 0 → ∀ b, b < 0 → a ≠ b → (TJ11 a).2.1 ≠ (TJ11 b).2.1 := by decide +kernel
theorem tyJ11_ok : ∀ k, k < 0 → parseFieldDescriptor (TJ11 k).2.2.1 = some (tyJ11 k) := by decide +kernel
abbrev cJ11_isValidCodePoint_9a6ad : ByteArray := prog_15_method_11_code
def yJ11_isValidCodePoint_9a6ad : MethodName := ⟨RJ11, "isValidCodePoint", "(I)Z"⟩
abbrev cJ11_highSurrogate_5068e : ByteArray := prog_15_method_28_code
def yJ11_highSurrogate_5068e : MethodName := ⟨RJ11, "highSurrogate", "(I)C"⟩
abbrev cJ11_lowSurrogate_5068e : ByteArray := prog_15_method_29_code
def yJ11_lowSurrogate_5068e : MethodName := ⟨RJ11, "lowSurrogate", "(I)C"⟩
def RJ9 : String := "java/lang/Math"
def TJ9 : u_T := fun k => match k with
  | _ => ("", "", "", false)
def tyJ9 : Nat → FieldType := fun k => match k with
  | _ => .int
abbrev wsJ90 : List Cond := u_ws RJ9 TJ9 0
theorem nmJ9 : ∀ a, a < 0 → ∀ b, b < 0 → a ≠ b → (TJ9 a).2.1 ≠ (TJ9 b).2.1 := by decide +kernel
theorem tyJ9_ok : ∀ k, k < 0 → parseFieldDescriptor (TJ9 k).2.2.1 = some (tyJ9 k) := by decide +kernel
abbrev cJ9_max_7cf53 : ByteArray := prog_19_method_65_code
def yJ9_max_7cf53 : MethodName := ⟨RJ9, "max", "(II)I"⟩
abbrev cJ9_min_7cf53 : ByteArray := prog_19_method_69_code
def yJ9_min_7cf53 : MethodName := ⟨RJ9, "min", "(II)I"⟩
abbrev cJ9_min_f86c9 : ByteArray := prog_19_method_70_code
def yJ9_min_f86c9 : MethodName := ⟨RJ9, "min", "(JJ)J"⟩
def RJ0 : String := "java/lang/String"
def TJ0 : u_T := fun k => match k with
  | _ => ("", "", "", false)
def tyJ0 : Nat → FieldType := fun k => match k with
  | _ => .int
abbrev wsJ00 : List Cond := u_ws RJ0 TJ0 0
theorem nmJ0 : ∀ a, a < 0 → ∀ b, b < 0 → a ≠ b → (TJ0 a).2.1 ≠ (TJ0 b).2.1 := by decide +kernel
theorem tyJ0_ok : ∀ k, k < 0 → parseFieldDescriptor (TJ0 k).2.2.1 = some (tyJ0 k) := by decide +kernel
abbrev cJ0_length_8abf5 : ByteArray := prog_21_method_54_code
def yJ0_length_8abf5 : MethodName := ⟨RJ0, "length", "()I"⟩
abbrev cJ0_charAt_5068e : ByteArray := prog_21_method_56_code
def yJ0_charAt_5068e : MethodName := ⟨RJ0, "charAt", "(I)C"⟩
abbrev cJ0_indexOf_0f7a4 : ByteArray := prog_21_method_79_code
def yJ0_indexOf_0f7a4 : MethodName := ⟨RJ0, "indexOf", "(I)I"⟩
abbrev cJ0_indexOf_7cf53 : ByteArray := prog_21_method_80_code
def yJ0_indexOf_7cf53 : MethodName := ⟨RJ0, "indexOf", "(II)I"⟩
abbrev cJ0_coder_7d493 : ByteArray := prog_21_method_152_code
def yJ0_coder_7d493 : MethodName := ⟨RJ0, "coder", "()B"⟩
abbrev cJ0_isLatin1_aae02 : ByteArray := prog_21_method_154_code
def yJ0_isLatin1_aae02 : MethodName := ⟨RJ0, "isLatin1", "()Z"⟩
abbrev cJ0_checkIndex_df160 : ByteArray := prog_21_method_155_code
def yJ0_checkIndex_df160 : MethodName := ⟨RJ0, "checkIndex", "(II)V"⟩
abbrev cJ0_checkBoundsBeginEnd_23922 : ByteArray := prog_21_method_158_code
def yJ0_checkBoundsBeginEnd_23922 : MethodName := ⟨RJ0, "checkBoundsBeginEnd", "(III)V"⟩
def RJ1 : String := "java/lang/StringLatin1"
def TJ1 : u_T := fun k => match k with
  | _ => ("", "", "", false)
def tyJ1 : Nat → FieldType := fun k => match k with
  | _ => .int
abbrev wsJ10 : List Cond := u_ws RJ1 TJ1 0
theorem nmJ1 : ∀ a, a < 0 → ∀ b, b < 0 → a ≠ b → (TJ1 a).2.1 ≠ (TJ1 b).2.1 := by decide +kernel
theorem tyJ1_ok : ∀ k, k < 0 → parseFieldDescriptor (TJ1 k).2.2.1 = some (tyJ1 k) := by decide +kernel
abbrev cJ1_charAt_3b067 : ByteArray := prog_22_method_2_code
def yJ1_charAt_3b067 : MethodName := ⟨RJ1, "charAt", "([BI)C"⟩
abbrev cJ1_canEncode_9a6ad : ByteArray := prog_22_method_4_code
def yJ1_canEncode_9a6ad : MethodName := ⟨RJ1, "canEncode", "(I)Z"⟩
abbrev cJ1_indexOf_4cfef : ByteArray := prog_22_method_22_code
def yJ1_indexOf_4cfef : MethodName := ⟨RJ1, "indexOf", "([BIII)I"⟩
abbrev cJ1_indexOfChar_4cfef : ByteArray := prog_22_method_23_code
def yJ1_indexOfChar_4cfef : MethodName := ⟨RJ1, "indexOfChar", "([BIII)I"⟩
def RJ2 : String := "java/lang/StringUTF16"
def TJ2 : u_T := fun k => match k with
  | _ => ("", "", "", false)
def tyJ2 : Nat → FieldType := fun k => match k with
  | _ => .int
abbrev wsJ20 : List Cond := u_ws RJ2 TJ2 0
theorem nmJ2 : ∀ a, a < 0 → ∀ b, b < 0 → a ≠ b → (TJ2 a).2.1 ≠ (TJ2 b).2.1 := by decide +kernel
theorem tyJ2_ok : ∀ k, k < 0 → parseFieldDescriptor (TJ2 k).2.2.1 = some (tyJ2 k) := by decide +kernel
abbrev cJ2_getChar_3b067 : ByteArray := prog_23_method_5_code
def yJ2_getChar_3b067 : MethodName := ⟨RJ2, "getChar", "([BI)C"⟩
abbrev cJ2_length_9d52b : ByteArray := prog_23_method_6_code
def yJ2_length_9d52b : MethodName := ⟨RJ2, "length", "([B)I"⟩
abbrev cJ2_indexOf_4cfef : ByteArray := prog_23_method_40_code
def yJ2_indexOf_4cfef : MethodName := ⟨RJ2, "indexOf", "([BIII)I"⟩
abbrev cJ2_indexOfChar_4cfef : ByteArray := prog_23_method_47_code
def yJ2_indexOfChar_4cfef : MethodName := ⟨RJ2, "indexOfChar", "([BIII)I"⟩
abbrev cJ2_indexOfCharUnsafe_4cfef : ByteArray := prog_23_method_48_code
def yJ2_indexOfCharUnsafe_4cfef : MethodName := ⟨RJ2, "indexOfCharUnsafe", "([BIII)I"⟩
abbrev cJ2_indexOfSupplementary_4cfef : ByteArray := prog_23_method_49_code
def yJ2_indexOfSupplementary_4cfef : MethodName := ⟨RJ2, "indexOfSupplementary", "([BIII)I"⟩
abbrev cJ2_charAt_3b067 : ByteArray := prog_23_method_83_code
def yJ2_charAt_3b067 : MethodName := ⟨RJ2, "charAt", "([BI)C"⟩
abbrev cJ2_checkIndex_2214a : ByteArray := prog_23_method_91_code
def yJ2_checkIndex_2214a : MethodName := ⟨RJ2, "checkIndex", "(I[B)V"⟩
abbrev cJ2_checkBoundsBeginEnd_d044e : ByteArray := prog_23_method_93_code
def yJ2_checkBoundsBeginEnd_d044e : MethodName := ⟨RJ2, "checkBoundsBeginEnd", "(II[B)V"⟩
def RJ7 : String := "java/util/Arrays"
def TJ7 : u_T := fun k => match k with
  | _ => ("", "", "", false)
def tyJ7 : Nat → FieldType := fun k => match k with
  | _ => .int
abbrev wsJ70 : List Cond := u_ws RJ7 TJ7 0
theorem nmJ7 : ∀ a, a < 0 → ∀ b, b < 0 → a ≠ b → (TJ7 a).2.1 ≠ (TJ7 b).2.1 := by decide +kernel
theorem tyJ7_ok : ∀ k, k < 0 → parseFieldDescriptor (TJ7 k).2.2.1 = some (tyJ7 k) := by decide +kernel
abbrev cJ7_fill_53178 : ByteArray := prog_25_method_103_code
def yJ7_fill_53178 : MethodName := ⟨RJ7, "fill", "([II)V"⟩
def RJ3 : String := "jdk/internal/util/Preconditions"
def TJ3 : u_T := fun k => match k with
  | _ => ("", "", "", false)
def tyJ3 : Nat → FieldType := fun k => match k with
  | _ => .int
abbrev wsJ30 : List Cond := u_ws RJ3 TJ3 0
theorem nmJ3 : ∀ a, a < 0 → ∀ b, b < 0 → a ≠ b → (TJ3 a).2.1 ≠ (TJ3 b).2.1 := by decide +kernel
theorem tyJ3_ok : ∀ k, k < 0 → parseFieldDescriptor (TJ3 k).2.2.1 = some (tyJ3 k) := by decide +kernel
abbrev cJ3_checkIndex_8e157 : ByteArray := prog_26_method_11_code
def yJ3_checkIndex_8e157 : MethodName := ⟨RJ3, "checkIndex", "(IILjava/util/function/BiFunction;)I"⟩
abbrev cJ3_checkFromToIndex_8c36e : ByteArray := prog_26_method_12_code
def yJ3_checkFromToIndex_8c36e : MethodName := ⟨RJ3, "checkFromToIndex", "(IIILjava/util/function/BiFunction;)I"⟩
def RL : String := "ProbeConsoleLaw"
abbrev cL_feed : ByteArray := method_3_code
def yL_feed : MethodName := ⟨RL, "feed", "(LProbeConsole;IJ[J)I"⟩
abbrev cL_call : ByteArray := method_4_code
def yL_call : MethodName := ⟨RL, "call", "(LProbeConsole;IIII[J)I"⟩
abbrev cL_record : ByteArray := method_5_code
def yL_record : MethodName := ⟨RL, "record", "(LProbeConsole;II[J)I"⟩
abbrev cL_job : ByteArray := method_6_code
def yL_job : MethodName := ⟨RL, "job", "(LProbeConsole;II[J)I"⟩
abbrev cL_counted : ByteArray := method_7_code
def yL_counted : MethodName := ⟨RL, "counted", "(LProbeConsole;III[J)I"⟩
abbrev cL_kept : ByteArray := method_8_code
def yL_kept : MethodName := ⟨RL, "kept", "(LProbeConsole;II[J)I"⟩
abbrev cL_replay : ByteArray := method_9_code
def yL_replay : MethodName := ⟨RL, "replay", "(LProbeConsole;I[J)I"⟩
abbrev cL_law : ByteArray := code
def yL_law : MethodName := ⟨RL, "law", "([I)Z"⟩
abbrev vwCl : List vw_C := [(RX0, TX0, 6), (RX1, TX1, 7), (RX2, TX2, 10), (RX3, TX3, 2), (RX4, TX4, 13), (RX5, TX5, 3), (RX7, TX7, 7), (RX8, TX8, 4), (RX9, TX9, 2), (RX10, TX10, 3), (RX11, TX11, 8), (RX12, TX12, 60)]
/-- the words of the tables that stay good at every call -/
def gw_ : List Cond := lw_tbl.filter goodWord
theorem gw_of {w : Cond} (h : w ∈ lw_tbl) (g : goodWord w = true) : w ∈ gw_ := List.mem_filter.mpr ⟨h, g⟩
theorem gw_t {w : Cond} (i : Nat) (h : tables_1[i]? = some w) (g : goodWord w = true) : w ∈ gw_ := gw_of (List.mem_append_right _ (List.mem_of_getElem? h)) g
theorem gw_s (q : MethodName × Nat) (i : Nat) (h : lw_privs[i]? = some q) (g : goodWord (Cond.selects q.1.cls q.1 q.1) = true) : Cond.selects q.1.cls q.1 q.1 ∈ gw_ := gw_of (List.mem_append_left _ (List.mem_map.mpr ⟨q, List.mem_of_getElem? h, rfl⟩)) g
theorem gw_gg : GoodIn gw_ gw_ := fun w h => ⟨h, good_of_word (List.mem_filter.mp h).2⟩
theorem gw_gl : GoodIn lw_tbl gw_ := fun w h => ⟨(List.mem_filter.mp h).1, good_of_word (List.mem_filter.mp h).2⟩
theorem gw_hts {args : Array Value} {s : State} (h : ∀ w ∈ lw_tbl, w.before args s = true) : ∀ w ∈ gw_, w.before args s = true := fun w hw => h w (List.mem_filter.mp hw).1
end
section
/-! the cells: 0 the reference, 1 and on its arrays, by its fields in their order: 1 tape, 2 steps, 3 values, 4 lengths, 5 names, 6 parameters, 7 waits, 8 waitPlaces, 9 waitValues, 10 waitNames, 11 operands, 12 kinds, 13 points, 14 limits, 15 mades, 16 conditioned, 17 patterns, 18 patternSizes, 19 newPattern, 20 counts, 21 records, 22 keptOnes, 23 runMethods, 24 runParameters, 25 runPlaces, 26 stack, 27 tryPlaces, 28 tryHeights, 29 tryDepths, 30 seen, 31 probeStack, 32 probeTries, 33 probeHeights -/
def dr_fs : List Nat := [0, 4, 0, 0, 0, 0, 5, 6, 7, 0, 8, 9, 0, 0, 0, 0, 10, 11, 12, 13, 0, 14, 0, 0, 1, 15, 16, 17, 18, 19, 20, 21, 22, 0, 23, 0, 24, 0, 25, 0, 0, 0, 0, 26, 27, 28, 29, 0, 30, 31, 32, 0, 0, 0, 33, 34, 35, 36, 0, 0]
abbrev dd_ : Type := (Nat × Nat × Nat) ⊕ (Nat × List Nat)
def dr_ : List dd_ := [.inr (11, dr_fs), .inl (0, 200, 0), .inl (0, 2112, 0), .inl (1, 2112, 1), .inl (0, 33, 0), .inl (1, 16, 1), .inl (0, 16, 0), .inl (0, 64, 0), .inl (0, 64, 0), .inl (0, 64, 0), .inl (1, 64, 1), .inl (0, 64, 0), .inl (0, 8, 0), .inl (0, 8, 0), .inl (0, 8, 0), .inl (0, 8, 0), .inl (2, 8, 0), .inl (0, 96, 0), .inl (0, 8, 0), .inl (0, 12, 0), .inl (0, 384, 0), .inl (0, 1500, 0), .inl (0, 280, 0), .inl (0, 11, 0), .inl (0, 33, 0), .inl (0, 11, 0), .inl (0, 512, 0), .inl (0, 256, 0), .inl (0, 256, 0), .inl (0, 256, 0), .inl (0, 7, 0), .inl (0, 64, 0), .inl (0, 32, 0), .inl (0, 32, 0)]
def ds_ : List dd_ := dr_
def tl_ : List FieldType := [.int, .long, .boolean]
end
section
/-! A memory for a fixed set of cells, and the machine's rows over it. M.1: ints, M.2.1: longs, M.2.2: references, each by (cell, place).
G.1: where the cells lie; G.2.1: the arrays' kinds; G.2.2.1: kinds and slots of the objects; G.2.2.2: from which address on all may change. -/
abbrev mm_ : Type := (Nat → Nat → Int32) × (Nat → Nat → Int64) × (Nat → Nat → Option Nat)
abbrev gg_ : Type := (Nat → Nat) × (Nat → ClassId) × va_G × Nat
def fv_ (G : gg_) (M : mm_) (k j : Nat) : Nat → Value
  | 0 => .int (M.1 k j)
  | 1 => .long (M.2.1 k j)
  | 2 => va_rf ((M.2.2 k j).map G.1)
  | t + 3 => .ref (G.1 t)
def fl_ (G : gg_) (M : mm_) (k : Nat) : Nat → List Nat → List Value
  | _, [] => []
  | j, f :: fs => fv_ G M k j f :: fl_ G M k (j + 1) fs
def ce_ (G : gg_) (M : mm_) (k : Nat) : dd_ → va_E
  | .inl (t, n, 0) => .inl (G.2.1 t, n, .inl (M.1 k))
  | .inl (t, n, 1) => .inl (G.2.1 t, n, .inr (.inl (M.2.1 k)))
  | .inl (t, n, _ + 2) => .inl (G.2.1 t, n, .inr (.inr (.inr (.inr (fun i => (M.2.2 k i).map G.1)))))
  | .inr (ci, fs) => .inr (ci, fl_ G M k 0 fs)
def wk_ (G : gg_) (M : mm_) : Nat → List dd_ → va_W
  | _, [] => []
  | k, d :: ds => (G.1 k, ce_ G M k d) :: wk_ G M (k + 1) ds
abbrev wl_ (G : gg_) (M : mm_) : va_W := wk_ G M 0 ds_
def tk_ (tc : Nat → ClassId) : Nat → List FieldType → List (ClassId × FieldType)
  | _, [] => []
  | t, y :: ys => (tc t, y) :: tk_ tc (t + 1) ys
abbrev tt_ (G : gg_) : List (ClassId × FieldType) := tk_ G.2.1 0 tl_
theorem wk_get (G : gg_) (M : mm_) : ∀ (ds : List dd_) (k0 k : Nat), (wk_ G M k0 ds)[k]? = (ds[k]?).map (fun d => (G.1 (k0 + k), ce_ G M (k0 + k) d))
  | [], k0, k => by simp [wk_]
  | d :: ds, k0, 0 => by simp [wk_]
  | d :: ds, k0, k + 1 => by
    rw [wk_, List.getElem?_cons_succ, wk_get G M ds (k0 + 1) k, List.getElem?_cons_succ, Nat.add_right_comm, Nat.add_assoc]
theorem wl_at {G : gg_} {M : mm_} {k : Nat} {d : dd_} (h : ds_[k]? = some d) : (wl_ G M)[k]? = some (G.1 k, ce_ G M k d) := by
  rw [wk_get, h, Nat.zero_add]; rfl
theorem wl_set {G : gg_} {M M' : mm_} {k : Nat} {d : dd_} (h : ds_[k]? = some d) (he : ∀ (j : Nat) (d' : dd_), j ≠ k → ce_ G M' j d' = ce_ G M j d') : (wl_ G M).set k (G.1 k, ce_ G M' k d) = wl_ G M' := by
  apply List.ext_getElem?
  intro j
  by_cases hj : j = k
  · subst hj
    have hl : j < (wl_ G M).length := (List.getElem?_eq_some_iff.mp (wl_at (G := G) (M := M) h)).1
    rw [List.getElem?_set_self hl, wl_at h]
  · rw [List.getElem?_set_ne (Ne.symm hj), wk_get, wk_get]
    cases hd : ds_[j]? with
    | none => rfl
    | some d' =>
      simp only [Option.map_some, Nat.zero_add]
      rw [he j d' hj]
def sI_ (M : mm_) (a i : Nat) (v : Int32) : mm_ := (fun x j => if x = a ∧ j = i then v else M.1 x j, M.2.1, M.2.2)
def sL_ (M : mm_) (a i : Nat) (v : Int64) : mm_ := (M.1, fun x j => if x = a ∧ j = i then v else M.2.1 x j, M.2.2)
def sR_ (M : mm_) (a i : Nat) (v : Option Nat) : mm_ := (M.1, M.2.1, fun x j => if x = a ∧ j = i then v else M.2.2 x j)
theorem fl_eq {G : gg_} {M M' : mm_} {j : Nat} (h1 : M'.1 j = M.1 j) (h2 : M'.2.1 j = M.2.1 j) (h3 : M'.2.2 j = M.2.2 j) : ∀ (fs : List Nat) (n : Nat), fl_ G M' j n fs = fl_ G M j n fs
  | [], n => rfl
  | f :: fs, n => by
    rw [fl_, fl_, fl_eq h1 h2 h3 fs (n + 1)]
    match f with
    | 0 => simp only [fv_, h1]
    | 1 => simp only [fv_, h2]
    | 2 => simp only [fv_, h3]
    | t + 3 => rfl
theorem ce_eq {G : gg_} {M M' : mm_} {j : Nat} (h1 : M'.1 j = M.1 j) (h2 : M'.2.1 j = M.2.1 j) (h3 : M'.2.2 j = M.2.2 j) (d : dd_) : ce_ G M' j d = ce_ G M j d := by
  match d with
  | .inl (t, n, 0) => simp only [ce_, h1]
  | .inl (t, n, 1) => simp only [ce_, h2]
  | .inl (t, n, i + 2) => simp only [ce_, h3]
  | .inr (ci, fs) => simp only [ce_, fl_eq h1 h2 h3 fs 0]
theorem ce_sI {G : gg_} {M : mm_} {a i : Nat} {v : Int32} (j : Nat) (d : dd_) (h : j ≠ a) : ce_ G (sI_ M a i v) j d = ce_ G M j d := ce_eq (M := M) (M' := sI_ M a i v) (funext fun x => by simp [sI_, h]) rfl rfl d
theorem ce_sL {G : gg_} {M : mm_} {a i : Nat} {v : Int64} (j : Nat) (d : dd_) (h : j ≠ a) : ce_ G (sL_ M a i v) j d = ce_ G M j d := ce_eq (M := M) (M' := sL_ M a i v) rfl (funext fun x => by simp [sL_, h]) rfl d
theorem ce_sR {G : gg_} {M : mm_} {a i : Nat} {v : Option Nat} (j : Nat) (d : dd_) (h : j ≠ a) : ce_ G (sR_ M a i v) j d = ce_ G M j d := ce_eq (M := M) (M' := sR_ M a i v) rfl rfl (funext fun x => by simp [sR_, h]) d
theorem fl_get {G : gg_} {M : mm_} {k : Nat} : ∀ (fs : List Nat) (n j : Nat), (fl_ G M k n fs)[j]? = (fs[j]?).map (fv_ G M k (n + j))
  | [], n, j => by simp [fl_]
  | f :: fs, n, 0 => by simp [fl_]
  | f :: fs, n, j + 1 => by
    rw [fl_, List.getElem?_cons_succ, fl_get fs (n + 1) j, List.getElem?_cons_succ, Nat.add_right_comm, Nat.add_assoc]
theorem fl_at {G : gg_} {M : mm_} {k j f : Nat} {fs : List Nat} (h : fs[j]? = some f) : (fl_ G M k 0 fs)[j]? = some (fv_ G M k j f) := by
  rw [fl_get, h, Nat.zero_add]; rfl
theorem fl_len {G : gg_} {M : mm_} {k : Nat} : ∀ (fs : List Nat) (n : Nat), (fl_ G M k n fs).length = fs.length
  | [], _ => rfl
  | f :: fs, n => by rw [fl_, List.length_cons, fl_len fs (n + 1), List.length_cons]
theorem fl_set {G : gg_} {M M' : mm_} {k j f : Nat} {fs : List Nat} (h : fs[j]? = some f) (he : ∀ i g, i ≠ j → fv_ G M' k i g = fv_ G M k i g) : (fl_ G M k 0 fs).set j (fv_ G M' k j f) = fl_ G M' k 0 fs := by
  apply List.ext_getElem?
  intro i
  by_cases hi : i = j
  · subst hi
    have hl : i < (fl_ G M k 0 fs).length := (List.getElem?_eq_some_iff.mp (fl_at (G := G) (M := M) (k := k) h)).1
    rw [List.getElem?_set_self hl, fl_at h]
  · rw [List.getElem?_set_ne (Ne.symm hi), fl_get, fl_get]
    cases hd : fs[i]? with
    | none => rfl
    | some g => simp only [Option.map_some, Nat.zero_add]; rw [he i g hi]
theorem fv_sI {G : gg_} {M : mm_} {k j : Nat} {v : Int32} (i g : Nat) (h : i ≠ j) : fv_ G (sI_ M k j v) k i g = fv_ G M k i g := by
  match g with
  | 0 => simp [fv_, sI_, h]
  | 1 => rfl
  | 2 => rfl
  | t + 3 => rfl
theorem fv_sL {G : gg_} {M : mm_} {k j : Nat} {v : Int64} (i g : Nat) (h : i ≠ j) : fv_ G (sL_ M k j v) k i g = fv_ G M k i g := by
  match g with
  | 0 => rfl
  | 1 => simp [fv_, sL_, h]
  | 2 => rfl
  | t + 3 => rfl
def aw_ (G : gg_) : Nat → Prop := fun q => G.2.2.2 ≤ q
def gd_ (G : gg_) : Prop := (∀ i j : Nat, i < ds_.length → j < ds_.length → G.1 i = G.1 j → i = j) ∧ ∀ k : Nat, k < ds_.length → G.2.2.2 ≤ G.1 k
theorem wl_D {G : gg_} {M : mm_} (h : gd_ G) : va_D (aw_ G) (wl_ G M) := by
  have key : ∀ (k : Nat) (q : Nat × va_E), (wl_ G M)[k]? = some q → k < ds_.length ∧ q.1 = G.1 k := by
    intro k q hk
    rw [wk_get] at hk
    cases hd : ds_[k]? with
    | none => rw [hd] at hk; cases hk
    | some d =>
      rw [hd] at hk
      cases hk
      exact ⟨(List.getElem?_eq_some_iff.mp hd).1, by simp⟩
  refine ⟨fun i j x y hi hj hxy => ?_, fun k q hk => ?_⟩
  · obtain ⟨a1, a2⟩ := key i x hi
    obtain ⟨b1, b2⟩ := key j y hj
    exact h.1 i j a1 b1 (by rw [← a2, ← b2]; exact hxy)
  · obtain ⟨a1, a2⟩ := key k q hk
    rw [a2]
    exact h.2 k a1
/-! the locals: a list, none where nothing is known -/
def al_ : Nat → List (Option Value) → List (Nat × Value)
  | _, [] => []
  | i, none :: t => al_ (i + 1) t
  | i, some v :: t => (i, v) :: al_ (i + 1) t
def dp_ : Option Value → Option Value
  | some (.long _) => none
  | some (.double _) => none
  | o => o
def l1_ : List (Option Value) → Nat → Value → List (Option Value)
  | [], _, _ => []
  | _ :: t, 0, v => some v :: t
  | o :: t, 1, v => dp_ o :: l1_ t 0 v
  | o :: t, i + 2, v => o :: l1_ t (i + 1) v
def l2_ : List (Option Value) → Nat → Value → List (Option Value)
  | [], _, _ => []
  | [_], 0, v => [some v]
  | _ :: _ :: t, 0, v => some v :: none :: t
  | o :: t, 1, v => dp_ o :: l2_ t 0 v
  | o :: t, i + 2, v => o :: l2_ t (i + 1) v
theorem al_mem : ∀ (lv : List (Option Value)) (i0 : Nat) (q : Nat × Value), q ∈ al_ i0 lv ↔ ∃ i, q.1 = i0 + i ∧ lv[i]? = some (some q.2)
  | [], i0, q => by simp [al_]
  | none :: t, i0, q => by
    rw [al_, al_mem t (i0 + 1) q]
    constructor
    · rintro ⟨i, h1, h2⟩
      exact ⟨i + 1, by omega, by simpa using h2⟩
    · rintro ⟨i, h1, h2⟩
      match i, h2 with
      | 0, h2 => simp at h2
      | i + 1, h2 => exact ⟨i, by omega, by simpa using h2⟩
  | some v :: t, i0, q => by
    rw [al_, List.mem_cons, al_mem t (i0 + 1) q]
    constructor
    · rintro (h | ⟨i, h1, h2⟩)
      · subst h; exact ⟨0, rfl, rfl⟩
      · exact ⟨i + 1, by omega, by simpa using h2⟩
    · rintro ⟨i, h1, h2⟩
      match i, h2 with
      | 0, h2 =>
        left
        simp at h2
        obtain ⟨a, b⟩ := q
        simp at h1 h2
        rw [h1, ← h2]
      | i + 1, h2 => exact Or.inr ⟨i, by omega, by simpa using h2⟩
theorem dp_some {o : Option Value} {w : Value} (h : dp_ o = some w) : o = some w ∧ ¬ w.category = 2 := by
  match o, h with
  | none, h => cases h
  | some (.int x), h => cases h; exact ⟨rfl, by simp [Value.category]⟩
  | some (.long x), h => cases h
  | some (.float x), h => cases h; exact ⟨rfl, by simp [Value.category]⟩
  | some (.double x), h => cases h
  | some .null, h => cases h; exact ⟨rfl, by simp [Value.category]⟩
  | some (.ref x), h => cases h; exact ⟨rfl, by simp [Value.category]⟩
  | some (.retAddr x), h => cases h; exact ⟨rfl, by simp [Value.category]⟩
theorem l1_get : ∀ (lv : List (Option Value)) (i : Nat) (v : Value) (j : Nat) (w : Value), (l1_ lv i v)[j]? = some (some w) → (j = i ∧ w = v) ∨ (j ≠ i ∧ lv[j]? = some (some w) ∧ ¬ (j + 1 = i ∧ w.category = 2))
  | [], i, v, j, w, h => by simp [l1_] at h
  | o :: t, 0, v, j, w, h => by
    match j, h with
    | 0, h => left; simp [l1_] at h; exact ⟨rfl, h.symm⟩
    | j + 1, h => right; exact ⟨by omega, by simpa [l1_] using h, by omega⟩
  | o :: t, 1, v, j, w, h => by
    match j, h with
    | 0, h =>
      right
      simp only [l1_, List.getElem?_cons_zero, Option.some.injEq] at h
      obtain ⟨h1, h2⟩ := dp_some h
      exact ⟨by omega, by rw [h1]; rfl, fun q => h2 q.2⟩
    | j + 1, h =>
      simp only [l1_, List.getElem?_cons_succ] at h
      rcases l1_get t 0 v j w h with ⟨h1, h2⟩ | ⟨h1, h2, h3⟩
      · exact Or.inl ⟨by omega, h2⟩
      · exact Or.inr ⟨by omega, by simpa using h2, fun q => by omega⟩
  | o :: t, i + 2, v, j, w, h => by
    match j, h with
    | 0, h => right; exact ⟨by omega, by simpa [l1_] using h, by omega⟩
    | j + 1, h =>
      simp only [l1_, List.getElem?_cons_succ] at h
      rcases l1_get t (i + 1) v j w h with ⟨h1, h2⟩ | ⟨h1, h2, h3⟩
      · exact Or.inl ⟨by omega, h2⟩
      · exact Or.inr ⟨by omega, by simpa using h2, fun q => h3 ⟨by omega, q.2⟩⟩
theorem l2_get : ∀ (lv : List (Option Value)) (i : Nat) (v : Value) (j : Nat) (w : Value), (l2_ lv i v)[j]? = some (some w) → (j = i ∧ w = v) ∨ (j ≠ i ∧ j ≠ i + 1 ∧ lv[j]? = some (some w) ∧ ¬ (j + 1 = i ∧ w.category = 2))
  | [], i, v, j, w, h => by simp [l2_] at h
  | [o], 0, v, j, w, h => by
    match j, h with
    | 0, h => left; simp [l2_] at h; exact ⟨rfl, h.symm⟩
    | j + 1, h => simp [l2_] at h
  | o :: o2 :: t, 0, v, j, w, h => by
    match j, h with
    | 0, h => left; simp [l2_] at h; exact ⟨rfl, h.symm⟩
    | 1, h => simp [l2_] at h
    | j + 2, h => right; exact ⟨by omega, by omega, by simpa [l2_] using h, by omega⟩
  | o :: t, 1, v, j, w, h => by
    match j, h with
    | 0, h =>
      right
      simp only [l2_, List.getElem?_cons_zero, Option.some.injEq] at h
      obtain ⟨h1, h2⟩ := dp_some h
      exact ⟨by omega, by omega, by rw [h1]; rfl, fun q => h2 q.2⟩
    | j + 1, h =>
      simp only [l2_, List.getElem?_cons_succ] at h
      rcases l2_get t 0 v j w h with ⟨h1, h2⟩ | ⟨h1, h1', h2, h3⟩
      · exact Or.inl ⟨by omega, h2⟩
      · exact Or.inr ⟨by omega, by omega, by simpa using h2, fun q => by omega⟩
  | o :: t, i + 2, v, j, w, h => by
    match j, h with
    | 0, h => right; exact ⟨by omega, by omega, by simpa [l2_] using h, by omega⟩
    | j + 1, h =>
      simp only [l2_, List.getElem?_cons_succ] at h
      rcases l2_get t (i + 1) v j w h with ⟨h1, h2⟩ | ⟨h1, h1', h2, h3⟩
      · exact Or.inl ⟨by omega, h2⟩
      · exact Or.inr ⟨by omega, by omega, by simpa using h2, fun q => h3 ⟨by omega, q.2⟩⟩
def lh_ (n : Nat) (ls : Array Slot) (lv : List (Option Value)) : Prop := lv_has ls n (al_ 0 lv)
theorem lh_at {n : Nat} {ls : Array Slot} {lv : List (Option Value)} {i : Nat} {v : Value} (h : lh_ n ls lv) (hv : lv[i]? = some (some v)) : ls[i]? = some (.val v) := h.2.2 (i, v) ((al_mem lv 0 (i, v)).mpr ⟨i, by simp, hv⟩)
theorem lh_sub {n : Nat} {ls : Array Slot} {lv : List (Option Value)} {l : List (Nat × Value)} (h : lv_has ls n l) (hs : ∀ q ∈ al_ 0 lv, q ∈ l) : lh_ n ls lv := ⟨h.1, h.2.1, fun q hq => h.2.2 q (hs q hq)⟩
theorem lh_1 {lv : List (Option Value)} {i : Nat} {v : Value} : ∀ q ∈ al_ 0 (l1_ lv i v), q ∈ (i, v) :: (al_ 0 lv).filter (fun q => !(q.1 == i) && !(q.1 + 1 == i && q.2.category == 2)) := by
  intro q hq
  obtain ⟨j, h1, h2⟩ := (al_mem _ 0 q).mp hq
  rw [Nat.zero_add] at h1
  obtain ⟨a, b⟩ := q
  simp only at h1 h2
  subst h1
  rcases l1_get lv i v a b h2 with ⟨e1, e2⟩ | ⟨e1, e2, e3⟩
  · rw [e1, e2]; exact List.mem_cons_self
  · refine List.mem_cons_of_mem _ (List.mem_filter.mpr ⟨(al_mem lv 0 (a, b)).mpr ⟨a, by simp, e2⟩, ?_⟩)
    have e4 : (a == i) = false := by simpa using e1
    have e5 : (a + 1 == i && b.category == 2) = false := by
      cases h6 : (a + 1 == i && b.category == 2) with
      | false => rfl
      | true =>
        rw [Bool.and_eq_true, beq_iff_eq, beq_iff_eq] at h6
        exact absurd h6 e3
    simp only [e4, e5]; rfl
theorem lh_2 {lv : List (Option Value)} {i : Nat} {v : Value} : ∀ q ∈ al_ 0 (l2_ lv i v), q ∈ (i, v) :: (al_ 0 lv).filter (fun q => !(q.1 == i) && (!(q.1 == i + 1) && !(q.1 + 1 == i && q.2.category == 2))) := by
  intro q hq
  obtain ⟨j, h1, h2⟩ := (al_mem _ 0 q).mp hq
  rw [Nat.zero_add] at h1
  obtain ⟨a, b⟩ := q
  simp only at h1 h2
  subst h1
  rcases l2_get lv i v a b h2 with ⟨e1, e2⟩ | ⟨e1, e0, e2, e3⟩
  · rw [e1, e2]; exact List.mem_cons_self
  · refine List.mem_cons_of_mem _ (List.mem_filter.mpr ⟨(al_mem lv 0 (a, b)).mpr ⟨a, by simp, e2⟩, ?_⟩)
    have e4 : (a == i) = false := by simpa using e1
    have e7 : (a == i + 1) = false := by simpa using e0
    have e5 : (a + 1 == i && b.category == 2) = false := by
      cases h6 : (a + 1 == i && b.category == 2) with
      | false => rfl
      | true =>
        rw [Bool.and_eq_true, beq_iff_eq, beq_iff_eq] at h6
        exact absurd h6 e3
    simp only [e4, e5, e7]; rfl
def en_ : Nat → List Value → List (Option Value)
  | n, [] => List.replicate n none
  | n, .long x :: vs => some (.long x) :: none :: en_ (n - 2) vs
  | n, .double x :: vs => some (.double x) :: none :: en_ (n - 2) vs
  | n, v :: vs => some v :: en_ (n - 1) vs
theorem en_mem : ∀ (vs : List Value) (n i0 : Nat), ∀ q ∈ al_ i0 (en_ n vs), q ∈ lv_args i0 vs
  | [], n, i0, q, h => by
    obtain ⟨i, h1, h2⟩ := (al_mem _ i0 q).mp h
    simp only [en_] at h2
    have h3 := List.mem_of_getElem? h2
    rw [List.mem_replicate] at h3
    cases h3.2
  | .long x :: vs, n, i0, q, h => by
    simp only [en_, al_, List.mem_cons] at h
    simp only [lv_args, List.mem_cons]
    rcases h with h | h
    · exact Or.inl h
    · exact Or.inr (by simpa [Value.category] using en_mem vs (n - 2) (i0 + 1 + 1) q h)
  | .double x :: vs, n, i0, q, h => by
    simp only [en_, al_, List.mem_cons] at h
    simp only [lv_args, List.mem_cons]
    rcases h with h | h
    · exact Or.inl h
    · exact Or.inr (by simpa [Value.category] using en_mem vs (n - 2) (i0 + 1 + 1) q h)
  | .int x :: vs, n, i0, q, h => by
    simp only [en_, al_, List.mem_cons] at h
    simp only [lv_args, List.mem_cons]
    exact h.elim Or.inl (fun h => Or.inr (by simpa [Value.category] using en_mem vs (n - 1) (i0 + 1) q h))
  | .float x :: vs, n, i0, q, h => by
    simp only [en_, al_, List.mem_cons] at h
    simp only [lv_args, List.mem_cons]
    exact h.elim Or.inl (fun h => Or.inr (by simpa [Value.category] using en_mem vs (n - 1) (i0 + 1) q h))
  | .null :: vs, n, i0, q, h => by
    simp only [en_, al_, List.mem_cons] at h
    simp only [lv_args, List.mem_cons]
    exact h.elim Or.inl (fun h => Or.inr (by simpa [Value.category] using en_mem vs (n - 1) (i0 + 1) q h))
  | .ref x :: vs, n, i0, q, h => by
    simp only [en_, al_, List.mem_cons] at h
    simp only [lv_args, List.mem_cons]
    exact h.elim Or.inl (fun h => Or.inr (by simpa [Value.category] using en_mem vs (n - 1) (i0 + 1) q h))
  | .retAddr x :: vs, n, i0, q, h => by
    simp only [en_, al_, List.mem_cons] at h
    simp only [lv_args, List.mem_cons]
    exact h.elim Or.inl (fun h => Or.inr (by simpa [Value.category] using en_mem vs (n - 1) (i0 + 1) q h))
end
section
/-! the machine's rows over the memory -/
abbrev mc_ : Type := Program × Launch × Env × Room × State × MethodId × Array Value × List Frame × Method × Code × Nat × Nat
def wq_ : mc_ → gg_ → (State → Prop) → Nat → List (Option Value) → List Value → mm_ → Prop
  | (p, l, e, R, s, m, args, below, meth, c, cs, sl), G, Q, pc, lv, st, M => ∀ (H : Heap) (locs : List Loc) (ls : Array Slot), lh_ c.maxLocals ls lv → va_P G.2.2.1 vwCl (wl_ G M) H → va_S (aw_ G) s.heap H locs → W p l e R s m args below meth c H locs cs sl Q (F0 m pc ls st)
def cx_ : mc_ → gg_ → String → ByteArray → Nat → Option FieldType → Nat → Prop
  | (p, l, e, R, s, m, args, below, meth, c, cs, sl), G, own, cc, nL, ry, d => p.tables.exec = Jvm.exec ∧ c.code = cc ∧ c.maxLocals = nL ∧ meth.sig.returnType = ry ∧ s.vm.findClass own = some m.cls ∧ (∀ w ∈ gw_, w.before args s = true) ∧ va_K G.2.2.1 vwCl (tt_ G) s ∧ gd_ G ∧ G.2.2.2 ≤ s.heap.size ∧ meth.locks = false ∧ d ≤ R.frames ∧ 64 * d ≤ R.locals ∧ cs ≤ R.cells ∧ sl ≤ R.slots
section ROWS
variable {C : mc_} {G : gg_} {Q : State → Prop} {pc : Nat} {lv : List (Option Value)} {st : List Value} {M : mm_} {own : String} {cc : ByteArray} {nL : Nat} {ry : Option FieldType} {d : Nat}
theorem w_iconst {n : Int} {v : Int32} (X : cx_ C G own cc nL ry d) (hd : decode cc pc = .ok (.iconst n, 1)) (hv : Int32.ofInt n = v) (k : wq_ C G Q (pc + 1) lv (.int v :: st) M) : wq_ C G Q pc lv (st) M := by
  obtain ⟨p, l, e, R, s, m, args, below, meth, c, cs, sl⟩ := C
  obtain ⟨hx, hb, hml, hrt, hown, hts, hK, hG, hbs, hlk, hfr, hlo, hcs, hsl⟩ := X
  intro H locs ls hl hP hS
  exact lv_iconst hx hb hd hv (k H locs ls hl hP hS)
theorem w_bipush {n : Int} {v : Int32} (X : cx_ C G own cc nL ry d) (hd : decode cc pc = .ok (.bipush n, 2)) (hv : (Int8.ofInt n).toInt32 = v) (k : wq_ C G Q (pc + 2) lv (.int v :: st) M) : wq_ C G Q pc lv (st) M := by
  obtain ⟨p, l, e, R, s, m, args, below, meth, c, cs, sl⟩ := C
  obtain ⟨hx, hb, hml, hrt, hown, hts, hK, hG, hbs, hlk, hfr, hlo, hcs, hsl⟩ := X
  intro H locs ls hl hP hS
  exact lv_bipush hx hb hd hv (k H locs ls hl hP hS)
theorem w_sipush {n : Int} {v : Int32} (X : cx_ C G own cc nL ry d) (hd : decode cc pc = .ok (.sipush n, 3)) (hv : (Int16.ofInt n).toInt32 = v) (k : wq_ C G Q (pc + 3) lv (.int v :: st) M) : wq_ C G Q pc lv (st) M := by
  obtain ⟨p, l, e, R, s, m, args, below, meth, c, cs, sl⟩ := C
  obtain ⟨hx, hb, hml, hrt, hown, hts, hK, hG, hbs, hlk, hfr, hlo, hcs, hsl⟩ := X
  intro H locs ls hl hP hS
  exact lv_sipush hx hb hd hv (k H locs ls hl hP hS)
theorem w_lconst {n : Fin 2} {v : Int64} (X : cx_ C G own cc nL ry d) (hd : decode cc pc = .ok (.lconst n, 1)) (hv : Int64.ofNat (n : Nat) = v) (k : wq_ C G Q (pc + 1) lv (.long v :: st) M) : wq_ C G Q pc lv (st) M := by
  obtain ⟨p, l, e, R, s, m, args, below, meth, c, cs, sl⟩ := C
  obtain ⟨hx, hb, hml, hrt, hown, hts, hK, hG, hbs, hlk, hfr, hlo, hcs, hsl⟩ := X
  intro H locs ls hl hP hS
  exact lv_lconst hx hb hd hv (k H locs ls hl hP hS)
theorem w_iadd {x y : Int32} (X : cx_ C G own cc nL ry d) (hd : decode cc pc = .ok (.iadd, 1))  (k : wq_ C G Q (pc + 1) lv (.int (x + y) :: st) M) : wq_ C G Q pc lv (.int y :: .int x :: st) M := by
  obtain ⟨p, l, e, R, s, m, args, below, meth, c, cs, sl⟩ := C
  obtain ⟨hx, hb, hml, hrt, hown, hts, hK, hG, hbs, hlk, hfr, hlo, hcs, hsl⟩ := X
  intro H locs ls hl hP hS
  exact lv_iadd hx hb hd  (k H locs ls hl hP hS)
theorem w_isub {x y : Int32} (X : cx_ C G own cc nL ry d) (hd : decode cc pc = .ok (.isub, 1))  (k : wq_ C G Q (pc + 1) lv (.int (x - y) :: st) M) : wq_ C G Q pc lv (.int y :: .int x :: st) M := by
  obtain ⟨p, l, e, R, s, m, args, below, meth, c, cs, sl⟩ := C
  obtain ⟨hx, hb, hml, hrt, hown, hts, hK, hG, hbs, hlk, hfr, hlo, hcs, hsl⟩ := X
  intro H locs ls hl hP hS
  exact lv_isub hx hb hd  (k H locs ls hl hP hS)
theorem w_imul {x y : Int32} (X : cx_ C G own cc nL ry d) (hd : decode cc pc = .ok (.imul, 1))  (k : wq_ C G Q (pc + 1) lv (.int (x * y) :: st) M) : wq_ C G Q pc lv (.int y :: .int x :: st) M := by
  obtain ⟨p, l, e, R, s, m, args, below, meth, c, cs, sl⟩ := C
  obtain ⟨hx, hb, hml, hrt, hown, hts, hK, hG, hbs, hlk, hfr, hlo, hcs, hsl⟩ := X
  intro H locs ls hl hP hS
  exact lv_imul hx hb hd  (k H locs ls hl hP hS)
theorem w_iand {x y : Int32} (X : cx_ C G own cc nL ry d) (hd : decode cc pc = .ok (.iand, 1))  (k : wq_ C G Q (pc + 1) lv (.int (x &&& y) :: st) M) : wq_ C G Q pc lv (.int y :: .int x :: st) M := by
  obtain ⟨p, l, e, R, s, m, args, below, meth, c, cs, sl⟩ := C
  obtain ⟨hx, hb, hml, hrt, hown, hts, hK, hG, hbs, hlk, hfr, hlo, hcs, hsl⟩ := X
  intro H locs ls hl hP hS
  exact lv_iand hx hb hd  (k H locs ls hl hP hS)
theorem w_ior {x y : Int32} (X : cx_ C G own cc nL ry d) (hd : decode cc pc = .ok (.ior, 1))  (k : wq_ C G Q (pc + 1) lv (.int (x ||| y) :: st) M) : wq_ C G Q pc lv (.int y :: .int x :: st) M := by
  obtain ⟨p, l, e, R, s, m, args, below, meth, c, cs, sl⟩ := C
  obtain ⟨hx, hb, hml, hrt, hown, hts, hK, hG, hbs, hlk, hfr, hlo, hcs, hsl⟩ := X
  intro H locs ls hl hP hS
  exact lv_ior hx hb hd  (k H locs ls hl hP hS)
theorem w_ishl {x y : Int32} (X : cx_ C G own cc nL ry d) (hd : decode cc pc = .ok (.ishl, 1))  (k : wq_ C G Q (pc + 1) lv (.int (x <<< (y &&& 31)) :: st) M) : wq_ C G Q pc lv (.int y :: .int x :: st) M := by
  obtain ⟨p, l, e, R, s, m, args, below, meth, c, cs, sl⟩ := C
  obtain ⟨hx, hb, hml, hrt, hown, hts, hK, hG, hbs, hlk, hfr, hlo, hcs, hsl⟩ := X
  intro H locs ls hl hP hS
  exact lv_ishl hx hb hd  (k H locs ls hl hP hS)
theorem w_ishr {x y : Int32} (X : cx_ C G own cc nL ry d) (hd : decode cc pc = .ok (.ishr, 1))  (k : wq_ C G Q (pc + 1) lv (.int (x >>> (y &&& 31)) :: st) M) : wq_ C G Q pc lv (.int y :: .int x :: st) M := by
  obtain ⟨p, l, e, R, s, m, args, below, meth, c, cs, sl⟩ := C
  obtain ⟨hx, hb, hml, hrt, hown, hts, hK, hG, hbs, hlk, hfr, hlo, hcs, hsl⟩ := X
  intro H locs ls hl hP hS
  exact lv_ishr hx hb hd  (k H locs ls hl hP hS)
theorem w_idiv {x y : Int32} (X : cx_ C G own cc nL ry d) (hd : decode cc pc = .ok (.idiv, 1)) (hne : ¬ y = 0) (k : wq_ C G Q (pc + 1) lv (.int (x / y) :: st) M) : wq_ C G Q pc lv (.int y :: .int x :: st) M := by
  obtain ⟨p, l, e, R, s, m, args, below, meth, c, cs, sl⟩ := C
  obtain ⟨hx, hb, hml, hrt, hown, hts, hK, hG, hbs, hlk, hfr, hlo, hcs, hsl⟩ := X
  intro H locs ls hl hP hS
  exact lv_idiv hx hb hd hne (k H locs ls hl hP hS)
theorem w_irem {x y : Int32} (X : cx_ C G own cc nL ry d) (hd : decode cc pc = .ok (.irem, 1)) (hne : ¬ y = 0) (k : wq_ C G Q (pc + 1) lv (.int (x - x / y * y) :: st) M) : wq_ C G Q pc lv (.int y :: .int x :: st) M := by
  obtain ⟨p, l, e, R, s, m, args, below, meth, c, cs, sl⟩ := C
  obtain ⟨hx, hb, hml, hrt, hown, hts, hK, hG, hbs, hlk, hfr, hlo, hcs, hsl⟩ := X
  intro H locs ls hl hP hS
  exact lv_irem hx hb hd hne (k H locs ls hl hP hS)
theorem w_ineg {x : Int32} (X : cx_ C G own cc nL ry d) (hd : decode cc pc = .ok (.ineg, 1))  (k : wq_ C G Q (pc + 1) lv (.int (-x) :: st) M) : wq_ C G Q pc lv (.int x :: st) M := by
  obtain ⟨p, l, e, R, s, m, args, below, meth, c, cs, sl⟩ := C
  obtain ⟨hx, hb, hml, hrt, hown, hts, hK, hG, hbs, hlk, hfr, hlo, hcs, hsl⟩ := X
  intro H locs ls hl hP hS
  exact lv_ineg hx hb hd  (k H locs ls hl hP hS)
theorem w_ladd {x y : Int64} (X : cx_ C G own cc nL ry d) (hd : decode cc pc = .ok (.ladd, 1))  (k : wq_ C G Q (pc + 1) lv (.long (x + y) :: st) M) : wq_ C G Q pc lv (.long y :: .long x :: st) M := by
  obtain ⟨p, l, e, R, s, m, args, below, meth, c, cs, sl⟩ := C
  obtain ⟨hx, hb, hml, hrt, hown, hts, hK, hG, hbs, hlk, hfr, hlo, hcs, hsl⟩ := X
  intro H locs ls hl hP hS
  exact lv_ladd hx hb hd  (k H locs ls hl hP hS)
theorem w_lsub {x y : Int64} (X : cx_ C G own cc nL ry d) (hd : decode cc pc = .ok (.lsub, 1))  (k : wq_ C G Q (pc + 1) lv (.long (x - y) :: st) M) : wq_ C G Q pc lv (.long y :: .long x :: st) M := by
  obtain ⟨p, l, e, R, s, m, args, below, meth, c, cs, sl⟩ := C
  obtain ⟨hx, hb, hml, hrt, hown, hts, hK, hG, hbs, hlk, hfr, hlo, hcs, hsl⟩ := X
  intro H locs ls hl hP hS
  exact lv_lsub hx hb hd  (k H locs ls hl hP hS)
theorem w_lmul {x y : Int64} (X : cx_ C G own cc nL ry d) (hd : decode cc pc = .ok (.lmul, 1))  (k : wq_ C G Q (pc + 1) lv (.long (x * y) :: st) M) : wq_ C G Q pc lv (.long y :: .long x :: st) M := by
  obtain ⟨p, l, e, R, s, m, args, below, meth, c, cs, sl⟩ := C
  obtain ⟨hx, hb, hml, hrt, hown, hts, hK, hG, hbs, hlk, hfr, hlo, hcs, hsl⟩ := X
  intro H locs ls hl hP hS
  exact lv_lmul hx hb hd  (k H locs ls hl hP hS)
theorem w_land {x y : Int64} (X : cx_ C G own cc nL ry d) (hd : decode cc pc = .ok (.land, 1))  (k : wq_ C G Q (pc + 1) lv (.long (x &&& y) :: st) M) : wq_ C G Q pc lv (.long y :: .long x :: st) M := by
  obtain ⟨p, l, e, R, s, m, args, below, meth, c, cs, sl⟩ := C
  obtain ⟨hx, hb, hml, hrt, hown, hts, hK, hG, hbs, hlk, hfr, hlo, hcs, hsl⟩ := X
  intro H locs ls hl hP hS
  exact lv_land hx hb hd  (k H locs ls hl hP hS)
theorem w_lor {x y : Int64} (X : cx_ C G own cc nL ry d) (hd : decode cc pc = .ok (.lor, 1))  (k : wq_ C G Q (pc + 1) lv (.long (x ||| y) :: st) M) : wq_ C G Q pc lv (.long y :: .long x :: st) M := by
  obtain ⟨p, l, e, R, s, m, args, below, meth, c, cs, sl⟩ := C
  obtain ⟨hx, hb, hml, hrt, hown, hts, hK, hG, hbs, hlk, hfr, hlo, hcs, hsl⟩ := X
  intro H locs ls hl hP hS
  exact lv_lor hx hb hd  (k H locs ls hl hP hS)
theorem w_lshl {x : Int64} {y : Int32} (X : cx_ C G own cc nL ry d) (hd : decode cc pc = .ok (.lshl, 1))  (k : wq_ C G Q (pc + 1) lv (.long (x <<< (y.toInt64 &&& 63)) :: st) M) : wq_ C G Q pc lv (.int y :: .long x :: st) M := by
  obtain ⟨p, l, e, R, s, m, args, below, meth, c, cs, sl⟩ := C
  obtain ⟨hx, hb, hml, hrt, hown, hts, hK, hG, hbs, hlk, hfr, hlo, hcs, hsl⟩ := X
  intro H locs ls hl hP hS
  exact lv_lshl hx hb hd rfl (k H locs ls hl hP hS)
theorem w_lshr {x : Int64} {y : Int32} (X : cx_ C G own cc nL ry d) (hd : decode cc pc = .ok (.lshr, 1))  (k : wq_ C G Q (pc + 1) lv (.long (x >>> (y.toInt64 &&& 63)) :: st) M) : wq_ C G Q pc lv (.int y :: .long x :: st) M := by
  obtain ⟨p, l, e, R, s, m, args, below, meth, c, cs, sl⟩ := C
  obtain ⟨hx, hb, hml, hrt, hown, hts, hK, hG, hbs, hlk, hfr, hlo, hcs, hsl⟩ := X
  intro H locs ls hl hP hS
  exact lv_lshr hx hb hd rfl (k H locs ls hl hP hS)
theorem w_lushr {x : Int64} {y : Int32} (X : cx_ C G own cc nL ry d) (hd : decode cc pc = .ok (.lushr, 1))  (k : wq_ C G Q (pc + 1) lv (.long ((x.toUInt64 >>> (y.toInt64.toUInt64 &&& Int64.toUInt64 63)).toInt64) :: st) M) : wq_ C G Q pc lv (.int y :: .long x :: st) M := by
  obtain ⟨p, l, e, R, s, m, args, below, meth, c, cs, sl⟩ := C
  obtain ⟨hx, hb, hml, hrt, hown, hts, hK, hG, hbs, hlk, hfr, hlo, hcs, hsl⟩ := X
  intro H locs ls hl hP hS
  exact lv_lushr hx hb hd rfl (k H locs ls hl hP hS)
theorem w_iushr {x y : Int32} (X : cx_ C G own cc nL ry d) (hd : decode cc pc = .ok (.iushr, 1))  (k : wq_ C G Q (pc + 1) lv (.int ((x.toUInt32 >>> (y.toUInt32 &&& Int32.toUInt32 31)).toInt32) :: st) M) : wq_ C G Q pc lv (.int y :: .int x :: st) M := by
  obtain ⟨p, l, e, R, s, m, args, below, meth, c, cs, sl⟩ := C
  obtain ⟨hx, hb, hml, hrt, hown, hts, hK, hG, hbs, hlk, hfr, hlo, hcs, hsl⟩ := X
  intro H locs ls hl hP hS
  exact lv_iushr hx hb hd rfl (k H locs ls hl hP hS)
theorem w_i2l {x : Int32} (X : cx_ C G own cc nL ry d) (hd : decode cc pc = .ok (.i2l, 1))  (k : wq_ C G Q (pc + 1) lv (.long x.toInt64 :: st) M) : wq_ C G Q pc lv (.int x :: st) M := by
  obtain ⟨p, l, e, R, s, m, args, below, meth, c, cs, sl⟩ := C
  obtain ⟨hx, hb, hml, hrt, hown, hts, hK, hG, hbs, hlk, hfr, hlo, hcs, hsl⟩ := X
  intro H locs ls hl hP hS
  exact lv_i2l hx hb hd rfl (k H locs ls hl hP hS)
theorem w_l2i {x : Int64} (X : cx_ C G own cc nL ry d) (hd : decode cc pc = .ok (.l2i, 1))  (k : wq_ C G Q (pc + 1) lv (.int x.toInt32 :: st) M) : wq_ C G Q pc lv (.long x :: st) M := by
  obtain ⟨p, l, e, R, s, m, args, below, meth, c, cs, sl⟩ := C
  obtain ⟨hx, hb, hml, hrt, hown, hts, hK, hG, hbs, hlk, hfr, hlo, hcs, hsl⟩ := X
  intro H locs ls hl hP hS
  exact lv_l2i hx hb hd rfl (k H locs ls hl hP hS)
theorem w_i2c {x : Int32} (X : cx_ C G own cc nL ry d) (hd : decode cc pc = .ok (.i2c, 1))  (k : wq_ C G Q (pc + 1) lv (.int (x.toUInt32 % 65536).toInt32 :: st) M) : wq_ C G Q pc lv (.int x :: st) M := by
  obtain ⟨p, l, e, R, s, m, args, below, meth, c, cs, sl⟩ := C
  obtain ⟨hx, hb, hml, hrt, hown, hts, hK, hG, hbs, hlk, hfr, hlo, hcs, hsl⟩ := X
  intro H locs ls hl hP hS
  exact lv_i2c hx hb hd rfl (k H locs ls hl hP hS)
theorem w_lcmp {x y : Int64} (X : cx_ C G own cc nL ry d) (hd : decode cc pc = .ok (.lcmp, 1))  (k : wq_ C G Q (pc + 1) lv (.int (lg_cmp x y) :: st) M) : wq_ C G Q pc lv (.long y :: .long x :: st) M := by
  obtain ⟨p, l, e, R, s, m, args, below, meth, c, cs, sl⟩ := C
  obtain ⟨hx, hb, hml, hrt, hown, hts, hK, hG, hbs, hlk, hfr, hlo, hcs, hsl⟩ := X
  intro H locs ls hl hP hS
  exact W.lcmp hx hb hd  (k H locs ls hl hP hS)
theorem w_dup {va : Value} (X : cx_ C G own cc nL ry d) (hd : decode cc pc = .ok (.dup, 1)) (hva : va.category = 1) (k : wq_ C G Q (pc + 1) lv (va :: va :: st) M) : wq_ C G Q pc lv (va :: st) M := by
  obtain ⟨p, l, e, R, s, m, args, below, meth, c, cs, sl⟩ := C
  obtain ⟨hx, hb, hml, hrt, hown, hts, hK, hG, hbs, hlk, hfr, hlo, hcs, hsl⟩ := X
  intro H locs ls hl hP hS
  exact lv_dup hx hb hd hva (k H locs ls hl hP hS)
theorem w_pop {va : Value} (X : cx_ C G own cc nL ry d) (hd : decode cc pc = .ok (.pop, 1)) (hva : va.category = 1) (k : wq_ C G Q (pc + 1) lv (st) M) : wq_ C G Q pc lv (va :: st) M := by
  obtain ⟨p, l, e, R, s, m, args, below, meth, c, cs, sl⟩ := C
  obtain ⟨hx, hb, hml, hrt, hown, hts, hK, hG, hbs, hlk, hfr, hlo, hcs, hsl⟩ := X
  intro H locs ls hl hP hS
  exact lv_pop hx hb hd hva (k H locs ls hl hP hS)
theorem w_dup2 {va vb : Value} (X : cx_ C G own cc nL ry d) (hd : decode cc pc = .ok (.dup2, 1)) (hva : va.category = 1) (hvb : vb.category = 1) (k : wq_ C G Q (pc + 1) lv (va :: vb :: va :: vb :: st) M) : wq_ C G Q pc lv (va :: vb :: st) M := by
  obtain ⟨p, l, e, R, s, m, args, below, meth, c, cs, sl⟩ := C
  obtain ⟨hx, hb, hml, hrt, hown, hts, hK, hG, hbs, hlk, hfr, hlo, hcs, hsl⟩ := X
  intro H locs ls hl hP hS
  exact lv_dup2_11 hx hb hd hva hvb (k H locs ls hl hP hS)
theorem w_ldc {v : Int32} {index : Nat} (X : cx_ C G own cc nL ry d) (hd : decode cc pc = .ok (.ldc index, 2)) (hc : Cond.constant own index v ∈ gw_) (k : wq_ C G Q (pc + 2) lv (.int v :: st) M) : wq_ C G Q pc lv st M := by
  obtain ⟨p, l, e, R, s, m, args, below, meth, c, cs, sl⟩ := C
  obtain ⟨hx, hb, hml, hrt, hown, hts, hK, hG, hbs, hlk, hfr, hlo, hcs, hsl⟩ := X
  intro H locs ls hl hP hS
  exact lv_ldc hx hb hown (hts _ hc) hd (k H locs ls hl hP hS)
theorem w_ldc2 {v : Int64} {index : Nat} (X : cx_ C G own cc nL ry d) (hd : decode cc pc = .ok (.ldc2_w index, 3)) (hc : Cond.constantLong own index v ∈ gw_) (k : wq_ C G Q (pc + 3) lv (.long v :: st) M) : wq_ C G Q pc lv st M := by
  obtain ⟨p, l, e, R, s, m, args, below, meth, c, cs, sl⟩ := C
  obtain ⟨hx, hb, hml, hrt, hown, hts, hK, hG, hbs, hlk, hfr, hlo, hcs, hsl⟩ := X
  intro H locs ls hl hP hS
  exact lv_ldc2 hx hb hown (hts _ hc) hd (k H locs ls hl hP hS)
theorem w_iload_n {f : Fin 4} {i : Nat} {x : Int32} (X : cx_ C G own cc nL ry d) (hd : decode cc pc = .ok (.iload_n f, 1)) (hi : (f : Nat) = i) (hv : lv[i]? = some (some (.int x))) (k : wq_ C G Q (pc + 1) lv (.int x :: st) M) : wq_ C G Q pc lv st M := by
  obtain ⟨p, l, e, R, s, m, args, below, meth, c, cs, sl⟩ := C
  obtain ⟨hx, hb, hml, hrt, hown, hts, hK, hG, hbs, hlk, hfr, hlo, hcs, hsl⟩ := X
  intro H locs ls hl hP hS
  exact lv_iload_n hx hb hd hi (lh_at hl hv) (k H locs ls hl hP hS)
theorem w_iload {i : Nat} {x : Int32} (X : cx_ C G own cc nL ry d) (hd : decode cc pc = .ok (.iload i, 2)) (hv : lv[i]? = some (some (.int x))) (k : wq_ C G Q (pc + 2) lv (.int x :: st) M) : wq_ C G Q pc lv st M := by
  obtain ⟨p, l, e, R, s, m, args, below, meth, c, cs, sl⟩ := C
  obtain ⟨hx, hb, hml, hrt, hown, hts, hK, hG, hbs, hlk, hfr, hlo, hcs, hsl⟩ := X
  intro H locs ls hl hP hS
  exact lv_iload hx hb hd (lh_at hl hv) (k H locs ls hl hP hS)
theorem w_lload_n {f : Fin 4} {i : Nat} {x : Int64} (X : cx_ C G own cc nL ry d) (hd : decode cc pc = .ok (.lload_n f, 1)) (hi : (f : Nat) = i) (hv : lv[i]? = some (some (.long x))) (k : wq_ C G Q (pc + 1) lv (.long x :: st) M) : wq_ C G Q pc lv st M := by
  obtain ⟨p, l, e, R, s, m, args, below, meth, c, cs, sl⟩ := C
  obtain ⟨hx, hb, hml, hrt, hown, hts, hK, hG, hbs, hlk, hfr, hlo, hcs, hsl⟩ := X
  intro H locs ls hl hP hS
  exact lv_lload_n hx hb hd hi (lh_at hl hv) (k H locs ls hl hP hS)
theorem w_lload {i : Nat} {x : Int64} (X : cx_ C G own cc nL ry d) (hd : decode cc pc = .ok (.lload i, 2)) (hv : lv[i]? = some (some (.long x))) (k : wq_ C G Q (pc + 2) lv (.long x :: st) M) : wq_ C G Q pc lv st M := by
  obtain ⟨p, l, e, R, s, m, args, below, meth, c, cs, sl⟩ := C
  obtain ⟨hx, hb, hml, hrt, hown, hts, hK, hG, hbs, hlk, hfr, hlo, hcs, hsl⟩ := X
  intro H locs ls hl hP hS
  exact lv_lload hx hb hd (lh_at hl hv) (k H locs ls hl hP hS)
theorem w_aload_n {f : Fin 4} {i : Nat} {x : Nat} (X : cx_ C G own cc nL ry d) (hd : decode cc pc = .ok (.aload_n f, 1)) (hi : (f : Nat) = i) (hv : lv[i]? = some (some (.ref x))) (k : wq_ C G Q (pc + 1) lv (.ref x :: st) M) : wq_ C G Q pc lv st M := by
  obtain ⟨p, l, e, R, s, m, args, below, meth, c, cs, sl⟩ := C
  obtain ⟨hx, hb, hml, hrt, hown, hts, hK, hG, hbs, hlk, hfr, hlo, hcs, hsl⟩ := X
  intro H locs ls hl hP hS
  exact lv_aload_n hx hb hd hi (lh_at hl hv) (k H locs ls hl hP hS)
theorem w_aload {i : Nat} {x : Nat} (X : cx_ C G own cc nL ry d) (hd : decode cc pc = .ok (.aload i, 2)) (hv : lv[i]? = some (some (.ref x))) (k : wq_ C G Q (pc + 2) lv (.ref x :: st) M) : wq_ C G Q pc lv st M := by
  obtain ⟨p, l, e, R, s, m, args, below, meth, c, cs, sl⟩ := C
  obtain ⟨hx, hb, hml, hrt, hown, hts, hK, hG, hbs, hlk, hfr, hlo, hcs, hsl⟩ := X
  intro H locs ls hl hP hS
  exact lv_aload hx hb hd (lh_at hl hv) (k H locs ls hl hP hS)
theorem w_istore_n {f : Fin 4} {i : Nat} {x : Int32} (X : cx_ C G own cc nL ry d) (hd : decode cc pc = .ok (.istore_n f, 1)) (hi : (f : Nat) = i) (hn : i < nL) (k : wq_ C G Q (pc + 1) (l1_ lv i (.int x)) st M) : wq_ C G Q pc lv (.int x :: st) M := by
  obtain ⟨p, l, e, R, s, m, args, below, meth, c, cs, sl⟩ := C
  obtain ⟨hx, hb, hml, hrt, hown, hts, hK, hG, hbs, hlk, hfr, hlo, hcs, hsl⟩ := X
  intro H locs ls hl hP hS
  exact lv_istore_n hx hb hd hi hl (by rw [hml]; exact hn) rfl (fun ls2 hl2 => k H locs ls2 (lh_sub hl2 lh_1) hP hS)
theorem w_istore {i : Nat} {x : Int32} (X : cx_ C G own cc nL ry d) (hd : decode cc pc = .ok (.istore i, 2)) (hn : i < nL) (k : wq_ C G Q (pc + 2) (l1_ lv i (.int x)) st M) : wq_ C G Q pc lv (.int x :: st) M := by
  obtain ⟨p, l, e, R, s, m, args, below, meth, c, cs, sl⟩ := C
  obtain ⟨hx, hb, hml, hrt, hown, hts, hK, hG, hbs, hlk, hfr, hlo, hcs, hsl⟩ := X
  intro H locs ls hl hP hS
  exact lv_istore hx hb hd hl (by rw [hml]; exact hn) rfl (fun ls2 hl2 => k H locs ls2 (lh_sub hl2 lh_1) hP hS)
theorem w_astore_n {f : Fin 4} {i : Nat} {x : Nat} (X : cx_ C G own cc nL ry d) (hd : decode cc pc = .ok (.astore_n f, 1)) (hi : (f : Nat) = i) (hn : i < nL) (k : wq_ C G Q (pc + 1) (l1_ lv i (.ref x)) st M) : wq_ C G Q pc lv (.ref x :: st) M := by
  obtain ⟨p, l, e, R, s, m, args, below, meth, c, cs, sl⟩ := C
  obtain ⟨hx, hb, hml, hrt, hown, hts, hK, hG, hbs, hlk, hfr, hlo, hcs, hsl⟩ := X
  intro H locs ls hl hP hS
  exact lv_astore_n hx hb hd hi hl (by rw [hml]; exact hn) rfl (fun ls2 hl2 => k H locs ls2 (lh_sub hl2 lh_1) hP hS)
theorem w_astore {i : Nat} {x : Nat} (X : cx_ C G own cc nL ry d) (hd : decode cc pc = .ok (.astore i, 2)) (hn : i < nL) (k : wq_ C G Q (pc + 2) (l1_ lv i (.ref x)) st M) : wq_ C G Q pc lv (.ref x :: st) M := by
  obtain ⟨p, l, e, R, s, m, args, below, meth, c, cs, sl⟩ := C
  obtain ⟨hx, hb, hml, hrt, hown, hts, hK, hG, hbs, hlk, hfr, hlo, hcs, hsl⟩ := X
  intro H locs ls hl hP hS
  exact lv_astore hx hb hd hl (by rw [hml]; exact hn) rfl (fun ls2 hl2 => k H locs ls2 (lh_sub hl2 lh_1) hP hS)
theorem w_lstore_n {f : Fin 4} {i : Nat} {x : Int64} (X : cx_ C G own cc nL ry d) (hd : decode cc pc = .ok (.lstore_n f, 1)) (hi : (f : Nat) = i) (hn : i + 1 < nL) (k : wq_ C G Q (pc + 1) (l2_ lv i (.long x)) st M) : wq_ C G Q pc lv (.long x :: st) M := by
  obtain ⟨p, l, e, R, s, m, args, below, meth, c, cs, sl⟩ := C
  obtain ⟨hx, hb, hml, hrt, hown, hts, hK, hG, hbs, hlk, hfr, hlo, hcs, hsl⟩ := X
  intro H locs ls hl hP hS
  exact lv_lstore_n hx hb hd hi hl (by rw [hml]; exact hn) rfl (fun ls2 hl2 => k H locs ls2 (lh_sub hl2 lh_2) hP hS)
theorem w_lstore {i : Nat} {x : Int64} (X : cx_ C G own cc nL ry d) (hd : decode cc pc = .ok (.lstore i, 2)) (hn : i + 1 < nL) (k : wq_ C G Q (pc + 2) (l2_ lv i (.long x)) st M) : wq_ C G Q pc lv (.long x :: st) M := by
  obtain ⟨p, l, e, R, s, m, args, below, meth, c, cs, sl⟩ := C
  obtain ⟨hx, hb, hml, hrt, hown, hts, hK, hG, hbs, hlk, hfr, hlo, hcs, hsl⟩ := X
  intro H locs ls hl hP hS
  exact lv_lstore hx hb hd hl (by rw [hml]; exact hn) rfl (fun ls2 hl2 => k H locs ls2 (lh_sub hl2 lh_2) hP hS)
theorem al_pos {l : List (Option Value)} {i : Nat} {v : Value} (h : l[i]? = some (some v)) : ∃ k : Nat, (al_ 0 l)[k]? = some (i, v) := List.getElem?_of_mem ((al_mem l 0 (i, v)).mpr ⟨i, by simp, h⟩)
theorem w_iinc {i : Nat} {n : Int} {x v : Int32} (X : cx_ C G own cc nL ry d) (hd : decode cc pc = .ok (.iinc i n, 3)) (hv : lv[i]? = some (some (.int x))) (he : Int32.ofInt n = v) (hn : i < nL) (k : wq_ C G Q (pc + 3) (l1_ lv i (.int (x + v))) st M) : wq_ C G Q pc lv st M := by
  obtain ⟨p, l, e, R, s, m, args, below, meth, c, cs, sl⟩ := C
  obtain ⟨hx, hb, hml, hrt, hown, hts, hK, hG, hbs, hlk, hfr, hlo, hcs, hsl⟩ := X
  intro H locs ls hl hP hS
  obtain ⟨q, hq⟩ := al_pos hv
  exact lv_iinc hx hb hd hl hq (by rw [he]) (by rw [hml]; exact hn) rfl (fun ls2 hl2 => k H locs ls2 (lh_sub hl2 lh_1) hP hS)
theorem w_if_eq {x : Int32} {off : Int} {tgt : Nat} (X : cx_ C G own cc nL ry d) (hd : decode cc pc = .ok (.ifCond .eq off, 3)) (ht : (pc : Int) + off = (tgt : Int)) (kt : x = 0 → wq_ C G Q tgt lv st M) (kf : ¬ x = 0 → wq_ C G Q (pc + 3) lv st M) : wq_ C G Q pc lv (.int x :: st) M := by
  obtain ⟨p, l, e, R, s, m, args, below, meth, c, cs, sl⟩ := C
  obtain ⟨hx, hb, hml, hrt, hown, hts, hK, hG, hbs, hlk, hfr, hlo, hcs, hsl⟩ := X
  intro H locs ls hl hP hS
  exact lv_if_eq hx hb hd ht (fun h => kt h H locs ls hl hP hS) (fun h => kf h H locs ls hl hP hS)
theorem w_if_ne {x : Int32} {off : Int} {tgt : Nat} (X : cx_ C G own cc nL ry d) (hd : decode cc pc = .ok (.ifCond .ne off, 3)) (ht : (pc : Int) + off = (tgt : Int)) (kt : ¬ x = 0 → wq_ C G Q tgt lv st M) (kf : x = 0 → wq_ C G Q (pc + 3) lv st M) : wq_ C G Q pc lv (.int x :: st) M := by
  obtain ⟨p, l, e, R, s, m, args, below, meth, c, cs, sl⟩ := C
  obtain ⟨hx, hb, hml, hrt, hown, hts, hK, hG, hbs, hlk, hfr, hlo, hcs, hsl⟩ := X
  intro H locs ls hl hP hS
  exact lv_if_ne hx hb hd ht (fun h => kt h H locs ls hl hP hS) (fun h => kf h H locs ls hl hP hS)
theorem w_if_lt {x : Int32} {off : Int} {tgt : Nat} (X : cx_ C G own cc nL ry d) (hd : decode cc pc = .ok (.ifCond .lt off, 3)) (ht : (pc : Int) + off = (tgt : Int)) (kt : x < 0 → wq_ C G Q tgt lv st M) (kf : ¬ x < 0 → wq_ C G Q (pc + 3) lv st M) : wq_ C G Q pc lv (.int x :: st) M := by
  obtain ⟨p, l, e, R, s, m, args, below, meth, c, cs, sl⟩ := C
  obtain ⟨hx, hb, hml, hrt, hown, hts, hK, hG, hbs, hlk, hfr, hlo, hcs, hsl⟩ := X
  intro H locs ls hl hP hS
  exact lv_if_lt hx hb hd ht (fun h => kt h H locs ls hl hP hS) (fun h => kf h H locs ls hl hP hS)
theorem w_if_ge {x : Int32} {off : Int} {tgt : Nat} (X : cx_ C G own cc nL ry d) (hd : decode cc pc = .ok (.ifCond .ge off, 3)) (ht : (pc : Int) + off = (tgt : Int)) (kt : 0 ≤ x → wq_ C G Q tgt lv st M) (kf : ¬ 0 ≤ x → wq_ C G Q (pc + 3) lv st M) : wq_ C G Q pc lv (.int x :: st) M := by
  obtain ⟨p, l, e, R, s, m, args, below, meth, c, cs, sl⟩ := C
  obtain ⟨hx, hb, hml, hrt, hown, hts, hK, hG, hbs, hlk, hfr, hlo, hcs, hsl⟩ := X
  intro H locs ls hl hP hS
  exact lv_if_ge hx hb hd ht (fun h => kt h H locs ls hl hP hS) (fun h => kf h H locs ls hl hP hS)
theorem w_if_gt {x : Int32} {off : Int} {tgt : Nat} (X : cx_ C G own cc nL ry d) (hd : decode cc pc = .ok (.ifCond .gt off, 3)) (ht : (pc : Int) + off = (tgt : Int)) (kt : 0 < x → wq_ C G Q tgt lv st M) (kf : ¬ 0 < x → wq_ C G Q (pc + 3) lv st M) : wq_ C G Q pc lv (.int x :: st) M := by
  obtain ⟨p, l, e, R, s, m, args, below, meth, c, cs, sl⟩ := C
  obtain ⟨hx, hb, hml, hrt, hown, hts, hK, hG, hbs, hlk, hfr, hlo, hcs, hsl⟩ := X
  intro H locs ls hl hP hS
  exact lv_if_gt hx hb hd ht (fun h => kt h H locs ls hl hP hS) (fun h => kf h H locs ls hl hP hS)
theorem w_if_le {x : Int32} {off : Int} {tgt : Nat} (X : cx_ C G own cc nL ry d) (hd : decode cc pc = .ok (.ifCond .le off, 3)) (ht : (pc : Int) + off = (tgt : Int)) (kt : x ≤ 0 → wq_ C G Q tgt lv st M) (kf : ¬ x ≤ 0 → wq_ C G Q (pc + 3) lv st M) : wq_ C G Q pc lv (.int x :: st) M := by
  obtain ⟨p, l, e, R, s, m, args, below, meth, c, cs, sl⟩ := C
  obtain ⟨hx, hb, hml, hrt, hown, hts, hK, hG, hbs, hlk, hfr, hlo, hcs, hsl⟩ := X
  intro H locs ls hl hP hS
  exact lv_if_le hx hb hd ht (fun h => kt h H locs ls hl hP hS) (fun h => kf h H locs ls hl hP hS)
theorem w_icmp_eq {x y : Int32} {off : Int} {tgt : Nat} (X : cx_ C G own cc nL ry d) (hd : decode cc pc = .ok (.if_icmp .eq off, 3)) (ht : (pc : Int) + off = (tgt : Int)) (kt : x = y → wq_ C G Q tgt lv st M) (kf : ¬ x = y → wq_ C G Q (pc + 3) lv st M) : wq_ C G Q pc lv (.int y :: .int x :: st) M := by
  obtain ⟨p, l, e, R, s, m, args, below, meth, c, cs, sl⟩ := C
  obtain ⟨hx, hb, hml, hrt, hown, hts, hK, hG, hbs, hlk, hfr, hlo, hcs, hsl⟩ := X
  intro H locs ls hl hP hS
  exact lv_icmp_eq hx hb hd ht (fun h => kt h H locs ls hl hP hS) (fun h => kf h H locs ls hl hP hS)
theorem w_icmp_ne {x y : Int32} {off : Int} {tgt : Nat} (X : cx_ C G own cc nL ry d) (hd : decode cc pc = .ok (.if_icmp .ne off, 3)) (ht : (pc : Int) + off = (tgt : Int)) (kt : ¬ x = y → wq_ C G Q tgt lv st M) (kf : x = y → wq_ C G Q (pc + 3) lv st M) : wq_ C G Q pc lv (.int y :: .int x :: st) M := by
  obtain ⟨p, l, e, R, s, m, args, below, meth, c, cs, sl⟩ := C
  obtain ⟨hx, hb, hml, hrt, hown, hts, hK, hG, hbs, hlk, hfr, hlo, hcs, hsl⟩ := X
  intro H locs ls hl hP hS
  exact lv_icmp_ne hx hb hd ht (fun h => kt h H locs ls hl hP hS) (fun h => kf h H locs ls hl hP hS)
theorem w_icmp_lt {x y : Int32} {off : Int} {tgt : Nat} (X : cx_ C G own cc nL ry d) (hd : decode cc pc = .ok (.if_icmp .lt off, 3)) (ht : (pc : Int) + off = (tgt : Int)) (kt : x < y → wq_ C G Q tgt lv st M) (kf : ¬ x < y → wq_ C G Q (pc + 3) lv st M) : wq_ C G Q pc lv (.int y :: .int x :: st) M := by
  obtain ⟨p, l, e, R, s, m, args, below, meth, c, cs, sl⟩ := C
  obtain ⟨hx, hb, hml, hrt, hown, hts, hK, hG, hbs, hlk, hfr, hlo, hcs, hsl⟩ := X
  intro H locs ls hl hP hS
  exact lv_icmp_lt hx hb hd ht (fun h => kt h H locs ls hl hP hS) (fun h => kf h H locs ls hl hP hS)
theorem w_icmp_ge {x y : Int32} {off : Int} {tgt : Nat} (X : cx_ C G own cc nL ry d) (hd : decode cc pc = .ok (.if_icmp .ge off, 3)) (ht : (pc : Int) + off = (tgt : Int)) (kt : y ≤ x → wq_ C G Q tgt lv st M) (kf : ¬ y ≤ x → wq_ C G Q (pc + 3) lv st M) : wq_ C G Q pc lv (.int y :: .int x :: st) M := by
  obtain ⟨p, l, e, R, s, m, args, below, meth, c, cs, sl⟩ := C
  obtain ⟨hx, hb, hml, hrt, hown, hts, hK, hG, hbs, hlk, hfr, hlo, hcs, hsl⟩ := X
  intro H locs ls hl hP hS
  exact lv_icmp_ge hx hb hd ht (fun h => kt h H locs ls hl hP hS) (fun h => kf h H locs ls hl hP hS)
theorem w_icmp_gt {x y : Int32} {off : Int} {tgt : Nat} (X : cx_ C G own cc nL ry d) (hd : decode cc pc = .ok (.if_icmp .gt off, 3)) (ht : (pc : Int) + off = (tgt : Int)) (kt : y < x → wq_ C G Q tgt lv st M) (kf : ¬ y < x → wq_ C G Q (pc + 3) lv st M) : wq_ C G Q pc lv (.int y :: .int x :: st) M := by
  obtain ⟨p, l, e, R, s, m, args, below, meth, c, cs, sl⟩ := C
  obtain ⟨hx, hb, hml, hrt, hown, hts, hK, hG, hbs, hlk, hfr, hlo, hcs, hsl⟩ := X
  intro H locs ls hl hP hS
  exact lv_icmp_gt hx hb hd ht (fun h => kt h H locs ls hl hP hS) (fun h => kf h H locs ls hl hP hS)
theorem w_icmp_le {x y : Int32} {off : Int} {tgt : Nat} (X : cx_ C G own cc nL ry d) (hd : decode cc pc = .ok (.if_icmp .le off, 3)) (ht : (pc : Int) + off = (tgt : Int)) (kt : x ≤ y → wq_ C G Q tgt lv st M) (kf : ¬ x ≤ y → wq_ C G Q (pc + 3) lv st M) : wq_ C G Q pc lv (.int y :: .int x :: st) M := by
  obtain ⟨p, l, e, R, s, m, args, below, meth, c, cs, sl⟩ := C
  obtain ⟨hx, hb, hml, hrt, hown, hts, hK, hG, hbs, hlk, hfr, hlo, hcs, hsl⟩ := X
  intro H locs ls hl hP hS
  exact lv_icmp_le hx hb hd ht (fun h => kt h H locs ls hl hP hS) (fun h => kf h H locs ls hl hP hS)
theorem w_goto {off : Int} {tgt : Nat} (X : cx_ C G own cc nL ry d) (hd : decode cc pc = .ok (.goto off, 3)) (ht : (pc : Int) + off = (tgt : Int)) (k : wq_ C G Q tgt lv st M) : wq_ C G Q pc lv st M := by
  obtain ⟨p, l, e, R, s, m, args, below, meth, c, cs, sl⟩ := C
  obtain ⟨hx, hb, hml, hrt, hown, hts, hK, hG, hbs, hlk, hfr, hlo, hcs, hsl⟩ := X
  intro H locs ls hl hP hS
  exact lv_goto hx hb hd ht (k H locs ls hl hP hS)
theorem w_iaload {a n t : Nat} {i : Int32} (X : cx_ C G own cc nL ry d) (hd : decode cc pc = .ok (.iaload, 1)) (ha : ds_[a]? = some (.inl (t, n, 0))) (ht : (tt_ G)[t]? = some (G.2.1 t, .int)) (hin : vp_in i n) (k : wq_ C G Q (pc + 1) lv (.int (M.1 a i.toNatClampNeg) :: st) M) : wq_ C G Q pc lv (.int i :: .ref (G.1 a) :: st) M := by
  obtain ⟨p, l, e, R, s, m, args, below, meth, c, cs, sl⟩ := C
  obtain ⟨hx, hb, hml, hrt, hown, hts, hK, hG, hbs, hlk, hfr, hlo, hcs, hsl⟩ := X
  intro H locs ls hl hP hS
  exact va_iald hx hb hK hP a t (wl_at ha) ht hin hd (k H locs ls hl hP hS)
theorem w_baload {a n t : Nat} {i : Int32} (X : cx_ C G own cc nL ry d) (hd : decode cc pc = .ok (.baload, 1)) (ha : ds_[a]? = some (.inl (t, n, 0))) (ht : (tt_ G)[t]? = some (G.2.1 t, .boolean)) (hin : vp_in i n) (k : wq_ C G Q (pc + 1) lv (.int (M.1 a i.toNatClampNeg) :: st) M) : wq_ C G Q pc lv (.int i :: .ref (G.1 a) :: st) M := by
  obtain ⟨p, l, e, R, s, m, args, below, meth, c, cs, sl⟩ := C
  obtain ⟨hx, hb, hml, hrt, hown, hts, hK, hG, hbs, hlk, hfr, hlo, hcs, hsl⟩ := X
  intro H locs ls hl hP hS
  exact va_zald hx hb hK hP a t (wl_at ha) ht hin hd (k H locs ls hl hP hS)
theorem w_laload {a n t : Nat} {i : Int32} (X : cx_ C G own cc nL ry d) (hd : decode cc pc = .ok (.laload, 1)) (ha : ds_[a]? = some (.inl (t, n, 1))) (ht : (tt_ G)[t]? = some (G.2.1 t, .long)) (hin : vp_in i n) (k : wq_ C G Q (pc + 1) lv (.long (M.2.1 a i.toNatClampNeg) :: st) M) : wq_ C G Q pc lv (.int i :: .ref (G.1 a) :: st) M := by
  obtain ⟨p, l, e, R, s, m, args, below, meth, c, cs, sl⟩ := C
  obtain ⟨hx, hb, hml, hrt, hown, hts, hK, hG, hbs, hlk, hfr, hlo, hcs, hsl⟩ := X
  intro H locs ls hl hP hS
  exact va_lald hx hb hK hP a t (wl_at ha) ht hin hd (k H locs ls hl hP hS)
theorem w_iastore {a n t : Nat} {i : Int32} {x : Int32} (X : cx_ C G own cc nL ry d) (hd : decode cc pc = .ok (.iastore, 1)) (ha : ds_[a]? = some (.inl (t, n, 0))) (ht : (tt_ G)[t]? = some (G.2.1 t, .int)) (hin : vp_in i n) (k : wq_ C G Q (pc + 1) lv st (sI_ M a i.toNatClampNeg (x))) : wq_ C G Q pc lv (.int x :: .int i :: .ref (G.1 a) :: st) M := by
  obtain ⟨p, l, e, R, s, m, args, below, meth, c, cs, sl⟩ := C
  obtain ⟨hx, hb, hml, hrt, hown, hts, hK, hG, hbs, hlk, hfr, hlo, hcs, hsl⟩ := X
  intro H locs ls hl hP hS
  refine va_iast hx hb hK hP (wl_D hG) hS a t (wl_at ha) ht hin hd (fun H1 locs1 hP1 hD1 hS1 => k H1 locs1 ls hl ?_ hS1)
  rw [← wl_set (M := M) ha (fun j d9 hj => ce_sI j d9 hj)]
  have he : ce_ G (sI_ M a i.toNatClampNeg (x)) a (.inl (t, n, 0)) = .inl (G.2.1 t, n, .inl (upd (M.1 a) i.toNatClampNeg (x))) := by
    simp only [ce_, sI_, upd]
    congr; funext j; simp; rfl
  rw [he]
  exact hP1
theorem w_bastore {a n t : Nat} {i : Int32} {x : Int32} (X : cx_ C G own cc nL ry d) (hd : decode cc pc = .ok (.bastore, 1)) (ha : ds_[a]? = some (.inl (t, n, 0))) (ht : (tt_ G)[t]? = some (G.2.1 t, .boolean)) (hin : vp_in i n) (k : wq_ C G Q (pc + 1) lv st (sI_ M a i.toNatClampNeg (vp_nar .boolean x))) : wq_ C G Q pc lv (.int x :: .int i :: .ref (G.1 a) :: st) M := by
  obtain ⟨p, l, e, R, s, m, args, below, meth, c, cs, sl⟩ := C
  obtain ⟨hx, hb, hml, hrt, hown, hts, hK, hG, hbs, hlk, hfr, hlo, hcs, hsl⟩ := X
  intro H locs ls hl hP hS
  refine va_zast hx hb hK hP (wl_D hG) hS a t (wl_at ha) ht hin hd (fun H1 locs1 hP1 hD1 hS1 => k H1 locs1 ls hl ?_ hS1)
  rw [← wl_set (M := M) ha (fun j d9 hj => ce_sI j d9 hj)]
  have he : ce_ G (sI_ M a i.toNatClampNeg (vp_nar .boolean x)) a (.inl (t, n, 0)) = .inl (G.2.1 t, n, .inl (upd (M.1 a) i.toNatClampNeg (vp_nar .boolean x))) := by
    simp only [ce_, sI_, upd]
    congr; funext j; simp; rfl
  rw [he]
  exact hP1
theorem w_lastore {a n t : Nat} {i : Int32} {x : Int64} (X : cx_ C G own cc nL ry d) (hd : decode cc pc = .ok (.lastore, 1)) (ha : ds_[a]? = some (.inl (t, n, 1))) (ht : (tt_ G)[t]? = some (G.2.1 t, .long)) (hin : vp_in i n) (k : wq_ C G Q (pc + 1) lv st (sL_ M a i.toNatClampNeg (x))) : wq_ C G Q pc lv (.long x :: .int i :: .ref (G.1 a) :: st) M := by
  obtain ⟨p, l, e, R, s, m, args, below, meth, c, cs, sl⟩ := C
  obtain ⟨hx, hb, hml, hrt, hown, hts, hK, hG, hbs, hlk, hfr, hlo, hcs, hsl⟩ := X
  intro H locs ls hl hP hS
  refine va_last hx hb hK hP (wl_D hG) hS a t (wl_at ha) ht hin hd (fun H1 locs1 hP1 hD1 hS1 => k H1 locs1 ls hl ?_ hS1)
  rw [← wl_set (M := M) ha (fun j d9 hj => ce_sL j d9 hj)]
  have he : ce_ G (sL_ M a i.toNatClampNeg (x)) a (.inl (t, n, 1)) = .inl (G.2.1 t, n, .inr (.inl (vp_updL (M.2.1 a) i.toNatClampNeg (x)))) := by
    simp only [ce_, sL_, vp_updL]
    congr; funext j; simp; rfl
  rw [he]
  exact hP1
theorem w_get {ci N index j f a : Nat} {fs : List Nat} {K : String} {T : u_T} (X : cx_ C G own cc nL ry d) (hd : decode cc pc = .ok (.getfield index, 3)) (hin : ∀ w ∈ u_ws K T N, w ∈ gw_) (hc : vwCl[ci]? = some (K, T, N)) (hj : j < N) (hlink : Cond.fieldLink own index (T j).1 (T j).2.1 (T j).2.2.1 ∈ gw_) (hf : fs[j]? = some f) (ha : ds_[a]? = some (.inr (ci, fs)))
    (k : wq_ C G Q (pc + 3) lv (fv_ G M a j f :: st) M) : wq_ C G Q pc lv (.ref (G.1 a) :: st) M := by
  obtain ⟨p, l, e, R, s, m, args, below, meth, c, cs, sl⟩ := C
  obtain ⟨hx, hb, hml, hrt, hown, hts, hK, hG, hbs, hlk, hfr, hlo, hcs, hsl⟩ := X
  intro H locs ls hl hP hS
  exact va_get hx hb hts hin hown hK hP a (wl_at ha) hc j hj (hts _ hlink) (fun _ h9 => h9) (fl_at hf) hd (k H locs ls hl hP hS)
theorem w_putI {ci N index j a : Nat} {fs : List Nat} {K : String} {T : u_T} {ty0 : Nat → FieldType} {ty : FieldType} {x : Int32} (X : cx_ C G own cc nL ry d) (hd : decode cc pc = .ok (.putfield index, 3)) (hin : ∀ w ∈ u_ws K T N, w ∈ gw_) (hty : ∀ k, k < N → parseFieldDescriptor (T k).2.2.1 = some (ty0 k)) (hnm : ∀ a, a < N → ∀ b, b < N → a ≠ b → (T a).2.1 ≠ (T b).2.1) (hc : vwCl[ci]? = some (K, T, N)) (hj : j < N) (hlink : Cond.fieldLink own index (T j).1 (T j).2.1 (T j).2.2.1 ∈ gw_) (hfin : (T j).2.2.2 = false) (hdt : parseFieldDescriptor (T j).2.2.1 = some ty) (hf : fs[j]? = some 0) (ha : ds_[a]? = some (.inr (ci, fs)))
    (hnar : narrow ty (.int x) = .int x) (hfit : fits ty (.int x) = true) (k : wq_ C G Q (pc + 3) lv st (sI_ M a j x)) : wq_ C G Q pc lv (.int x :: .ref (G.1 a) :: st) M := by
  obtain ⟨p, l, e, R, s, m, args, below, meth, c, cs, sl⟩ := C
  obtain ⟨hx, hb, hml, hrt, hown, hts, hK, hG, hbs, hlk, hfr, hlo, hcs, hsl⟩ := X
  intro H locs ls hl hP hS
  have hlen : j < (fl_ G M a 0 fs).length := (List.getElem?_eq_some_iff.mp (fl_at (G := G) (M := M) (k := a) hf)).1
  refine va_put hx hb hts hin ty0 hty hnm hown hK hP (wl_D hG) hS a (wl_at ha) hc j hj (hts _ hlink) (fun _ h9 => h9) hfin hdt hnar hfit hlen hd (fun H1 locs1 hP1 hD1 hS1 => k H1 locs1 ls hl ?_ hS1)
  rw [← wl_set (M := M) ha (fun j9 d9 hj9 => ce_sI j9 d9 hj9)]
  have he : ce_ G (sI_ M a j x) a (.inr (ci, fs)) = .inr (ci, (fl_ G M a 0 fs).set j (.int x)) := by
    simp only [ce_]
    rw [← fl_set (M := M) hf (fun i g hi => fv_sI i g hi)]
    simp [fv_, sI_]
  rw [he]
  exact hP1
theorem w_putL {ci N index j a : Nat} {fs : List Nat} {K : String} {T : u_T} {ty0 : Nat → FieldType} {ty : FieldType} {x : Int64} (X : cx_ C G own cc nL ry d) (hd : decode cc pc = .ok (.putfield index, 3)) (hin : ∀ w ∈ u_ws K T N, w ∈ gw_) (hty : ∀ k, k < N → parseFieldDescriptor (T k).2.2.1 = some (ty0 k)) (hnm : ∀ a, a < N → ∀ b, b < N → a ≠ b → (T a).2.1 ≠ (T b).2.1) (hc : vwCl[ci]? = some (K, T, N)) (hj : j < N) (hlink : Cond.fieldLink own index (T j).1 (T j).2.1 (T j).2.2.1 ∈ gw_) (hfin : (T j).2.2.2 = false) (hdt : parseFieldDescriptor (T j).2.2.1 = some ty) (hf : fs[j]? = some 1) (ha : ds_[a]? = some (.inr (ci, fs)))
    (hnar : narrow ty (.long x) = .long x) (hfit : fits ty (.long x) = true) (k : wq_ C G Q (pc + 3) lv st (sL_ M a j x)) : wq_ C G Q pc lv (.long x :: .ref (G.1 a) :: st) M := by
  obtain ⟨p, l, e, R, s, m, args, below, meth, c, cs, sl⟩ := C
  obtain ⟨hx, hb, hml, hrt, hown, hts, hK, hG, hbs, hlk, hfr, hlo, hcs, hsl⟩ := X
  intro H locs ls hl hP hS
  have hlen : j < (fl_ G M a 0 fs).length := (List.getElem?_eq_some_iff.mp (fl_at (G := G) (M := M) (k := a) hf)).1
  refine va_put hx hb hts hin ty0 hty hnm hown hK hP (wl_D hG) hS a (wl_at ha) hc j hj (hts _ hlink) (fun _ h9 => h9) hfin hdt hnar hfit hlen hd (fun H1 locs1 hP1 hD1 hS1 => k H1 locs1 ls hl ?_ hS1)
  rw [← wl_set (M := M) ha (fun j9 d9 hj9 => ce_sL j9 d9 hj9)]
  have he : ce_ G (sL_ M a j x) a (.inr (ci, fs)) = .inr (ci, (fl_ G M a 0 fs).set j (.long x)) := by
    simp only [ce_]
    rw [← fl_set (M := M) hf (fun i g hi => fv_sL i g hi)]
    simp [fv_, sL_]
  rw [he]
  exact hP1
end ROWS
end
section
/-! contracts over the memory: a method that makes no cell, from memory M, returns v with memory N, and 'post v N' -/
def rm_ (d : Nat) : Room := { frames := d, cells := 0, slots := 0, locals := 64 * d }
def qg_ (G : gg_) (post : Option Value → mm_ → Prop) : Array Value → State → Outcome → State → Prop := fun _ st oc t => (∃ (v : Option Value) (N : mm_), oc = .returned v ∧ post v N ∧ va_P G.2.2.1 vwCl (wl_ G N) t.heap) ∧ va_F (aw_ G) st t
def pc_ (G : gg_) (As : List Value) (M : mm_) : Array Value → State → Prop := va_Pc As (fun U => G.2.2.2 ≤ U.heap.size ∧ va_P G.2.2.1 vwCl (wl_ G M) U.heap ∧ va_K G.2.2.1 vwCl (tt_ G) U)
def cm_ (G : gg_) (y : MethodName) (cy : ByteArray) (ny : Nat) (ry : Option FieldType) (d : Nat) (As : List Value) (M : mm_) (post : Option Value → mm_ → Prop) : Prop := ∀ l : Launch, Met l y (.code y cy ny ry :: gw_) (rm_ d) (pc_ G As M) (qg_ G post) 0 0 (aw_ G)
def qe_ : mc_ → gg_ → (Option Value → mm_ → Prop) → State → Prop
  | (_, _, _, _, s, _, args, below, _, _, cs, sl), G, post => MQ below (qg_ G post) args s cs sl (aw_ G)
theorem pc_blind {G : gg_} {As : List Value} {M : mm_} : FrameBlind (pc_ G As M) := fun a U g mk q => by
  obtain ⟨q0, q1, qP, qK⟩ := q
  exact ⟨q0, q1, qP, va_K.moved (u := U) (U := U.calling g mk a) (Vm.Alike.refl U.vm) qK⟩
theorem cm_of {G : gg_} {y : MethodName} {cy : ByteArray} {ny d : Nat} {ry : Option FieldType} {As : List Value} {M : mm_} {post : Option Value → mm_ → Prop} (hG : gd_ G) (hy : plainName y.cls = true) (hn : (lg_sl As).length ≤ ny)
    (h : ∀ C : mc_, cx_ C G y.cls cy ny ry d → wq_ C G (qe_ C G post) 0 (en_ ny As) [] M) : cm_ G y cy ny ry d As M post := by
  intro l
  refine Met.ofW (cc := cy) (maxL := ny) (ret := ry) hy rfl ?_
  intro p e s m args below meth c s₁ B hml hv
  obtain ⟨rfl, hbs, hP, hK⟩ := hv
  have hts0 := atoms_spec (ws := .code y cy ny ry :: gw_) B.pre
  have hown : s.vm.findClass y.cls = some m.cls := findClass_of_methodNamed B.named
  have hl := lv_entry As (n := ny) hn
  rw [lg_entry_eq]
  generalize (lg_sl As ++ List.replicate (ny - (lg_sl As).length) Slot.unset).toArray = ls at hl ⊢
  refine h (p, l, e, rm_ d, s, m, As.toArray, below, meth, c, 0, 0) ⟨B.exec, B.bytes, hml, B.returns, hown, fun w hw => hts0 w (List.mem_cons_of_mem _ hw), hK, hG, hbs, B.notSynchronized, Nat.le_refl _, Nat.le_refl _, Nat.le_refl _, Nat.le_refl _⟩ s.heap [] ls ?_ hP va_S.rf
  refine lh_sub (l := lv_args 0 As) ?_ (en_mem As ny 0)
  rw [hml]
  exact hl
theorem cm_post {G : gg_} {y : MethodName} {cy : ByteArray} {ny d : Nat} {ry : Option FieldType} {As : List Value} {M : mm_} {post post2 : Option Value → mm_ → Prop} (h : cm_ G y cy ny ry d As M post) (hp : ∀ v N, post v N → post2 v N) : cm_ G y cy ny ry d As M post2 := by
  intro l p e ha hc hk s m args below hf happ hP hK
  obtain ⟨k, o, h1, h2, h3, ⟨⟨v, N, e1, e2, e3⟩, e4⟩, h5⟩ := h l p e ha hc hk s m args below hf happ hP hK
  exact ⟨k, o, h1, h2, h3, ⟨⟨v, N, e1, hp v N e2, e3⟩, e4⟩, h5⟩
section CALLS
variable {C : mc_} {G : gg_} {Q : State → Prop} {pc : Nat} {lv : List (Option Value)} {st : List Value} {M : mm_} {own : String} {cc : ByteArray} {nL : Nat} {ry : Option FieldType} {d : Nat} {post : Option Value → mm_ → Prop}
theorem w_ireturn {x : Int32} (X : cx_ C G own cc nL (some .int) d) (hd : decode cc pc = .ok (.ireturn, 1))  (hp : post (some (.int x)) M) : wq_ C G (qe_ C G post) pc lv [.int x] M := by
  obtain ⟨p, l, e, R, s, m, args, below, meth, c, cs, sl⟩ := C
  obtain ⟨hx, hb, hml, hrt, hown, hts, hK, hG, hbs, hlk, hfr, hlo, hcs, hsl⟩ := X
  intro H locs ls hl hP hS
  exact W.iret hx hb hrt  (fun t ht hW => ⟨⟨_, M, rfl, hp, by rw [ht]; exact hP⟩, hS.F ht⟩) hS.2.2 hd hlk
theorem w_zreturn {x : Int32} (X : cx_ C G own cc nL (some .boolean) d) (hd : decode cc pc = .ok (.ireturn, 1)) (hn : narrow .boolean (.int x) = .int x) (hp : post (some (.int x)) M) : wq_ C G (qe_ C G post) pc lv [.int x] M := by
  obtain ⟨p, l, e, R, s, m, args, below, meth, c, cs, sl⟩ := C
  obtain ⟨hx, hb, hml, hrt, hown, hts, hK, hG, hbs, hlk, hfr, hlo, hcs, hsl⟩ := X
  intro H locs ls hl hP hS
  exact W.zret hx hb hrt hn (fun t ht hW => ⟨⟨_, M, rfl, hp, by rw [ht]; exact hP⟩, hS.F ht⟩) hS.2.2 hd hlk
theorem w_lreturn {x : Int64} (X : cx_ C G own cc nL (some .long) d) (hd : decode cc pc = .ok (.lreturn, 1))  (hp : post (some (.long x)) M) : wq_ C G (qe_ C G post) pc lv [.long x] M := by
  obtain ⟨p, l, e, R, s, m, args, below, meth, c, cs, sl⟩ := C
  obtain ⟨hx, hb, hml, hrt, hown, hts, hK, hG, hbs, hlk, hfr, hlo, hcs, hsl⟩ := X
  intro H locs ls hl hP hS
  exact W.lret hx hb hrt  (fun t ht hW => ⟨⟨_, M, rfl, hp, by rw [ht]; exact hP⟩, hS.F ht⟩) hS.2.2 hd hlk
theorem w_vreturn  (X : cx_ C G own cc nL none d) (hd : decode cc pc = .ok (.return_, 1))  (hp : post (none) M) : wq_ C G (qe_ C G post) pc lv [] M := by
  obtain ⟨p, l, e, R, s, m, args, below, meth, c, cs, sl⟩ := C
  obtain ⟨hx, hb, hml, hrt, hown, hts, hK, hG, hbs, hlk, hfr, hlo, hcs, hsl⟩ := X
  intro H locs ls hl hP hS
  exact W.vret hx hb hrt  (fun t ht hW => ⟨⟨_, M, rfl, hp, by rw [ht]; exact hP⟩, hS.F ht⟩) hS.2.2 hd hlk
/-- what the tables say of a call of a method on an object, of a static one -/
def lk_ (own : String) (idx : Nat) (y : MethodName) (cy : ByteArray) (ny : Nat) (ry : Option FieldType) (n : Nat) : Prop := Cond.methodLink own idx y ∈ gw_ ∧ Cond.instanceMethod y ∈ gw_ ∧ Cond.selects y.cls y y ∈ gw_ ∧ Cond.initialized y.cls ∈ gw_ ∧ Cond.code y cy ny ry ∈ gw_ ∧ (y.cls ≠ "java/lang/invoke/MethodHandle" ∧ y.cls ≠ "java/lang/invoke/VarHandle" ∧ (parseMethodDescriptor y.desc).map (fun d => d.parameters.length) = some n) ∧ ny ≤ 45
def ls_ (own : String) (idx : Nat) (y : MethodName) (cy : ByteArray) (ny : Nat) (ry : Option FieldType) (n : Nat) : Prop := Cond.methodLink own idx y ∈ gw_ ∧ Cond.static y ∈ gw_ ∧ Cond.initialized y.cls ∈ gw_ ∧ Cond.code y cy ny ry ∈ gw_ ∧ (y.cls ≠ "java/lang/invoke/MethodHandle" ∧ y.cls ≠ "java/lang/invoke/VarHandle" ∧ (parseMethodDescriptor y.desc).map (fun d => d.parameters.length) = some n) ∧ ny ≤ 45
theorem w_run {p : Program} {l : Launch} {e : Env} {R : Room} {s : State} {m : MethodId} {args : Array Value} {below : List Frame} {meth : Method} {c : Code} {H : Heap} {locs : List Loc} {cs sl : Nat} {ls : Array Slot} {st0 rest : List Value} {a : Array Value} (hr : va_Run p l e R s m args below meth c H locs cs sl 0 0 (F0 m pc ls st0) rest (qg_ G post a) (aw_ G)) (hS : va_S (aw_ G) s.heap H locs)
    (kk : ∀ (v : Option Value) (N : mm_) (H1 : Heap) (locs1 : List Loc), post v N → va_P G.2.2.1 vwCl (wl_ G N) H1 → va_S (aw_ G) s.heap H1 locs1 → W p l e R s m args below meth c H1 locs1 cs sl Q (F0 m (pc + 3) ls (v.toList ++ rest))) : W p l e R s m args below meth c H locs cs sl Q (F0 m pc ls st0) := by
  intro T hT X
  obtain ⟨v, st₀, t, T', L, h0, X', hL, e1, e2, ⟨⟨v', N, hv, hp, hb⟩, hz, hk⟩, st⟩ := hr T hT X
  cases hv
  rw [h0] at hz hk
  obtain ⟨t2, a1, b1⟩ := kk v N T'.heap (locs ++ L) hp (by rw [e1]; exact hb)
    ⟨Nat.le_trans hS.1 (by rw [e1]; exact hz), fun q h1 h2 => by rw [e1, hk q (Nat.lt_of_lt_of_le h1 hS.1) h2]; exact hS.2.1 q h1 h2, fun q hq => by
      rcases List.mem_append.mp hq with h | h
      · exact hS.2.2 q h
      · exact hL q h⟩ T' rfl X'
  exact ⟨t2, st t2 a1, b1⟩
theorem w_callV (As : List Value) {y : MethodName} {cy : ByteArray} {ny idx a ci N : Nat} {fs : List Nat} {T : u_T} {ry2 : Option FieldType} (X : cx_ C G own cc nL ry (d + 1)) (hd : decode cc pc = .ok (.invokevirtual idx, 3)) (hk : lk_ own idx y cy ny ry2 As.length) (hc : vwCl[ci]? = some (y.cls, T, N)) (ha : ds_[a]? = some (.inr (ci, fs))) (hM : cm_ G y cy ny ry2 d (.ref (G.1 a) :: As) M post) (hr : (st.map fun v => v.category).sum ≤ 8)
    (k : ∀ (v : Option Value) (N : mm_), post v N → wq_ C G Q (pc + 3) lv (v.toList ++ st) N) : wq_ C G Q pc lv (As.reverse ++ .ref (G.1 a) :: st) M := by
  obtain ⟨p, l, e, R, s, m, args, below, meth, c, cs, sl⟩ := C
  obtain ⟨hx, hb, hml, hrt, hown, hts, hK, hG, hbs, hlk, hfr, hlo, hcs, hsl⟩ := X
  obtain ⟨k1, k2, k3, k4, k5, k6, k7⟩ := hk
  intro H locs ls hl hP hS
  have hgood : GoodIn gw_ (wsV own idx y.cls y (.code y cy ny ry2 :: gw_)) := fun w hw => by
    simp only [wsV, List.cons_append, List.nil_append, List.mem_cons] at hw
    rcases hw with rfl | rfl | rfl | rfl | rfl | h
    · exact gw_gg _ k1
    · exact gw_gg _ k2
    · exact gw_gg _ k3
    · exact gw_gg _ k4
    · exact gw_gg _ k5
    · exact gw_gg _ h
  refine w_run (va_runV (As := As) (rest := st) ⟨hx, hb, hml, hown, hts⟩ (hM l) (cwV As.length hts hgood rfl rfl rfl ⟨rfl, k6⟩ ⟨hfr, by show 8 + (ny + 11) + 64 * d ≤ R.locals; omega⟩) ⟨pc_blind, va_recv hK hP hc (wl_at ha), fun U hU hW => ⟨rfl, by rw [hU]; exact Nat.le_trans hbs hS.1, by rw [hU]; exact hP, va_K.moved hW.alike hK⟩⟩ rfl rfl (hl.1.trans hml) rfl (lv_room hr) hd ⟨hcs, hsl⟩) hS (fun v N H1 locs1 hp hP1 hS1 => k v N hp H1 locs1 ls hl hP1 hS1)
theorem w_callS (As : List Value) {y : MethodName} {cy : ByteArray} {ny idx : Nat} {ry2 : Option FieldType} (X : cx_ C G own cc nL ry (d + 1)) (hd : decode cc pc = .ok (.invokestatic idx, 3)) (hk : ls_ own idx y cy ny ry2 As.length) (hM : cm_ G y cy ny ry2 d As M post) (hr : (st.map fun v => v.category).sum ≤ 8)
    (k : ∀ (v : Option Value) (N : mm_), post v N → wq_ C G Q (pc + 3) lv (v.toList ++ st) N) : wq_ C G Q pc lv (As.reverse ++ st) M := by
  obtain ⟨p, l, e, R, s, m, args, below, meth, c, cs, sl⟩ := C
  obtain ⟨hx, hb, hml, hrt, hown, hts, hK, hG, hbs, hlk, hfr, hlo, hcs, hsl⟩ := X
  obtain ⟨k1, k2, k4, k5, k6, k7⟩ := hk
  intro H locs ls hl hP hS
  have hc5 : Cond.code y cy ny ry2 ∈ (.code y cy ny ry2 :: gw_ : List Cond) := List.mem_cons_self
  have hgood : GoodIn gw_ (.code y cy ny ry2 :: gw_) := fun w hw => by
    rcases List.mem_cons.mp hw with rfl | h
    · exact gw_gg _ k5
    · exact gw_gg _ h
  refine w_run (va_runS (As := As) (rest := st) ⟨hx, hb, hml, hown, hts⟩ (hM l) ⟨callB_of As.length hts hgood rfl rfl rfl (hts _ k4) (hts _ k1) k6 ⟨hfr, by show 8 + (ny + 11) + 64 * d ≤ R.locals; omega⟩, hts _ k2⟩ ⟨pc_blind, fun U hU hW => ⟨rfl, by rw [hU]; exact Nat.le_trans hbs hS.1, by rw [hU]; exact hP, va_K.moved hW.alike hK⟩⟩ rfl rfl (hl.1.trans hml) rfl (lv_room hr) hd ⟨hcs, hsl⟩) hS (fun v N H1 locs1 hp hP1 hS1 => k v N hp H1 locs1 ls hl hP1 hS1)
theorem w_v0 {y : MethodName} {cy : ByteArray} {ny idx a ci N : Nat} {fs : List Nat} {T : u_T} {ry2 : Option FieldType} (X : cx_ C G own cc nL ry (d + 1)) (hd : decode cc pc = .ok (.invokevirtual idx, 3)) (hk : lk_ own idx y cy ny ry2 0) (hc : vwCl[ci]? = some (y.cls, T, N)) (ha : ds_[a]? = some (.inr (ci, fs))) (hM : cm_ G y cy ny ry2 d (.ref (G.1 a) :: []) M post) (hr : (st.map fun v => v.category).sum ≤ 8) (k : ∀ (v : Option Value) (N : mm_), post v N → wq_ C G Q (pc + 3) lv (v.toList ++ st) N) : wq_ C G Q pc lv (.ref (G.1 a) :: st) M := w_callV [] X hd hk hc ha hM hr k
theorem w_v1 {a1 : Value} {y : MethodName} {cy : ByteArray} {ny idx a ci N : Nat} {fs : List Nat} {T : u_T} {ry2 : Option FieldType} (X : cx_ C G own cc nL ry (d + 1)) (hd : decode cc pc = .ok (.invokevirtual idx, 3)) (hk : lk_ own idx y cy ny ry2 1) (hc : vwCl[ci]? = some (y.cls, T, N)) (ha : ds_[a]? = some (.inr (ci, fs))) (hM : cm_ G y cy ny ry2 d (.ref (G.1 a) :: [a1]) M post) (hr : (st.map fun v => v.category).sum ≤ 8) (k : ∀ (v : Option Value) (N : mm_), post v N → wq_ C G Q (pc + 3) lv (v.toList ++ st) N) : wq_ C G Q pc lv (a1 :: .ref (G.1 a) :: st) M := w_callV [a1] X hd hk hc ha hM hr k
theorem w_v2 {a1 a2 : Value} {y : MethodName} {cy : ByteArray} {ny idx a ci N : Nat} {fs : List Nat} {T : u_T} {ry2 : Option FieldType} (X : cx_ C G own cc nL ry (d + 1)) (hd : decode cc pc = .ok (.invokevirtual idx, 3)) (hk : lk_ own idx y cy ny ry2 2) (hc : vwCl[ci]? = some (y.cls, T, N)) (ha : ds_[a]? = some (.inr (ci, fs))) (hM : cm_ G y cy ny ry2 d (.ref (G.1 a) :: [a1, a2]) M post) (hr : (st.map fun v => v.category).sum ≤ 8) (k : ∀ (v : Option Value) (N : mm_), post v N → wq_ C G Q (pc + 3) lv (v.toList ++ st) N) : wq_ C G Q pc lv (a2 :: a1 :: .ref (G.1 a) :: st) M := w_callV [a1, a2] X hd hk hc ha hM hr k
theorem w_v3 {a1 a2 a3 : Value} {y : MethodName} {cy : ByteArray} {ny idx a ci N : Nat} {fs : List Nat} {T : u_T} {ry2 : Option FieldType} (X : cx_ C G own cc nL ry (d + 1)) (hd : decode cc pc = .ok (.invokevirtual idx, 3)) (hk : lk_ own idx y cy ny ry2 3) (hc : vwCl[ci]? = some (y.cls, T, N)) (ha : ds_[a]? = some (.inr (ci, fs))) (hM : cm_ G y cy ny ry2 d (.ref (G.1 a) :: [a1, a2, a3]) M post) (hr : (st.map fun v => v.category).sum ≤ 8) (k : ∀ (v : Option Value) (N : mm_), post v N → wq_ C G Q (pc + 3) lv (v.toList ++ st) N) : wq_ C G Q pc lv (a3 :: a2 :: a1 :: .ref (G.1 a) :: st) M := w_callV [a1, a2, a3] X hd hk hc ha hM hr k
theorem w_v4 {a1 a2 a3 a4 : Value} {y : MethodName} {cy : ByteArray} {ny idx a ci N : Nat} {fs : List Nat} {T : u_T} {ry2 : Option FieldType} (X : cx_ C G own cc nL ry (d + 1)) (hd : decode cc pc = .ok (.invokevirtual idx, 3)) (hk : lk_ own idx y cy ny ry2 4) (hc : vwCl[ci]? = some (y.cls, T, N)) (ha : ds_[a]? = some (.inr (ci, fs))) (hM : cm_ G y cy ny ry2 d (.ref (G.1 a) :: [a1, a2, a3, a4]) M post) (hr : (st.map fun v => v.category).sum ≤ 8) (k : ∀ (v : Option Value) (N : mm_), post v N → wq_ C G Q (pc + 3) lv (v.toList ++ st) N) : wq_ C G Q pc lv (a4 :: a3 :: a2 :: a1 :: .ref (G.1 a) :: st) M := w_callV [a1, a2, a3, a4] X hd hk hc ha hM hr k
theorem w_v5 {a1 a2 a3 a4 a5 : Value} {y : MethodName} {cy : ByteArray} {ny idx a ci N : Nat} {fs : List Nat} {T : u_T} {ry2 : Option FieldType} (X : cx_ C G own cc nL ry (d + 1)) (hd : decode cc pc = .ok (.invokevirtual idx, 3)) (hk : lk_ own idx y cy ny ry2 5) (hc : vwCl[ci]? = some (y.cls, T, N)) (ha : ds_[a]? = some (.inr (ci, fs))) (hM : cm_ G y cy ny ry2 d (.ref (G.1 a) :: [a1, a2, a3, a4, a5]) M post) (hr : (st.map fun v => v.category).sum ≤ 8) (k : ∀ (v : Option Value) (N : mm_), post v N → wq_ C G Q (pc + 3) lv (v.toList ++ st) N) : wq_ C G Q pc lv (a5 :: a4 :: a3 :: a2 :: a1 :: .ref (G.1 a) :: st) M := w_callV [a1, a2, a3, a4, a5] X hd hk hc ha hM hr k
theorem w_s0 {y : MethodName} {cy : ByteArray} {ny idx : Nat} {ry2 : Option FieldType} (X : cx_ C G own cc nL ry (d + 1)) (hd : decode cc pc = .ok (.invokestatic idx, 3)) (hk : ls_ own idx y cy ny ry2 0) (hM : cm_ G y cy ny ry2 d [] M post) (hr : (st.map fun v => v.category).sum ≤ 8) (k : ∀ (v : Option Value) (N : mm_), post v N → wq_ C G Q (pc + 3) lv (v.toList ++ st) N) : wq_ C G Q pc lv (st) M := w_callS [] X hd hk hM hr k
theorem w_s1 {a1 : Value} {y : MethodName} {cy : ByteArray} {ny idx : Nat} {ry2 : Option FieldType} (X : cx_ C G own cc nL ry (d + 1)) (hd : decode cc pc = .ok (.invokestatic idx, 3)) (hk : ls_ own idx y cy ny ry2 1) (hM : cm_ G y cy ny ry2 d [a1] M post) (hr : (st.map fun v => v.category).sum ≤ 8) (k : ∀ (v : Option Value) (N : mm_), post v N → wq_ C G Q (pc + 3) lv (v.toList ++ st) N) : wq_ C G Q pc lv (a1 :: st) M := w_callS [a1] X hd hk hM hr k
theorem w_s2 {a1 a2 : Value} {y : MethodName} {cy : ByteArray} {ny idx : Nat} {ry2 : Option FieldType} (X : cx_ C G own cc nL ry (d + 1)) (hd : decode cc pc = .ok (.invokestatic idx, 3)) (hk : ls_ own idx y cy ny ry2 2) (hM : cm_ G y cy ny ry2 d [a1, a2] M post) (hr : (st.map fun v => v.category).sum ≤ 8) (k : ∀ (v : Option Value) (N : mm_), post v N → wq_ C G Q (pc + 3) lv (v.toList ++ st) N) : wq_ C G Q pc lv (a2 :: a1 :: st) M := w_callS [a1, a2] X hd hk hM hr k
theorem w_s3 {a1 a2 a3 : Value} {y : MethodName} {cy : ByteArray} {ny idx : Nat} {ry2 : Option FieldType} (X : cx_ C G own cc nL ry (d + 1)) (hd : decode cc pc = .ok (.invokestatic idx, 3)) (hk : ls_ own idx y cy ny ry2 3) (hM : cm_ G y cy ny ry2 d [a1, a2, a3] M post) (hr : (st.map fun v => v.category).sum ≤ 8) (k : ∀ (v : Option Value) (N : mm_), post v N → wq_ C G Q (pc + 3) lv (v.toList ++ st) N) : wq_ C G Q pc lv (a3 :: a2 :: a1 :: st) M := w_callS [a1, a2, a3] X hd hk hM hr k
theorem w_s4 {a1 a2 a3 a4 : Value} {y : MethodName} {cy : ByteArray} {ny idx : Nat} {ry2 : Option FieldType} (X : cx_ C G own cc nL ry (d + 1)) (hd : decode cc pc = .ok (.invokestatic idx, 3)) (hk : ls_ own idx y cy ny ry2 4) (hM : cm_ G y cy ny ry2 d [a1, a2, a3, a4] M post) (hr : (st.map fun v => v.category).sum ≤ 8) (k : ∀ (v : Option Value) (N : mm_), post v N → wq_ C G Q (pc + 3) lv (v.toList ++ st) N) : wq_ C G Q pc lv (a4 :: a3 :: a2 :: a1 :: st) M := w_callS [a1, a2, a3, a4] X hd hk hM hr k
theorem w_s5 {a1 a2 a3 a4 a5 : Value} {y : MethodName} {cy : ByteArray} {ny idx : Nat} {ry2 : Option FieldType} (X : cx_ C G own cc nL ry (d + 1)) (hd : decode cc pc = .ok (.invokestatic idx, 3)) (hk : ls_ own idx y cy ny ry2 5) (hM : cm_ G y cy ny ry2 d [a1, a2, a3, a4, a5] M post) (hr : (st.map fun v => v.category).sum ≤ 8) (k : ∀ (v : Option Value) (N : mm_), post v N → wq_ C G Q (pc + 3) lv (v.toList ++ st) N) : wq_ C G Q pc lv (a5 :: a4 :: a3 :: a2 :: a1 :: st) M := w_callS [a1, a2, a3, a4, a5] X hd hk hM hr k
end CALLS
end
section
set_option maxRecDepth 100000 in
theorem inG12_e : wsX120 = ([1088, 1090, 1092, 1094, 1096, 1098, 1100, 1102, 1104, 1106, 1108, 1110, 1112, 1114, 1116, 1118, 1120, 1122, 1124, 1126, 1128, 1130, 1132, 1134, 1136, 1138, 1140, 1142, 1144, 1146, 1148, 1150, 1152, 1154, 1156, 1158, 1160, 1162, 1164, 1166, 1168, 1170, 1172, 1174, 1176, 1178, 1180, 1182, 1184, 1186, 1188, 1190, 1192, 1194, 1196, 1198, 1200, 1202, 1204, 1206] : List Nat).filterMap (fun i => tables_1[i]?) := by decide +kernel
theorem inG12_g : (u_ws RX12 TX12 60).all goodWord = true := by decide +kernel
theorem inG12 : ∀ w ∈ u_ws RX12 TX12 60, w ∈ gw_ := by
  intro w hw
  have h1 := List.all_eq_true.mp inG12_g w hw
  have e : u_ws RX12 TX12 60 = _ := inG12_e
  rw [e] at hw
  obtain ⟨i, -, hi⟩ := List.mem_filterMap.mp hw
  exact gw_t i hi h1
theorem zb_ {x : Int32} (h : x = 0 ∨ x = 1) : narrow .boolean (.int x) = .int x ∧ fits .boolean (.int x) = true := by
  rcases h with rfl | rfl <;> exact ⟨by decide +kernel, by decide +kernel⟩
section LINKS
variable {C : mc_} {G : gg_} {Q : State → Prop} {pc : Nat} {lv : List (Option Value)} {st : List Value} {M : mm_} {cc : ByteArray} {nL : Nat} {ry : Option FieldType} {d : Nat}
theorem f12_thrown : Cond.fieldLink RX12 115 (TX12 0).1 (TX12 0).2.1 (TX12 0).2.2.1 ∈ gw_ := gw_t 1028 (by decide +kernel) rfl
theorem g12_thrown (X : cx_ C G RX12 cc nL ry d) (hd : decode cc pc = .ok (.getfield 115, 3)) (k : wq_ C G Q (pc + 3) lv (.int (M.1 0 0) :: st) M) : wq_ C G Q pc lv (.ref (G.1 0) :: st) M := w_get (j := 0) (f := 0) (a := 0) (ci := 11) (fs := dr_fs) X hd inG12 rfl (by decide) f12_thrown rfl rfl k
theorem p12_thrown {x : Int32} (X : cx_ C G RX12 cc nL ry d) (hd : decode cc pc = .ok (.putfield 115, 3)) (k : wq_ C G Q (pc + 3) lv st (sI_ M 0 0 x)) : wq_ C G Q pc lv (.int x :: .ref (G.1 0) :: st) M := w_putI (j := 0) (a := 0) (ci := 11) (fs := dr_fs) (ty := .int) X hd inG12 tyX12_ok nmX12 rfl (by decide) f12_thrown rfl (by decide +kernel) rfl rfl rfl rfl k
theorem f12_tape : Cond.fieldLink RX12 7 (TX12 1).1 (TX12 1).2.1 (TX12 1).2.2.1 ∈ gw_ := gw_t 1029 (by decide +kernel) rfl
theorem g12_tape (X : cx_ C G RX12 cc nL ry d) (hd : decode cc pc = .ok (.getfield 7, 3)) (k : wq_ C G Q (pc + 3) lv (.ref (G.1 1) :: st) M) : wq_ C G Q pc lv (.ref (G.1 0) :: st) M := w_get (j := 1) (f := 4) (a := 0) (ci := 11) (fs := dr_fs) X hd inG12 rfl (by decide) f12_tape rfl rfl k
theorem f12_size : Cond.fieldLink RX12 118 (TX12 2).1 (TX12 2).2.1 (TX12 2).2.2.1 ∈ gw_ := gw_t 1030 (by decide +kernel) rfl
theorem g12_size (X : cx_ C G RX12 cc nL ry d) (hd : decode cc pc = .ok (.getfield 118, 3)) (k : wq_ C G Q (pc + 3) lv (.int (M.1 0 2) :: st) M) : wq_ C G Q pc lv (.ref (G.1 0) :: st) M := w_get (j := 2) (f := 0) (a := 0) (ci := 11) (fs := dr_fs) X hd inG12 rfl (by decide) f12_size rfl rfl k
theorem p12_size {x : Int32} (X : cx_ C G RX12 cc nL ry d) (hd : decode cc pc = .ok (.putfield 118, 3)) (k : wq_ C G Q (pc + 3) lv st (sI_ M 0 2 x)) : wq_ C G Q pc lv (.int x :: .ref (G.1 0) :: st) M := w_putI (j := 2) (a := 0) (ci := 11) (fs := dr_fs) (ty := .int) X hd inG12 tyX12_ok nmX12 rfl (by decide) f12_size rfl (by decide +kernel) rfl rfl rfl rfl k
theorem f12_fault : Cond.fieldLink RX12 123 (TX12 3).1 (TX12 3).2.1 (TX12 3).2.2.1 ∈ gw_ := gw_t 1031 (by decide +kernel) rfl
theorem g12_fault (X : cx_ C G RX12 cc nL ry d) (hd : decode cc pc = .ok (.getfield 123, 3)) (k : wq_ C G Q (pc + 3) lv (.int (M.1 0 3) :: st) M) : wq_ C G Q pc lv (.ref (G.1 0) :: st) M := w_get (j := 3) (f := 0) (a := 0) (ci := 11) (fs := dr_fs) X hd inG12 rfl (by decide) f12_fault rfl rfl k
theorem p12_fault {x : Int32} (X : cx_ C G RX12 cc nL ry d) (hd : decode cc pc = .ok (.putfield 123, 3)) (k : wq_ C G Q (pc + 3) lv st (sI_ M 0 3 x)) : wq_ C G Q pc lv (.int x :: .ref (G.1 0) :: st) M := w_putI (j := 3) (a := 0) (ci := 11) (fs := dr_fs) (ty := .int) X hd inG12 tyX12_ok nmX12 rfl (by decide) f12_fault rfl (by decide +kernel) rfl rfl rfl rfl k
theorem f12_place : Cond.fieldLink RX12 13 (TX12 4).1 (TX12 4).2.1 (TX12 4).2.2.1 ∈ gw_ := gw_t 1032 (by decide +kernel) rfl
theorem g12_place (X : cx_ C G RX12 cc nL ry d) (hd : decode cc pc = .ok (.getfield 13, 3)) (k : wq_ C G Q (pc + 3) lv (.int (M.1 0 4) :: st) M) : wq_ C G Q pc lv (.ref (G.1 0) :: st) M := w_get (j := 4) (f := 0) (a := 0) (ci := 11) (fs := dr_fs) X hd inG12 rfl (by decide) f12_place rfl rfl k
theorem p12_place {x : Int32} (X : cx_ C G RX12 cc nL ry d) (hd : decode cc pc = .ok (.putfield 13, 3)) (k : wq_ C G Q (pc + 3) lv st (sI_ M 0 4 x)) : wq_ C G Q pc lv (.int x :: .ref (G.1 0) :: st) M := w_putI (j := 4) (a := 0) (ci := 11) (fs := dr_fs) (ty := .int) X hd inG12 tyX12_ok nmX12 rfl (by decide) f12_place rfl (by decide +kernel) rfl rfl rfl rfl k
theorem f12_at : Cond.fieldLink RX12 147 (TX12 5).1 (TX12 5).2.1 (TX12 5).2.2.1 ∈ gw_ := gw_t 1033 (by decide +kernel) rfl
theorem g12_at (X : cx_ C G RX12 cc nL ry d) (hd : decode cc pc = .ok (.getfield 147, 3)) (k : wq_ C G Q (pc + 3) lv (.int (M.1 0 5) :: st) M) : wq_ C G Q pc lv (.ref (G.1 0) :: st) M := w_get (j := 5) (f := 0) (a := 0) (ci := 11) (fs := dr_fs) X hd inG12 rfl (by decide) f12_at rfl rfl k
theorem p12_at {x : Int32} (X : cx_ C G RX12 cc nL ry d) (hd : decode cc pc = .ok (.putfield 147, 3)) (k : wq_ C G Q (pc + 3) lv st (sI_ M 0 5 x)) : wq_ C G Q pc lv (.int x :: .ref (G.1 0) :: st) M := w_putI (j := 5) (a := 0) (ci := 11) (fs := dr_fs) (ty := .int) X hd inG12 tyX12_ok nmX12 rfl (by decide) f12_at rfl (by decide +kernel) rfl rfl rfl rfl k
theorem f12_steps : Cond.fieldLink RX12 17 (TX12 6).1 (TX12 6).2.1 (TX12 6).2.2.1 ∈ gw_ := gw_t 1034 (by decide +kernel) rfl
theorem g12_steps (X : cx_ C G RX12 cc nL ry d) (hd : decode cc pc = .ok (.getfield 17, 3)) (k : wq_ C G Q (pc + 3) lv (.ref (G.1 2) :: st) M) : wq_ C G Q pc lv (.ref (G.1 0) :: st) M := w_get (j := 6) (f := 5) (a := 0) (ci := 11) (fs := dr_fs) X hd inG12 rfl (by decide) f12_steps rfl rfl k
theorem f12_values : Cond.fieldLink RX12 20 (TX12 7).1 (TX12 7).2.1 (TX12 7).2.2.1 ∈ gw_ := gw_t 1035 (by decide +kernel) rfl
theorem g12_values (X : cx_ C G RX12 cc nL ry d) (hd : decode cc pc = .ok (.getfield 20, 3)) (k : wq_ C G Q (pc + 3) lv (.ref (G.1 3) :: st) M) : wq_ C G Q pc lv (.ref (G.1 0) :: st) M := w_get (j := 7) (f := 6) (a := 0) (ci := 11) (fs := dr_fs) X hd inG12 rfl (by decide) f12_values rfl rfl k
theorem f12_lengths : Cond.fieldLink RX12 24 (TX12 8).1 (TX12 8).2.1 (TX12 8).2.2.1 ∈ gw_ := gw_t 1036 (by decide +kernel) rfl
theorem g12_lengths (X : cx_ C G RX12 cc nL ry d) (hd : decode cc pc = .ok (.getfield 24, 3)) (k : wq_ C G Q (pc + 3) lv (.ref (G.1 4) :: st) M) : wq_ C G Q pc lv (.ref (G.1 0) :: st) M := w_get (j := 8) (f := 7) (a := 0) (ci := 11) (fs := dr_fs) X hd inG12 rfl (by decide) f12_lengths rfl rfl k
theorem f12_methods : Cond.fieldLink RX12 260 (TX12 9).1 (TX12 9).2.1 (TX12 9).2.2.1 ∈ gw_ := gw_t 1037 (by decide +kernel) rfl
theorem g12_methods (X : cx_ C G RX12 cc nL ry d) (hd : decode cc pc = .ok (.getfield 260, 3)) (k : wq_ C G Q (pc + 3) lv (.int (M.1 0 9) :: st) M) : wq_ C G Q pc lv (.ref (G.1 0) :: st) M := w_get (j := 9) (f := 0) (a := 0) (ci := 11) (fs := dr_fs) X hd inG12 rfl (by decide) f12_methods rfl rfl k
theorem p12_methods {x : Int32} (X : cx_ C G RX12 cc nL ry d) (hd : decode cc pc = .ok (.putfield 260, 3)) (k : wq_ C G Q (pc + 3) lv st (sI_ M 0 9 x)) : wq_ C G Q pc lv (.int x :: .ref (G.1 0) :: st) M := w_putI (j := 9) (a := 0) (ci := 11) (fs := dr_fs) (ty := .int) X hd inG12 tyX12_ok nmX12 rfl (by decide) f12_methods rfl (by decide +kernel) rfl rfl rfl rfl k
theorem f12_names : Cond.fieldLink RX12 27 (TX12 10).1 (TX12 10).2.1 (TX12 10).2.2.1 ∈ gw_ := gw_t 1038 (by decide +kernel) rfl
theorem g12_names (X : cx_ C G RX12 cc nL ry d) (hd : decode cc pc = .ok (.getfield 27, 3)) (k : wq_ C G Q (pc + 3) lv (.ref (G.1 5) :: st) M) : wq_ C G Q pc lv (.ref (G.1 0) :: st) M := w_get (j := 10) (f := 8) (a := 0) (ci := 11) (fs := dr_fs) X hd inG12 rfl (by decide) f12_names rfl rfl k
theorem f12_parameters : Cond.fieldLink RX12 30 (TX12 11).1 (TX12 11).2.1 (TX12 11).2.2.1 ∈ gw_ := gw_t 1039 (by decide +kernel) rfl
theorem g12_parameters (X : cx_ C G RX12 cc nL ry d) (hd : decode cc pc = .ok (.getfield 30, 3)) (k : wq_ C G Q (pc + 3) lv (.ref (G.1 6) :: st) M) : wq_ C G Q pc lv (.ref (G.1 0) :: st) M := w_get (j := 11) (f := 9) (a := 0) (ci := 11) (fs := dr_fs) X hd inG12 rfl (by decide) f12_parameters rfl rfl k
theorem f12_length : Cond.fieldLink RX12 144 (TX12 12).1 (TX12 12).2.1 (TX12 12).2.2.1 ∈ gw_ := gw_t 1040 (by decide +kernel) rfl
theorem g12_length (X : cx_ C G RX12 cc nL ry d) (hd : decode cc pc = .ok (.getfield 144, 3)) (k : wq_ C G Q (pc + 3) lv (.int (M.1 0 12) :: st) M) : wq_ C G Q pc lv (.ref (G.1 0) :: st) M := w_get (j := 12) (f := 0) (a := 0) (ci := 11) (fs := dr_fs) X hd inG12 rfl (by decide) f12_length rfl rfl k
theorem p12_length {x : Int32} (X : cx_ C G RX12 cc nL ry d) (hd : decode cc pc = .ok (.putfield 144, 3)) (k : wq_ C G Q (pc + 3) lv st (sI_ M 0 12 x)) : wq_ C G Q pc lv (.int x :: .ref (G.1 0) :: st) M := w_putI (j := 12) (a := 0) (ci := 11) (fs := dr_fs) (ty := .int) X hd inG12 tyX12_ok nmX12 rfl (by decide) f12_length rfl (by decide +kernel) rfl rfl rfl rfl k
theorem f12_nodes : Cond.fieldLink RX12 154 (TX12 13).1 (TX12 13).2.1 (TX12 13).2.2.1 ∈ gw_ := gw_t 1041 (by decide +kernel) rfl
theorem g12_nodes (X : cx_ C G RX12 cc nL ry d) (hd : decode cc pc = .ok (.getfield 154, 3)) (k : wq_ C G Q (pc + 3) lv (.int (M.1 0 13) :: st) M) : wq_ C G Q pc lv (.ref (G.1 0) :: st) M := w_get (j := 13) (f := 0) (a := 0) (ci := 11) (fs := dr_fs) X hd inG12 rfl (by decide) f12_nodes rfl rfl k
theorem p12_nodes {x : Int32} (X : cx_ C G RX12 cc nL ry d) (hd : decode cc pc = .ok (.putfield 154, 3)) (k : wq_ C G Q (pc + 3) lv st (sI_ M 0 13 x)) : wq_ C G Q pc lv (.int x :: .ref (G.1 0) :: st) M := w_putI (j := 13) (a := 0) (ci := 11) (fs := dr_fs) (ty := .int) X hd inG12 tyX12_ok nmX12 rfl (by decide) f12_nodes rfl (by decide +kernel) rfl rfl rfl rfl k
theorem f12_inCommand : Cond.fieldLink RX12 150 (TX12 14).1 (TX12 14).2.1 (TX12 14).2.2.1 ∈ gw_ := gw_t 1042 (by decide +kernel) rfl
theorem g12_inCommand (X : cx_ C G RX12 cc nL ry d) (hd : decode cc pc = .ok (.getfield 150, 3)) (k : wq_ C G Q (pc + 3) lv (.int (M.1 0 14) :: st) M) : wq_ C G Q pc lv (.ref (G.1 0) :: st) M := w_get (j := 14) (f := 0) (a := 0) (ci := 11) (fs := dr_fs) X hd inG12 rfl (by decide) f12_inCommand rfl rfl k
theorem p12_inCommand {x : Int32} (X : cx_ C G RX12 cc nL ry d) (hd : decode cc pc = .ok (.putfield 150, 3)) (hz : x = 0 ∨ x = 1) (k : wq_ C G Q (pc + 3) lv st (sI_ M 0 14 x)) : wq_ C G Q pc lv (.int x :: .ref (G.1 0) :: st) M := w_putI (j := 14) (a := 0) (ci := 11) (fs := dr_fs) (ty := .boolean) X hd inG12 tyX12_ok nmX12 rfl (by decide) f12_inCommand rfl (by decide +kernel) rfl rfl (zb_ hz).1 (zb_ hz).2 k
theorem f12_variables : Cond.fieldLink RX12 202 (TX12 15).1 (TX12 15).2.1 (TX12 15).2.2.1 ∈ gw_ := gw_t 1043 (by decide +kernel) rfl
theorem g12_variables (X : cx_ C G RX12 cc nL ry d) (hd : decode cc pc = .ok (.getfield 202, 3)) (k : wq_ C G Q (pc + 3) lv (.int (M.1 0 15) :: st) M) : wq_ C G Q pc lv (.ref (G.1 0) :: st) M := w_get (j := 15) (f := 0) (a := 0) (ci := 11) (fs := dr_fs) X hd inG12 rfl (by decide) f12_variables rfl rfl k
theorem p12_variables {x : Int32} (X : cx_ C G RX12 cc nL ry d) (hd : decode cc pc = .ok (.putfield 202, 3)) (k : wq_ C G Q (pc + 3) lv st (sI_ M 0 15 x)) : wq_ C G Q pc lv (.int x :: .ref (G.1 0) :: st) M := w_putI (j := 15) (a := 0) (ci := 11) (fs := dr_fs) (ty := .int) X hd inG12 tyX12_ok nmX12 rfl (by decide) f12_variables rfl (by decide +kernel) rfl rfl rfl rfl k
theorem f12_waits : Cond.fieldLink RX12 33 (TX12 16).1 (TX12 16).2.1 (TX12 16).2.2.1 ∈ gw_ := gw_t 1044 (by decide +kernel) rfl
theorem g12_waits (X : cx_ C G RX12 cc nL ry d) (hd : decode cc pc = .ok (.getfield 33, 3)) (k : wq_ C G Q (pc + 3) lv (.ref (G.1 7) :: st) M) : wq_ C G Q pc lv (.ref (G.1 0) :: st) M := w_get (j := 16) (f := 10) (a := 0) (ci := 11) (fs := dr_fs) X hd inG12 rfl (by decide) f12_waits rfl rfl k
theorem f12_waitPlaces : Cond.fieldLink RX12 36 (TX12 17).1 (TX12 17).2.1 (TX12 17).2.2.1 ∈ gw_ := gw_t 1045 (by decide +kernel) rfl
theorem g12_waitPlaces (X : cx_ C G RX12 cc nL ry d) (hd : decode cc pc = .ok (.getfield 36, 3)) (k : wq_ C G Q (pc + 3) lv (.ref (G.1 8) :: st) M) : wq_ C G Q pc lv (.ref (G.1 0) :: st) M := w_get (j := 17) (f := 11) (a := 0) (ci := 11) (fs := dr_fs) X hd inG12 rfl (by decide) f12_waitPlaces rfl rfl k
theorem f12_waitValues : Cond.fieldLink RX12 39 (TX12 18).1 (TX12 18).2.1 (TX12 18).2.2.1 ∈ gw_ := gw_t 1046 (by decide +kernel) rfl
theorem g12_waitValues (X : cx_ C G RX12 cc nL ry d) (hd : decode cc pc = .ok (.getfield 39, 3)) (k : wq_ C G Q (pc + 3) lv (.ref (G.1 9) :: st) M) : wq_ C G Q pc lv (.ref (G.1 0) :: st) M := w_get (j := 18) (f := 12) (a := 0) (ci := 11) (fs := dr_fs) X hd inG12 rfl (by decide) f12_waitValues rfl rfl k
theorem f12_waitNames : Cond.fieldLink RX12 42 (TX12 19).1 (TX12 19).2.1 (TX12 19).2.2.1 ∈ gw_ := gw_t 1047 (by decide +kernel) rfl
theorem g12_waitNames (X : cx_ C G RX12 cc nL ry d) (hd : decode cc pc = .ok (.getfield 42, 3)) (k : wq_ C G Q (pc + 3) lv (.ref (G.1 10) :: st) M) : wq_ C G Q pc lv (.ref (G.1 0) :: st) M := w_get (j := 19) (f := 13) (a := 0) (ci := 11) (fs := dr_fs) X hd inG12 rfl (by decide) f12_waitNames rfl rfl k
theorem f12_waiting : Cond.fieldLink RX12 161 (TX12 20).1 (TX12 20).2.1 (TX12 20).2.2.1 ∈ gw_ := gw_t 1048 (by decide +kernel) rfl
theorem g12_waiting (X : cx_ C G RX12 cc nL ry d) (hd : decode cc pc = .ok (.getfield 161, 3)) (k : wq_ C G Q (pc + 3) lv (.int (M.1 0 20) :: st) M) : wq_ C G Q pc lv (.ref (G.1 0) :: st) M := w_get (j := 20) (f := 0) (a := 0) (ci := 11) (fs := dr_fs) X hd inG12 rfl (by decide) f12_waiting rfl rfl k
theorem p12_waiting {x : Int32} (X : cx_ C G RX12 cc nL ry d) (hd : decode cc pc = .ok (.putfield 161, 3)) (k : wq_ C G Q (pc + 3) lv st (sI_ M 0 20 x)) : wq_ C G Q pc lv (.int x :: .ref (G.1 0) :: st) M := w_putI (j := 20) (a := 0) (ci := 11) (fs := dr_fs) (ty := .int) X hd inG12 tyX12_ok nmX12 rfl (by decide) f12_waiting rfl (by decide +kernel) rfl rfl rfl rfl k
theorem f12_operands : Cond.fieldLink RX12 45 (TX12 21).1 (TX12 21).2.1 (TX12 21).2.2.1 ∈ gw_ := gw_t 1049 (by decide +kernel) rfl
theorem g12_operands (X : cx_ C G RX12 cc nL ry d) (hd : decode cc pc = .ok (.getfield 45, 3)) (k : wq_ C G Q (pc + 3) lv (.ref (G.1 11) :: st) M) : wq_ C G Q pc lv (.ref (G.1 0) :: st) M := w_get (j := 21) (f := 14) (a := 0) (ci := 11) (fs := dr_fs) X hd inG12 rfl (by decide) f12_operands rfl rfl k
theorem f12_operandCount : Cond.fieldLink RX12 164 (TX12 22).1 (TX12 22).2.1 (TX12 22).2.2.1 ∈ gw_ := gw_t 1050 (by decide +kernel) rfl
theorem g12_operandCount (X : cx_ C G RX12 cc nL ry d) (hd : decode cc pc = .ok (.getfield 164, 3)) (k : wq_ C G Q (pc + 3) lv (.int (M.1 0 22) :: st) M) : wq_ C G Q pc lv (.ref (G.1 0) :: st) M := w_get (j := 22) (f := 0) (a := 0) (ci := 11) (fs := dr_fs) X hd inG12 rfl (by decide) f12_operandCount rfl rfl k
theorem p12_operandCount {x : Int32} (X : cx_ C G RX12 cc nL ry d) (hd : decode cc pc = .ok (.putfield 164, 3)) (k : wq_ C G Q (pc + 3) lv st (sI_ M 0 22 x)) : wq_ C G Q pc lv (.int x :: .ref (G.1 0) :: st) M := w_putI (j := 22) (a := 0) (ci := 11) (fs := dr_fs) (ty := .int) X hd inG12 tyX12_ok nmX12 rfl (by decide) f12_operandCount rfl (by decide +kernel) rfl rfl rfl rfl k
theorem f12_opened : Cond.fieldLink RX12 195 (TX12 23).1 (TX12 23).2.1 (TX12 23).2.2.1 ∈ gw_ := gw_t 1051 (by decide +kernel) rfl
theorem g12_opened (X : cx_ C G RX12 cc nL ry d) (hd : decode cc pc = .ok (.getfield 195, 3)) (k : wq_ C G Q (pc + 3) lv (.int (M.1 0 23) :: st) M) : wq_ C G Q pc lv (.ref (G.1 0) :: st) M := w_get (j := 23) (f := 0) (a := 0) (ci := 11) (fs := dr_fs) X hd inG12 rfl (by decide) f12_opened rfl rfl k
theorem p12_opened {x : Int32} (X : cx_ C G RX12 cc nL ry d) (hd : decode cc pc = .ok (.putfield 195, 3)) (k : wq_ C G Q (pc + 3) lv st (sI_ M 0 23 x)) : wq_ C G Q pc lv (.int x :: .ref (G.1 0) :: st) M := w_putI (j := 23) (a := 0) (ci := 11) (fs := dr_fs) (ty := .int) X hd inG12 tyX12_ok nmX12 rfl (by decide) f12_opened rfl (by decide +kernel) rfl rfl rfl rfl k
theorem f12_rowName : Cond.fieldLink RX12 137 (TX12 24).1 (TX12 24).2.1 (TX12 24).2.2.1 ∈ gw_ := gw_t 1052 (by decide +kernel) rfl
theorem g12_rowName (X : cx_ C G RX12 cc nL ry d) (hd : decode cc pc = .ok (.getfield 137, 3)) (k : wq_ C G Q (pc + 3) lv (.long (M.2.1 0 24) :: st) M) : wq_ C G Q pc lv (.ref (G.1 0) :: st) M := w_get (j := 24) (f := 1) (a := 0) (ci := 11) (fs := dr_fs) X hd inG12 rfl (by decide) f12_rowName rfl rfl k
theorem p12_rowName {x : Int64} (X : cx_ C G RX12 cc nL ry d) (hd : decode cc pc = .ok (.putfield 137, 3)) (k : wq_ C G Q (pc + 3) lv st (sL_ M 0 24 x)) : wq_ C G Q pc lv (.long x :: .ref (G.1 0) :: st) M := w_putL (j := 24) (a := 0) (ci := 11) (fs := dr_fs) (ty := .long) X hd inG12 tyX12_ok nmX12 rfl (by decide) f12_rowName rfl (by decide +kernel) rfl rfl rfl rfl k
theorem f12_kinds : Cond.fieldLink RX12 48 (TX12 25).1 (TX12 25).2.1 (TX12 25).2.2.1 ∈ gw_ := gw_t 1053 (by decide +kernel) rfl
theorem g12_kinds (X : cx_ C G RX12 cc nL ry d) (hd : decode cc pc = .ok (.getfield 48, 3)) (k : wq_ C G Q (pc + 3) lv (.ref (G.1 12) :: st) M) : wq_ C G Q pc lv (.ref (G.1 0) :: st) M := w_get (j := 25) (f := 15) (a := 0) (ci := 11) (fs := dr_fs) X hd inG12 rfl (by decide) f12_kinds rfl rfl k
theorem f12_points : Cond.fieldLink RX12 51 (TX12 26).1 (TX12 26).2.1 (TX12 26).2.2.1 ∈ gw_ := gw_t 1054 (by decide +kernel) rfl
theorem g12_points (X : cx_ C G RX12 cc nL ry d) (hd : decode cc pc = .ok (.getfield 51, 3)) (k : wq_ C G Q (pc + 3) lv (.ref (G.1 13) :: st) M) : wq_ C G Q pc lv (.ref (G.1 0) :: st) M := w_get (j := 26) (f := 16) (a := 0) (ci := 11) (fs := dr_fs) X hd inG12 rfl (by decide) f12_points rfl rfl k
theorem f12_limits : Cond.fieldLink RX12 54 (TX12 27).1 (TX12 27).2.1 (TX12 27).2.2.1 ∈ gw_ := gw_t 1055 (by decide +kernel) rfl
theorem g12_limits (X : cx_ C G RX12 cc nL ry d) (hd : decode cc pc = .ok (.getfield 54, 3)) (k : wq_ C G Q (pc + 3) lv (.ref (G.1 14) :: st) M) : wq_ C G Q pc lv (.ref (G.1 0) :: st) M := w_get (j := 27) (f := 17) (a := 0) (ci := 11) (fs := dr_fs) X hd inG12 rfl (by decide) f12_limits rfl rfl k
theorem f12_mades : Cond.fieldLink RX12 57 (TX12 28).1 (TX12 28).2.1 (TX12 28).2.2.1 ∈ gw_ := gw_t 1056 (by decide +kernel) rfl
theorem g12_mades (X : cx_ C G RX12 cc nL ry d) (hd : decode cc pc = .ok (.getfield 57, 3)) (k : wq_ C G Q (pc + 3) lv (.ref (G.1 15) :: st) M) : wq_ C G Q pc lv (.ref (G.1 0) :: st) M := w_get (j := 28) (f := 18) (a := 0) (ci := 11) (fs := dr_fs) X hd inG12 rfl (by decide) f12_mades rfl rfl k
theorem f12_conditioned : Cond.fieldLink RX12 60 (TX12 29).1 (TX12 29).2.1 (TX12 29).2.2.1 ∈ gw_ := gw_t 1057 (by decide +kernel) rfl
theorem g12_conditioned (X : cx_ C G RX12 cc nL ry d) (hd : decode cc pc = .ok (.getfield 60, 3)) (k : wq_ C G Q (pc + 3) lv (.ref (G.1 16) :: st) M) : wq_ C G Q pc lv (.ref (G.1 0) :: st) M := w_get (j := 29) (f := 19) (a := 0) (ci := 11) (fs := dr_fs) X hd inG12 rfl (by decide) f12_conditioned rfl rfl k
theorem f12_patterns : Cond.fieldLink RX12 64 (TX12 30).1 (TX12 30).2.1 (TX12 30).2.2.1 ∈ gw_ := gw_t 1058 (by decide +kernel) rfl
theorem g12_patterns (X : cx_ C G RX12 cc nL ry d) (hd : decode cc pc = .ok (.getfield 64, 3)) (k : wq_ C G Q (pc + 3) lv (.ref (G.1 17) :: st) M) : wq_ C G Q pc lv (.ref (G.1 0) :: st) M := w_get (j := 30) (f := 20) (a := 0) (ci := 11) (fs := dr_fs) X hd inG12 rfl (by decide) f12_patterns rfl rfl k
theorem f12_patternSizes : Cond.fieldLink RX12 67 (TX12 31).1 (TX12 31).2.1 (TX12 31).2.2.1 ∈ gw_ := gw_t 1059 (by decide +kernel) rfl
theorem g12_patternSizes (X : cx_ C G RX12 cc nL ry d) (hd : decode cc pc = .ok (.getfield 67, 3)) (k : wq_ C G Q (pc + 3) lv (.ref (G.1 18) :: st) M) : wq_ C G Q pc lv (.ref (G.1 0) :: st) M := w_get (j := 31) (f := 21) (a := 0) (ci := 11) (fs := dr_fs) X hd inG12 rfl (by decide) f12_patternSizes rfl rfl k
theorem f12_newPattern : Cond.fieldLink RX12 70 (TX12 32).1 (TX12 32).2.1 (TX12 32).2.2.1 ∈ gw_ := gw_t 1060 (by decide +kernel) rfl
theorem g12_newPattern (X : cx_ C G RX12 cc nL ry d) (hd : decode cc pc = .ok (.getfield 70, 3)) (k : wq_ C G Q (pc + 3) lv (.ref (G.1 19) :: st) M) : wq_ C G Q pc lv (.ref (G.1 0) :: st) M := w_get (j := 32) (f := 22) (a := 0) (ci := 11) (fs := dr_fs) X hd inG12 rfl (by decide) f12_newPattern rfl rfl k
theorem f12_newPatternSize : Cond.fieldLink RX12 284 (TX12 33).1 (TX12 33).2.1 (TX12 33).2.2.1 ∈ gw_ := gw_t 1061 (by decide +kernel) rfl
theorem g12_newPatternSize (X : cx_ C G RX12 cc nL ry d) (hd : decode cc pc = .ok (.getfield 284, 3)) (k : wq_ C G Q (pc + 3) lv (.int (M.1 0 33) :: st) M) : wq_ C G Q pc lv (.ref (G.1 0) :: st) M := w_get (j := 33) (f := 0) (a := 0) (ci := 11) (fs := dr_fs) X hd inG12 rfl (by decide) f12_newPatternSize rfl rfl k
theorem p12_newPatternSize {x : Int32} (X : cx_ C G RX12 cc nL ry d) (hd : decode cc pc = .ok (.putfield 284, 3)) (k : wq_ C G Q (pc + 3) lv st (sI_ M 0 33 x)) : wq_ C G Q pc lv (.int x :: .ref (G.1 0) :: st) M := w_putI (j := 33) (a := 0) (ci := 11) (fs := dr_fs) (ty := .int) X hd inG12 tyX12_ok nmX12 rfl (by decide) f12_newPatternSize rfl (by decide +kernel) rfl rfl rfl rfl k
theorem f12_counts : Cond.fieldLink RX12 73 (TX12 34).1 (TX12 34).2.1 (TX12 34).2.2.1 ∈ gw_ := gw_t 1062 (by decide +kernel) rfl
theorem g12_counts (X : cx_ C G RX12 cc nL ry d) (hd : decode cc pc = .ok (.getfield 73, 3)) (k : wq_ C G Q (pc + 3) lv (.ref (G.1 20) :: st) M) : wq_ C G Q pc lv (.ref (G.1 0) :: st) M := w_get (j := 34) (f := 23) (a := 0) (ci := 11) (fs := dr_fs) X hd inG12 rfl (by decide) f12_counts rfl rfl k
theorem f12_recordCount : Cond.fieldLink RX12 356 (TX12 35).1 (TX12 35).2.1 (TX12 35).2.2.1 ∈ gw_ := gw_t 1063 (by decide +kernel) rfl
theorem g12_recordCount (X : cx_ C G RX12 cc nL ry d) (hd : decode cc pc = .ok (.getfield 356, 3)) (k : wq_ C G Q (pc + 3) lv (.int (M.1 0 35) :: st) M) : wq_ C G Q pc lv (.ref (G.1 0) :: st) M := w_get (j := 35) (f := 0) (a := 0) (ci := 11) (fs := dr_fs) X hd inG12 rfl (by decide) f12_recordCount rfl rfl k
theorem p12_recordCount {x : Int32} (X : cx_ C G RX12 cc nL ry d) (hd : decode cc pc = .ok (.putfield 356, 3)) (k : wq_ C G Q (pc + 3) lv st (sI_ M 0 35 x)) : wq_ C G Q pc lv (.int x :: .ref (G.1 0) :: st) M := w_putI (j := 35) (a := 0) (ci := 11) (fs := dr_fs) (ty := .int) X hd inG12 tyX12_ok nmX12 rfl (by decide) f12_recordCount rfl (by decide +kernel) rfl rfl rfl rfl k
theorem f12_records : Cond.fieldLink RX12 76 (TX12 36).1 (TX12 36).2.1 (TX12 36).2.2.1 ∈ gw_ := gw_t 1064 (by decide +kernel) rfl
theorem g12_records (X : cx_ C G RX12 cc nL ry d) (hd : decode cc pc = .ok (.getfield 76, 3)) (k : wq_ C G Q (pc + 3) lv (.ref (G.1 21) :: st) M) : wq_ C G Q pc lv (.ref (G.1 0) :: st) M := w_get (j := 36) (f := 24) (a := 0) (ci := 11) (fs := dr_fs) X hd inG12 rfl (by decide) f12_records rfl rfl k
theorem f12_keepCount : Cond.fieldLink RX12 365 (TX12 37).1 (TX12 37).2.1 (TX12 37).2.2.1 ∈ gw_ := gw_t 1065 (by decide +kernel) rfl
theorem g12_keepCount (X : cx_ C G RX12 cc nL ry d) (hd : decode cc pc = .ok (.getfield 365, 3)) (k : wq_ C G Q (pc + 3) lv (.int (M.1 0 37) :: st) M) : wq_ C G Q pc lv (.ref (G.1 0) :: st) M := w_get (j := 37) (f := 0) (a := 0) (ci := 11) (fs := dr_fs) X hd inG12 rfl (by decide) f12_keepCount rfl rfl k
theorem p12_keepCount {x : Int32} (X : cx_ C G RX12 cc nL ry d) (hd : decode cc pc = .ok (.putfield 365, 3)) (k : wq_ C G Q (pc + 3) lv st (sI_ M 0 37 x)) : wq_ C G Q pc lv (.int x :: .ref (G.1 0) :: st) M := w_putI (j := 37) (a := 0) (ci := 11) (fs := dr_fs) (ty := .int) X hd inG12 tyX12_ok nmX12 rfl (by decide) f12_keepCount rfl (by decide +kernel) rfl rfl rfl rfl k
theorem f12_keptOnes : Cond.fieldLink RX12 79 (TX12 38).1 (TX12 38).2.1 (TX12 38).2.2.1 ∈ gw_ := gw_t 1066 (by decide +kernel) rfl
theorem g12_keptOnes (X : cx_ C G RX12 cc nL ry d) (hd : decode cc pc = .ok (.getfield 79, 3)) (k : wq_ C G Q (pc + 3) lv (.ref (G.1 22) :: st) M) : wq_ C G Q pc lv (.ref (G.1 0) :: st) M := w_get (j := 38) (f := 25) (a := 0) (ci := 11) (fs := dr_fs) X hd inG12 rfl (by decide) f12_keptOnes rfl rfl k
theorem f12_depth : Cond.fieldLink RX12 381 (TX12 39).1 (TX12 39).2.1 (TX12 39).2.2.1 ∈ gw_ := gw_t 1067 (by decide +kernel) rfl
theorem g12_depth (X : cx_ C G RX12 cc nL ry d) (hd : decode cc pc = .ok (.getfield 381, 3)) (k : wq_ C G Q (pc + 3) lv (.int (M.1 0 39) :: st) M) : wq_ C G Q pc lv (.ref (G.1 0) :: st) M := w_get (j := 39) (f := 0) (a := 0) (ci := 11) (fs := dr_fs) X hd inG12 rfl (by decide) f12_depth rfl rfl k
theorem p12_depth {x : Int32} (X : cx_ C G RX12 cc nL ry d) (hd : decode cc pc = .ok (.putfield 381, 3)) (k : wq_ C G Q (pc + 3) lv st (sI_ M 0 39 x)) : wq_ C G Q pc lv (.int x :: .ref (G.1 0) :: st) M := w_putI (j := 39) (a := 0) (ci := 11) (fs := dr_fs) (ty := .int) X hd inG12 tyX12_ok nmX12 rfl (by decide) f12_depth rfl (by decide +kernel) rfl rfl rfl rfl k
theorem f12_invoked : Cond.fieldLink RX12 384 (TX12 40).1 (TX12 40).2.1 (TX12 40).2.2.1 ∈ gw_ := gw_t 1068 (by decide +kernel) rfl
theorem g12_invoked (X : cx_ C G RX12 cc nL ry d) (hd : decode cc pc = .ok (.getfield 384, 3)) (k : wq_ C G Q (pc + 3) lv (.int (M.1 0 40) :: st) M) : wq_ C G Q pc lv (.ref (G.1 0) :: st) M := w_get (j := 40) (f := 0) (a := 0) (ci := 11) (fs := dr_fs) X hd inG12 rfl (by decide) f12_invoked rfl rfl k
theorem p12_invoked {x : Int32} (X : cx_ C G RX12 cc nL ry d) (hd : decode cc pc = .ok (.putfield 384, 3)) (k : wq_ C G Q (pc + 3) lv st (sI_ M 0 40 x)) : wq_ C G Q pc lv (.int x :: .ref (G.1 0) :: st) M := w_putI (j := 40) (a := 0) (ci := 11) (fs := dr_fs) (ty := .int) X hd inG12 tyX12_ok nmX12 rfl (by decide) f12_invoked rfl (by decide +kernel) rfl rfl rfl rfl k
theorem f12_value : Cond.fieldLink RX12 426 (TX12 41).1 (TX12 41).2.1 (TX12 41).2.2.1 ∈ gw_ := gw_t 1069 (by decide +kernel) rfl
theorem g12_value (X : cx_ C G RX12 cc nL ry d) (hd : decode cc pc = .ok (.getfield 426, 3)) (k : wq_ C G Q (pc + 3) lv (.int (M.1 0 41) :: st) M) : wq_ C G Q pc lv (.ref (G.1 0) :: st) M := w_get (j := 41) (f := 0) (a := 0) (ci := 11) (fs := dr_fs) X hd inG12 rfl (by decide) f12_value rfl rfl k
theorem p12_value {x : Int32} (X : cx_ C G RX12 cc nL ry d) (hd : decode cc pc = .ok (.putfield 426, 3)) (k : wq_ C G Q (pc + 3) lv st (sI_ M 0 41 x)) : wq_ C G Q pc lv (.int x :: .ref (G.1 0) :: st) M := w_putI (j := 41) (a := 0) (ci := 11) (fs := dr_fs) (ty := .int) X hd inG12 tyX12_ok nmX12 rfl (by decide) f12_value rfl (by decide +kernel) rfl rfl rfl rfl k
theorem f12_quiet : Cond.fieldLink RX12 368 (TX12 42).1 (TX12 42).2.1 (TX12 42).2.2.1 ∈ gw_ := gw_t 1070 (by decide +kernel) rfl
theorem g12_quiet (X : cx_ C G RX12 cc nL ry d) (hd : decode cc pc = .ok (.getfield 368, 3)) (k : wq_ C G Q (pc + 3) lv (.int (M.1 0 42) :: st) M) : wq_ C G Q pc lv (.ref (G.1 0) :: st) M := w_get (j := 42) (f := 0) (a := 0) (ci := 11) (fs := dr_fs) X hd inG12 rfl (by decide) f12_quiet rfl rfl k
theorem p12_quiet {x : Int32} (X : cx_ C G RX12 cc nL ry d) (hd : decode cc pc = .ok (.putfield 368, 3)) (hz : x = 0 ∨ x = 1) (k : wq_ C G Q (pc + 3) lv st (sI_ M 0 42 x)) : wq_ C G Q pc lv (.int x :: .ref (G.1 0) :: st) M := w_putI (j := 42) (a := 0) (ci := 11) (fs := dr_fs) (ty := .boolean) X hd inG12 tyX12_ok nmX12 rfl (by decide) f12_quiet rfl (by decide +kernel) rfl rfl (zb_ hz).1 (zb_ hz).2 k
theorem f12_runMethods : Cond.fieldLink RX12 82 (TX12 43).1 (TX12 43).2.1 (TX12 43).2.2.1 ∈ gw_ := gw_t 1071 (by decide +kernel) rfl
theorem g12_runMethods (X : cx_ C G RX12 cc nL ry d) (hd : decode cc pc = .ok (.getfield 82, 3)) (k : wq_ C G Q (pc + 3) lv (.ref (G.1 23) :: st) M) : wq_ C G Q pc lv (.ref (G.1 0) :: st) M := w_get (j := 43) (f := 26) (a := 0) (ci := 11) (fs := dr_fs) X hd inG12 rfl (by decide) f12_runMethods rfl rfl k
theorem f12_runParameters : Cond.fieldLink RX12 85 (TX12 44).1 (TX12 44).2.1 (TX12 44).2.2.1 ∈ gw_ := gw_t 1072 (by decide +kernel) rfl
theorem g12_runParameters (X : cx_ C G RX12 cc nL ry d) (hd : decode cc pc = .ok (.getfield 85, 3)) (k : wq_ C G Q (pc + 3) lv (.ref (G.1 24) :: st) M) : wq_ C G Q pc lv (.ref (G.1 0) :: st) M := w_get (j := 44) (f := 27) (a := 0) (ci := 11) (fs := dr_fs) X hd inG12 rfl (by decide) f12_runParameters rfl rfl k
theorem f12_runPlaces : Cond.fieldLink RX12 88 (TX12 45).1 (TX12 45).2.1 (TX12 45).2.2.1 ∈ gw_ := gw_t 1073 (by decide +kernel) rfl
theorem g12_runPlaces (X : cx_ C G RX12 cc nL ry d) (hd : decode cc pc = .ok (.getfield 88, 3)) (k : wq_ C G Q (pc + 3) lv (.ref (G.1 25) :: st) M) : wq_ C G Q pc lv (.ref (G.1 0) :: st) M := w_get (j := 45) (f := 28) (a := 0) (ci := 11) (fs := dr_fs) X hd inG12 rfl (by decide) f12_runPlaces rfl rfl k
theorem f12_stack : Cond.fieldLink RX12 91 (TX12 46).1 (TX12 46).2.1 (TX12 46).2.2.1 ∈ gw_ := gw_t 1074 (by decide +kernel) rfl
theorem g12_stack (X : cx_ C G RX12 cc nL ry d) (hd : decode cc pc = .ok (.getfield 91, 3)) (k : wq_ C G Q (pc + 3) lv (.ref (G.1 26) :: st) M) : wq_ C G Q pc lv (.ref (G.1 0) :: st) M := w_get (j := 46) (f := 29) (a := 0) (ci := 11) (fs := dr_fs) X hd inG12 rfl (by decide) f12_stack rfl rfl k
theorem f12_height : Cond.fieldLink RX12 399 (TX12 47).1 (TX12 47).2.1 (TX12 47).2.2.1 ∈ gw_ := gw_t 1075 (by decide +kernel) rfl
theorem g12_height (X : cx_ C G RX12 cc nL ry d) (hd : decode cc pc = .ok (.getfield 399, 3)) (k : wq_ C G Q (pc + 3) lv (.int (M.1 0 47) :: st) M) : wq_ C G Q pc lv (.ref (G.1 0) :: st) M := w_get (j := 47) (f := 0) (a := 0) (ci := 11) (fs := dr_fs) X hd inG12 rfl (by decide) f12_height rfl rfl k
theorem p12_height {x : Int32} (X : cx_ C G RX12 cc nL ry d) (hd : decode cc pc = .ok (.putfield 399, 3)) (k : wq_ C G Q (pc + 3) lv st (sI_ M 0 47 x)) : wq_ C G Q pc lv (.int x :: .ref (G.1 0) :: st) M := w_putI (j := 47) (a := 0) (ci := 11) (fs := dr_fs) (ty := .int) X hd inG12 tyX12_ok nmX12 rfl (by decide) f12_height rfl (by decide +kernel) rfl rfl rfl rfl k
theorem f12_tryPlaces : Cond.fieldLink RX12 94 (TX12 48).1 (TX12 48).2.1 (TX12 48).2.2.1 ∈ gw_ := gw_t 1076 (by decide +kernel) rfl
theorem g12_tryPlaces (X : cx_ C G RX12 cc nL ry d) (hd : decode cc pc = .ok (.getfield 94, 3)) (k : wq_ C G Q (pc + 3) lv (.ref (G.1 27) :: st) M) : wq_ C G Q pc lv (.ref (G.1 0) :: st) M := w_get (j := 48) (f := 30) (a := 0) (ci := 11) (fs := dr_fs) X hd inG12 rfl (by decide) f12_tryPlaces rfl rfl k
theorem f12_tryHeights : Cond.fieldLink RX12 97 (TX12 49).1 (TX12 49).2.1 (TX12 49).2.2.1 ∈ gw_ := gw_t 1077 (by decide +kernel) rfl
theorem g12_tryHeights (X : cx_ C G RX12 cc nL ry d) (hd : decode cc pc = .ok (.getfield 97, 3)) (k : wq_ C G Q (pc + 3) lv (.ref (G.1 28) :: st) M) : wq_ C G Q pc lv (.ref (G.1 0) :: st) M := w_get (j := 49) (f := 31) (a := 0) (ci := 11) (fs := dr_fs) X hd inG12 rfl (by decide) f12_tryHeights rfl rfl k
theorem f12_tryDepths : Cond.fieldLink RX12 100 (TX12 50).1 (TX12 50).2.1 (TX12 50).2.2.1 ∈ gw_ := gw_t 1078 (by decide +kernel) rfl
theorem g12_tryDepths (X : cx_ C G RX12 cc nL ry d) (hd : decode cc pc = .ok (.getfield 100, 3)) (k : wq_ C G Q (pc + 3) lv (.ref (G.1 29) :: st) M) : wq_ C G Q pc lv (.ref (G.1 0) :: st) M := w_get (j := 50) (f := 32) (a := 0) (ci := 11) (fs := dr_fs) X hd inG12 rfl (by decide) f12_tryDepths rfl rfl k
theorem f12_tries : Cond.fieldLink RX12 396 (TX12 51).1 (TX12 51).2.1 (TX12 51).2.2.1 ∈ gw_ := gw_t 1079 (by decide +kernel) rfl
theorem g12_tries (X : cx_ C G RX12 cc nL ry d) (hd : decode cc pc = .ok (.getfield 396, 3)) (k : wq_ C G Q (pc + 3) lv (.int (M.1 0 51) :: st) M) : wq_ C G Q pc lv (.ref (G.1 0) :: st) M := w_get (j := 51) (f := 0) (a := 0) (ci := 11) (fs := dr_fs) X hd inG12 rfl (by decide) f12_tries rfl rfl k
theorem p12_tries {x : Int32} (X : cx_ C G RX12 cc nL ry d) (hd : decode cc pc = .ok (.putfield 396, 3)) (k : wq_ C G Q (pc + 3) lv st (sI_ M 0 51 x)) : wq_ C G Q pc lv (.int x :: .ref (G.1 0) :: st) M := w_putI (j := 51) (a := 0) (ci := 11) (fs := dr_fs) (ty := .int) X hd inG12 tyX12_ok nmX12 rfl (by decide) f12_tries rfl (by decide +kernel) rfl rfl rfl rfl k
theorem f12_threw : Cond.fieldLink RX12 390 (TX12 52).1 (TX12 52).2.1 (TX12 52).2.2.1 ∈ gw_ := gw_t 1080 (by decide +kernel) rfl
theorem g12_threw (X : cx_ C G RX12 cc nL ry d) (hd : decode cc pc = .ok (.getfield 390, 3)) (k : wq_ C G Q (pc + 3) lv (.int (M.1 0 52) :: st) M) : wq_ C G Q pc lv (.ref (G.1 0) :: st) M := w_get (j := 52) (f := 0) (a := 0) (ci := 11) (fs := dr_fs) X hd inG12 rfl (by decide) f12_threw rfl rfl k
theorem p12_threw {x : Int32} (X : cx_ C G RX12 cc nL ry d) (hd : decode cc pc = .ok (.putfield 390, 3)) (hz : x = 0 ∨ x = 1) (k : wq_ C G Q (pc + 3) lv st (sI_ M 0 52 x)) : wq_ C G Q pc lv (.int x :: .ref (G.1 0) :: st) M := w_putI (j := 52) (a := 0) (ci := 11) (fs := dr_fs) (ty := .boolean) X hd inG12 tyX12_ok nmX12 rfl (by decide) f12_threw rfl (by decide +kernel) rfl rfl (zb_ hz).1 (zb_ hz).2 k
theorem f12_answer : Cond.fieldLink RX12 393 (TX12 53).1 (TX12 53).2.1 (TX12 53).2.2.1 ∈ gw_ := gw_t 1081 (by decide +kernel) rfl
theorem g12_answer (X : cx_ C G RX12 cc nL ry d) (hd : decode cc pc = .ok (.getfield 393, 3)) (k : wq_ C G Q (pc + 3) lv (.int (M.1 0 53) :: st) M) : wq_ C G Q pc lv (.ref (G.1 0) :: st) M := w_get (j := 53) (f := 0) (a := 0) (ci := 11) (fs := dr_fs) X hd inG12 rfl (by decide) f12_answer rfl rfl k
theorem p12_answer {x : Int32} (X : cx_ C G RX12 cc nL ry d) (hd : decode cc pc = .ok (.putfield 393, 3)) (k : wq_ C G Q (pc + 3) lv st (sI_ M 0 53 x)) : wq_ C G Q pc lv (.int x :: .ref (G.1 0) :: st) M := w_putI (j := 53) (a := 0) (ci := 11) (fs := dr_fs) (ty := .int) X hd inG12 tyX12_ok nmX12 rfl (by decide) f12_answer rfl (by decide +kernel) rfl rfl rfl rfl k
theorem f12_seen : Cond.fieldLink RX12 103 (TX12 54).1 (TX12 54).2.1 (TX12 54).2.2.1 ∈ gw_ := gw_t 1082 (by decide +kernel) rfl
theorem g12_seen (X : cx_ C G RX12 cc nL ry d) (hd : decode cc pc = .ok (.getfield 103, 3)) (k : wq_ C G Q (pc + 3) lv (.ref (G.1 30) :: st) M) : wq_ C G Q pc lv (.ref (G.1 0) :: st) M := w_get (j := 54) (f := 33) (a := 0) (ci := 11) (fs := dr_fs) X hd inG12 rfl (by decide) f12_seen rfl rfl k
theorem f12_probeStack : Cond.fieldLink RX12 106 (TX12 55).1 (TX12 55).2.1 (TX12 55).2.2.1 ∈ gw_ := gw_t 1083 (by decide +kernel) rfl
theorem g12_probeStack (X : cx_ C G RX12 cc nL ry d) (hd : decode cc pc = .ok (.getfield 106, 3)) (k : wq_ C G Q (pc + 3) lv (.ref (G.1 31) :: st) M) : wq_ C G Q pc lv (.ref (G.1 0) :: st) M := w_get (j := 55) (f := 34) (a := 0) (ci := 11) (fs := dr_fs) X hd inG12 rfl (by decide) f12_probeStack rfl rfl k
theorem f12_probeTries : Cond.fieldLink RX12 109 (TX12 56).1 (TX12 56).2.1 (TX12 56).2.2.1 ∈ gw_ := gw_t 1084 (by decide +kernel) rfl
theorem g12_probeTries (X : cx_ C G RX12 cc nL ry d) (hd : decode cc pc = .ok (.getfield 109, 3)) (k : wq_ C G Q (pc + 3) lv (.ref (G.1 32) :: st) M) : wq_ C G Q pc lv (.ref (G.1 0) :: st) M := w_get (j := 56) (f := 35) (a := 0) (ci := 11) (fs := dr_fs) X hd inG12 rfl (by decide) f12_probeTries rfl rfl k
theorem f12_probeHeights : Cond.fieldLink RX12 112 (TX12 57).1 (TX12 57).2.1 (TX12 57).2.2.1 ∈ gw_ := gw_t 1085 (by decide +kernel) rfl
theorem g12_probeHeights (X : cx_ C G RX12 cc nL ry d) (hd : decode cc pc = .ok (.getfield 112, 3)) (k : wq_ C G Q (pc + 3) lv (.ref (G.1 33) :: st) M) : wq_ C G Q pc lv (.ref (G.1 0) :: st) M := w_get (j := 57) (f := 36) (a := 0) (ci := 11) (fs := dr_fs) X hd inG12 rfl (by decide) f12_probeHeights rfl rfl k
theorem f12_probeValue : Cond.fieldLink RX12 347 (TX12 58).1 (TX12 58).2.1 (TX12 58).2.2.1 ∈ gw_ := gw_t 1086 (by decide +kernel) rfl
theorem g12_probeValue (X : cx_ C G RX12 cc nL ry d) (hd : decode cc pc = .ok (.getfield 347, 3)) (k : wq_ C G Q (pc + 3) lv (.int (M.1 0 58) :: st) M) : wq_ C G Q pc lv (.ref (G.1 0) :: st) M := w_get (j := 58) (f := 0) (a := 0) (ci := 11) (fs := dr_fs) X hd inG12 rfl (by decide) f12_probeValue rfl rfl k
theorem p12_probeValue {x : Int32} (X : cx_ C G RX12 cc nL ry d) (hd : decode cc pc = .ok (.putfield 347, 3)) (k : wq_ C G Q (pc + 3) lv st (sI_ M 0 58 x)) : wq_ C G Q pc lv (.int x :: .ref (G.1 0) :: st) M := w_putI (j := 58) (a := 0) (ci := 11) (fs := dr_fs) (ty := .int) X hd inG12 tyX12_ok nmX12 rfl (by decide) f12_probeValue rfl (by decide +kernel) rfl rfl rfl rfl k
theorem f12_probeThrew : Cond.fieldLink RX12 344 (TX12 59).1 (TX12 59).2.1 (TX12 59).2.2.1 ∈ gw_ := gw_t 1087 (by decide +kernel) rfl
theorem g12_probeThrew (X : cx_ C G RX12 cc nL ry d) (hd : decode cc pc = .ok (.getfield 344, 3)) (k : wq_ C G Q (pc + 3) lv (.int (M.1 0 59) :: st) M) : wq_ C G Q pc lv (.ref (G.1 0) :: st) M := w_get (j := 59) (f := 0) (a := 0) (ci := 11) (fs := dr_fs) X hd inG12 rfl (by decide) f12_probeThrew rfl rfl k
theorem p12_probeThrew {x : Int32} (X : cx_ C G RX12 cc nL ry d) (hd : decode cc pc = .ok (.putfield 344, 3)) (hz : x = 0 ∨ x = 1) (k : wq_ C G Q (pc + 3) lv st (sI_ M 0 59 x)) : wq_ C G Q pc lv (.int x :: .ref (G.1 0) :: st) M := w_putI (j := 59) (a := 0) (ci := 11) (fs := dr_fs) (ty := .boolean) X hd inG12 tyX12_ok nmX12 rfl (by decide) f12_probeThrew rfl (by decide +kernel) rfl rfl (zb_ hz).1 (zb_ hz).2 k
end LINKS
theorem in12_ : Cond.initialized RX12 ∈ gw_ := gw_t 12 (by decide +kernel) rfl
theorem k12_begin : lk_ RX12 263 yX12_begin cX12_begin 1 none 0 := ⟨gw_t 1223 (by decide +kernel) rfl, gw_t 1225 (by decide +kernel) rfl, (gw_s (⟨"ProbeConsoleModel", "begin", "()V"⟩, 60) 31 (by decide +kernel) rfl), in12_, gw_t 1226 (by decide +kernel) rfl, by decide +kernel, by decide⟩
theorem k12_rowSize : lk_ RX12 205 yX12_rowSize cX12_rowSize 3 (some .int) 1 := ⟨gw_t 1227 (by decide +kernel) rfl, gw_t 1229 (by decide +kernel) rfl, (gw_s (⟨"ProbeConsoleModel", "rowSize", "(I)I"⟩, 60) 32 (by decide +kernel) rfl), in12_, gw_t 1230 (by decide +kernel) rfl, by decide +kernel, by decide⟩
theorem k12_byteAt : lk_ RX12 130 yX12_byteAt cX12_byteAt 2 (some .int) 1 := ⟨gw_t 1231 (by decide +kernel) rfl, gw_t 1233 (by decide +kernel) rfl, (gw_s (⟨"ProbeConsoleModel", "byteAt", "(I)I"⟩, 60) 33 (by decide +kernel) rfl), in12_, gw_t 1234 (by decide +kernel) rfl, by decide +kernel, by decide⟩
theorem k12_isOfRow : ls_ RX12 134 yX12_isOfRow cX12_isOfRow 1 (some .boolean) 1 := ⟨gw_t 1235 (by decide +kernel) rfl, gw_t 1236 (by decide +kernel) rfl, in12_, gw_t 1237 (by decide +kernel) rfl, by decide +kernel, by decide⟩
theorem k12_isLetter : ls_ RX12 126 yX12_isLetter cX12_isLetter 1 (some .boolean) 1 := ⟨gw_t 1238 (by decide +kernel) rfl, gw_t 1239 (by decide +kernel) rfl, in12_, gw_t 1240 (by decide +kernel) rfl, by decide +kernel, by decide⟩
theorem k12_fail : lk_ RX12 157 yX12_fail cX12_fail 3 none 2 := ⟨gw_t 1241 (by decide +kernel) rfl, gw_t 1243 (by decide +kernel) rfl, (gw_s (⟨"ProbeConsoleModel", "fail", "(II)V"⟩, 60) 34 (by decide +kernel) rfl), in12_, gw_t 1244 (by decide +kernel) rfl, by decide +kernel, by decide⟩
theorem k12_isName : lk_ RX12 211 yX12_isName cX12_isName 6 (some .boolean) 2 := ⟨gw_t 1245 (by decide +kernel) rfl, gw_t 1247 (by decide +kernel) rfl, (gw_s (⟨"ProbeConsoleModel", "isName", "(II)Z"⟩, 60) 35 (by decide +kernel) rfl), in12_, gw_t 1248 (by decide +kernel) rfl, by decide +kernel, by decide⟩
theorem k12_want : lk_ RX12 266 yX12_want cX12_want 2 none 1 := ⟨gw_t 1249 (by decide +kernel) rfl, gw_t 1251 (by decide +kernel) rfl, (gw_s (⟨"ProbeConsoleModel", "want", "(I)V"⟩, 60) 36 (by decide +kernel) rfl), in12_, gw_t 1252 (by decide +kernel) rfl, by decide +kernel, by decide⟩
theorem k12_readExpression : lk_ RX12 269 yX12_readExpression cX12_readExpression 4 none 0 := ⟨gw_t 1253 (by decide +kernel) rfl, gw_t 1255 (by decide +kernel) rfl, (gw_s (⟨"ProbeConsoleModel", "readExpression", "()V"⟩, 60) 37 (by decide +kernel) rfl), in12_, gw_t 1256 (by decide +kernel) rfl, by decide +kernel, by decide⟩
theorem k12_ended : lk_ RX12 222 yX12_ended cX12_ended 2 (some .boolean) 0 := ⟨gw_t 1257 (by decide +kernel) rfl, gw_t 1259 (by decide +kernel) rfl, (gw_s (⟨"ProbeConsoleModel", "ended", "()Z"⟩, 60) 38 (by decide +kernel) rfl), in12_, gw_t 1260 (by decide +kernel) rfl, by decide +kernel, by decide⟩
theorem k12_last : lk_ RX12 218 yX12_last cX12_last 1 (some .int) 0 := ⟨gw_t 1261 (by decide +kernel) rfl, gw_t 1263 (by decide +kernel) rfl, (gw_s (⟨"ProbeConsoleModel", "last", "()I"⟩, 60) 39 (by decide +kernel) rfl), in12_, gw_t 1264 (by decide +kernel) rfl, by decide +kernel, by decide⟩
theorem k12_readOperand : lk_ RX12 253 yX12_readOperand cX12_readOperand 4 (some .boolean) 1 := ⟨gw_t 1265 (by decide +kernel) rfl, gw_t 1267 (by decide +kernel) rfl, (gw_s (⟨"ProbeConsoleModel", "readOperand", "(Z)Z"⟩, 60) 40 (by decide +kernel) rfl), in12_, gw_t 1268 (by decide +kernel) rfl, by decide +kernel, by decide⟩
theorem k12_close : lk_ RX12 226 yX12_close cX12_close 3 none 0 := ⟨gw_t 1269 (by decide +kernel) rfl, gw_t 1271 (by decide +kernel) rfl, (gw_s (⟨"ProbeConsoleModel", "close", "()V"⟩, 60) 41 (by decide +kernel) rfl), in12_, gw_t 1272 (by decide +kernel) rfl, by decide +kernel, by decide⟩
theorem k12_reduceAll : lk_ RX12 235 yX12_reduceAll cX12_reduceAll 1 none 0 := ⟨gw_t 1273 (by decide +kernel) rfl, gw_t 1275 (by decide +kernel) rfl, (gw_s (⟨"ProbeConsoleModel", "reduceAll", "()V"⟩, 60) 42 (by decide +kernel) rfl), in12_, gw_t 1276 (by decide +kernel) rfl, by decide +kernel, by decide⟩
theorem k12_reduceTo : lk_ RX12 174 yX12_reduceTo cX12_reduceTo 2 none 1 := ⟨gw_t 1277 (by decide +kernel) rfl, gw_t 1279 (by decide +kernel) rfl, (gw_s (⟨"ProbeConsoleModel", "reduceTo", "(I)V"⟩, 60) 43 (by decide +kernel) rfl), in12_, gw_t 1280 (by decide +kernel) rfl, by decide +kernel, by decide⟩
theorem k12_reduce : lk_ RX12 171 yX12_reduce cX12_reduce 4 none 0 := ⟨gw_t 1281 (by decide +kernel) rfl, gw_t 1283 (by decide +kernel) rfl, (gw_s (⟨"ProbeConsoleModel", "reduce", "()V"⟩, 60) 44 (by decide +kernel) rfl), in12_, gw_t 1284 (by decide +kernel) rfl, by decide +kernel, by decide⟩
theorem k12_rowOf : ls_ RX12 141 yX12_rowOf cX12_rowOf 1 (some .int) 1 := ⟨gw_t 1285 (by decide +kernel) rfl, gw_t 1286 (by decide +kernel) rfl, in12_, gw_t 1287 (by decide +kernel) rfl, by decide +kernel, by decide⟩
theorem k12_put : lk_ RX12 167 yX12_put cX12_put 4 none 2 := ⟨gw_t 1288 (by decide +kernel) rfl, gw_t 1290 (by decide +kernel) rfl, (gw_s (⟨"ProbeConsoleModel", "put", "(IJ)V"⟩, 60) 45 (by decide +kernel) rfl), in12_, gw_t 1291 (by decide +kernel) rfl, by decide +kernel, by decide⟩
theorem k12_operand : lk_ RX12 192 yX12_operand cX12_operand 2 none 1 := ⟨gw_t 1292 (by decide +kernel) rfl, gw_t 1294 (by decide +kernel) rfl, (gw_s (⟨"ProbeConsoleModel", "operand", "(I)V"⟩, 60) 46 (by decide +kernel) rfl), in12_, gw_t 1295 (by decide +kernel) rfl, by decide +kernel, by decide⟩
theorem k12_isFigure : ls_ RX12 181 yX12_isFigure cX12_isFigure 1 (some .boolean) 1 := ⟨gw_t 1296 (by decide +kernel) rfl, gw_t 1297 (by decide +kernel) rfl, in12_, gw_t 1298 (by decide +kernel) rfl, by decide +kernel, by decide⟩
theorem k12_readNumber : lk_ RX12 229 yX12_readNumber cX12_readNumber 4 none 0 := ⟨gw_t 1299 (by decide +kernel) rfl, gw_t 1301 (by decide +kernel) rfl, (gw_s (⟨"ProbeConsoleModel", "readNumber", "()V"⟩, 60) 47 (by decide +kernel) rfl), in12_, gw_t 1302 (by decide +kernel) rfl, by decide +kernel, by decide⟩
theorem k12_count : lk_ RX12 178 yX12_count cX12_count 2 (some .boolean) 1 := ⟨gw_t 1303 (by decide +kernel) rfl, gw_t 1305 (by decide +kernel) rfl, (gw_s (⟨"ProbeConsoleModel", "count", "(I)Z"⟩, 60) 48 (by decide +kernel) rfl), in12_, gw_t 1306 (by decide +kernel) rfl, by decide +kernel, by decide⟩
theorem k12_wait : lk_ RX12 198 yX12_wait cX12_wait 4 none 3 := ⟨gw_t 1311 (by decide +kernel) rfl, gw_t 1313 (by decide +kernel) rfl, (gw_s (⟨"ProbeConsoleModel", "wait", "(III)V"⟩, 60) 49 (by decide +kernel) rfl), in12_, gw_t 1314 (by decide +kernel) rfl, by decide +kernel, by decide⟩
theorem k12_open : lk_ RX12 215 yX12_open cX12_open 3 none 2 := ⟨gw_t 1315 (by decide +kernel) rfl, gw_t 1317 (by decide +kernel) rfl, (gw_s (⟨"ProbeConsoleModel", "open", "(II)V"⟩, 60) 50 (by decide +kernel) rfl), in12_, gw_t 1318 (by decide +kernel) rfl, by decide +kernel, by decide⟩
theorem k12_readRow : lk_ RX12 232 yX12_readRow cX12_readRow 4 (some .boolean) 0 := ⟨gw_t 1319 (by decide +kernel) rfl, gw_t 1321 (by decide +kernel) rfl, (gw_s (⟨"ProbeConsoleModel", "readRow", "()Z"⟩, 60) 51 (by decide +kernel) rfl), in12_, gw_t 1322 (by decide +kernel) rfl, by decide +kernel, by decide⟩
theorem k12_variableOf : lk_ RX12 208 yX12_variableOf cX12_variableOf 4 (some .int) 1 := ⟨gw_t 1323 (by decide +kernel) rfl, gw_t 1325 (by decide +kernel) rfl, (gw_s (⟨"ProbeConsoleModel", "variableOf", "(I)I"⟩, 60) 52 (by decide +kernel) rfl), in12_, gw_t 1326 (by decide +kernel) rfl, by decide +kernel, by decide⟩
theorem k12_readSign : lk_ RX12 257 yX12_readSign cX12_readSign 2 (some .boolean) 0 := ⟨gw_t 1327 (by decide +kernel) rfl, gw_t 1329 (by decide +kernel) rfl, (gw_s (⟨"ProbeConsoleModel", "readSign", "()Z"⟩, 60) 53 (by decide +kernel) rfl), in12_, gw_t 1330 (by decide +kernel) rfl, by decide +kernel, by decide⟩
theorem k12_hash : lk_ RX12 238 yX12_hash cX12_hash 4 none 0 := ⟨gw_t 1331 (by decide +kernel) rfl, gw_t 1333 (by decide +kernel) rfl, (gw_s (⟨"ProbeConsoleModel", "hash", "()V"⟩, 60) 54 (by decide +kernel) rfl), in12_, gw_t 1334 (by decide +kernel) rfl, by decide +kernel, by decide⟩
theorem k12_question : lk_ RX12 241 yX12_question cX12_question 1 none 0 := ⟨gw_t 1335 (by decide +kernel) rfl, gw_t 1337 (by decide +kernel) rfl, (gw_s (⟨"ProbeConsoleModel", "question", "()V"⟩, 60) 55 (by decide +kernel) rfl), in12_, gw_t 1338 (by decide +kernel) rfl, by decide +kernel, by decide⟩
theorem k12_colon : lk_ RX12 244 yX12_colon cX12_colon 3 none 0 := ⟨gw_t 1339 (by decide +kernel) rfl, gw_t 1341 (by decide +kernel) rfl, (gw_s (⟨"ProbeConsoleModel", "colon", "()V"⟩, 60) 56 (by decide +kernel) rfl), in12_, gw_t 1342 (by decide +kernel) rfl, by decide +kernel, by decide⟩
theorem k12_between : lk_ RX12 247 yX12_between cX12_between 3 none 2 := ⟨gw_t 1343 (by decide +kernel) rfl, gw_t 1345 (by decide +kernel) rfl, (gw_s (⟨"ProbeConsoleModel", "between", "(II)V"⟩, 60) 57 (by decide +kernel) rfl), in12_, gw_t 1346 (by decide +kernel) rfl, by decide +kernel, by decide⟩
theorem k12_comma : lk_ RX12 250 yX12_comma cX12_comma 1 none 0 := ⟨gw_t 1347 (by decide +kernel) rfl, gw_t 1349 (by decide +kernel) rfl, (gw_s (⟨"ProbeConsoleModel", "comma", "()V"⟩, 60) 58 (by decide +kernel) rfl), in12_, gw_t 1350 (by decide +kernel) rfl, by decide +kernel, by decide⟩
theorem k12_findMethod : lk_ RX12 272 yX12_findMethod cX12_findMethod 5 (some .int) 2 := ⟨gw_t 1351 (by decide +kernel) rfl, gw_t 1353 (by decide +kernel) rfl, (gw_s (⟨"ProbeConsoleModel", "findMethod", "(JI)I"⟩, 60) 59 (by decide +kernel) rfl), in12_, gw_t 1354 (by decide +kernel) rfl, by decide +kernel, by decide⟩
theorem k12_keepExpression : lk_ RX12 276 yX12_keepExpression cX12_keepExpression 3 none 1 := ⟨gw_t 1355 (by decide +kernel) rfl, gw_t 1357 (by decide +kernel) rfl, (gw_s (⟨"ProbeConsoleModel", "keepExpression", "(I)V"⟩, 60) 60 (by decide +kernel) rfl), in12_, gw_t 1358 (by decide +kernel) rfl, by decide +kernel, by decide⟩
theorem k12_skip : lk_ RX12 281 yX12_skip cX12_skip 1 none 0 := ⟨gw_t 1363 (by decide +kernel) rfl, gw_t 1365 (by decide +kernel) rfl, (gw_s (⟨"ProbeConsoleModel", "skip", "()V"⟩, 60) 61 (by decide +kernel) rfl), in12_, gw_t 1366 (by decide +kernel) rfl, by decide +kernel, by decide⟩
theorem k12_rowAt : lk_ RX12 290 yX12_rowAt cX12_rowAt 4 (some .long) 1 := ⟨gw_t 1367 (by decide +kernel) rfl, gw_t 1369 (by decide +kernel) rfl, (gw_s (⟨"ProbeConsoleModel", "rowAt", "(I)J"⟩, 60) 62 (by decide +kernel) rfl), in12_, gw_t 1370 (by decide +kernel) rfl, by decide +kernel, by decide⟩
theorem k12_word : ls_ RX12 294 yX12_word cX12_word 4 (some .long) 4 := ⟨gw_t 1371 (by decide +kernel) rfl, gw_t 1372 (by decide +kernel) rfl, in12_, gw_t 1373 (by decide +kernel) rfl, by decide +kernel, by decide⟩
theorem k12_endsAt : lk_ RX12 298 yX12_endsAt cX12_endsAt 2 (some .boolean) 1 := ⟨gw_t 1375 (by decide +kernel) rfl, gw_t 1377 (by decide +kernel) rfl, (gw_s (⟨"ProbeConsoleModel", "endsAt", "(I)Z"⟩, 60) 63 (by decide +kernel) rfl), in12_, gw_t 1378 (by decide +kernel) rfl, by decide +kernel, by decide⟩
theorem k12_watch : lk_ RX12 320 yX12_watch cX12_watch 5 (some .int) 0 := ⟨gw_t 1379 (by decide +kernel) rfl, gw_t 1381 (by decide +kernel) rfl, (gw_s (⟨"ProbeConsoleModel", "watch", "()I"⟩, 60) 64 (by decide +kernel) rfl), in12_, gw_t 1382 (by decide +kernel) rfl, by decide +kernel, by decide⟩
theorem k12_readPoint : lk_ RX12 301 yX12_readPoint cX12_readPoint 6 (some .int) 0 := ⟨gw_t 1383 (by decide +kernel) rfl, gw_t 1385 (by decide +kernel) rfl, (gw_s (⟨"ProbeConsoleModel", "readPoint", "()I"⟩, 60) 65 (by decide +kernel) rfl), in12_, gw_t 1386 (by decide +kernel) rfl, by decide +kernel, by decide⟩
theorem k12_readPattern : lk_ RX12 304 yX12_readPattern cX12_readPattern 2 none 0 := ⟨gw_t 1387 (by decide +kernel) rfl, gw_t 1389 (by decide +kernel) rfl, (gw_s (⟨"ProbeConsoleModel", "readPattern", "()V"⟩, 60) 66 (by decide +kernel) rfl), in12_, gw_t 1390 (by decide +kernel) rfl, by decide +kernel, by decide⟩
theorem k12_freeJob : lk_ RX12 307 yX12_freeJob cX12_freeJob 2 (some .int) 0 := ⟨gw_t 1391 (by decide +kernel) rfl, gw_t 1393 (by decide +kernel) rfl, (gw_s (⟨"ProbeConsoleModel", "freeJob", "()I"⟩, 60) 67 (by decide +kernel) rfl), in12_, gw_t 1394 (by decide +kernel) rfl, by decide +kernel, by decide⟩
theorem k12_smallNumber : lk_ RX12 310 yX12_smallNumber cX12_smallNumber 4 (some .int) 1 := ⟨gw_t 1395 (by decide +kernel) rfl, gw_t 1397 (by decide +kernel) rfl, (gw_s (⟨"ProbeConsoleModel", "smallNumber", "(I)I"⟩, 60) 68 (by decide +kernel) rfl), in12_, gw_t 1398 (by decide +kernel) rfl, by decide +kernel, by decide⟩
theorem k12_wantBlank : lk_ RX12 287 yX12_wantBlank cX12_wantBlank 1 none 0 := ⟨gw_t 1399 (by decide +kernel) rfl, gw_t 1401 (by decide +kernel) rfl, (gw_s (⟨"ProbeConsoleModel", "wantBlank", "()V"⟩, 60) 69 (by decide +kernel) rfl), in12_, gw_t 1402 (by decide +kernel) rfl, by decide +kernel, by decide⟩
theorem k12_wantEnd : lk_ RX12 313 yX12_wantEnd cX12_wantEnd 1 none 0 := ⟨gw_t 1403 (by decide +kernel) rfl, gw_t 1405 (by decide +kernel) rfl, (gw_s (⟨"ProbeConsoleModel", "wantEnd", "()V"⟩, 60) 70 (by decide +kernel) rfl), in12_, gw_t 1406 (by decide +kernel) rfl, by decide +kernel, by decide⟩
theorem k12_newJob : lk_ RX12 316 yX12_newJob cX12_newJob 4 (some .int) 2 := ⟨gw_t 1407 (by decide +kernel) rfl, gw_t 1409 (by decide +kernel) rfl, (gw_s (⟨"ProbeConsoleModel", "newJob", "(II)I"⟩, 60) 71 (by decide +kernel) rfl), in12_, gw_t 1410 (by decide +kernel) rfl, by decide +kernel, by decide⟩
theorem k12_simple : lk_ RX12 323 yX12_simple cX12_simple 3 (some .int) 1 := ⟨gw_t 1411 (by decide +kernel) rfl, gw_t 1413 (by decide +kernel) rfl, (gw_s (⟨"ProbeConsoleModel", "simple", "(I)I"⟩, 60) 72 (by decide +kernel) rfl), in12_, gw_t 1414 (by decide +kernel) rfl, by decide +kernel, by decide⟩
theorem k12_kill : lk_ RX12 326 yX12_kill cX12_kill 2 (some .int) 0 := ⟨gw_t 1415 (by decide +kernel) rfl, gw_t 1417 (by decide +kernel) rfl, (gw_s (⟨"ProbeConsoleModel", "kill", "()I"⟩, 60) 73 (by decide +kernel) rfl), in12_, gw_t 1418 (by decide +kernel) rfl, by decide +kernel, by decide⟩
theorem k12_reset : lk_ RX12 329 yX12_reset cX12_reset 3 (some .int) 0 := ⟨gw_t 1419 (by decide +kernel) rfl, gw_t 1421 (by decide +kernel) rfl, (gw_s (⟨"ProbeConsoleModel", "reset", "()I"⟩, 60) 74 (by decide +kernel) rfl), in12_, gw_t 1422 (by decide +kernel) rfl, by decide +kernel, by decide⟩
theorem k12_play : lk_ RX12 429 yX12_play cX12_play 6 (some .int) 5 := ⟨gw_t 1435 (by decide +kernel) rfl, gw_t 1437 (by decide +kernel) rfl, (gw_s (⟨"ProbeConsoleModel", "play", "(IIIIZ)I"⟩, 60) 75 (by decide +kernel) rfl), in12_, gw_t 1438 (by decide +kernel) rfl, by decide +kernel, by decide⟩
theorem k12_enter : lk_ RX12 413 yX12_enter cX12_enter 3 none 1 := ⟨gw_t 1439 (by decide +kernel) rfl, gw_t 1441 (by decide +kernel) rfl, (gw_s (⟨"ProbeConsoleModel", "enter", "(I)V"⟩, 60) 76 (by decide +kernel) rfl), in12_, gw_t 1442 (by decide +kernel) rfl, by decide +kernel, by decide⟩
theorem k12_probe : lk_ RX12 387 yX12_probe cX12_probe 6 none 3 := ⟨gw_t 1443 (by decide +kernel) rfl, gw_t 1445 (by decide +kernel) rfl, (gw_s (⟨"ProbeConsoleModel", "probe", "(III)V"⟩, 60) 77 (by decide +kernel) rfl), in12_, gw_t 1446 (by decide +kernel) rfl, by decide +kernel, by decide⟩
theorem k12_fits : lk_ RX12 371 yX12_fits cX12_fits 10 (some .boolean) 2 := ⟨gw_t 1447 (by decide +kernel) rfl, gw_t 1449 (by decide +kernel) rfl, (gw_s (⟨"ProbeConsoleModel", "fits", "(II)Z"⟩, 60) 78 (by decide +kernel) rfl), in12_, gw_t 1450 (by decide +kernel) rfl, by decide +kernel, by decide⟩
theorem k12_nameSize : lk_ RX12 334 yX12_nameSize cX12_nameSize 3 (some .int) 1 := ⟨gw_t 1451 (by decide +kernel) rfl, gw_t 1453 (by decide +kernel) rfl, (gw_s (⟨"ProbeConsoleModel", "nameSize", "(I)I"⟩, 60) 79 (by decide +kernel) rfl), in12_, gw_t 1454 (by decide +kernel) rfl, by decide +kernel, by decide⟩
theorem k12_starred : lk_ RX12 337 yX12_starred cX12_starred 5 (some .int) 2 := ⟨gw_t 1455 (by decide +kernel) rfl, gw_t 1457 (by decide +kernel) rfl, (gw_s (⟨"ProbeConsoleModel", "starred", "(II)I"⟩, 60) 80 (by decide +kernel) rfl), in12_, gw_t 1458 (by decide +kernel) rfl, by decide +kernel, by decide⟩
theorem k12_nameByte : lk_ RX12 340 yX12_nameByte cX12_nameByte 5 (some .int) 3 := ⟨gw_t 1459 (by decide +kernel) rfl, gw_t 1461 (by decide +kernel) rfl, (gw_s (⟨"ProbeConsoleModel", "nameByte", "(III)I"⟩, 60) 81 (by decide +kernel) rfl), in12_, gw_t 1462 (by decide +kernel) rfl, by decide +kernel, by decide⟩
theorem k12_watchOne : lk_ RX12 374 yX12_watchOne cX12_watchOne 3 none 2 := ⟨gw_t 1464 (by decide +kernel) rfl, gw_t 1466 (by decide +kernel) rfl, (gw_s (⟨"ProbeConsoleModel", "watchOne", "(II)V"⟩, 60) 82 (by decide +kernel) rfl), in12_, gw_t 1467 (by decide +kernel) rfl, by decide +kernel, by decide⟩
theorem k12_probeExpression : lk_ RX12 359 yX12_probeExpression cX12_probeExpression 9 none 1 := ⟨gw_t 1468 (by decide +kernel) rfl, gw_t 1470 (by decide +kernel) rfl, (gw_s (⟨"ProbeConsoleModel", "probeExpression", "(I)V"⟩, 60) 83 (by decide +kernel) rfl), in12_, gw_t 1471 (by decide +kernel) rfl, by decide +kernel, by decide⟩
theorem k12_isOver : ls_ RX12 350 yX12_isOver cX12_isOver 2 (some .boolean) 2 := ⟨gw_t 1472 (by decide +kernel) rfl, gw_t 1473 (by decide +kernel) rfl, in12_, gw_t 1474 (by decide +kernel) rfl, by decide +kernel, by decide⟩
theorem k12_result : ls_ RX12 353 yX12_result cX12_result 3 (some .int) 3 := ⟨gw_t 1475 (by decide +kernel) rfl, gw_t 1476 (by decide +kernel) rfl, in12_, gw_t 1477 (by decide +kernel) rfl, by decide +kernel, by decide⟩
theorem k12_record : lk_ RX12 362 yX12_record cX12_record 5 none 3 := ⟨gw_t 1478 (by decide +kernel) rfl, gw_t 1480 (by decide +kernel) rfl, (gw_s (⟨"ProbeConsoleModel", "record", "(III)V"⟩, 60) 84 (by decide +kernel) rfl), in12_, gw_t 1481 (by decide +kernel) rfl, by decide +kernel, by decide⟩
theorem k12_keepOne : lk_ RX12 377 yX12_keepOne cX12_keepOne 7 none 4 := ⟨gw_t 1482 (by decide +kernel) rfl, gw_t 1484 (by decide +kernel) rfl, (gw_s (⟨"ProbeConsoleModel", "keepOne", "(IIII)V"⟩, 60) 85 (by decide +kernel) rfl), in12_, gw_t 1485 (by decide +kernel) rfl, by decide +kernel, by decide⟩
theorem k12_step : lk_ RX12 423 yX12_step cX12_step 7 none 0 := ⟨gw_t 1486 (by decide +kernel) rfl, gw_t 1488 (by decide +kernel) rfl, (gw_s (⟨"ProbeConsoleModel", "step", "()V"⟩, 60) 86 (by decide +kernel) rfl), in12_, gw_t 1489 (by decide +kernel) rfl, by decide +kernel, by decide⟩
theorem k12_leave : lk_ RX12 416 yX12_leave cX12_leave 2 none 0 := ⟨gw_t 1490 (by decide +kernel) rfl, gw_t 1492 (by decide +kernel) rfl, (gw_s (⟨"ProbeConsoleModel", "leave", "()V"⟩, 60) 87 (by decide +kernel) rfl), in12_, gw_t 1493 (by decide +kernel) rfl, by decide +kernel, by decide⟩
theorem k12_push : lk_ RX12 402 yX12_push cX12_push 2 none 1 := ⟨gw_t 1494 (by decide +kernel) rfl, gw_t 1496 (by decide +kernel) rfl, (gw_s (⟨"ProbeConsoleModel", "push", "(I)V"⟩, 60) 88 (by decide +kernel) rfl), in12_, gw_t 1497 (by decide +kernel) rfl, by decide +kernel, by decide⟩
theorem k12_throwUp : lk_ RX12 407 yX12_throwUp cX12_throwUp 2 none 1 := ⟨gw_t 1498 (by decide +kernel) rfl, gw_t 1500 (by decide +kernel) rfl, (gw_s (⟨"ProbeConsoleModel", "throwUp", "(I)V"⟩, 60) 89 (by decide +kernel) rfl), in12_, gw_t 1501 (by decide +kernel) rfl, by decide +kernel, by decide⟩
theorem k12_invoke : lk_ RX12 419 yX12_invoke cX12_invoke 6 none 1 := ⟨gw_t 1502 (by decide +kernel) rfl, gw_t 1504 (by decide +kernel) rfl, (gw_s (⟨"ProbeConsoleModel", "invoke", "(J)V"⟩, 60) 90 (by decide +kernel) rfl), in12_, gw_t 1505 (by decide +kernel) rfl, by decide +kernel, by decide⟩
theorem k12_throwAll : lk_ RX12 410 yX12_throwAll cX12_throwAll 2 none 1 := ⟨gw_t 1507 (by decide +kernel) rfl, gw_t 1509 (by decide +kernel) rfl, (gw_s (⟨"ProbeConsoleModel", "throwAll", "(I)V"⟩, 60) 91 (by decide +kernel) rfl), in12_, gw_t 1510 (by decide +kernel) rfl, by decide +kernel, by decide⟩
theorem q12_121 : Cond.constantLong RX12 121 (255) ∈ gw_ := gw_t 1214 (by decide +kernel) rfl
theorem q12_184 : Cond.constantLong RX12 184 (10) ∈ gw_ := gw_t 1307 (by decide +kernel) rfl
theorem q12_186 : Cond.constantLong RX12 186 (48) ∈ gw_ := gw_t 1308 (by decide +kernel) rfl
theorem q12_188 : Cond.constantLong RX12 188 (9999999999) ∈ gw_ := gw_t 1309 (by decide +kernel) rfl
theorem q12_190 : Cond.constantLong RX12 190 (2147483647) ∈ gw_ := gw_t 1310 (by decide +kernel) rfl
theorem q12_279 : Cond.constantLong RX12 279 (1048575) ∈ gw_ := gw_t 1374 (by decide +kernel) rfl
theorem q12_332 : Cond.constantLong RX12 332 (31) ∈ gw_ := gw_t 1463 (by decide +kernel) rfl
theorem q12_405 : Cond.constantLong RX12 405 (3) ∈ gw_ := gw_t 1506 (by decide +kernel) rfl
end
